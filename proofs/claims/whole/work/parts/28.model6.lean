/-! ===== the reference: what would be ===== -/
theorem kM.at {m m' : zM} (h : kM m m') {o : Nat} (h1 : o ≠ 65) (h2 : o ≠ 67) (h3 : o ≠ 71) (h4 : o ≠ 72) : m' o = m o := h.1 o h1 h2 h3 h4
theorem mStart {mem m : zM} (hI : mI (mem 65 3) (mem 66)) (hk : kM mem m) : mI (mem 65 3) (zcp (m 66) (m 67) 0 0 76) ∧ VEQ (vM (mem 65 3) (zcp (m 66) (m 67) 0 0 76)) (vM (mem 65 3) (mem 66)) ∧ kM mem (zr m 67 (zcp (m 66) (m 67) 0 0 76)) := by
  rw [hk.at (o := 66) (by decide) (by decide) (by decide) (by decide)]
  obtain ⟨-, h2, h3⟩ := vM_cp (d := m 67) hI
  exact ⟨h3, h2, hk.r (Or.inl rfl)⟩
theorem mI.ve {n : Int} {c : Int → Int} (h : mI n c) : RE n (c 53) (m1 c) (m2 c) (m3 c) (m1 c) (m2 c) (m3 c) := fun k h0 h1 => ⟨rfl, rfl, rfl, (h.2.2.2.2.2.2 k h0 h1).1, (h.2.2.2.2.2.2 k h0 h1).2.1, (h.2.2.2.2.2.2 k h0 h1).2.2.1, (h.2.2.2.2.2.2 k h0 h1).2.2.2.1⟩
theorem m1_o {c : Int → Int} {k v : Int} (h : ∀ j, 0 ≤ j → j < 6 → k ≠ 35 + 3 * j) : m1 (zu c k v) = m1 c := by
  funext j; unfold m1; split
  · rw [zu_n (fun e => h j (by omega) (by omega) e.symm)]
  · rfl
theorem m2_o {c : Int → Int} {k v : Int} (h : ∀ j, 0 ≤ j → j < 6 → k ≠ 36 + 3 * j) : m2 (zu c k v) = m2 c := by
  funext j; unfold m2; split
  · rw [zu_n (fun e => h j (by omega) (by omega) e.symm)]
  · rfl
theorem m3_o {c : Int → Int} {k v : Int} (h : ∀ j, 0 ≤ j → j < 6 → k ≠ 37 + 3 * j) : m3 (zu c k v) = m3 c := by
  funext j; unfold m3; split
  · rw [zu_n (fun e => h j (by omega) (by omega) e.symm)]
  · rfl
theorem mG_o {c : Int → Int} {k v : Int} (h : k < 10 ∨ 35 ≤ k) : mG (zu c k v) = mG c := by
  funext j; unfold mG; split
  · rw [zu_n (by omega)]
  · rfl
theorem mT_o {c : Int → Int} {k v : Int} (h : 10 ≤ k) : mT (zu c k v) = mT c := by
  funext j; unfold mT; split
  · rw [zu_n (by omega)]
  · rfl
theorem mP_o {n : Int} {c : Int → Int} {k v : Int} (hn : n ≤ 5) (h : 10 ≤ k) : PE n (mP (zu c k v)) (mP c) := fun i h0 h1 => zu_n (by omega)
theorem mG_s {c : Int → Int} {k v : Int} (h0 : 0 ≤ k) (h1 : k < 25) : mG (zu c (10 + k) v) = zu (mG c) k v := by
  funext j
  unfold mG zu
  by_cases hj : j = k
  · rw [if_pos hj, hj, if_pos ⟨h0, h1⟩, if_pos rfl]
  · rw [if_neg hj]
    by_cases h : 0 ≤ j ∧ j < 25
    · rw [if_pos h, if_neg (by omega)]; exact (if_pos h).symm
    · rw [if_neg h]; exact (if_neg h).symm
theorem mT_s {c : Int → Int} {k v : Int} (h0 : 0 ≤ k) (h1 : k < 5) : mT (zu c (2 * k) v) = zu (mT c) k v := by
  funext j
  unfold mT zu
  by_cases hj : j = k
  · rw [if_pos hj, hj, if_pos ⟨h0, h1⟩, if_pos rfl]
  · rw [if_neg hj]
    by_cases h : 0 ≤ j ∧ j < 5
    · rw [if_pos h, if_neg (by omega)]; exact (if_pos h).symm
    · rw [if_neg h]; exact (if_neg h).symm
theorem m1_s {c : Int → Int} {k v : Int} (h0 : 0 ≤ k) (h1 : k < 6) : m1 (zu c (35 + 3 * k) v) = zu (m1 c) k v := by
  funext j
  unfold m1 zu
  by_cases hj : j = k
  · rw [if_pos hj, hj, if_pos ⟨h0, h1⟩, if_pos rfl]
  · rw [if_neg hj]
    by_cases h : 0 ≤ j ∧ j < 6
    · rw [if_pos h, if_neg (by omega)]; exact (if_pos h).symm
    · rw [if_neg h]; exact (if_neg h).symm
theorem m2_s {c : Int → Int} {k v : Int} (h0 : 0 ≤ k) (h1 : k < 6) : m2 (zu c (36 + 3 * k) v) = zu (m2 c) k v := by
  funext j
  unfold m2 zu
  by_cases hj : j = k
  · rw [if_pos hj, hj, if_pos ⟨h0, h1⟩, if_pos rfl]
  · rw [if_neg hj]
    by_cases h : 0 ≤ j ∧ j < 6
    · rw [if_pos h, if_neg (by omega)]; exact (if_pos h).symm
    · rw [if_neg h]; exact (if_neg h).symm
theorem m3_s {c : Int → Int} {k v : Int} (h0 : 0 ≤ k) (h1 : k < 6) : m3 (zu c (37 + 3 * k) v) = zu (m3 c) k v := by
  funext j
  unfold m3 zu
  by_cases hj : j = k
  · rw [if_pos hj, hj, if_pos ⟨h0, h1⟩, if_pos rfl]
  · rw [if_neg hj]
    by_cases h : 0 ≤ j ∧ j < 6
    · rw [if_pos h, if_neg (by omega)]; exact (if_pos h).symm
    · rw [if_neg h]; exact (if_neg h).symm
theorem vM_grudge {n : Int} {c : Int → Int} {i j v : Int} (h : mI n c) (h0 : 0 ≤ v) (h3 : v ≤ 3) (hi0 : 0 ≤ i) (hi1 : i < n) (hj0 : 0 ≤ j) (hj1 : j < n) : mI n (zu c (10 + (5 * i + j)) v) ∧ VEQ (vM n (zu c (10 + (5 * i + j)) v)) (vGrudge (vM n c) i j v) := by
  obtain ⟨hn0, hn5, hr0, hr6, hp, hg, hr⟩ := id h
  have e1 : m1 (zu c (10 + (5 * i + j)) v) = m1 c := m1_o (fun _ _ _ => by omega)
  have e2 : m2 (zu c (10 + (5 * i + j)) v) = m2 c := m2_o (fun _ _ _ => by omega)
  have e3 : m3 (zu c (10 + (5 * i + j)) v) = m3 c := m3_o (fun _ _ _ => by omega)
  have e4 : mT (zu c (10 + (5 * i + j)) v) = mT c := mT_o (by omega)
  have e5 : mG (zu c (10 + (5 * i + j)) v) = zu (mG c) (5 * i + j) v := mG_s (by omega) (by omega)
  have e6 : PE n (mP (zu c (10 + (5 * i + j)) v)) (mP c) := mP_o hn5 (by omega)
  have k : ∀ q : Int, 35 ≤ q → zu c (10 + (5 * i + j)) v q = c q := fun q hq => zu_n (by omega)
  constructor
  · unfold mI
    rw [e1, e2, e3, e5, k 53 (by decide)]
    refine ⟨hn0, hn5, hr0, hr6, fun x a b => by rw [e6 x a b]; exact hp x a b, fun x y a1 a2 a3 a4 => ?_, hr⟩
    by_cases e : 5 * x + y = 5 * i + j
    · rw [e, zu_s]; omega
    · rw [zu_n e]; exact hg x y a1 a2 a3 a4
  · unfold vM vGrudge
    rw [e1, e2, e3, e4, e5, k 53 (by decide), k 54 (by decide), k 55 (by decide), k 56 (by decide)]
    exact ⟨rfl, PE.rf, fun _ _ _ _ _ _ _ => rfl, rfl, h.ve, rfl, e6, rfl, rfl, hn0, hr0⟩
theorem vM_kind {n : Int} {c : Int → Int} {i v : Int} (h : mI n c) (hi0 : 0 ≤ i) (hi1 : i < n) : mI n (zu c (2 * i) v) ∧ VEQ (vM n (zu c (2 * i) v)) (vKind (vM n c) i v) := by
  obtain ⟨hn0, hn5, hr0, hr6, hp, hg, hr⟩ := id h
  have e1 : m1 (zu c (2 * i) v) = m1 c := m1_o (fun _ _ _ => by omega)
  have e2 : m2 (zu c (2 * i) v) = m2 c := m2_o (fun _ _ _ => by omega)
  have e3 : m3 (zu c (2 * i) v) = m3 c := m3_o (fun _ _ _ => by omega)
  have e4 : mT (zu c (2 * i) v) = zu (mT c) i v := mT_s (by omega) (by omega)
  have e5 : mG (zu c (2 * i) v) = mG c := mG_o (by omega)
  have e6 : mP (zu c (2 * i) v) = mP c := by funext x; exact zu_n (by omega)
  have k : ∀ q : Int, 35 ≤ q → zu c (2 * i) v q = c q := fun q hq => zu_n (by omega)
  constructor
  · unfold mI
    rw [e1, e2, e3, e5, e6, k 53 (by decide)]
    exact ⟨hn0, hn5, hr0, hr6, hp, hg, hr⟩
  · unfold vM vKind
    rw [e1, e2, e3, e4, e5, e6, k 53 (by decide), k 54 (by decide), k 55 (by decide), k 56 (by decide)]
    exact ⟨rfl, PE.rf, fun _ _ _ _ _ _ _ => rfl, rfl, h.ve, rfl, PE.rf, rfl, rfl, hn0, hr0⟩
theorem vM_hol {n : Int} {c : Int → Int} {v : Int} (h : mI n c) : mI n (zu c 55 v) ∧ VEQ (vM n (zu c 55 v)) (vHol (vM n c) v) := by
  obtain ⟨hn0, hn5, hr0, hr6, hp, hg, hr⟩ := id h
  have e1 : m1 (zu c 55 v) = m1 c := m1_o (fun _ _ _ => by omega)
  have e2 : m2 (zu c 55 v) = m2 c := m2_o (fun _ _ _ => by omega)
  have e3 : m3 (zu c 55 v) = m3 c := m3_o (fun _ _ _ => by omega)
  have e4 : mT (zu c 55 v) = mT c := mT_o (by omega)
  have e5 : mG (zu c 55 v) = mG c := mG_o (by omega)
  have e6 : PE n (mP (zu c 55 v)) (mP c) := mP_o hn5 (by omega)
  have k : ∀ q : Int, q ≠ 55 → zu c 55 v q = c q := fun q hq => zu_n hq
  constructor
  · unfold mI
    rw [e1, e2, e3, e5, k 53 (by decide)]
    exact ⟨hn0, hn5, hr0, hr6, fun x a b => by rw [e6 x a b]; exact hp x a b, hg, hr⟩
  · unfold vM vHol
    rw [e1, e2, e3, e4, e5, k 53 (by decide), k 54 (by decide), zu_s, k 56 (by decide)]
    exact ⟨rfl, PE.rf, fun _ _ _ _ _ _ _ => rfl, rfl, h.ve, rfl, e6, rfl, rfl, hn0, hr0⟩
theorem vM_len {n : Int} {c : Int → Int} {x v : Int} (h : mI n c) (h0 : 0 ≤ v) (h3 : v ≤ 30) (hx0 : 0 ≤ x) (hx1 : x < c 53) : mI n (zu c (37 + 3 * x) v) ∧ VEQ (vM n (zu c (37 + 3 * x) v)) (vLen (vM n c) x v) := by
  obtain ⟨hn0, hn5, hr0, hr6, hp, hg, hr⟩ := id h
  have e1 : m1 (zu c (37 + 3 * x) v) = m1 c := m1_o (fun _ _ _ => by omega)
  have e2 : m2 (zu c (37 + 3 * x) v) = m2 c := m2_o (fun _ _ _ => by omega)
  have e3 : m3 (zu c (37 + 3 * x) v) = zu (m3 c) x v := m3_s (by omega) (by omega)
  have e4 : mT (zu c (37 + 3 * x) v) = mT c := mT_o (by omega)
  have e5 : mG (zu c (37 + 3 * x) v) = mG c := mG_o (by omega)
  have e6 : PE n (mP (zu c (37 + 3 * x) v)) (mP c) := mP_o hn5 (by omega)
  have k : ∀ q : Int, 53 ≤ q → zu c (37 + 3 * x) v q = c q := fun q hq => zu_n (by omega)
  constructor
  · unfold mI
    rw [e1, e2, e3, e5, k 53 (by decide)]
    refine ⟨hn0, hn5, hr0, hr6, fun y a b => by rw [e6 y a b]; exact hp y a b, hg, fun y a b => ?_⟩
    obtain ⟨q1, q2, q3, q4, q5, q6⟩ := hr y a b
    by_cases e : y = x
    · rw [e, zu_s]; rw [e] at q1 q2 q3 q4; exact ⟨q1, q2, q3, q4, h0, h3⟩
    · rw [zu_n e]; exact ⟨q1, q2, q3, q4, q5, q6⟩
  · unfold vM vLen
    rw [e1, e2, e3, e4, e5, k 53 (by decide), k 54 (by decide), k 55 (by decide), k 56 (by decide)]
    refine ⟨rfl, PE.rf, fun _ _ _ _ _ _ _ => rfl, rfl, fun y a b => ?_, rfl, e6, rfl, rfl, hn0, hr0⟩
    obtain ⟨q1, q2, q3, q4, q5, q6⟩ := hr y a b
    exact ⟨rfl, rfl, rfl, q1, q2, q3, q4⟩
theorem vM_rope {n : Int} {c : Int → Int} {i j v : Int} (h : mI n c) (h6 : c 53 < 6) (h0 : 0 ≤ v) (h3 : v ≤ 30) (hi0 : 0 ≤ i) (hi1 : i < n) (hj0 : 0 ≤ j) (hj1 : j < n) : mI n (zu (zu (zu (zu c (35 + 3 * c 53) i) (36 + 3 * c 53) j) (37 + 3 * c 53) v) 53 (c 53 + 1)) ∧ VEQ (vM n (zu (zu (zu (zu c (35 + 3 * c 53) i) (36 + 3 * c 53) j) (37 + 3 * c 53) v) 53 (c 53 + 1))) (vRope (vM n c) i j v) := by
  obtain ⟨hn0, hn5, hr0, hr6, hp, hg, hr⟩ := id h
  have e1 : m1 (zu (zu (zu (zu c (35 + 3 * c 53) i) (36 + 3 * c 53) j) (37 + 3 * c 53) v) 53 (c 53 + 1)) = zu (m1 c) (c 53) i := by
    rw [m1_o (fun _ _ _ => by omega), m1_o (fun _ _ _ => by omega), m1_o (fun _ _ _ => by omega), m1_s (by omega) (by omega)]
  have e2 : m2 (zu (zu (zu (zu c (35 + 3 * c 53) i) (36 + 3 * c 53) j) (37 + 3 * c 53) v) 53 (c 53 + 1)) = zu (m2 c) (c 53) j := by
    rw [m2_o (fun _ _ _ => by omega), m2_o (fun _ _ _ => by omega), m2_s (by omega) (by omega), m2_o (fun _ _ _ => by omega)]
  have e3 : m3 (zu (zu (zu (zu c (35 + 3 * c 53) i) (36 + 3 * c 53) j) (37 + 3 * c 53) v) 53 (c 53 + 1)) = zu (m3 c) (c 53) v := by
    rw [m3_o (fun _ _ _ => by omega), m3_s (by omega) (by omega), m3_o (fun _ _ _ => by omega), m3_o (fun _ _ _ => by omega)]
  have e4 : mT (zu (zu (zu (zu c (35 + 3 * c 53) i) (36 + 3 * c 53) j) (37 + 3 * c 53) v) 53 (c 53 + 1)) = mT c := by
    rw [mT_o (by omega), mT_o (by omega), mT_o (by omega), mT_o (by omega)]
  have e5 : mG (zu (zu (zu (zu c (35 + 3 * c 53) i) (36 + 3 * c 53) j) (37 + 3 * c 53) v) 53 (c 53 + 1)) = mG c := by
    rw [mG_o (by omega), mG_o (by omega), mG_o (by omega), mG_o (by omega)]
  have e6 : PE n (mP (zu (zu (zu (zu c (35 + 3 * c 53) i) (36 + 3 * c 53) j) (37 + 3 * c 53) v) 53 (c 53 + 1))) (mP c) := fun x a b => by
    rw [mP_o hn5 (by omega) x a b, mP_o hn5 (by omega) x a b, mP_o hn5 (by omega) x a b, mP_o hn5 (by omega) x a b]
  have k : ∀ q : Int, 54 ≤ q → zu (zu (zu (zu c (35 + 3 * c 53) i) (36 + 3 * c 53) j) (37 + 3 * c 53) v) 53 (c 53 + 1) q = c q := fun q hq => by
    rw [zu_n (by omega), zu_n (by omega), zu_n (by omega), zu_n (by omega)]
  constructor
  · unfold mI
    rw [e1, e2, e3, e5, zu_s]
    refine ⟨hn0, hn5, by omega, by omega, fun y a b => by rw [e6 y a b]; exact hp y a b, hg, fun y a b => ?_⟩
    by_cases e : y = c 53
    · rw [e, zu_s, zu_s, zu_s]; exact ⟨hi0, hi1, hj0, hj1, h0, h3⟩
    · rw [zu_n e, zu_n e, zu_n e]; exact hr y a (by omega)
  · unfold vM vRope
    rw [e1, e2, e3, e4, e5, zu_s, k 54 (by decide), k 55 (by decide), k 56 (by decide)]
    refine ⟨rfl, PE.rf, fun _ _ _ _ _ _ _ => rfl, rfl, fun y a b => ?_, rfl, e6, rfl, rfl, hn0, by omega⟩
    by_cases e : y = c 53
    · simp only [e, zu_s]; exact ⟨trivial, trivial, trivial, hi0, hi1, hj0, hj1⟩
    · simp only [zu_n e]; exact ⟨trivial, trivial, trivial, (hr y a (by omega)).1, (hr y a (by omega)).2.1, (hr y a (by omega)).2.2.1, (hr y a (by omega)).2.2.2.1⟩
section
variable {l : Launch} {G : zG} {mem : zM}
theorem c_mSpread {W : zVw} (hI : mI (mem 65 3) (mem 67)) (hv : VEQ (vM (mem 65 3) (mem 67)) W) (n : Int) (h0 : 0 ≤ n) (h9 : n ≤ 1000) : KX6_spreadBehind l G 6 [zR 65, zI n] mem (zPM (zI (vSpread W n.toNat)) mem) :=
  (c_X6_spreadBehind hI n h0 h9).imp (fun r m h => by
    obtain ⟨rfl, rfl⟩ := h
    refine ⟨?_, kM.rf.r (Or.inl rfl)⟩
    rw [← hv.spread]
    rfl)
set_option maxRecDepth 100000 in
theorem c_ties (i j v : Int) (h0 : 0 ≤ mem 67 53) (h6 : mem 67 53 < 6) : KX6_ties l G 0 [zR 65, zI i, zI j, zI v] mem (zP0 (zr mem 67 (zu (zu (zu (zu (mem 67) (35 + 3 * mem 67 53) i) (36 + 3 * mem 67 53) j) (37 + 3 * mem 67 53) v) 53 (mem 67 53 + 1)))) := by
  refine CT.of' (own := RX6) (ls0 := [zR 65, zI i, zI j, zI v, zU]) rfl (by decide +kernel) (Nat.le_of_ble_eq_true rfl) rfl ?_
  refine r_bipush dX6_ties_0 (k := ?_)
  refine r_iconst dX6_ties_2 (k := ?_)
  refine r_aload_n dX6_ties_3 rfl ?_
  refine r_getR (q := 67) fX6_13 rfl rfl dX6_ties_4 ?_
  try simp (disch := omega) only [zs_s, zu_n]
  refine r_bipush dX6_ties_7 (k := ?_)
  refine r_iald rfl (by omega) (by omega) dX6_ties_9 ?_
  try simp (disch := omega) only [zs_s, zu_n]
  refine r_imul dX6_ties_10 ?_
  try rw [zw_id (by omega) (by omega)]
  refine r_iadd dX6_ties_11 ?_
  try rw [zw_id (by omega) (by omega)]
  refine r_istore dX6_ties_12 rfl ?_
  refine r_aload_n dX6_ties_14 rfl ?_
  refine r_getR (q := 67) fX6_13 rfl rfl dX6_ties_15 ?_
  try simp (disch := omega) only [zs_s, zu_n]
  refine r_iload dX6_ties_18 rfl ?_
  refine r_iload_n dX6_ties_20 rfl ?_
  refine r_iast rfl (by omega) (by omega) dX6_ties_21 ?_
  refine r_aload_n dX6_ties_22 rfl ?_
  refine r_getR (q := 67) fX6_13 rfl rfl dX6_ties_23 ?_
  try simp (disch := omega) only [zs_s, zu_n]
  refine r_iload dX6_ties_26 rfl ?_
  refine r_iconst dX6_ties_28 (k := ?_)
  refine r_iadd dX6_ties_29 ?_
  try rw [zw_id (by omega) (by omega)]
  refine r_iload_n dX6_ties_30 rfl ?_
  refine r_iast rfl (by omega) (by omega) dX6_ties_31 ?_
  refine r_aload_n dX6_ties_32 rfl ?_
  refine r_getR (q := 67) fX6_13 rfl rfl dX6_ties_33 ?_
  try simp (disch := omega) only [zs_s, zu_n]
  refine r_iload dX6_ties_36 rfl ?_
  refine r_iconst dX6_ties_38 (k := ?_)
  refine r_iadd dX6_ties_39 ?_
  try rw [zw_id (by omega) (by omega)]
  refine r_iload_n dX6_ties_40 rfl ?_
  refine r_iast rfl (by omega) (by omega) dX6_ties_41 ?_
  refine r_aload_n dX6_ties_42 rfl ?_
  refine r_getR (q := 67) fX6_13 rfl rfl dX6_ties_43 ?_
  try simp (disch := omega) only [zs_s, zu_n]
  refine r_bipush dX6_ties_46 (k := ?_)
  refine r_dup2 dX6_ties_48 rfl rfl ?_
  refine r_iald rfl (by omega) (by omega) dX6_ties_49 ?_
  try simp (disch := omega) only [zs_s, zu_n]
  refine r_iconst dX6_ties_50 (k := ?_)
  refine r_iadd dX6_ties_51 ?_
  try rw [zw_id (by omega) (by omega)]
  refine r_iast rfl (by omega) (by omega) dX6_ties_52 ?_
  refine r_vret dX6_ties_53 ?_
  refine zP0.of ?_
  rw [show 36 + 3 * mem 67 53 = 35 + 3 * mem 67 53 + 1 by omega, show 37 + 3 * mem 67 53 = 35 + 3 * mem 67 53 + 2 by omega]
  unfold zs
  simp only [zr_s, zr_zr]
end
