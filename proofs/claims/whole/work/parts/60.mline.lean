/-! ===== the reference: drafts, and the lines but for their ends ===== -/
theorem zbt_and {w : Nat} (k : Nat) (hw : w < 2 ^ 25) (hk : k < 25) : zand (zshr (w : Nat) (k : Nat)) 1 = if w.testBit k then 1 else 0 := by
  unfold zand
  have e1 : zshr (w : Nat) (k : Nat) = ((w / 2 ^ k : Nat) : Int) := by
    unfold zshr
    have hs : ((Int32.ofInt (k : Nat) &&& 31).toBitVec.smod 32).toNat = k := by
      have : ∀ k : Fin 25, ((Int32.ofInt ((k : Nat) : Int) &&& 31).toBitVec.smod 32).toNat = (k : Nat) := by decide +kernel
      exact this ⟨k, hk⟩
    rw [pk_shr _ _ k hs, zo_toInt, zw_id (by omega) (by omega), Int.shiftRight_eq_div_pow]
    rw [Int.natCast_ediv, Int.natCast_pow]
  have hq : w / 2 ^ k < 2 ^ 25 := Nat.lt_of_le_of_lt (Nat.div_le_self _ _) hw
  rw [e1, Nat.testBit_eq_decide_div_mod_eq]
  generalize w / 2 ^ k = d at hq ⊢
  rw [pk_and (Int32.ofInt ((d : Nat) : Int)) (m := Int32.ofInt 1) 1 (by decide)]
  have h := z_nat (x := ((d : Nat) : Int))
  generalize (Int32.ofInt ((d : Nat) : Int)).toBitVec.toNat = u at h ⊢
  have hu : u = d := by omega
  subst hu
  show (Int32.ofNat (u % 2 ^ 1)).toInt = _
  rw [Int32.toInt_ofNat_of_lt (by omega)]
  by_cases c : u % 2 = 1
  · rw [if_pos (by rw [decide_eq_true c]), Nat.pow_one, c]; rfl
  · rw [if_neg (by rw [decide_eq_false c]; decide), Nat.pow_one, show u % 2 = 0 by omega]; rfl
theorem zbt_or {w : Nat} (k : Nat) (hw : w < 2 ^ 25) (hk : k < 25) : zor (w : Nat) (zshl 1 (k : Nat)) = ((w ||| 2 ^ k : Nat) : Int) := by
  have e1 : zshl 1 (k : Nat) = ((2 ^ k : Nat) : Int) := by
    have : ∀ k : Fin 25, zshl 1 ((k : Nat) : Int) = ((2 ^ (k : Nat) : Nat) : Int) := by decide +kernel
    exact this ⟨k, hk⟩
  have h2 : 2 ^ k < 2 ^ 25 := Nat.pow_lt_pow_right (by decide) hk
  have h3 : w ||| 2 ^ k < 2 ^ 25 := Nat.or_lt_two_pow hw h2
  rw [e1]
  generalize 2 ^ k = P at h2 h3 ⊢
  unfold zor
  have hb : (Int32.ofInt ((w : Nat) : Int) ||| Int32.ofInt ((P : Nat) : Int)).toBitVec.toNat = w ||| P := by
    show ((Int32.ofInt ((w : Nat) : Int)).toBitVec ||| (Int32.ofInt ((P : Nat) : Int)).toBitVec).toNat = _
    rw [BitVec.toNat_or]
    have a1 := z_nat (x := ((w : Nat) : Int))
    have a2 := z_nat (x := ((P : Nat) : Int))
    rw [show (Int32.ofInt ((w : Nat) : Int)).toBitVec.toNat = w by omega, show (Int32.ofInt ((P : Nat) : Int)).toBitVec.toNat = P by omega]
  generalize (Int32.ofInt ((w : Nat) : Int) ||| Int32.ofInt ((P : Nat) : Int)) = z at hb ⊢
  have a4 : z.toInt = z.toBitVec.toInt := rfl
  rw [a4, BitVec.toInt_eq_toNat_cond, hb]
  split <;> omega
/-- the reference's draft is that draft (but for whether a feast was told) -/
def DR (m : zM) (D : zDr) : Prop := m 65 5 = D.1.1 ∧ (∀ i, 0 ≤ i → i < D.1.1 → m 69 (2 * i) = D.1.2.1 i ∧ m 69 (2 * i + 1) = dP D i) ∧ (∀ k, 0 ≤ k → k < 25 → m 69 (10 + k) = D.1.2.2.1 k) ∧ m 69 53 = dR D ∧ (∀ k, 0 ≤ k → k < dR D → m 69 (35 + 3 * k) = D.1.2.2.2.2.1 k ∧ m 69 (36 + 3 * k) = D.1.2.2.2.2.2.1 k ∧ m 69 (37 + 3 * k) = D.1.2.2.2.2.2.2.1 k) ∧ m 69 55 = D.1.2.2.2.2.2.2.2.1 ∧ (m 69 54 = 0 ∧ m 69 56 = 0 ∧ m 69 57 = 0) ∧ max (m 65 8) (-1) = D.2.2.2 ∧ ∃ w : Nat, m 65 7 = (w : Int) ∧ w < 2 ^ 25 ∧ ∀ k : Nat, k < 25 → D.2.1 k = if w.testBit k then 1 else 0
theorem DR.k {m m' : zM} {D : zDr} (h : DR m D) (hk : kA m m') : DR m' D := by
  unfold DR at *
  rw [hk.1 69 (by decide), hk.2 5 (by decide), hk.2 7 (by decide), hk.2 8 (by decide)]
  exact h
theorem DR.at {m : zM} {D : zDr} {k : Int} (h : DR m D) (h0 : 0 ≤ k) (h1 : k < 25) : zand (zshr (m 65 7) k) 1 = D.2.1 k := by
  obtain ⟨w, e, hw, hq⟩ := h.2.2.2.2.2.2.2.2
  have q := hq k.toNat (by omega)
  have q2 := zbt_and k.toNat hw (by omega)
  rw [Int.toNat_of_nonneg h0] at q q2
  rw [e, q2, q]
theorem DR.told {m : zM} {D : zDr} {k : Int} (h : DR m D) (h0 : 0 ≤ k) (h1 : k < 25) : DR (zs m 65 7 (zor (m 65 7) (zshl 1 k))) (D.1, zu D.2.1 k 1, D.2.2) := by
  obtain ⟨⟨n, t, g, r, e1, e2, ln, hol, p, bu, dy⟩, td, fe, hi⟩ := D
  obtain ⟨a1, a2, a3, a4, a5, a6, a7, a8, w, e, hw, hq⟩ := h
  simp only [dR, dP, vS0] at a1 a2 a3 a4 a5 a6 a8 hq
  simp only [DR, dR, dP, vS0]
  simp (disch := decide) only [zs_n, zs_v, zs_k]
  refine ⟨a1, a2, a3, a4, a5, a6, a7, a8, w ||| 2 ^ k.toNat, ?_, Nat.or_lt_two_pow hw (Nat.pow_lt_pow_right (by decide) (by omega)), fun j hj => ?_⟩
  · have q := zbt_or k.toNat hw (by omega)
    rw [Int.toNat_of_nonneg h0] at q
    rw [e, q]
  · rw [Nat.testBit_or, Nat.testBit_two_pow]
    by_cases c : (j : Int) = k
    · rw [c, zu_s, decide_eq_true (show k.toNat = j by omega), Bool.or_true, if_pos rfl]
    · rw [zu_n c, hq j hj, decide_eq_false (show ¬ k.toNat = j by omega), Bool.or_false]
theorem DR.hi {m : zM} {D : zDr} {i : Int} (h : DR m D) (h0 : 0 ≤ i) : DR (zs m 65 8 (max (m 65 8) i)) (D.1, D.2.1, D.2.2.1, max D.2.2.2 i) := by
  obtain ⟨⟨n, t, g, r, e1, e2, ln, hol, p, bu, dy⟩, td, fe, hi⟩ := D
  obtain ⟨a1, a2, a3, a4, a5, a6, a7, a8, a9⟩ := h
  simp only [dR, dP, vS0] at a1 a2 a3 a4 a5 a6 a8 a9
  simp only [DR, dR, dP, vS0]
  simp (disch := decide) only [zs_n, zs_v, zs_k]
  exact ⟨a1, a2, a3, a4, a5, a6, a7, by omega, a9⟩
theorem DR.g {m : zM} {D : zDr} {i j v : Int} (h : DR m D) (h0 : 0 ≤ 5 * i + j) (h1 : 5 * i + j < 25) (n5 : D.1.1 ≤ 5) (r0 : 0 ≤ dR D) : DR (zs m 69 (10 + 5 * i + j) v) (vGrudge D.1 i j v, D.2) := by
  obtain ⟨⟨n, t, g, r, e1, e2, ln, hol, p, bu, dy⟩, td, fe, hi⟩ := D
  obtain ⟨a1, a2, a3, a4, a5, a6, a7, a8, a9⟩ := h
  simp only [dR, dP, vS0] at a1 a2 a3 a4 a5 a6 a8 a9 n5 r0
  simp only [DR, dR, dP, vS0, vGrudge]
  simp (disch := omega) only [zs_n, zs_k]
  refine ⟨a1, fun x b0 b1 => ?_, fun x b0 b1 => ?_, a4, fun x b0 b1 => ?_, a6, a7, a8, a9⟩
  · simp (disch := omega) only [zs_k]; exact a2 x b0 b1
  · by_cases c : x = 5 * i + j
    · rw [c, zu_s, show 10 + (5 * i + j) = 10 + 5 * i + j by omega, zs_v]
    · rw [zu_n c, zs_k (by omega)]; exact a3 x b0 b1
  · simp (disch := omega) only [zs_k]; exact a5 x b0 b1
theorem DR.isle {m : zM} {D : zDr} {kd v : Int} (h : DR m D) (n0 : 0 ≤ D.1.1) (n5 : D.1.1 < 5) : DR (zs (zs (zs m 69 (2 * D.1.1) kd) 69 (2 * D.1.1 + 1) v) 65 5 (D.1.1 + 1)) (dIsle D kd v) := by
  obtain ⟨⟨n, t, g, r, e1, e2, ln, hol, p, bu, dy⟩, td, fe, hi⟩ := D
  obtain ⟨a1, a2, a3, a4, a5, a6, a7, a8, a9⟩ := h
  simp only [dR, dP, vS0] at a1 a2 a3 a4 a5 a6 a8 a9 n0 n5
  simp only [DR, dR, dP, vS0, dIsle]
  simp (disch := omega) only [zs_n, zs_v, zs_k]
  refine ⟨trivial, fun x b0 b1 => ?_, fun x b0 b1 => ?_, a4, fun x b0 b1 => ?_, a6, a7, a8, a9⟩
  · by_cases c : x = n
    · subst c; rw [zu_s, zu_s]; simp (disch := omega) only [zs_v, zs_k]; exact ⟨trivial, trivial⟩
    · rw [zu_n c, zu_n c]; simp (disch := omega) only [zs_k]; exact a2 x b0 (by omega)
  · simp (disch := omega) only [zs_k]; exact a3 x b0 b1
  · simp (disch := omega) only [zs_k]; exact a5 x b0 b1
theorem DR.feast {m : zM} {D : zDr} {v : Int} (h : DR m D) (n5 : D.1.1 ≤ 5) (r6 : dR D ≤ 6) : DR (zs m 69 55 v) (dFeast D v) := by
  obtain ⟨⟨n, t, g, r, e1, e2, ln, hol, p, bu, dy⟩, td, fe, hi⟩ := D
  obtain ⟨a1, a2, a3, a4, a5, a6, a7, a8, a9⟩ := h
  simp only [dR, dP, vS0] at a1 a2 a3 a4 a5 a6 a8 a9 n5 r6
  simp only [DR, dR, dP, vS0, dFeast, vHol]
  simp (disch := omega) only [zs_n, zs_v, zs_k]
  refine ⟨a1, fun x b0 b1 => ?_, fun x b0 b1 => ?_, a4, fun x b0 b1 => ?_, trivial, a7, a8, a9⟩
  · simp (disch := omega) only [zs_k]; exact a2 x b0 b1
  · rw [zs_k (by omega)]; exact a3 x b0 b1
  · simp (disch := omega) only [zs_k]; exact a5 x b0 b1
theorem DR.w {m : zM} {D : zDr} {k v : Int} (h : DR m D) (r0 : 0 ≤ dR D) (r6 : dR D < 6) (n5 : D.1.1 ≤ 5) (h0 : 35 + 3 * dR D ≤ k) (h1 : k ≤ 37 + 3 * dR D) : DR (zs m 69 k v) D := by
  obtain ⟨⟨n, t, g, r, e1, e2, ln, hol, p, bu, dy⟩, td, fe, hi⟩ := D
  obtain ⟨a1, a2, a3, a4, a5, a6, a7, a8, a9⟩ := h
  simp only [dR, dP, vS0] at a1 a2 a3 a4 a5 a6 a8 a9 n5 r6 r0 h0 h1
  simp only [DR, dR, dP, vS0]
  simp (disch := omega) only [zs_n, zs_k]
  refine ⟨a1, fun x b0 b1 => ?_, fun x b0 b1 => ?_, a4, fun x b0 b1 => ?_, a6, a7, a8, a9⟩
  · simp (disch := omega) only [zs_k]; exact a2 x b0 b1
  · rw [zs_k (by omega)]; exact a3 x b0 b1
  · simp (disch := omega) only [zs_k]; exact a5 x b0 b1
theorem DR.rope {m : zM} {D : zDr} {i j v : Int} (h : DR m D) (r0 : 0 ≤ dR D) (r6 : dR D < 6) (n5 : D.1.1 ≤ 5) (hi : m 69 (35 + 3 * dR D) = i) (hj : m 69 (36 + 3 * dR D) = j) (hv : m 69 (37 + 3 * dR D) = v) : DR (zs m 69 53 (dR D + 1)) (vRope D.1 i j v, D.2) := by
  obtain ⟨⟨n, t, g, r, e1, e2, ln, hol, p, bu, dy⟩, td, fe, hi⟩ := D
  obtain ⟨a1, a2, a3, a4, a5, a6, a7, a8, a9⟩ := h
  simp only [dR, dP, vS0] at a1 a2 a3 a4 a5 a6 a8 a9 n5 r6 r0 hi hj hv
  simp only [DR, dR, dP, vS0, vRope]
  simp (disch := omega) only [zs_n, zs_v, zs_k]
  refine ⟨a1, fun x b0 b1 => ?_, fun x b0 b1 => ?_, trivial, fun x b0 b1 => ?_, a6, a7, a8, a9⟩
  · simp (disch := omega) only [zs_k]; exact a2 x b0 b1
  · rw [zs_k (by omega)]; exact a3 x b0 b1
  · simp (disch := omega) only [zs_k]
    by_cases c : x = r
    · subst c; rw [zu_s, zu_s, zu_s]; exact ⟨hi, hj, hv⟩
    · rw [zu_n c, zu_n c, zu_n c]; exact a5 x b0 (by omega)
/-- what a line but for its end leaves -/
def zPLn (t : Int → Int) (L : Int) (x : Except zEr (zDr × Int)) (m : zM) : Option zV → zM → Prop := fun r m' => r = none ∧ kD m m' ∧ match x with
  | .error e => fS m' e
  | .ok b => AH (sTk t L b.2) m' ∧ DR m' b.1 ∧ m' 65 6 = m 65 6
theorem zPLn.e {t : Int → Int} {L : Int} {x : Except zEr (zDr × Int)} {m m' : zM} {e : zEr} (h : x = .error e) (hk : kD m m') (hf : fS m' e) : zPLn t L x m none m' := by subst h; exact ⟨rfl, hk, hf⟩
theorem zPLn.k {t : Int → Int} {L : Int} {x : Except zEr (zDr × Int)} {m m' : zM} {b : zDr × Int} (h : x = .ok b) (hk : kD m m') (h1 : AH (sTk t L b.2) m') (h2 : DR m' b.1) (h3 : m' 65 6 = m 65 6) : zPLn t L x m none m' := by subst h; exact ⟨rfl, hk, h1, h2, h3⟩
theorem AH.d {x : Except zEr zTk} {m : zM} {k v : Int} (h : AH x m) : AH x (zs m 69 k v) := by
  cases x with
  | error e => obtain ⟨a1, a2, a3⟩ := h; exact ⟨by rw [zs_n (by decide)]; exact a1, by rw [zs_n (by decide)]; exact a2, a3⟩
  | ok k => obtain ⟨a1, a2, a3, a4, a5⟩ := h; exact ⟨by rw [zs_n (by decide)]; exact a1, by rw [zs_n (by decide)]; exact a2, by rw [zs_n (by decide)]; exact a3, by rw [zs_n (by decide)]; exact a4, fun h => by rw [zs_n (by decide)]; exact a5 h⟩
def sRp (t : Int → Int) (L : Int) (D : zDr) (p : Int) : Except zEr (zDr × Int) := match sPr t L p with
  | .error e => .error e
  | .ok a => match sNum t L a.2.2.1 1 30 with
    | .error e => .error e
    | .ok b => .ok (dRope D a.1 a.2.1 b.1, b.2.1)
theorem fS.n {m : zM} {e : zEr} {o : Nat} {k v : Int} (h : fS m e) (ho : o ≠ 65 ∨ (k ≠ 15 ∧ k ≠ 16)) : fS (zs m o k v) e := by
  obtain ⟨a, b, c⟩ := h
  by_cases q : (65 : Nat) = o
  · subst q
    exact ⟨by rw [zs_k (by omega)]; exact a, by rw [zs_k (by omega)]; exact b, c⟩
  · exact ⟨by rw [zs_n q]; exact a, by rw [zs_n q]; exact b, c⟩
section
variable {l : Launch} {G : zG} {mem : zM} {t : Int → Int} {L p : Int} {D : zDr}
set_option maxRecDepth 100000 in
theorem c_readIsle (kd : Int) (hE : TP t L mem) (p0 : 0 ≤ p) (p1 : p ≤ L) (h : AH (sTk t L p) mem) (hD : DR mem D) (n0 : 0 ≤ D.1.1) (n5 : D.1.1 < 5) : KX6_readIsle l G 3 [zR 65, zI kd] mem (zPLn t L (sEi t L p D kd) mem) := by
  refine CT.of' (own := RX6) (ls0 := [zR 65, zI kd, zU, zU]) rfl (by decide +kernel) (Nat.le_of_ble_eq_true rfl) rfl ?_
  have tail : ∀ (e : zEr) (v : Int) (v3 : zV) (m : zM), sEi t L p D kd = .error e → kD mem m → m 65 5 = D.1.1 → fS m e → SW l G (zrm 3) RX6 cX6_readIsle 4 none (zZ G (zPLn t L (sEi t L p D kd) mem)) 0 0 (fun _ => True) 48 [zR 65, zI kd, zI v, v3] [] m := by
    intro e v v3 m hs hk h5 hf
    have f1 := hf.1
    have f3 := hf.2.2
    refine r_aload_n dX6_readIsle_48 rfl ?_
    refine r_getR (q := 69) fX6_20 rfl rfl dX6_readIsle_49 ?_
    try simp (disch := omega) only [zs_n, zs_v, zs_k, h5]
    refine r_iconst dX6_readIsle_52 (k := ?_)
    refine r_aload_n dX6_readIsle_53 rfl ?_
    refine r_gI (q := 5) rfl fX6_50 rfl (by decide) dX6_readIsle_54 ?_
    try simp (disch := omega) only [zs_n, zs_v, zs_k, h5]
    refine r_imul dX6_readIsle_57 ?_
    try rw [zw_id (by omega) (by omega)]
    refine r_iconst dX6_readIsle_58 (k := ?_)
    refine r_iadd dX6_readIsle_59 ?_
    try rw [zw_id (by omega) (by omega)]
    refine r_iload_n dX6_readIsle_60 rfl ?_
    refine r_iast rfl (by omega) (by omega) dX6_readIsle_61 ?_
    refine r_aload_n dX6_readIsle_62 rfl ?_
    refine r_getR (q := 69) fX6_20 rfl rfl dX6_readIsle_63 ?_
    try simp (disch := omega) only [zs_n, zs_v, zs_k, h5]
    refine r_iconst dX6_readIsle_66 (k := ?_)
    refine r_aload_n dX6_readIsle_67 rfl ?_
    refine r_gI (q := 5) rfl fX6_50 rfl (by decide) dX6_readIsle_68 ?_
    try simp (disch := omega) only [zs_n, zs_v, zs_k, h5]
    refine r_imul dX6_readIsle_71 ?_
    try rw [zw_id (by omega) (by omega)]
    refine r_iconst dX6_readIsle_72 (k := ?_)
    refine r_iadd dX6_readIsle_73 ?_
    try rw [zw_id (by omega) (by omega)]
    refine r_iload_n dX6_readIsle_74 rfl ?_
    refine r_iast rfl (by omega) (by omega) dX6_readIsle_75 ?_
    refine r_aload_n dX6_readIsle_76 rfl ?_
    refine r_dup dX6_readIsle_77 rfl ?_
    refine r_gI (q := 5) rfl fX6_50 rfl (by decide) dX6_readIsle_78 ?_
    try simp (disch := omega) only [zs_n, zs_v, zs_k, h5]
    refine r_iconst dX6_readIsle_81 (k := ?_)
    refine r_iadd dX6_readIsle_82 ?_
    try rw [zw_id (by omega) (by omega)]
    refine r_pI (q := 5) rfl pX6_50 rfl dX6_readIsle_83 ?_
    refine r_aload_n dX6_readIsle_86 rfl ?_
    refine r_w0 (c_takes_f (by simp (disch := omega) only [zs_n, zs_v, zs_k]; omega)) kX6_122 rfl dX6_readIsle_87 ?_
    try simp (disch := omega) only [zs_n, zs_v, zs_k, h5]
    refine r_vret dX6_readIsle_90 ?_
    exact zPLn.e hs (by repeat first | assumption | exact kD.rf | refine kD.s ?_ (by decide) | refine kD.z ?_) (by repeat first | assumption | refine fS.n ?_ (by first | decide | exact Or.inl (by decide)))
  have loopE : ∀ (q : Nat) (e : zEr) (v x : Int) (m : zM), sEi t L p D kd = .error e → kD mem m → m 65 5 = D.1.1 → fS m e → 0 ≤ x → x + q = D.1.1 → SW l G (zrm 3) RX6 cX6_readIsle 4 none (zZ G (zPLn t L (sEi t L p D kd) mem)) 0 0 (fun _ => True) 10 [zR 65, zI kd, zI v, zI x] [] m := by
    intro q
    induction q with
    | zero =>
      intro e v x m hs hk h5 hf x0 x1
      refine r_iload_n dX6_readIsle_10 rfl ?_
      refine r_aload_n dX6_readIsle_11 rfl ?_
      refine r_gI (q := 5) rfl fX6_50 rfl (by decide) dX6_readIsle_12 ?_
      try simp only [h5]
      refine r_icmp_ge (tgt := 48) dX6_readIsle_15 (by decide) (fun h15 => ?_) (fun h15 => ?_)
      · exact tail e v _ m hs hk h5 hf
      · exfalso; omega
    | succ q ih =>
      intro e v x m hs hk h5 hf x0 x1
      have f1 := hf.1
      have f3 := hf.2.2
      refine r_iload_n dX6_readIsle_10 rfl ?_
      refine r_aload_n dX6_readIsle_11 rfl ?_
      refine r_gI (q := 5) rfl fX6_50 rfl (by decide) dX6_readIsle_12 ?_
      try simp only [h5]
      refine r_icmp_ge (tgt := 48) dX6_readIsle_15 (by decide) (fun h15 => ?_) (fun h15 => ?_)
      · exfalso; omega
      · refine r_aload_n dX6_readIsle_18 rfl ?_
        refine r_aload_n dX6_readIsle_19 rfl ?_
        refine r_getR (q := 69) fX6_20 rfl rfl dX6_readIsle_20 ?_
        try simp only [h5]
        refine r_iconst dX6_readIsle_23 (k := ?_)
        refine r_iload_n dX6_readIsle_24 rfl ?_
        refine r_imul dX6_readIsle_25 ?_
        try rw [zw_id (by omega) (by omega)]
        refine r_iconst dX6_readIsle_26 (k := ?_)
        refine r_iadd dX6_readIsle_27 ?_
        try rw [zw_id (by omega) (by omega)]
        refine r_iald rfl (by omega) (by omega) dX6_readIsle_28 ?_
        try simp only [h5]
        refine r_iload_n dX6_readIsle_29 rfl ?_
        refine r_icmp_eq (tgt := 37) dX6_readIsle_30 (by decide) (fun h30 => ?_) (fun h30 => ?_)
        · refine r_iconst dX6_readIsle_37 (k := ?_)
          refine r_iconst dX6_readIsle_38 (k := ?_)
          refine r_w2 (c_needs_f _ _ (by omega)) kX6_114 rfl dX6_readIsle_39 ?_
          try simp only [h5]
          refine r_iinc dX6_readIsle_42 rfl rfl ?_
          try rw [zw_id (by omega) (by omega)]
          refine r_goto (tgt := 10) dX6_readIsle_45 (by decide) ?_
          exact ih e v _ m hs hk h5 hf (by omega) (by omega)
        · refine r_iconst dX6_readIsle_33 (k := ?_)
          refine r_goto (tgt := 38) dX6_readIsle_34 (by decide) ?_
          refine r_iconst dX6_readIsle_38 (k := ?_)
          refine r_w2 (c_needs_f _ _ (by omega)) kX6_114 rfl dX6_readIsle_39 ?_
          try simp only [h5]
          refine r_iinc dX6_readIsle_42 rfl rfl ?_
          try rw [zw_id (by omega) (by omega)]
          refine r_goto (tgt := 10) dX6_readIsle_45 (by decide) ?_
          exact ih e v _ m hs hk h5 hf (by omega) (by omega)
  refine r_aload_n dX6_readIsle_0 rfl ?_
  refine r_iconst dX6_readIsle_1 (k := ?_)
  refine r_bipush dX6_readIsle_2 (k := ?_)
  refine r_vL (c_looked _ _ h) kX6_118 rfl dX6_readIsle_4 (fun e4 m4 x4 k4 f4 => ?_) (fun a4 x4 y15 y11 y12 => ?_)
  · have x4 : sNum t L p 0 99 = .error e4 := x4
    have hs : sEi t L p D kd = .error e4 := by unfold sEi; simp only [x4]
    have h5 : m4 65 5 = D.1.1 := by rw [k4.2 5 (by decide)]; exact hD.1
    refine r_istore_n dX6_readIsle_7 rfl ?_
    refine r_iconst dX6_readIsle_8 (k := ?_)
    refine r_istore_n dX6_readIsle_9 rfl ?_
    exact loopE D.1.1.toNat e4 _ 0 m4 hs k4.d h5 f4 (by omega) (by omega)
  · have x4 : sNum t L p 0 99 = .ok a4 := x4
    have n4 := sNum_ok p1 x4
    have h5 : mem 65 5 = D.1.1 := hD.1
    have loop : ∀ (q : Nat) (x : Int), 0 ≤ x → x + q = D.1.1 → zany (fun i => decide (i ≠ -4 ∧ dP D i = a4.1)) x q = sTaken D.1.1 (dP D) a4.1 (-4) → SW l G (zrm 3) RX6 cX6_readIsle 4 none (zZ G (zPLn t L (sEi t L p D kd) mem)) 0 0 (fun _ => True) 10 [zR 65, zI kd, zI a4.1, zI x] [] mem := by
      intro q
      induction q with
      | zero =>
        intro x x0 x1 he
        have hs : sEi t L p D kd = .ok (dIsle D kd a4.1, a4.2.1) := by unfold sEi; simp only [x4]; rw [zany] at he; rw [← he, if_neg (by decide)]
        refine r_iload_n dX6_readIsle_10 rfl ?_
        refine r_aload_n dX6_readIsle_11 rfl ?_
        refine r_gI (q := 5) rfl fX6_50 rfl (by decide) dX6_readIsle_12 ?_
        try simp (disch := omega) only [zs_n, zs_v, zs_k, h5]
        refine r_icmp_ge (tgt := 48) dX6_readIsle_15 (by decide) (fun _ => ?_) (fun h15 => absurd h15 (by omega))
        refine r_aload_n dX6_readIsle_48 rfl ?_
        refine r_getR (q := 69) fX6_20 rfl rfl dX6_readIsle_49 ?_
        try simp (disch := omega) only [zs_n, zs_v, zs_k, h5]
        refine r_iconst dX6_readIsle_52 (k := ?_)
        refine r_aload_n dX6_readIsle_53 rfl ?_
        refine r_gI (q := 5) rfl fX6_50 rfl (by decide) dX6_readIsle_54 ?_
        try simp (disch := omega) only [zs_n, zs_v, zs_k, h5]
        refine r_imul dX6_readIsle_57 ?_
        try rw [zw_id (by omega) (by omega)]
        refine r_iconst dX6_readIsle_58 (k := ?_)
        refine r_iadd dX6_readIsle_59 ?_
        try rw [zw_id (by omega) (by omega)]
        rw [Int.add_zero]
        refine r_iload_n dX6_readIsle_60 rfl ?_
        refine r_iast rfl (by omega) (by omega) dX6_readIsle_61 ?_
        refine r_aload_n dX6_readIsle_62 rfl ?_
        refine r_getR (q := 69) fX6_20 rfl rfl dX6_readIsle_63 ?_
        try simp (disch := omega) only [zs_n, zs_v, zs_k, h5]
        refine r_iconst dX6_readIsle_66 (k := ?_)
        refine r_aload_n dX6_readIsle_67 rfl ?_
        refine r_gI (q := 5) rfl fX6_50 rfl (by decide) dX6_readIsle_68 ?_
        try simp (disch := omega) only [zs_n, zs_v, zs_k, h5]
        refine r_imul dX6_readIsle_71 ?_
        try rw [zw_id (by omega) (by omega)]
        refine r_iconst dX6_readIsle_72 (k := ?_)
        refine r_iadd dX6_readIsle_73 ?_
        try rw [zw_id (by omega) (by omega)]
        refine r_iload_n dX6_readIsle_74 rfl ?_
        refine r_iast rfl (by omega) (by omega) dX6_readIsle_75 ?_
        refine r_aload_n dX6_readIsle_76 rfl ?_
        refine r_dup dX6_readIsle_77 rfl ?_
        refine r_gI (q := 5) rfl fX6_50 rfl (by decide) dX6_readIsle_78 ?_
        try simp (disch := omega) only [zs_n, zs_v, zs_k, h5]
        refine r_iconst dX6_readIsle_81 (k := ?_)
        refine r_iadd dX6_readIsle_82 ?_
        try rw [zw_id (by omega) (by omega)]
        refine r_pI (q := 5) rfl pX6_50 rfl dX6_readIsle_83 ?_
        refine r_aload_n dX6_readIsle_86 rfl ?_
        refine r_wA0 (c_takes' (p := a4.2.1) (hE.k (by repeat first | assumption | exact kD.rf | refine kD.s ?_ (by decide) | refine kD.z ?_)) (by simp (disch := omega) only [zs_n, zs_v, zs_k]; exact y15) (by simp (disch := omega) only [zs_n, zs_v, zs_k]; exact y11) (by omega) (by omega)) kX6_122 rfl dX6_readIsle_87 (fun m8 k8 ah8 => ?_)
        have kd9 : kD mem (zs (zs (zs mem 69 (2 * D.1.1) kd) 69 (2 * D.1.1 + 1) a4.1) 65 5 (D.1.1 + 1)) := (by repeat first | assumption | exact kD.rf | refine kD.s ?_ (by decide) | refine kD.z ?_)
        refine r_vret dX6_readIsle_90 ?_
        exact zPLn.k hs (kd9.tr k8.d) ah8 ((hD.isle n0 n5).k k8) (by rw [k8.2 6 (by decide)]; simp (disch := omega) only [zs_n, zs_v, zs_k])
      | succ q ih =>
        intro x x0 x1 he
        have hx := (hD.2.1 x x0 (by omega)).2
        rw [zany] at he
        by_cases c : dP D x = a4.1
        · have hs : sEi t L p D kd = .error (4, a4.2.2) := by
            unfold sEi
            simp only [x4]
            rw [← he, decide_eq_true (show x ≠ -4 ∧ dP D x = a4.1 from ⟨by omega, c⟩), Bool.true_or, if_pos rfl]
          refine r_iload_n dX6_readIsle_10 rfl ?_
          refine r_aload_n dX6_readIsle_11 rfl ?_
          refine r_gI (q := 5) rfl fX6_50 rfl (by decide) dX6_readIsle_12 ?_
          try simp (disch := omega) only [h5, hx]
          refine r_icmp_ge (tgt := 48) dX6_readIsle_15 (by decide) (fun h15 => ?_) (fun h15 => ?_)
          · exfalso; omega
          · refine r_aload_n dX6_readIsle_18 rfl ?_
            refine r_aload_n dX6_readIsle_19 rfl ?_
            refine r_getR (q := 69) fX6_20 rfl rfl dX6_readIsle_20 ?_
            try simp (disch := omega) only [h5, hx]
            refine r_iconst dX6_readIsle_23 (k := ?_)
            refine r_iload_n dX6_readIsle_24 rfl ?_
            refine r_imul dX6_readIsle_25 ?_
            try rw [zw_id (by omega) (by omega)]
            refine r_iconst dX6_readIsle_26 (k := ?_)
            refine r_iadd dX6_readIsle_27 ?_
            try rw [zw_id (by omega) (by omega)]
            refine r_iald rfl (by omega) (by omega) dX6_readIsle_28 ?_
            try simp (disch := omega) only [h5, hx]
            refine r_iload_n dX6_readIsle_29 rfl ?_
            refine r_icmp_eq (tgt := 37) dX6_readIsle_30 (by decide) (fun h30 => ?_) (fun h30 => ?_)
            · refine r_iconst dX6_readIsle_37 (k := ?_)
              refine r_iconst dX6_readIsle_38 (k := ?_)
              refine r_w2 (c_needs_n _ y15) kX6_114 rfl dX6_readIsle_39 ?_
              try simp (disch := omega) only [h5, hx]
              refine r_iinc dX6_readIsle_42 rfl rfl ?_
              try rw [zw_id (by omega) (by omega)]
              refine r_goto (tgt := 10) dX6_readIsle_45 (by decide) ?_
              exact loopE q (4, a4.2.2) _ _ _ hs (by repeat first | assumption | exact kD.rf | refine kD.s ?_ (by decide) | refine kD.z ?_) (by simp (disch := omega) only [zs_n, zs_v, zs_k]; exact h5) ⟨by simp (disch := omega) only [zs_n, zs_v, zs_k], by simp (disch := omega) only [zs_n, zs_v, zs_k]; exact y12, (by show (0 : Int) < 4; decide)⟩ (by omega) (by omega)
            · exfalso; omega
        ·
          refine r_iload_n dX6_readIsle_10 rfl ?_
          refine r_aload_n dX6_readIsle_11 rfl ?_
          refine r_gI (q := 5) rfl fX6_50 rfl (by decide) dX6_readIsle_12 ?_
          try simp (disch := omega) only [h5, hx]
          refine r_icmp_ge (tgt := 48) dX6_readIsle_15 (by decide) (fun h15 => ?_) (fun h15 => ?_)
          · exfalso; omega
          · refine r_aload_n dX6_readIsle_18 rfl ?_
            refine r_aload_n dX6_readIsle_19 rfl ?_
            refine r_getR (q := 69) fX6_20 rfl rfl dX6_readIsle_20 ?_
            try simp (disch := omega) only [h5, hx]
            refine r_iconst dX6_readIsle_23 (k := ?_)
            refine r_iload_n dX6_readIsle_24 rfl ?_
            refine r_imul dX6_readIsle_25 ?_
            try rw [zw_id (by omega) (by omega)]
            refine r_iconst dX6_readIsle_26 (k := ?_)
            refine r_iadd dX6_readIsle_27 ?_
            try rw [zw_id (by omega) (by omega)]
            refine r_iald rfl (by omega) (by omega) dX6_readIsle_28 ?_
            try simp (disch := omega) only [h5, hx]
            refine r_iload_n dX6_readIsle_29 rfl ?_
            refine r_icmp_eq (tgt := 37) dX6_readIsle_30 (by decide) (fun h30 => ?_) (fun h30 => ?_)
            · exfalso; omega
            · refine r_iconst dX6_readIsle_33 (k := ?_)
              refine r_goto (tgt := 38) dX6_readIsle_34 (by decide) ?_
              refine r_iconst dX6_readIsle_38 (k := ?_)
              refine r_w2 (c_needs_t _ _ (by decide)) kX6_114 rfl dX6_readIsle_39 ?_
              try simp (disch := omega) only [h5, hx]
              refine r_iinc dX6_readIsle_42 rfl rfl ?_
              try rw [zw_id (by omega) (by omega)]
              refine r_goto (tgt := 10) dX6_readIsle_45 (by decide) ?_
              refine ih _ (by omega) (by omega) ?_
              rw [← he, decide_eq_false (show ¬ (x ≠ -4 ∧ dP D x = a4.1) from fun z => c z.2), Bool.false_or]
    refine r_istore_n dX6_readIsle_7 rfl ?_
    refine r_iconst dX6_readIsle_8 (k := ?_)
    refine r_istore_n dX6_readIsle_9 rfl ?_
    exact loop D.1.1.toNat 0 (by omega) (by omega) rfl
end
