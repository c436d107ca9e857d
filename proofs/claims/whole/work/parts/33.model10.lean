/-! ===== the reference: alter, wed, days ===== -/
theorem zcp_out {f g : Int → Int} {n j : Int} (h : ¬ (0 ≤ j ∧ j < n)) : zcp f g 0 0 n j = g j := by
  unfold zcp
  rw [if_neg (by omega)]
theorem zcp_u {X c : Int → Int} {k v n : Int} (h0 : 0 ≤ k) (h1 : k < n) : zcp (zu X k v) c 0 0 n = zu (zcp X c 0 0 n) k v := by
  funext j
  by_cases hj : 0 ≤ j ∧ j < n
  · rw [zcp_at hj.1 hj.2]
    by_cases e : j = k
    · rw [e, zu_s, zu_s]
    · rw [zu_n e, zu_n e, zcp_at hj.1 hj.2]
  · rw [zcp_out hj, zu_n (by omega), zcp_out hj]
theorem zcp_b {c d : Int → Int} {n : Int} : zcp (zcp c d 0 0 n) c 0 0 n = c := by
  funext j
  by_cases hj : 0 ≤ j ∧ j < n
  · rw [zcp_at hj.1 hj.2, zcp_at hj.1 hj.2]
  · rw [zcp_out hj]
theorem zcp_mR {c d : Int → Int} {s : zS3} : zcp (mR (zcp c d 0 0 76) s) c 0 0 76 = mR c s := by
  funext j
  by_cases hj : 0 ≤ j ∧ j < 76
  · rw [zcp_at hj.1 hj.2]
    unfold mR
    rw [zcp_at hj.1 hj.2]
  · rw [zcp_out hj]
    unfold mR
    rw [if_neg (by omega), if_neg (by omega), if_neg (by omega)]
theorem zb_d0 {P : Prop} [Decidable P] : (zb (decide P) = 0) ↔ ¬ P := by
  by_cases h : P
  · rw [decide_eq_true h]; simp [zb, h]
  · rw [decide_eq_false h]; simp [zb, h]
theorem zr_cm {m : zM} {a b : Nat} {X Y : Int → Int} (h : a ≠ b) : zr (zr m a X) b Y = zr (zr m b Y) a X := by
  funext o
  by_cases h1 : o = b
  · subst h1; rw [zr_s, zr_n (Ne.symm h), zr_s]
  · by_cases h2 : o = a
    · subst h2; rw [zr_n h1, zr_s, zr_s]
    · rw [zr_n h1, zr_n h2, zr_n h2, zr_n h1]
/-- an answer, the row st behind it, and what else the reference wrote for itself -/
def zPS (v : zV) (m : zM) (S : Int → Int) : Option zV → zM → Prop := fun r m' => r = some v ∧ ∃ X, m' = zr (zr m 66 S) 67 X
section
variable {l : Launch} {G : zG} {mem : zM}
theorem zPS.same {v w : Int} {X : Int → Int} (h : w = v) : zPS (zI v) mem (mem 66) (some (zI w)) (zr mem 67 X) := ⟨by rw [h], X, by rw [zr_self]⟩
theorem zPS.none {v w : Int} (h : w = v) : zPS (zI v) mem (mem 66) (some (zI w)) mem := ⟨by rw [h], mem 67, by rw [zr_self, zr_self]⟩
set_option maxRecDepth 100000 in
theorem c_X6_wed (hI : mI (mem 65 3) (mem 66)) (i j v : Int) : KX6_wed l G 3 [zR 65, zI i, zI j, zI v] mem (zPS (zI (if 0 ≤ i ∧ i < mem 65 3 ∧ 0 ≤ j ∧ j < mem 65 3 ∧ i ≠ j ∧ 1 ≤ v ∧ v ≤ 30 then (if mem 66 53 = 6 then -3 else mem 66 53 + 1) else -1)) mem (if (0 ≤ i ∧ i < mem 65 3 ∧ 0 ≤ j ∧ j < mem 65 3 ∧ i ≠ j ∧ 1 ≤ v ∧ v ≤ 30) ∧ mem 66 53 ≠ 6 then zu (zu (zu (zu (mem 66) (35 + 3 * mem 66 53) i) (36 + 3 * mem 66 53) j) (37 + 3 * mem 66 53) v) 53 (mem 66 53 + 1) else mem 66)) := by
  have hn0 := hI.1
  have hn5 := hI.2.1
  have hr0 := hI.2.2.1
  have hr6 := hI.2.2.2.1
  have e53 : (zcp (mem 66) (mem 67) 0 0 76) 53 = mem 66 53 := zcp_at (by decide) (by decide)
  refine CT.of' (own := RX6) (ls0 := [zR 65, zI i, zI j, zI v]) rfl (by decide +kernel) (Nat.le_of_ble_eq_true rfl) rfl ?_
  refine r_aload_n dX6_wed_0 rfl ?_
  refine r_iload_n dX6_wed_1 rfl ?_
  refine r_iload_n dX6_wed_2 rfl ?_
  refine r_v2 (c_areTwo _ _ hn0 hn5) kX6_207 rfl dX6_wed_3 ?_
  refine r_ifd_eq (tgt := 21) dX6_wed_6 (by decide) (fun h6 => ?_) (fun h6 => ?_)
  · refine r_iconst dX6_wed_21 (k := ?_)
    refine r_iret dX6_wed_22 ?_
    first
      | (rw [if_neg (by omega), if_neg (by omega)]; exact zPS.none rfl)
      | (rw [if_pos (by omega), if_pos (by omega), if_neg (by omega)]; exact zPS.none rfl)
      | (rw [if_pos (by omega), if_neg (by omega), if_pos (by omega)]; exact ⟨rfl, _, zr_cm (by decide)⟩)
  · refine r_iload_n dX6_wed_9 rfl ?_
    refine r_i2l dX6_wed_10 ?_
    refine r_lconst dX6_wed_11 rfl (k := ?_)
    refine r_ldc2 nX6_220 dX6_wed_12 (x := 30) (k := ?_)
    refine r_s3 (c_in _ _ _) kX6_69 dX6_wed_15 ?_
    refine r_ifd_ne (tgt := 23) dX6_wed_18 (by decide) (fun h18 => ?_) (fun h18 => ?_)
    · refine r_aload_n dX6_wed_23 rfl ?_
      refine r_getR (q := 66) fX6_7 rfl rfl dX6_wed_24 ?_
      refine r_bipush dX6_wed_27 (k := ?_)
      refine r_iald rfl (by omega) (by omega) dX6_wed_29 ?_
      refine r_bipush dX6_wed_30 (k := ?_)
      refine r_icmp_ne (tgt := 38) dX6_wed_32 (by decide) (fun h32 => ?_) (fun h32 => ?_)
      · refine r_aload_n dX6_wed_38 rfl ?_
        refine r_w0 (c_starts) kX6_194 rfl dX6_wed_39 ?_
        refine r_aload_n dX6_wed_42 rfl ?_
        refine r_iload_n dX6_wed_43 rfl ?_
        refine r_iload_n dX6_wed_44 rfl ?_
        refine r_iload_n dX6_wed_45 rfl ?_
        refine r_w3 (c_ties _ _ _ (by rw [zr_s, e53]; omega) (by rw [zr_s, e53]; omega)) kX6_222 rfl dX6_wed_46 ?_
        rw [zr_zr, zr_s, e53]
        refine r_aload_n dX6_wed_49 rfl ?_
        refine r_w0 (c_settles) kX6_226 rfl dX6_wed_50 ?_
        rw [zr_s, zr_n (by decide), zcp_u (by omega) (by omega), zcp_u (by omega) (by omega), zcp_u (by omega) (by omega), zcp_u (by omega) (by omega), zcp_b]
        refine r_aload_n dX6_wed_53 rfl ?_
        refine r_getR (q := 66) fX6_7 rfl rfl dX6_wed_54 ?_
        refine r_bipush dX6_wed_57 (k := ?_)
        refine r_iald rfl (by omega) (by omega) dX6_wed_59 ?_
        rw [zr_s, zu_s]
        refine r_iret dX6_wed_60 ?_
        first
          | (rw [if_neg (by omega), if_neg (by omega)]; exact zPS.none rfl)
          | (rw [if_pos (by omega), if_pos (by omega), if_neg (by omega)]; exact zPS.none rfl)
          | (rw [if_pos (by omega), if_neg (by omega), if_pos (by omega)]; exact ⟨rfl, _, zr_cm (by decide)⟩)
      · refine r_bipush dX6_wed_35 (k := ?_)
        refine r_iret dX6_wed_37 ?_
        first
          | (rw [if_neg (by omega), if_neg (by omega)]; exact zPS.none rfl)
          | (rw [if_pos (by omega), if_pos (by omega), if_neg (by omega)]; exact zPS.none rfl)
          | (rw [if_pos (by omega), if_neg (by omega), if_pos (by omega)]; exact ⟨rfl, _, zr_cm (by decide)⟩)
    · refine r_iconst dX6_wed_21 (k := ?_)
      refine r_iret dX6_wed_22 ?_
      first
        | (rw [if_neg (by omega), if_neg (by omega)]; exact zPS.none rfl)
        | (rw [if_pos (by omega), if_pos (by omega), if_neg (by omega)]; exact zPS.none rfl)
        | (rw [if_pos (by omega), if_neg (by omega), if_pos (by omega)]; exact ⟨rfl, _, zr_cm (by decide)⟩)
set_option maxRecDepth 100000 in
theorem c_X6_days (hI : mI (mem 65 3) (mem 66)) (n : Int) (d0 : 0 ≤ mem 66 54) (d9 : mem 66 54 ≤ 999) : KX6_days l G 6 [zR 65, zI n] mem (zPS (zI (if 0 ≤ n ∧ n ≤ 30 then (if 999 < mem 66 54 + n then -3 else vBumps (vM (mem 65 3) (mem 66)) n.toNat) else -1)) mem (if (0 ≤ n ∧ n ≤ 30) ∧ mem 66 54 + n ≤ 999 then mR (mem 66) (vDays (vM (mem 65 3) (zcp (mem 66) (mem 67) 0 0 76)) n.toNat) else mem 66)) := by
  have hn0 := hI.1
  have hn5 := hI.2.1
  obtain ⟨f1, f2, f3⟩ := mStart hI kM.rf
  have e56 : (zcp (mem 66) (mem 67) 0 0 76) 56 = mem 66 56 := zcp_at (by decide) (by decide)
  have eb : zw ((vDays (vM (mem 65 3) (zcp (mem 66) (mem 67) 0 0 76)) n.toNat).2.1 - mem 66 56) = vBumps (vM (mem 65 3) (mem 66)) n.toNat := by
    rw [← f2.bumps]
    unfold vBumps
    rw [← e56]
    rfl
  refine CT.of' (own := RX6) (ls0 := [zR 65, zI n, zU]) rfl (by decide +kernel) (Nat.le_of_ble_eq_true rfl) rfl ?_
  refine r_iload_n dX6_days_0 rfl ?_
  refine r_i2l dX6_days_1 ?_
  refine r_lconst dX6_days_2 rfl (k := ?_)
  refine r_ldc2 nX6_220 dX6_days_3 (x := 30) (k := ?_)
  refine r_s3 (c_in _ _ _) kX6_69 dX6_days_6 ?_
  refine r_ifd_ne (tgt := 14) dX6_days_9 (by decide) (fun h9 => ?_) (fun h9 => ?_)
  · refine r_aload_n dX6_days_14 rfl ?_
    refine r_getR (q := 66) fX6_7 rfl rfl dX6_days_15 ?_
    refine r_bipush dX6_days_18 (k := ?_)
    refine r_iald rfl (by omega) (by omega) dX6_days_20 ?_
    refine r_iload_n dX6_days_21 rfl ?_
    refine r_iadd dX6_days_22 ?_
    try rw [zw_id (by omega) (by omega)]
    refine r_sipush dX6_days_23 (k := ?_)
    refine r_icmp_le (tgt := 32) dX6_days_26 (by decide) (fun h26 => ?_) (fun h26 => ?_)
    · refine r_aload_n dX6_days_32 rfl ?_
      refine r_w0 (c_starts) kX6_194 rfl dX6_days_33 ?_
      refine r_aload_n dX6_days_36 rfl ?_
      refine r_iload_n dX6_days_37 rfl ?_
      refine r_w1 (c_daysGo (by rw [zr_n (by decide), zr_s]; exact f1) _ (by omega) (by omega)) kX6_231 rfl dX6_days_38 ?_
      simp (disch := decide) only [zr_zr, zr_n, zr_s]
      refine r_aload_n dX6_days_41 rfl ?_
      refine r_v0 (c_bumpsSince) kX6_234 rfl dX6_days_42 ?_
      rw [zr_s, zr_n (by decide), mR_56]
      refine r_istore_n dX6_days_45 rfl ?_
      refine r_aload_n dX6_days_46 rfl ?_
      refine r_w0 (c_settles) kX6_226 rfl dX6_days_47 ?_
      rw [zr_s, zr_n (by decide), zcp_mR]
      refine r_iload_n dX6_days_50 rfl ?_
      refine r_iret dX6_days_51 ?_
      first
        | (rw [if_neg (by omega), if_neg (by omega)]; exact zPS.none rfl)
        | (rw [if_pos (by omega), if_pos (by omega), if_neg (by omega)]; exact zPS.none rfl)
        | (rw [if_pos (by omega), if_neg (by omega), if_pos (by omega), ← eb]; exact ⟨rfl, _, zr_cm (by decide)⟩)
    · refine r_bipush dX6_days_29 (k := ?_)
      refine r_iret dX6_days_31 ?_
      first
        | (rw [if_neg (by omega), if_neg (by omega)]; exact zPS.none rfl)
        | (rw [if_pos (by omega), if_pos (by omega), if_neg (by omega)]; exact zPS.none rfl)
        | (rw [if_pos (by omega), if_neg (by omega), if_pos (by omega), ← eb]; exact ⟨rfl, _, zr_cm (by decide)⟩)
  · refine r_iconst dX6_days_12 (k := ?_)
    refine r_iret dX6_days_13 ?_
    first
      | (rw [if_neg (by omega), if_neg (by omega)]; exact zPS.none rfl)
      | (rw [if_pos (by omega), if_pos (by omega), if_neg (by omega)]; exact zPS.none rfl)
      | (rw [if_pos (by omega), if_neg (by omega), if_pos (by omega), ← eb]; exact ⟨rfl, _, zr_cm (by decide)⟩)
set_option maxRecDepth 100000 in
theorem c_X6_alter (hI : mI (mem 65 3) (mem 66)) (i w v : Int) : KX6_alter l G 2 [zR 65, zI i, zI w, zI v] mem (zPS (zI (if (0 ≤ i ∧ i < mem 65 3) ∧ w = 0 ∧ 0 ≤ v ∧ v ≤ 3 then mem 66 (2 * i) else if ((0 ≤ i ∧ i < mem 65 3) ∧ w = 1 ∧ 0 ≤ v ∧ v ≤ 99) ∧ (mP (mem 66) i = v ∨ mTaken (mem 65 3) (mP (mem 66)) v = false) then mem 66 (2 * i + 1) else -1)) mem (if (0 ≤ i ∧ i < mem 65 3) ∧ w = 0 ∧ 0 ≤ v ∧ v ≤ 3 then zu (mem 66) (2 * i) v else if ((0 ≤ i ∧ i < mem 65 3) ∧ w = 1 ∧ 0 ≤ v ∧ v ≤ 99) ∧ (mP (mem 66) i = v ∨ mTaken (mem 65 3) (mP (mem 66)) v = false) then zu (mem 66) (2 * i + 1) v else mem 66)) := by
  have hn0 := hI.1
  have hn5 := hI.2.1
  obtain ⟨f1, f2, f3⟩ := mStart hI kM.rf
  have hT : mTaken (mem 65 3) (mP (zcp (mem 66) (mem 67) 0 0 76)) v = mTaken (mem 65 3) (mP (mem 66)) v := zany_congr _ _ (fun j a b => by rw [mP_zcp a (by omega)])
  have no : ∀ r, ¬ ((0 ≤ i ∧ i < mem 65 3) ∧ w = 0 ∧ 0 ≤ v ∧ v ≤ 3) → ¬ (((0 ≤ i ∧ i < mem 65 3) ∧ w = 1 ∧ 0 ≤ v ∧ v ≤ 99) ∧ (mP (mem 66) i = v ∨ mTaken (mem 65 3) (mP (mem 66)) v = false)) → r = -1 → zPS (zI (if (0 ≤ i ∧ i < mem 65 3) ∧ w = 0 ∧ 0 ≤ v ∧ v ≤ 3 then mem 66 (2 * i) else if ((0 ≤ i ∧ i < mem 65 3) ∧ w = 1 ∧ 0 ≤ v ∧ v ≤ 99) ∧ (mP (mem 66) i = v ∨ mTaken (mem 65 3) (mP (mem 66)) v = false) then mem 66 (2 * i + 1) else -1)) mem (if (0 ≤ i ∧ i < mem 65 3) ∧ w = 0 ∧ 0 ≤ v ∧ v ≤ 3 then zu (mem 66) (2 * i) v else if ((0 ≤ i ∧ i < mem 65 3) ∧ w = 1 ∧ 0 ≤ v ∧ v ≤ 99) ∧ (mP (mem 66) i = v ∨ mTaken (mem 65 3) (mP (mem 66)) v = false) then zu (mem 66) (2 * i + 1) v else mem 66) (some (zI r)) (zr mem 67 (zcp (mem 66) (mem 67) 0 0 76)) := by
    intro r a b c
    simp only [if_neg a, if_neg b]
    exact zPS.same c
  refine CT.of' (own := RX6) (ls0 := [zR 65, zI i, zI w, zI v, zU]) rfl (by decide +kernel) (Nat.le_of_ble_eq_true rfl) rfl ?_
  have yes : ∀ x4 : zV, ((0 ≤ i ∧ i < mem 65 3) ∧ w = 0 ∧ 0 ≤ v ∧ v ≤ 3) ∨ (((0 ≤ i ∧ i < mem 65 3) ∧ w = 1 ∧ 0 ≤ v ∧ v ≤ 99) ∧ (mP (mem 66) i = v ∨ mTaken (mem 65 3) (mP (mem 66)) v = false)) → SW l G (zrm 2) RX6 cX6_alter 5 (some .int) (zZ G (zPS (zI (if (0 ≤ i ∧ i < mem 65 3) ∧ w = 0 ∧ 0 ≤ v ∧ v ≤ 3 then mem 66 (2 * i) else if ((0 ≤ i ∧ i < mem 65 3) ∧ w = 1 ∧ 0 ≤ v ∧ v ≤ 99) ∧ (mP (mem 66) i = v ∨ mTaken (mem 65 3) (mP (mem 66)) v = false) then mem 66 (2 * i + 1) else -1)) mem (if (0 ≤ i ∧ i < mem 65 3) ∧ w = 0 ∧ 0 ≤ v ∧ v ≤ 3 then zu (mem 66) (2 * i) v else if ((0 ≤ i ∧ i < mem 65 3) ∧ w = 1 ∧ 0 ≤ v ∧ v ≤ 99) ∧ (mP (mem 66) i = v ∨ mTaken (mem 65 3) (mP (mem 66)) v = false) then zu (mem 66) (2 * i + 1) v else mem 66))) 0 0 (fun _ => True) 76 [zR 65, zI i, zI w, zI v, x4] [] (zr mem 67 (zcp (mem 66) (mem 67) 0 0 76)) := by
    intro x4 hq
    rcases hq with hq | hq
    · simp only [if_pos hq]
      have hw : w = 0 := hq.2.1
      subst hw
      refine r_aload_n dX6_alter_76 rfl ?_
      refine r_iconst dX6_alter_77 (k := ?_)
      refine r_iload_n dX6_alter_78 rfl ?_
      refine r_imul dX6_alter_79 ?_
      try rw [zw_id (by omega) (by omega)]
      refine r_iload_n dX6_alter_80 rfl ?_
      refine r_iadd dX6_alter_81 ?_
      try rw [zw_id (by omega) (by omega)]
      refine r_iload_n dX6_alter_82 rfl ?_
      refine r_v2 (c_becomes _ _ (by omega) (by omega)) kX6_217 rfl dX6_alter_83 ?_
      try simp (disch := decide) only [zr_n, zr_s]
      refine r_iret dX6_alter_86 ?_
      exact ⟨by rw [Int.add_zero], (zcp (mem 66) (mem 67) 0 0 76), by rw [Int.add_zero]; unfold zs; rw [zr_n (by decide)]; exact zr_cm (by decide)⟩
    · have n0 : ¬ ((0 ≤ i ∧ i < mem 65 3) ∧ w = 0 ∧ 0 ≤ v ∧ v ≤ 3) := fun z => by have := hq.1; omega
      simp only [if_neg n0, if_pos hq]
      have hw : w = 1 := hq.1.2.1
      subst hw
      refine r_aload_n dX6_alter_76 rfl ?_
      refine r_iconst dX6_alter_77 (k := ?_)
      refine r_iload_n dX6_alter_78 rfl ?_
      refine r_imul dX6_alter_79 ?_
      try rw [zw_id (by omega) (by omega)]
      refine r_iload_n dX6_alter_80 rfl ?_
      refine r_iadd dX6_alter_81 ?_
      try rw [zw_id (by omega) (by omega)]
      refine r_iload_n dX6_alter_82 rfl ?_
      refine r_v2 (c_becomes _ _ (by omega) (by omega)) kX6_217 rfl dX6_alter_83 ?_
      try simp (disch := decide) only [zr_n, zr_s]
      refine r_iret dX6_alter_86 ?_
      exact ⟨rfl, (zcp (mem 66) (mem 67) 0 0 76), by unfold zs; rw [zr_n (by decide)]; exact zr_cm (by decide)⟩
  refine r_aload_n dX6_alter_0 rfl ?_
  refine r_w0 (c_starts) kX6_194 rfl dX6_alter_1 ?_
  try simp (disch := decide) only [zr_n, zr_s]
  refine r_iload_n dX6_alter_4 rfl ?_
  refine r_if_ne (tgt := 20) dX6_alter_5 (by decide) (fun h5 => ?_) (fun h5 => ?_)
  · refine r_iload_n dX6_alter_20 rfl ?_
    refine r_iconst dX6_alter_21 (k := ?_)
    refine r_icmp_ne (tgt := 36) dX6_alter_22 (by decide) (fun h22 => ?_) (fun h22 => ?_)
    · refine r_iconst dX6_alter_36 (k := ?_)
      refine r_istore dX6_alter_37 rfl ?_
      refine r_aload_n dX6_alter_39 rfl ?_
      refine r_iload_n dX6_alter_40 rfl ?_
      refine r_v1 (c_isIsle _ (by rw [zr_n (by decide)]; exact hn0) (by rw [zr_n (by decide)]; exact hn5)) kX6_151 rfl dX6_alter_41 ?_
      try simp (disch := decide) only [zr_n, zr_s]
      refine r_ifd_eq (tgt := 74) dX6_alter_44 (by decide) (fun h44 => ?_) (fun h44 => ?_)
      · try simp only [zb_d0] at h49
        refine r_iconst dX6_alter_74 (k := ?_)
        refine r_iret dX6_alter_75 ?_
        exact no _ (by omega) (by first | omega | (rintro ⟨-, q⟩; rcases q with q | q; exact h63 q; rw [h71] at q; exact absurd q (by decide))) rfl
      · refine r_iload dX6_alter_47 rfl ?_
        refine r_if_eq (tgt := 74) dX6_alter_49 (by decide) (fun h49 => ?_) (fun h49 => ?_)
        · try simp only [zb_d0] at h49
          refine r_iconst dX6_alter_74 (k := ?_)
          refine r_iret dX6_alter_75 ?_
          exact no _ (by omega) (by first | omega | (rintro ⟨-, q⟩; rcases q with q | q; exact h63 q; rw [h71] at q; exact absurd q (by decide))) rfl
        · refine r_iload_n dX6_alter_52 rfl ?_
          refine r_iconst dX6_alter_53 (k := ?_)
          refine r_icmp_ne (tgt := 76) dX6_alter_54 (by decide) (fun h54 => ?_) (fun h54 => ?_)
          · first
              | exact absurd rfl h49
              | (simp only [zb_d0, Decidable.not_not] at h49; exact yes _ (Or.inl (by omega)))
              | (simp only [zb_d0, Decidable.not_not] at h49; exact absurd h54 (by omega))
              | exact yes _ (Or.inr ⟨by omega, Or.inl h63⟩)
              | exact yes _ (Or.inr ⟨by omega, Or.inr h71⟩)
              | (exfalso; omega)
          · refine r_aload_n dX6_alter_57 rfl ?_
            refine r_iload_n dX6_alter_58 rfl ?_
            refine r_v1 (c_place _ (by omega) (by omega)) kX6_156 rfl dX6_alter_59 ?_
            try simp (disch := decide) only [zr_n, zr_s]
            rw [mP_zcp (by omega) (by omega)]
            refine r_iload_n dX6_alter_62 rfl ?_
            refine r_icmp_eq (tgt := 76) dX6_alter_63 (by decide) (fun h63 => ?_) (fun h63 => ?_)
            · first
                | exact absurd rfl h49
                | (simp only [zb_d0, Decidable.not_not] at h49; exact yes _ (Or.inl (by omega)))
                | (simp only [zb_d0, Decidable.not_not] at h49; exact absurd h54 (by omega))
                | exact yes _ (Or.inr ⟨by omega, Or.inl h63⟩)
                | exact yes _ (Or.inr ⟨by omega, Or.inr h71⟩)
                | (exfalso; omega)
            · refine r_aload_n dX6_alter_66 rfl ?_
              refine r_iload_n dX6_alter_67 rfl ?_
              refine r_v1 (c_X6_isTaken (by rw [zr_n (by decide), zr_s]; exact f1) _) kX6_178 rfl dX6_alter_68 ?_
              try simp (disch := decide) only [zr_n, zr_s]
              rw [hT]
              refine r_ifb_eq (tgt := 76) dX6_alter_71 (by decide) (fun h71 => ?_) (fun h71 => ?_)
              · first
                  | exact absurd rfl h49
                  | (simp only [zb_d0, Decidable.not_not] at h49; exact yes _ (Or.inl (by omega)))
                  | (simp only [zb_d0, Decidable.not_not] at h49; exact absurd h54 (by omega))
                  | exact yes _ (Or.inr ⟨by omega, Or.inl h63⟩)
                  | exact yes _ (Or.inr ⟨by omega, Or.inr h71⟩)
                  | (exfalso; omega)
              · try simp only [zb_d0] at h49
                refine r_iconst dX6_alter_74 (k := ?_)
                refine r_iret dX6_alter_75 ?_
                exact no _ (by omega) (by first | omega | (rintro ⟨-, q⟩; rcases q with q | q; exact h63 q; rw [h71] at q; exact absurd q (by decide))) rfl
    · refine r_iload_n dX6_alter_25 rfl ?_
      refine r_s1 (c_isFathom _) kX6_171 dX6_alter_26 ?_
      try simp (disch := decide) only [zr_n, zr_s]
      refine r_ifd_eq (tgt := 36) dX6_alter_29 (by decide) (fun h29 => ?_) (fun h29 => ?_)
      · refine r_iconst dX6_alter_36 (k := ?_)
        refine r_istore dX6_alter_37 rfl ?_
        refine r_aload_n dX6_alter_39 rfl ?_
        refine r_iload_n dX6_alter_40 rfl ?_
        refine r_v1 (c_isIsle _ (by rw [zr_n (by decide)]; exact hn0) (by rw [zr_n (by decide)]; exact hn5)) kX6_151 rfl dX6_alter_41 ?_
        try simp (disch := decide) only [zr_n, zr_s]
        refine r_ifd_eq (tgt := 74) dX6_alter_44 (by decide) (fun h44 => ?_) (fun h44 => ?_)
        · try simp only [zb_d0] at h49
          refine r_iconst dX6_alter_74 (k := ?_)
          refine r_iret dX6_alter_75 ?_
          exact no _ (by omega) (by first | omega | (rintro ⟨-, q⟩; rcases q with q | q; exact h63 q; rw [h71] at q; exact absurd q (by decide))) rfl
        · refine r_iload dX6_alter_47 rfl ?_
          refine r_if_eq (tgt := 74) dX6_alter_49 (by decide) (fun h49 => ?_) (fun h49 => ?_)
          · try simp only [zb_d0] at h49
            refine r_iconst dX6_alter_74 (k := ?_)
            refine r_iret dX6_alter_75 ?_
            exact no _ (by omega) (by first | omega | (rintro ⟨-, q⟩; rcases q with q | q; exact h63 q; rw [h71] at q; exact absurd q (by decide))) rfl
          · refine r_iload_n dX6_alter_52 rfl ?_
            refine r_iconst dX6_alter_53 (k := ?_)
            refine r_icmp_ne (tgt := 76) dX6_alter_54 (by decide) (fun h54 => ?_) (fun h54 => ?_)
            · first
                | exact absurd rfl h49
                | (simp only [zb_d0, Decidable.not_not] at h49; exact yes _ (Or.inl (by omega)))
                | (simp only [zb_d0, Decidable.not_not] at h49; exact absurd h54 (by omega))
                | exact yes _ (Or.inr ⟨by omega, Or.inl h63⟩)
                | exact yes _ (Or.inr ⟨by omega, Or.inr h71⟩)
                | (exfalso; omega)
            · refine r_aload_n dX6_alter_57 rfl ?_
              refine r_iload_n dX6_alter_58 rfl ?_
              refine r_v1 (c_place _ (by omega) (by omega)) kX6_156 rfl dX6_alter_59 ?_
              try simp (disch := decide) only [zr_n, zr_s]
              rw [mP_zcp (by omega) (by omega)]
              refine r_iload_n dX6_alter_62 rfl ?_
              refine r_icmp_eq (tgt := 76) dX6_alter_63 (by decide) (fun h63 => ?_) (fun h63 => ?_)
              · first
                  | exact absurd rfl h49
                  | (simp only [zb_d0, Decidable.not_not] at h49; exact yes _ (Or.inl (by omega)))
                  | (simp only [zb_d0, Decidable.not_not] at h49; exact absurd h54 (by omega))
                  | exact yes _ (Or.inr ⟨by omega, Or.inl h63⟩)
                  | exact yes _ (Or.inr ⟨by omega, Or.inr h71⟩)
                  | (exfalso; omega)
              · refine r_aload_n dX6_alter_66 rfl ?_
                refine r_iload_n dX6_alter_67 rfl ?_
                refine r_v1 (c_X6_isTaken (by rw [zr_n (by decide), zr_s]; exact f1) _) kX6_178 rfl dX6_alter_68 ?_
                try simp (disch := decide) only [zr_n, zr_s]
                rw [hT]
                refine r_ifb_eq (tgt := 76) dX6_alter_71 (by decide) (fun h71 => ?_) (fun h71 => ?_)
                · first
                    | exact absurd rfl h49
                    | (simp only [zb_d0, Decidable.not_not] at h49; exact yes _ (Or.inl (by omega)))
                    | (simp only [zb_d0, Decidable.not_not] at h49; exact absurd h54 (by omega))
                    | exact yes _ (Or.inr ⟨by omega, Or.inl h63⟩)
                    | exact yes _ (Or.inr ⟨by omega, Or.inr h71⟩)
                    | (exfalso; omega)
                · try simp only [zb_d0] at h49
                  refine r_iconst dX6_alter_74 (k := ?_)
                  refine r_iret dX6_alter_75 ?_
                  exact no _ (by omega) (by first | omega | (rintro ⟨-, q⟩; rcases q with q | q; exact h63 q; rw [h71] at q; exact absurd q (by decide))) rfl
      · refine r_iconst dX6_alter_32 (k := ?_)
        refine r_goto (tgt := 37) dX6_alter_33 (by decide) ?_
        refine r_istore dX6_alter_37 rfl ?_
        refine r_aload_n dX6_alter_39 rfl ?_
        refine r_iload_n dX6_alter_40 rfl ?_
        refine r_v1 (c_isIsle _ (by rw [zr_n (by decide)]; exact hn0) (by rw [zr_n (by decide)]; exact hn5)) kX6_151 rfl dX6_alter_41 ?_
        try simp (disch := decide) only [zr_n, zr_s]
        refine r_ifd_eq (tgt := 74) dX6_alter_44 (by decide) (fun h44 => ?_) (fun h44 => ?_)
        · try simp only [zb_d0] at h49
          refine r_iconst dX6_alter_74 (k := ?_)
          refine r_iret dX6_alter_75 ?_
          exact no _ (by omega) (by first | omega | (rintro ⟨-, q⟩; rcases q with q | q; exact h63 q; rw [h71] at q; exact absurd q (by decide))) rfl
        · refine r_iload dX6_alter_47 rfl ?_
          refine r_if_eq (tgt := 74) dX6_alter_49 (by decide) (fun h49 => ?_) (fun h49 => ?_)
          · try simp only [zb_d0] at h49
            refine r_iconst dX6_alter_74 (k := ?_)
            refine r_iret dX6_alter_75 ?_
            exact no _ (by omega) (by first | omega | (rintro ⟨-, q⟩; rcases q with q | q; exact h63 q; rw [h71] at q; exact absurd q (by decide))) rfl
          · refine r_iload_n dX6_alter_52 rfl ?_
            refine r_iconst dX6_alter_53 (k := ?_)
            refine r_icmp_ne (tgt := 76) dX6_alter_54 (by decide) (fun h54 => ?_) (fun h54 => ?_)
            · first
                | exact absurd rfl h49
                | (simp only [zb_d0, Decidable.not_not] at h49; exact yes _ (Or.inl (by omega)))
                | (simp only [zb_d0, Decidable.not_not] at h49; exact absurd h54 (by omega))
                | exact yes _ (Or.inr ⟨by omega, Or.inl h63⟩)
                | exact yes _ (Or.inr ⟨by omega, Or.inr h71⟩)
                | (exfalso; omega)
            · refine r_aload_n dX6_alter_57 rfl ?_
              refine r_iload_n dX6_alter_58 rfl ?_
              refine r_v1 (c_place _ (by omega) (by omega)) kX6_156 rfl dX6_alter_59 ?_
              try simp (disch := decide) only [zr_n, zr_s]
              rw [mP_zcp (by omega) (by omega)]
              refine r_iload_n dX6_alter_62 rfl ?_
              refine r_icmp_eq (tgt := 76) dX6_alter_63 (by decide) (fun h63 => ?_) (fun h63 => ?_)
              · first
                  | exact absurd rfl h49
                  | (simp only [zb_d0, Decidable.not_not] at h49; exact yes _ (Or.inl (by omega)))
                  | (simp only [zb_d0, Decidable.not_not] at h49; exact absurd h54 (by omega))
                  | exact yes _ (Or.inr ⟨by omega, Or.inl h63⟩)
                  | exact yes _ (Or.inr ⟨by omega, Or.inr h71⟩)
                  | (exfalso; omega)
              · refine r_aload_n dX6_alter_66 rfl ?_
                refine r_iload_n dX6_alter_67 rfl ?_
                refine r_v1 (c_X6_isTaken (by rw [zr_n (by decide), zr_s]; exact f1) _) kX6_178 rfl dX6_alter_68 ?_
                try simp (disch := decide) only [zr_n, zr_s]
                rw [hT]
                refine r_ifb_eq (tgt := 76) dX6_alter_71 (by decide) (fun h71 => ?_) (fun h71 => ?_)
                · first
                    | exact absurd rfl h49
                    | (simp only [zb_d0, Decidable.not_not] at h49; exact yes _ (Or.inl (by omega)))
                    | (simp only [zb_d0, Decidable.not_not] at h49; exact absurd h54 (by omega))
                    | exact yes _ (Or.inr ⟨by omega, Or.inl h63⟩)
                    | exact yes _ (Or.inr ⟨by omega, Or.inr h71⟩)
                    | (exfalso; omega)
                · try simp only [zb_d0] at h49
                  refine r_iconst dX6_alter_74 (k := ?_)
                  refine r_iret dX6_alter_75 ?_
                  exact no _ (by omega) (by first | omega | (rintro ⟨-, q⟩; rcases q with q | q; exact h63 q; rw [h71] at q; exact absurd q (by decide))) rfl
  · refine r_iload_n dX6_alter_8 rfl ?_
    refine r_i2l dX6_alter_9 ?_
    refine r_lconst dX6_alter_10 rfl (k := ?_)
    refine r_ldc2 nX6_215 dX6_alter_11 (x := 3) (k := ?_)
    refine r_s3 (c_in _ _ _) kX6_69 dX6_alter_14 ?_
    try simp (disch := decide) only [zr_n, zr_s]
    refine r_goto (tgt := 37) dX6_alter_17 (by decide) ?_
    refine r_istore dX6_alter_37 rfl ?_
    refine r_aload_n dX6_alter_39 rfl ?_
    refine r_iload_n dX6_alter_40 rfl ?_
    refine r_v1 (c_isIsle _ (by rw [zr_n (by decide)]; exact hn0) (by rw [zr_n (by decide)]; exact hn5)) kX6_151 rfl dX6_alter_41 ?_
    try simp (disch := decide) only [zr_n, zr_s]
    refine r_ifd_eq (tgt := 74) dX6_alter_44 (by decide) (fun h44 => ?_) (fun h44 => ?_)
    · try simp only [zb_d0] at h49
      refine r_iconst dX6_alter_74 (k := ?_)
      refine r_iret dX6_alter_75 ?_
      exact no _ (by omega) (by first | omega | (rintro ⟨-, q⟩; rcases q with q | q; exact h63 q; rw [h71] at q; exact absurd q (by decide))) rfl
    · refine r_iload dX6_alter_47 rfl ?_
      refine r_if_eq (tgt := 74) dX6_alter_49 (by decide) (fun h49 => ?_) (fun h49 => ?_)
      · try simp only [zb_d0] at h49
        refine r_iconst dX6_alter_74 (k := ?_)
        refine r_iret dX6_alter_75 ?_
        exact no _ (by omega) (by first | omega | (rintro ⟨-, q⟩; rcases q with q | q; exact h63 q; rw [h71] at q; exact absurd q (by decide))) rfl
      · refine r_iload_n dX6_alter_52 rfl ?_
        refine r_iconst dX6_alter_53 (k := ?_)
        refine r_icmp_ne (tgt := 76) dX6_alter_54 (by decide) (fun h54 => ?_) (fun h54 => ?_)
        · first
            | exact absurd rfl h49
            | (simp only [zb_d0, Decidable.not_not] at h49; exact yes _ (Or.inl (by omega)))
            | (simp only [zb_d0, Decidable.not_not] at h49; exact absurd h54 (by omega))
            | exact yes _ (Or.inr ⟨by omega, Or.inl h63⟩)
            | exact yes _ (Or.inr ⟨by omega, Or.inr h71⟩)
            | (exfalso; omega)
        · refine r_aload_n dX6_alter_57 rfl ?_
          refine r_iload_n dX6_alter_58 rfl ?_
          refine r_v1 (c_place _ (by omega) (by omega)) kX6_156 rfl dX6_alter_59 ?_
          try simp (disch := decide) only [zr_n, zr_s]
          rw [mP_zcp (by omega) (by omega)]
          refine r_iload_n dX6_alter_62 rfl ?_
          refine r_icmp_eq (tgt := 76) dX6_alter_63 (by decide) (fun h63 => ?_) (fun h63 => ?_)
          · first
              | exact absurd rfl h49
              | (simp only [zb_d0, Decidable.not_not] at h49; exact yes _ (Or.inl (by omega)))
              | (simp only [zb_d0, Decidable.not_not] at h49; exact absurd h54 (by omega))
              | exact yes _ (Or.inr ⟨by omega, Or.inl h63⟩)
              | exact yes _ (Or.inr ⟨by omega, Or.inr h71⟩)
              | (exfalso; omega)
          · refine r_aload_n dX6_alter_66 rfl ?_
            refine r_iload_n dX6_alter_67 rfl ?_
            refine r_v1 (c_X6_isTaken (by rw [zr_n (by decide), zr_s]; exact f1) _) kX6_178 rfl dX6_alter_68 ?_
            try simp (disch := decide) only [zr_n, zr_s]
            rw [hT]
            refine r_ifb_eq (tgt := 76) dX6_alter_71 (by decide) (fun h71 => ?_) (fun h71 => ?_)
            · first
                | exact absurd rfl h49
                | (simp only [zb_d0, Decidable.not_not] at h49; exact yes _ (Or.inl (by omega)))
                | (simp only [zb_d0, Decidable.not_not] at h49; exact absurd h54 (by omega))
                | exact yes _ (Or.inr ⟨by omega, Or.inl h63⟩)
                | exact yes _ (Or.inr ⟨by omega, Or.inr h71⟩)
                | (exfalso; omega)
            · try simp only [zb_d0] at h49
              refine r_iconst dX6_alter_74 (k := ?_)
              refine r_iret dX6_alter_75 ?_
              exact no _ (by omega) (by first | omega | (rintro ⟨-, q⟩; rcases q with q | q; exact h63 q; rw [h71] at q; exact absurd q (by decide))) rfl
end
