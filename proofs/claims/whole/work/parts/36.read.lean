/-! ===== sheets on the reference's side; read; count ===== -/
def zfl (r : Int → Int) (a n : Int) : Int → Int := fun j => if a ≤ j ∧ j < a + n then 0 else r j
theorem zfl_0 {r : Int → Int} {a : Int} : zfl r a 0 = r := by
  funext j; unfold zfl; rw [if_neg (by omega)]
theorem zfl_s {r : Int → Int} {a x : Int} (h : 0 ≤ x) : zu (zfl r a x) (a + x) 0 = zfl r a (x + 1) := by
  funext j
  unfold zu zfl
  by_cases hj : j = a + x
  · rw [if_pos hj, if_pos (by omega)]
  · rw [if_neg hj]
    by_cases h2 : a ≤ j ∧ j < a + x
    · rw [if_pos h2, if_pos (by omega)]
    · rw [if_neg h2, if_neg (by omega)]
/-- what is wrong with three cells from x on -/
def sF3 (lane size asl x : Int) : Int := if lane = -4 then 1 else if lane = asl then (if x < 0 ∨ size ≤ x + 2 then 2 else 0) else 3
theorem sF3_0 {lane size asl x : Int} (h : sF3 lane size asl x = 0) : 0 ≤ x ∧ x + 2 < size := by
  unfold sF3 at h
  split at h
  · omega
  · split at h
    · split at h <;> omega
    · omega
theorem sF3_b {lane size asl x : Int} : 0 ≤ sF3 lane size asl x ∧ sF3 lane size asl x ≤ 3 := by
  unfold sF3
  split
  · omega
  · split
    · split <;> omega
    · omega
theorem sFault_w {lane size asl x : Int} (h1 : -2147483648 ≤ x) (h2 : x < 2147483748) (h3 : 0 ≤ size) (h4 : size ≤ 40) : sFault lane size asl (zw x) = sFault lane size asl x := by
  unfold sFault
  by_cases a : x < 2147483648
  · rw [zw_id h1 a]
  · simp only [show (zw x < 0 ∨ size ≤ zw x) = (x < 0 ∨ size ≤ x) from propext (by unfold zw; omega)]
theorem zw_w {x y : Int} : zw (zw x + y) = zw (x + y) := by unfold zw; omega
theorem sFault3_w {lane size asl x : Int} (h1 : -2147483648 ≤ x) (h2 : x < 2147483698) (h3 : 0 ≤ size) (h4 : size ≤ 40) : sFault3 lane size asl (zw x) = sF3 lane size asl x := by
  unfold sFault3
  rw [zw_w, zw_w, zw_w, sFault_w (by omega) (by omega) h3 h4, sFault_w (by omega) (by omega) h3 h4, sFault_w (by omega) (by omega) h3 h4]
  unfold sFault sF3
  by_cases a : lane = -4
  · simp only [if_pos a]; decide
  · simp only [if_neg a]
    by_cases b : lane = asl
    · simp only [if_pos b]
      by_cases c0 : x + 0 < 0 ∨ size ≤ x + 0
      · rw [if_pos c0, if_pos (by decide), if_pos (by omega)]
      · rw [if_neg c0, if_neg (by decide)]
        by_cases c1 : x + 1 < 0 ∨ size ≤ x + 1
        · rw [if_pos c1, if_pos (by decide), if_pos (by omega)]
        · rw [if_neg c1, if_neg (by decide)]
          by_cases c2 : x + 2 < 0 ∨ size ≤ x + 2
          · rw [if_pos c2, if_pos (by omega)]
          · rw [if_neg c2, if_neg (by omega)]
    · simp only [if_neg b]; decide
/-- a sulk of three cells that may be told -/
abbrev sTri (N : Int) (cl : Int → Int) (x : Int) : Prop := 0 ≤ cl x ∧ cl x < N ∧ 0 ≤ cl (x + 1) ∧ cl (x + 1) < N ∧ cl x ≠ cl (x + 1) ∧ 0 ≤ cl (x + 2) ∧ cl (x + 2) ≤ 3
/-- reading: (whether refused, the fault, how many came) -/
def sRd (N lane size asl f : Int) (cl : Int → Int) : Nat → Int → Bool × Int × Int
  | 0, t => (false, 0, t)
  | k + 1, t => if sF3 lane size asl (f + 3 * t) = 0 then (if sTri N cl (f + 3 * t) then sRd N lane size asl f cl k (t + 1) else (true, 0, t)) else (false, sF3 lane size asl (f + 3 * t), t)
/-- the sulks behind t that came -/
def sGo (o f : Int) (cl : Int → Int) (t : Nat) (g : Int → Int) : Int → Int := zfor (fun t g => zu g (o + (5 * cl (f + 3 * t) + cl (f + 3 * t + 1))) (cl (f + 3 * t + 2))) 0 t g
theorem sGo_s {o f : Int} {cl g : Int → Int} {t : Nat} : sGo o f cl (t + 1) g = zu (sGo o f cl t g) (o + (5 * cl (f + 3 * t) + cl (f + 3 * t + 1))) (cl (f + 3 * t + 2)) := by
  unfold sGo
  rw [zfor_succ, Int.zero_add]
section
variable {l : Launch} {G : zG} {mem : zM}
set_option maxRecDepth 100000 in
theorem c_isSheet (k ln : Int) : KX6_isSheet l G 1 [zI k, zI ln] mem (zP1 (zI (zb (decide (0 ≤ k ∧ k ≤ 3 ∧ 0 ≤ ln ∧ ln ≤ 2)))) mem) := by
  refine CT.of' (own := RX6) (ls0 := [zI k, zI ln]) rfl (by decide +kernel) (Nat.le_of_ble_eq_true rfl) rfl ?_
  refine r_iload_n dX6_isSheet_0 rfl ?_
  refine r_i2l dX6_isSheet_1 ?_
  refine r_lconst dX6_isSheet_2 rfl (k := ?_)
  refine r_ldc2 nX6_215 dX6_isSheet_3 (x := 3) (k := ?_)
  refine r_s3 (c_in _ _ _) kX6_69 dX6_isSheet_6 ?_
  refine r_ifd_eq (tgt := 28) dX6_isSheet_9 (by decide) (fun h9 => ?_) (fun h9 => ?_)
  · refine r_iconst dX6_isSheet_28 (k := ?_)
    refine r_zret dX6_isSheet_29 (by decide) ?_
    first | exact zP1.ofI (zb_1 (by have a : 0 ≤ k ∧ k ≤ 3 := h9; have b : 0 ≤ ln ∧ ln ≤ 2 := h21; omega)) | exact zP1.ofI (zb_0 (by have a : 0 ≤ k ∧ k ≤ 3 := h9; have b : ¬ (0 ≤ ln ∧ ln ≤ 2) := h21; omega)) | exact zP1.ofI (zb_0 (by have a : ¬ (0 ≤ k ∧ k ≤ 3) := h9; omega))
  · refine r_iload_n dX6_isSheet_12 rfl ?_
    refine r_i2l dX6_isSheet_13 ?_
    refine r_lconst dX6_isSheet_14 rfl (k := ?_)
    refine r_ldc2 nX6_213 dX6_isSheet_15 (x := 2) (k := ?_)
    refine r_s3 (c_in _ _ _) kX6_69 dX6_isSheet_18 ?_
    refine r_ifd_eq (tgt := 28) dX6_isSheet_21 (by decide) (fun h21 => ?_) (fun h21 => ?_)
    · refine r_iconst dX6_isSheet_28 (k := ?_)
      refine r_zret dX6_isSheet_29 (by decide) ?_
      first | exact zP1.ofI (zb_1 (by have a : 0 ≤ k ∧ k ≤ 3 := h9; have b : 0 ≤ ln ∧ ln ≤ 2 := h21; omega)) | exact zP1.ofI (zb_0 (by have a : 0 ≤ k ∧ k ≤ 3 := h9; have b : ¬ (0 ≤ ln ∧ ln ≤ 2) := h21; omega)) | exact zP1.ofI (zb_0 (by have a : ¬ (0 ≤ k ∧ k ≤ 3) := h9; omega))
    · refine r_iconst dX6_isSheet_24 (k := ?_)
      refine r_goto (tgt := 29) dX6_isSheet_25 (by decide) ?_
      refine r_zret dX6_isSheet_29 (by decide) ?_
      first | exact zP1.ofI (zb_1 (by have a : 0 ≤ k ∧ k ≤ 3 := h9; have b : 0 ≤ ln ∧ ln ≤ 2 := h21; omega)) | exact zP1.ofI (zb_0 (by have a : 0 ≤ k ∧ k ≤ 3 := h9; have b : ¬ (0 ≤ ln ∧ ln ≤ 2) := h21; omega)) | exact zP1.ofI (zb_0 (by have a : ¬ (0 ≤ k ∧ k ≤ 3) := h9; omega))
set_option maxRecDepth 100000 in
theorem c_X6_sheet (k ln n : Int) : KX6_sheet l G 2 [zR 65, zI k, zI ln, zI n] mem (zP1 (zI (if (0 ≤ k ∧ k ≤ 3) ∧ (0 ≤ ln ∧ ln ≤ 2) ∧ n ≤ 40 then (if n < 0 then -14 else 1) else -1)) (if (0 ≤ k ∧ k ≤ 3) ∧ (0 ≤ ln ∧ ln ≤ 2) ∧ 0 ≤ n ∧ n ≤ 40 then zr (zs (zs mem 73 k ln) 74 k n) 75 (zfl (mem 75) (40 * k) 40) else mem)) := by
  refine CT.of' (own := RX6) (ls0 := [zR 65, zI k, zI ln, zI n, zU]) rfl (by decide +kernel) (Nat.le_of_ble_eq_true rfl) rfl ?_
  have e75 : zr (zs (zs mem 73 k ln) 74 k n) 75 (mem 75) = zs (zs mem 73 k ln) 74 k n := by
    have e : mem 75 = zs (zs mem 73 k ln) 74 k n 75 := by rw [zs_n (by decide), zs_n (by decide)]
    rw [e, zr_self]
  have loop : (0 ≤ k ∧ k ≤ 3) ∧ (0 ≤ ln ∧ ln ≤ 2) ∧ 0 ≤ n ∧ n ≤ 40 → ∀ (q : Nat) (x : Int), 0 ≤ x → x + q = 40 → SW l G (zrm 2) RX6 cX6_sheet 5 (some .int) (zZ G (zP1 (zI 1) (zr (zs (zs mem 73 k ln) 74 k n) 75 (zfl (mem 75) (40 * k) 40)))) 0 0 (fun _ => True) 40 [zR 65, zI k, zI ln, zI n, zI x] [] (zr (zs (zs mem 73 k ln) 74 k n) 75 (zfl (mem 75) (40 * k) x)) := by
    intro hc q
    induction q with
    | zero =>
      intro x a b
      refine r_iload dX6_sheet_40 rfl ?_
      refine r_bipush dX6_sheet_42 (k := ?_)
      refine r_icmp_ge (tgt := 66) dX6_sheet_44 (by decide) (fun h44 => ?_) (fun h44 => ?_)
      · refine r_iconst dX6_sheet_66 (k := ?_)
        refine r_iret dX6_sheet_67 ?_
        rw [show x = 40 by omega]
        exact zP1.i
      · exact absurd (by omega) h44
    | succ q ih =>
      intro x a b
      refine r_iload dX6_sheet_40 rfl ?_
      refine r_bipush dX6_sheet_42 (k := ?_)
      refine r_icmp_ge (tgt := 66) dX6_sheet_44 (by decide) (fun h44 => ?_) (fun h44 => ?_)
      · exact absurd h44 (by omega)
      · refine r_aload_n dX6_sheet_47 rfl ?_
        refine r_getR (q := 75) fX6_38 rfl rfl dX6_sheet_48 ?_
        refine r_bipush dX6_sheet_51 (k := ?_)
        refine r_iload_n dX6_sheet_53 rfl ?_
        refine r_imul dX6_sheet_54 ?_
        try rw [zw_id (by omega) (by omega)]
        refine r_iload dX6_sheet_55 rfl ?_
        refine r_iadd dX6_sheet_57 ?_
        try rw [zw_id (by omega) (by omega)]
        refine r_iconst dX6_sheet_58 (k := ?_)
        refine r_iast rfl (by omega) (by omega) dX6_sheet_59 ?_
        refine r_iinc dX6_sheet_60 rfl rfl ?_
        try rw [zw_id (by omega) (by omega)]
        refine r_goto (tgt := 40) dX6_sheet_63 (by decide) ?_
        rw [zs_zr, zfl_s a]
        exact ih _ (by omega) (by omega)
  refine r_iload_n dX6_sheet_0 rfl ?_
  refine r_iload_n dX6_sheet_1 rfl ?_
  refine r_s2 (c_isSheet _ _) kX6_310 dX6_sheet_2 ?_
  refine r_ifd_eq (tgt := 14) dX6_sheet_5 (by decide) (fun h5 => ?_) (fun h5 => ?_)
  · refine r_iconst dX6_sheet_14 (k := ?_)
    refine r_iret dX6_sheet_15 ?_
    first | (rw [if_pos (by omega), if_pos (by omega), if_neg (by omega)]; exact zP1.i) | (rw [if_neg (by omega), if_neg (by omega)]; exact zP1.i)
  · refine r_iload_n dX6_sheet_8 rfl ?_
    refine r_bipush dX6_sheet_9 (k := ?_)
    refine r_icmp_le (tgt := 16) dX6_sheet_11 (by decide) (fun h11 => ?_) (fun h11 => ?_)
    · refine r_iload_n dX6_sheet_16 rfl ?_
      refine r_if_ge (tgt := 23) dX6_sheet_17 (by decide) (fun h17 => ?_) (fun h17 => ?_)
      · refine r_aload_n dX6_sheet_23 rfl ?_
        refine r_getR (q := 73) fX6_32 rfl rfl dX6_sheet_24 ?_
        refine r_iload_n dX6_sheet_27 rfl ?_
        refine r_iload_n dX6_sheet_28 rfl ?_
        refine r_iast rfl (by omega) (by omega) dX6_sheet_29 ?_
        refine r_aload_n dX6_sheet_30 rfl ?_
        refine r_getR (q := 74) fX6_35 rfl rfl dX6_sheet_31 ?_
        refine r_iload_n dX6_sheet_34 rfl ?_
        refine r_iload_n dX6_sheet_35 rfl ?_
        refine r_iast rfl (by omega) (by omega) dX6_sheet_36 ?_
        refine r_iconst dX6_sheet_37 (k := ?_)
        refine r_istore dX6_sheet_38 rfl ?_
        rw [if_pos (by omega), if_neg (by omega), if_pos (by omega)]
        have fin := loop (by omega) 40 0 (by omega) (by omega)
        rw [zfl_0, e75] at fin
        exact fin
      · refine r_bipush dX6_sheet_20 (k := ?_)
        refine r_iret dX6_sheet_22 ?_
        first | (rw [if_pos (by omega), if_pos (by omega), if_neg (by omega)]; exact zP1.i) | (rw [if_neg (by omega), if_neg (by omega)]; exact zP1.i)
    · refine r_iconst dX6_sheet_14 (k := ?_)
      refine r_iret dX6_sheet_15 ?_
      first | (rw [if_pos (by omega), if_pos (by omega), if_neg (by omega)]; exact zP1.i) | (rw [if_neg (by omega), if_neg (by omega)]; exact zP1.i)
set_option maxRecDepth 100000 in
theorem c_X6_lay (k i v : Int) (hs0 : ∀ k, 0 ≤ k → k ≤ 3 → 0 ≤ mem 74 k ∧ mem 74 k ≤ 40) : KX6_lay l G 2 [zR 65, zI k, zI i, zI v] mem (zP1 (zI (if 0 ≤ k ∧ k ≤ 3 then (if sFault (mem 73 k) (mem 74 k) (mem 73 k) i = 0 then 1 else -10 - sFault (mem 73 k) (mem 74 k) (mem 73 k) i) else -1)) (if (0 ≤ k ∧ k ≤ 3) ∧ sFault (mem 73 k) (mem 74 k) (mem 73 k) i = 0 then zs mem 75 (40 * k + i) (sLane (mem 73 k) v) else mem)) := by
  by_cases hc : 0 ≤ k ∧ k ≤ 3
  · obtain ⟨s0, s1⟩ := hs0 k hc.1 hc.2
    have f1 : mem 73 k = -4 → sFault (mem 73 k) (mem 74 k) (mem 73 k) i = 1 := fun h => by unfold sFault; rw [if_pos h]
    have f2 : mem 73 k ≠ -4 → (i < 0 ∨ mem 74 k ≤ i) → sFault (mem 73 k) (mem 74 k) (mem 73 k) i = 2 := fun h h2 => by unfold sFault; rw [if_neg h, if_pos rfl, if_pos h2]
    have f3 : mem 73 k ≠ -4 → ¬ (i < 0 ∨ mem 74 k ≤ i) → sFault (mem 73 k) (mem 74 k) (mem 73 k) i = 0 := fun h h2 => by unfold sFault; rw [if_neg h, if_pos rfl, if_neg h2]
    have nz : ∀ r, sFault (mem 73 k) (mem 74 k) (mem 73 k) i = r → r ≠ 0 → zP1 (zI (if 0 ≤ k ∧ k ≤ 3 then (if sFault (mem 73 k) (mem 74 k) (mem 73 k) i = 0 then 1 else -10 - sFault (mem 73 k) (mem 74 k) (mem 73 k) i) else -1)) (if (0 ≤ k ∧ k ≤ 3) ∧ sFault (mem 73 k) (mem 74 k) (mem 73 k) i = 0 then zs mem 75 (40 * k + i) (sLane (mem 73 k) v) else mem) (some (zI (-10 - r))) mem := fun r h h2 => by
      rw [h, if_pos hc, if_neg h2, if_neg (by omega)]; exact zP1.i
    refine CT.of' (own := RX6) (ls0 := [zR 65, zI k, zI i, zI v]) rfl (by decide +kernel) (Nat.le_of_ble_eq_true rfl) rfl ?_
    refine r_iload_n dX6_lay_0 rfl ?_
    refine r_iconst dX6_lay_1 (k := ?_)
    refine r_s2 (c_isSheet _ _) kX6_310 dX6_lay_2 ?_
    refine r_ifd_ne (tgt := 10) dX6_lay_5 (by decide) (fun h5 => ?_) (fun h5 => ?_)
    · refine r_aload_n dX6_lay_10 rfl ?_
      refine r_getR (q := 73) fX6_32 rfl rfl dX6_lay_11 ?_
      refine r_iload_n dX6_lay_14 rfl ?_
      refine r_iald rfl (by omega) (by omega) dX6_lay_15 ?_
      refine r_bipush dX6_lay_16 (k := ?_)
      refine r_icmp_ne (tgt := 24) dX6_lay_18 (by decide) (fun h18 => ?_) (fun h18 => ?_)
      · refine r_iload_n dX6_lay_24 rfl ?_
        refine r_i2l dX6_lay_25 ?_
        refine r_lconst dX6_lay_26 rfl (k := ?_)
        refine r_aload_n dX6_lay_27 rfl ?_
        refine r_getR (q := 74) fX6_35 rfl rfl dX6_lay_28 ?_
        refine r_iload_n dX6_lay_31 rfl ?_
        refine r_iald rfl (by omega) (by omega) dX6_lay_32 ?_
        refine r_iconst dX6_lay_33 (k := ?_)
        refine r_isub dX6_lay_34 ?_
        try rw [zw_id (by omega) (by omega)]
        refine r_i2l dX6_lay_35 ?_
        refine r_s3 (c_in _ _ _) kX6_69 dX6_lay_36 ?_
        refine r_ifd_ne (tgt := 45) dX6_lay_39 (by decide) (fun h39 => ?_) (fun h39 => ?_)
        · refine r_aload_n dX6_lay_45 rfl ?_
          refine r_getR (q := 75) fX6_38 rfl rfl dX6_lay_46 ?_
          refine r_bipush dX6_lay_49 (k := ?_)
          refine r_iload_n dX6_lay_51 rfl ?_
          refine r_imul dX6_lay_52 ?_
          try rw [zw_id (by omega) (by omega)]
          refine r_iload_n dX6_lay_53 rfl ?_
          refine r_iadd dX6_lay_54 ?_
          try rw [zw_id (by omega) (by omega)]
          refine r_aload_n dX6_lay_55 rfl ?_
          refine r_getR (q := 73) fX6_32 rfl rfl dX6_lay_56 ?_
          refine r_iload_n dX6_lay_59 rfl ?_
          refine r_iald rfl (by omega) (by omega) dX6_lay_60 ?_
          refine r_if_ne (tgt := 69) dX6_lay_61 (by decide) (fun h61 => ?_) (fun h61 => ?_)
          · refine r_aload_n dX6_lay_69 rfl ?_
            refine r_getR (q := 73) fX6_32 rfl rfl dX6_lay_70 ?_
            refine r_iload_n dX6_lay_73 rfl ?_
            refine r_iald rfl (by omega) (by omega) dX6_lay_74 ?_
            refine r_iconst dX6_lay_75 (k := ?_)
            refine r_icmp_ne (tgt := 84) dX6_lay_76 (by decide) (fun h76 => ?_) (fun h76 => ?_)
            · refine r_iload_n dX6_lay_84 rfl ?_
              refine r_iast rfl (by omega) (by omega) dX6_lay_85 ?_
              refine r_iconst dX6_lay_86 (k := ?_)
              refine r_iret dX6_lay_87 ?_
              first
                | exact nz 1 (f1 h18) (by decide)
                | (have b : ¬ (0 ≤ i ∧ i ≤ mem 74 k - 1) := h39; exact nz 2 (f2 h18 (by omega)) (by decide))
                | (have b : 0 ≤ i ∧ i ≤ mem 74 k - 1 := h39; rw [f3 h18 (by omega), if_pos hc, if_pos rfl, if_pos ⟨hc, rfl⟩]; unfold sLane; (first | rw [if_pos h61] | rw [if_neg h61, if_neg h76] | rw [if_neg h61, if_pos (by omega)]); exact zP1.i)
            · refine r_iload_n dX6_lay_79 rfl ?_
              refine r_i2s dX6_lay_80 ?_
              refine r_goto (tgt := 85) dX6_lay_81 (by decide) ?_
              refine r_iast rfl (by omega) (by omega) dX6_lay_85 ?_
              refine r_iconst dX6_lay_86 (k := ?_)
              refine r_iret dX6_lay_87 ?_
              first
                | exact nz 1 (f1 h18) (by decide)
                | (have b : ¬ (0 ≤ i ∧ i ≤ mem 74 k - 1) := h39; exact nz 2 (f2 h18 (by omega)) (by decide))
                | (have b : 0 ≤ i ∧ i ≤ mem 74 k - 1 := h39; rw [f3 h18 (by omega), if_pos hc, if_pos rfl, if_pos ⟨hc, rfl⟩]; unfold sLane; (first | rw [if_pos h61] | rw [if_neg h61, if_neg h76] | rw [if_neg h61, if_pos (by omega)]); exact zP1.i)
          · refine r_iload_n dX6_lay_64 rfl ?_
            refine r_i2b dX6_lay_65 ?_
            refine r_goto (tgt := 85) dX6_lay_66 (by decide) ?_
            refine r_iast rfl (by omega) (by omega) dX6_lay_85 ?_
            refine r_iconst dX6_lay_86 (k := ?_)
            refine r_iret dX6_lay_87 ?_
            first
              | exact nz 1 (f1 h18) (by decide)
              | (have b : ¬ (0 ≤ i ∧ i ≤ mem 74 k - 1) := h39; exact nz 2 (f2 h18 (by omega)) (by decide))
              | (have b : 0 ≤ i ∧ i ≤ mem 74 k - 1 := h39; rw [f3 h18 (by omega), if_pos hc, if_pos rfl, if_pos ⟨hc, rfl⟩]; unfold sLane; (first | rw [if_pos h61] | rw [if_neg h61, if_neg h76] | rw [if_neg h61, if_pos (by omega)]); exact zP1.i)
        · refine r_bipush dX6_lay_42 (k := ?_)
          refine r_iret dX6_lay_44 ?_
          first
            | exact nz 1 (f1 h18) (by decide)
            | (have b : ¬ (0 ≤ i ∧ i ≤ mem 74 k - 1) := h39; exact nz 2 (f2 h18 (by omega)) (by decide))
            | (have b : 0 ≤ i ∧ i ≤ mem 74 k - 1 := h39; rw [f3 h18 (by omega), if_pos hc, if_pos rfl, if_pos ⟨hc, rfl⟩]; unfold sLane; (first | rw [if_pos h61] | rw [if_neg h61, if_neg h76] | rw [if_neg h61, if_pos (by omega)]); exact zP1.i)
      · refine r_bipush dX6_lay_21 (k := ?_)
        refine r_iret dX6_lay_23 ?_
        first
          | exact nz 1 (f1 h18) (by decide)
          | (have b : ¬ (0 ≤ i ∧ i ≤ mem 74 k - 1) := h39; exact nz 2 (f2 h18 (by omega)) (by decide))
          | (have b : 0 ≤ i ∧ i ≤ mem 74 k - 1 := h39; rw [f3 h18 (by omega), if_pos hc, if_pos rfl, if_pos ⟨hc, rfl⟩]; unfold sLane; (first | rw [if_pos h61] | rw [if_neg h61, if_neg h76] | rw [if_neg h61, if_pos (by omega)]); exact zP1.i)
    · exact absurd hc (by omega)
  · rw [if_neg hc, if_neg (by omega)]
    refine CT.of' (own := RX6) (ls0 := [zR 65, zI k, zI i, zI v]) rfl (by decide +kernel) (Nat.le_of_ble_eq_true rfl) rfl ?_
    refine r_iload_n dX6_lay_0 rfl ?_
    refine r_iconst dX6_lay_1 (k := ?_)
    refine r_s2 (c_isSheet _ _) kX6_310 dX6_lay_2 ?_
    refine r_ifd_ne (tgt := 10) dX6_lay_5 (by decide) (fun h5 => ?_) (fun h5 => ?_)
    · exact absurd h5 (by omega)
    · refine r_iconst dX6_lay_8 (k := ?_)
      refine r_iret dX6_lay_9 ?_
      exact zP1.i

set_option maxRecDepth 100000 in
theorem c_X5_read (hI : zFI mem 1) (k ln f n : Int) (hf : zin32 f) (hs0 : ∀ k, 0 ≤ k → k ≤ 3 → 0 ≤ mem (shp k) 1 ∧ mem (shp k) 1 ≤ 40) : KX5_read l G 3 [zR 0, zI k, zI ln, zI f, zI n] mem (zP1 (zI (if ((0 ≤ k ∧ k ≤ 3) ∧ (0 ≤ ln ∧ ln ≤ 2) ∧ 0 ≤ n ∧ n ≤ 13) then (if (sRd (mem 1 0) (mem (shp k) 0) (mem (shp k) 1) ln f (mem (shp k + 1)) n.toNat 0).1 = true then -20 - (sRd (mem 1 0) (mem (shp k) 0) (mem (shp k) 1) ln f (mem (shp k + 1)) n.toNat 0).2.2 else (sRd (mem 1 0) (mem (shp k) 0) (mem (shp k) 1) ln f (mem (shp k + 1)) n.toNat 0).2.2) else -1)) (if ((0 ≤ k ∧ k ≤ 3) ∧ (0 ≤ ln ∧ ln ≤ 2) ∧ 0 ≤ n ∧ n ≤ 13) then (if (sRd (mem 1 0) (mem (shp k) 0) (mem (shp k) 1) ln f (mem (shp k + 1)) n.toNat 0).1 = true then mem else zs (zr mem 4 (sGo 0 f (mem (shp k + 1)) (sRd (mem 1 0) (mem (shp k) 0) (mem (shp k) 1) ln f (mem (shp k + 1)) n.toNat 0).2.2.toNat (mem 4))) 0 8 (sRd (mem 1 0) (mem (shp k) 0) (mem (shp k) 1) ln f (mem (shp k + 1)) n.toNat 0).2.1) else mem)) := by
  obtain ⟨hn0, hn5, -⟩ := zFI1 hI
  obtain ⟨hf1, hf2⟩ := hf
  have hsp : 45 ≤ shp k := Nat.le_add_right _ _
  by_cases hc : ((0 ≤ k ∧ k ≤ 3) ∧ (0 ≤ ln ∧ ln ≤ 2) ∧ 0 ≤ n ∧ n ≤ 13)
  · simp only [if_pos hc]
    obtain ⟨s0, s1⟩ := hs0 k hc.1.1 hc.1.2
    generalize hR : (sRd (mem 1 0) (mem (shp k) 0) (mem (shp k) 1) ln f (mem (shp k + 1)) n.toNat 0) = R
    refine CT.of' (own := RX5) (ls0 := [zR 0, zI k, zI ln, zI f, zI n, zU, zU, zU, zU, zU]) rfl (by decide +kernel) (Nat.le_of_ble_eq_true rfl) rfl ?_
    have fin2 : R.1 = false → ∀ (v9 : zV) (q : Nat) (x : Nat), (x : Int) + q = R.2.2 → R.2.2 ≤ 13 → (∀ t : Int, 0 ≤ t → t < R.2.2 → sF3 (mem (shp k) 0) (mem (shp k) 1) ln (f + 3 * t) = 0 ∧ sTri (mem 1 0) (mem (shp k + 1)) (f + 3 * t)) → SW l G (zrm 3) RX5 cX5_read 10 (some .int) (zZ G (zP1 (zI (if R.1 = true then -20 - R.2.2 else R.2.2)) (if R.1 = true then mem else zs (zr mem 4 (sGo 0 f (mem (shp k + 1)) R.2.2.toNat (mem 4))) 0 8 R.2.1))) 0 0 (fun _ => True) 136 [zR 0, zI k, zI ln, zI f, zI n, zR (shp k), zI R.2.2, zI R.2.1, zI x, v9] [] (zr mem 4 (sGo 0 f (mem (shp k + 1)) x (mem 4))) := by
      intro hr v9 q
      induction q generalizing v9 with
      | zero =>
        intro x a b hT
        refine r_iload dX5_read_136 rfl ?_
        refine r_iload dX5_read_138 rfl ?_
        refine r_icmp_ge (tgt := 192) dX5_read_140 (by decide) (fun h140 => ?_) (fun h140 => ?_)
        · refine r_aload_n dX5_read_192 rfl ?_
          refine r_iload dX5_read_193 rfl ?_
          refine r_pI (q := 8) rfl pX5_54 (by first | rfl | exact zlH (shp_H (by omega) (by omega))) dX5_read_195 ?_
          refine r_iload dX5_read_198 rfl ?_
          refine r_iret dX5_read_200 ?_
          rw [if_neg (by rw [hr]; decide), if_neg (by rw [hr]; decide), show R.2.2.toNat = x by omega]
          exact zP1.i
        · exact absurd (by omega) h140
      | succ q ih =>
        intro x a b hT
        obtain ⟨u1, u2⟩ := hT x (by omega) (by omega)
        obtain ⟨w1, w2⟩ := sF3_0 u1
        obtain ⟨q1, q2, q3, q4, q5, q6, q7⟩ := u2
        have e0 : zw (f + 3 * (x : Int)) = f + 3 * x := zw_id (by omega) (by omega)
        refine r_iload dX5_read_136 rfl ?_
        refine r_iload dX5_read_138 rfl ?_
        refine r_icmp_ge (tgt := 192) dX5_read_140 (by decide) (fun h140 => ?_) (fun h140 => ?_)
        · exact absurd h140 (by omega)
        · refine r_iload_n dX5_read_143 rfl ?_
          refine r_iconst dX5_read_144 (k := ?_)
          refine r_iload dX5_read_145 rfl ?_
          refine r_imul dX5_read_147 ?_
          try rw [zw_id (by omega) (by omega)]
          refine r_iadd dX5_read_148 ?_
          try rw [zw_id (by omega) (by omega)]
          try rw [e0]
          refine r_istore dX5_read_149 rfl ?_
          refine r_aload_n dX5_read_151 rfl ?_
          refine r_getR (q := 1) fX5_10 (by first | rfl | exact zlH (shp_H (by omega) (by omega))) rfl dX5_read_152 ?_
          try simp (disch := omega) only [zr_n]
          refine r_aload dX5_read_155 rfl ?_
          refine r_getR fX5_257 (by first | rfl | exact zlH (shp_H (by omega) (by omega))) (zrH2 (shp_H (by omega) (by omega))) dX5_read_157 ?_
          try simp (disch := omega) only [zr_n]
          refine r_iload dX5_read_160 rfl ?_
          refine r_iald (by first | rfl | exact zaH (shp_H (by omega) (by omega))) (by omega) (by omega) dX5_read_162 ?_
          try simp (disch := omega) only [zr_n]
          refine r_aload dX5_read_163 rfl ?_
          refine r_getR fX5_257 (by first | rfl | exact zlH (shp_H (by omega) (by omega))) (zrH2 (shp_H (by omega) (by omega))) dX5_read_165 ?_
          try simp (disch := omega) only [zr_n]
          refine r_iload dX5_read_168 rfl ?_
          refine r_iconst dX5_read_170 (k := ?_)
          refine r_iadd dX5_read_171 ?_
          try rw [zw_id (by omega) (by omega)]
          refine r_iald (by first | rfl | exact zaH (shp_H (by omega) (by omega))) (by omega) (by omega) dX5_read_172 ?_
          try simp (disch := omega) only [zr_n]
          refine r_aload dX5_read_173 rfl ?_
          refine r_getR fX5_257 (by first | rfl | exact zlH (shp_H (by omega) (by omega))) (zrH2 (shp_H (by omega) (by omega))) dX5_read_175 ?_
          try simp (disch := omega) only [zr_n]
          refine r_iload dX5_read_178 rfl ?_
          refine r_iconst dX5_read_180 (k := ?_)
          refine r_iadd dX5_read_181 ?_
          try rw [zw_id (by omega) (by omega)]
          refine r_iald (by first | rfl | exact zaH (shp_H (by omega) (by omega))) (by omega) (by omega) dX5_read_182 ?_
          try simp (disch := omega) only [zr_n]
          refine r_w3 (c_X0_setGrudge hF1 _ _ _ q1 (by omega) q3 (by omega)) kX5_166 (by first | rfl | exact zlH (shp_H (by omega) (by omega))) dX5_read_183 ?_
          try simp (disch := omega) only [zr_n]
          refine r_iinc dX5_read_186 rfl rfl ?_
          try rw [zw_id (by omega) (by omega)]
          refine r_goto (tgt := 136) dX5_read_189 (by decide) ?_
          rw [show (x : Int) + 1 = ((x + 1 : Nat) : Int) by omega, zs_zr, show 5 * mem (shp k + 1) (f + 3 * (x : Int)) + mem (shp k + 1) (f + 3 * (x : Int) + 1) = 0 + (5 * mem (shp k + 1) (f + 3 * (x : Int)) + mem (shp k + 1) (f + 3 * (x : Int) + 1)) by omega, ← sGo_s]
          exact ih _ _ (by omega) b hT
    have loop : ∀ (q : Nat) (x : Int) (v9 : zV), 0 ≤ x → x + q = n → (∀ t : Int, 0 ≤ t → t < x → sF3 (mem (shp k) 0) (mem (shp k) 1) ln (f + 3 * t) = 0 ∧ sTri (mem 1 0) (mem (shp k + 1)) (f + 3 * t)) → sRd (mem 1 0) (mem (shp k) 0) (mem (shp k) 1) ln f (mem (shp k + 1)) q x = R → SW l G (zrm 3) RX5 cX5_read 10 (some .int) (zZ G (zP1 (zI (if R.1 = true then -20 - R.2.2 else R.2.2)) (if R.1 = true then mem else zs (zr mem 4 (sGo 0 f (mem (shp k + 1)) R.2.2.toNat (mem 4))) 0 8 R.2.1))) 0 0 (fun _ => True) 48 [zR 0, zI k, zI ln, zI f, zI n, zR (shp k), zI x, zI 0, zI x, v9] [] mem := by
      intro q
      induction q with
      | zero =>
        intro x v9 a b hT he
        have e1 : x = R.2.2 := by rw [← he]; rfl
        have e2 : R.2.1 = 0 := by rw [← he]; rfl
        have fin := fin2 (by rw [← he]; rfl) v9 x.toNat 0 (by omega) (by omega) (by rw [← e1]; exact hT)
        rw [show sGo 0 f (mem (shp k + 1)) 0 (mem 4) = mem 4 from rfl, zr_self, e2, ← e1] at fin
        rw [e2, ← e1]
        refine r_iload dX5_read_48 rfl ?_
        refine r_iload dX5_read_50 rfl ?_
        refine r_icmp_ge (tgt := 133) dX5_read_52 (by decide) (fun h52 => ?_) (fun h52 => ?_)
        · refine r_iconst dX5_read_133 (k := ?_)
          refine r_istore dX5_read_134 rfl ?_
          exact fin
        · exact absurd (by omega) h52
      | succ q ih =>
        intro x v9 a b hT he
        rw [sRd] at he
        by_cases z0 : sF3 (mem (shp k) 0) (mem (shp k) 1) ln (f + 3 * x) = 0
        · obtain ⟨w1, w2⟩ := sF3_0 z0
          rw [if_pos z0] at he
          have e0 : zw (f + 3 * x) = f + 3 * x := zw_id (by omega) (by omega)
          by_cases z1 : sTri (mem 1 0) (mem (shp k + 1)) (f + 3 * x)
          · rw [if_pos z1] at he
            have z1' := z1
            obtain ⟨q1, q2, q3, q4, q5, q6, q7⟩ := z1
            refine r_iload dX5_read_48 rfl ?_
            refine r_iload dX5_read_50 rfl ?_
            refine r_icmp_ge (tgt := 133) dX5_read_52 (by decide) (fun h52 => ?_) (fun h52 => ?_)
            · first | exact absurd h52 (by omega) | exact absurd rfl h57
            · refine r_iload dX5_read_55 rfl ?_
              refine r_if_ne (tgt := 133) dX5_read_57 (by decide) (fun h57 => ?_) (fun h57 => ?_)
              · first | exact absurd h52 (by omega) | exact absurd rfl h57
              · refine r_iload_n dX5_read_60 rfl ?_
                refine r_iconst dX5_read_61 (k := ?_)
                refine r_iload dX5_read_62 rfl ?_
                refine r_imul dX5_read_64 ?_
                try rw [zw_id (by omega) (by omega)]
                refine r_iadd dX5_read_65 ?_
                refine r_istore dX5_read_66 rfl ?_
                refine r_aload dX5_read_68 rfl ?_
                refine r_iload_n dX5_read_70 rfl ?_
                refine r_iload dX5_read_71 rfl ?_
                refine r_v2 (c_X3_faultInThree (shp_H (by omega) (by omega)) _ _) kX5_254 (zlH (shp_H (by omega) (by omega))) dX5_read_73 ?_
                try simp (disch := omega) only [zr_n]
                rw [sFault3_w (by omega) (by omega) s0 s1, e0, z0]
                refine r_istore dX5_read_76 rfl ?_
                refine r_iload dX5_read_78 rfl ?_
                refine r_if_ne (tgt := 127) dX5_read_80 (by decide) (fun h80 => ?_) (fun h80 => ?_)
                · refine r_iinc dX5_read_127 rfl rfl ?_
                  try rw [zw_id (by omega) (by omega)]
                  refine r_goto (tgt := 48) dX5_read_130 (by decide) ?_
                  first | exact absurd rfl h80 | exact ih _ _ (by omega) (by omega) (fun t t0 t1 => if e : t = x then e ▸ ⟨z0, z1'⟩ else hT t t0 (by omega)) he
                · refine r_aload_n dX5_read_83 rfl ?_
                  refine r_aload dX5_read_84 rfl ?_
                  refine r_getR fX5_257 (by first | rfl | exact zlH (shp_H (by omega) (by omega))) (zrH2 (shp_H (by omega) (by omega))) dX5_read_86 ?_
                  try simp (disch := omega) only [zr_n]
                  refine r_iload dX5_read_89 rfl ?_
                  refine r_iald (by first | rfl | exact zaH (shp_H (by omega) (by omega))) (by omega) (by omega) dX5_read_91 ?_
                  try simp (disch := omega) only [zr_n]
                  refine r_aload dX5_read_92 rfl ?_
                  refine r_getR fX5_257 (by first | rfl | exact zlH (shp_H (by omega) (by omega))) (zrH2 (shp_H (by omega) (by omega))) dX5_read_94 ?_
                  try simp (disch := omega) only [zr_n]
                  refine r_iload dX5_read_97 rfl ?_
                  refine r_iconst dX5_read_99 (k := ?_)
                  refine r_iadd dX5_read_100 ?_
                  try rw [zw_id (by omega) (by omega)]
                  refine r_iald (by first | rfl | exact zaH (shp_H (by omega) (by omega))) (by omega) (by omega) dX5_read_101 ?_
                  try simp (disch := omega) only [zr_n]
                  refine r_aload dX5_read_102 rfl ?_
                  refine r_getR fX5_257 (by first | rfl | exact zlH (shp_H (by omega) (by omega))) (zrH2 (shp_H (by omega) (by omega))) dX5_read_104 ?_
                  try simp (disch := omega) only [zr_n]
                  refine r_iload dX5_read_107 rfl ?_
                  refine r_iconst dX5_read_109 (k := ?_)
                  refine r_iadd dX5_read_110 ?_
                  try rw [zw_id (by omega) (by omega)]
                  refine r_iald (by first | rfl | exact zaH (shp_H (by omega) (by omega))) (by omega) (by omega) dX5_read_111 ?_
                  try simp (disch := omega) only [zr_n]
                  refine r_v3 (c_isGrudge _ _ _) kX5_163 (by first | rfl | exact zlH (shp_H (by omega) (by omega))) dX5_read_112 ?_
                  try simp (disch := omega) only [zr_n]
                  refine r_ifd_ne (tgt := 124) dX5_read_115 (by decide) (fun h115 => ?_) (fun h115 => ?_)
                  · refine r_iinc dX5_read_124 rfl rfl ?_
                    try rw [zw_id (by omega) (by omega)]
                    refine r_iinc dX5_read_127 rfl rfl ?_
                    try rw [zw_id (by omega) (by omega)]
                    refine r_goto (tgt := 48) dX5_read_130 (by decide) ?_
                    first | exact absurd rfl h80 | exact ih _ _ (by omega) (by omega) (fun t t0 t1 => if e : t = x then e ▸ ⟨z0, z1'⟩ else hT t t0 (by omega)) he
                  · exact absurd z1' h115
          · rw [if_neg z1] at he
            refine r_iload dX5_read_48 rfl ?_
            refine r_iload dX5_read_50 rfl ?_
            refine r_icmp_ge (tgt := 133) dX5_read_52 (by decide) (fun h52 => ?_) (fun h52 => ?_)
            · first | exact absurd h52 (by omega) | exact absurd rfl h57
            · refine r_iload dX5_read_55 rfl ?_
              refine r_if_ne (tgt := 133) dX5_read_57 (by decide) (fun h57 => ?_) (fun h57 => ?_)
              · first | exact absurd h52 (by omega) | exact absurd rfl h57
              · refine r_iload_n dX5_read_60 rfl ?_
                refine r_iconst dX5_read_61 (k := ?_)
                refine r_iload dX5_read_62 rfl ?_
                refine r_imul dX5_read_64 ?_
                try rw [zw_id (by omega) (by omega)]
                refine r_iadd dX5_read_65 ?_
                refine r_istore dX5_read_66 rfl ?_
                refine r_aload dX5_read_68 rfl ?_
                refine r_iload_n dX5_read_70 rfl ?_
                refine r_iload dX5_read_71 rfl ?_
                refine r_v2 (c_X3_faultInThree (shp_H (by omega) (by omega)) _ _) kX5_254 (zlH (shp_H (by omega) (by omega))) dX5_read_73 ?_
                try simp (disch := omega) only [zr_n]
                rw [sFault3_w (by omega) (by omega) s0 s1, e0, z0]
                refine r_istore dX5_read_76 rfl ?_
                refine r_iload dX5_read_78 rfl ?_
                refine r_if_ne (tgt := 127) dX5_read_80 (by decide) (fun h80 => ?_) (fun h80 => ?_)
                · exact absurd rfl h80
                · refine r_aload_n dX5_read_83 rfl ?_
                  refine r_aload dX5_read_84 rfl ?_
                  refine r_getR fX5_257 (by first | rfl | exact zlH (shp_H (by omega) (by omega))) (zrH2 (shp_H (by omega) (by omega))) dX5_read_86 ?_
                  try simp (disch := omega) only [zr_n]
                  refine r_iload dX5_read_89 rfl ?_
                  refine r_iald (by first | rfl | exact zaH (shp_H (by omega) (by omega))) (by omega) (by omega) dX5_read_91 ?_
                  try simp (disch := omega) only [zr_n]
                  refine r_aload dX5_read_92 rfl ?_
                  refine r_getR fX5_257 (by first | rfl | exact zlH (shp_H (by omega) (by omega))) (zrH2 (shp_H (by omega) (by omega))) dX5_read_94 ?_
                  try simp (disch := omega) only [zr_n]
                  refine r_iload dX5_read_97 rfl ?_
                  refine r_iconst dX5_read_99 (k := ?_)
                  refine r_iadd dX5_read_100 ?_
                  try rw [zw_id (by omega) (by omega)]
                  refine r_iald (by first | rfl | exact zaH (shp_H (by omega) (by omega))) (by omega) (by omega) dX5_read_101 ?_
                  try simp (disch := omega) only [zr_n]
                  refine r_aload dX5_read_102 rfl ?_
                  refine r_getR fX5_257 (by first | rfl | exact zlH (shp_H (by omega) (by omega))) (zrH2 (shp_H (by omega) (by omega))) dX5_read_104 ?_
                  try simp (disch := omega) only [zr_n]
                  refine r_iload dX5_read_107 rfl ?_
                  refine r_iconst dX5_read_109 (k := ?_)
                  refine r_iadd dX5_read_110 ?_
                  try rw [zw_id (by omega) (by omega)]
                  refine r_iald (by first | rfl | exact zaH (shp_H (by omega) (by omega))) (by omega) (by omega) dX5_read_111 ?_
                  try simp (disch := omega) only [zr_n]
                  refine r_v3 (c_isGrudge _ _ _) kX5_163 (by first | rfl | exact zlH (shp_H (by omega) (by omega))) dX5_read_112 ?_
                  try simp (disch := omega) only [zr_n]
                  refine r_ifd_ne (tgt := 124) dX5_read_115 (by decide) (fun h115 => ?_) (fun h115 => ?_)
                  · exact absurd h115 z1
                  · refine r_bipush dX5_read_118 (k := ?_)
                    refine r_iload dX5_read_120 rfl ?_
                    refine r_isub dX5_read_122 ?_
                    try rw [zw_id (by omega) (by omega)]
                    refine r_iret dX5_read_123 ?_
                    rw [← he]
                    exact zP1.i
        · rw [if_neg z0] at he
          have e1 : x = R.2.2 := by rw [← he]
          have e2 : R.2.1 = sF3 (mem (shp k) 0) (mem (shp k) 1) ln (f + 3 * x) := by rw [← he]
          have fin := fun v9 => fin2 (by rw [← he]) v9 x.toNat 0 (by omega) (by omega) (by rw [← e1]; exact hT)
          rw [show sGo 0 f (mem (shp k + 1)) 0 (mem 4) = mem 4 from rfl, zr_self, e2, ← e1] at fin
          rw [e2, ← e1]
          refine r_iload dX5_read_48 rfl ?_
          refine r_iload dX5_read_50 rfl ?_
          refine r_icmp_ge (tgt := 133) dX5_read_52 (by decide) (fun h52 => ?_) (fun h52 => ?_)
          · first
              | exact absurd h52 (by omega)
              | exact absurd rfl h57
          · refine r_iload dX5_read_55 rfl ?_
            refine r_if_ne (tgt := 133) dX5_read_57 (by decide) (fun h57 => ?_) (fun h57 => ?_)
            · first
                | exact absurd h52 (by omega)
                | exact absurd rfl h57
            · refine r_iload_n dX5_read_60 rfl ?_
              refine r_iconst dX5_read_61 (k := ?_)
              refine r_iload dX5_read_62 rfl ?_
              refine r_imul dX5_read_64 ?_
              try rw [zw_id (by omega) (by omega)]
              refine r_iadd dX5_read_65 ?_
              refine r_istore dX5_read_66 rfl ?_
              refine r_aload dX5_read_68 rfl ?_
              refine r_iload_n dX5_read_70 rfl ?_
              refine r_iload dX5_read_71 rfl ?_
              refine r_v2 (c_X3_faultInThree (shp_H (by omega) (by omega)) _ _) kX5_254 (zlH (shp_H (by omega) (by omega))) dX5_read_73 ?_
              try simp (disch := omega) only [zr_n]
              rw [sFault3_w (by omega) (by omega) s0 s1]
              refine r_istore dX5_read_76 rfl ?_
              refine r_iload dX5_read_78 rfl ?_
              refine r_if_ne (tgt := 127) dX5_read_80 (by decide) (fun h80 => ?_) (fun h80 => ?_)
              · refine r_iinc dX5_read_127 rfl rfl ?_
                try rw [zw_id (by omega) (by omega)]
                refine r_goto (tgt := 48) dX5_read_130 (by decide) ?_
                refine r_iload dX5_read_48 rfl ?_
                refine r_iload dX5_read_50 rfl ?_
                refine r_icmp_ge (tgt := 133) dX5_read_52 (by decide) (fun h52 => ?_) (fun h52 => ?_)
                · refine r_iconst dX5_read_133 (k := ?_)
                  refine r_istore dX5_read_134 rfl ?_
                  exact fin _
                · refine r_iload dX5_read_55 rfl ?_
                  refine r_if_ne (tgt := 133) dX5_read_57 (by decide) (fun h57 => ?_) (fun h57 => ?_)
                  · refine r_iconst dX5_read_133 (k := ?_)
                    refine r_istore dX5_read_134 rfl ?_
                    exact fin _
                  · exact absurd h57 z0
              · exact absurd h80 z0
    refine r_iload_n dX5_read_0 rfl ?_
    refine r_iconst dX5_read_1 (k := ?_)
    refine r_iconst dX5_read_2 (k := ?_)
    refine r_s3 (c_isWithin _ _ _) kX5_156 dX5_read_3 ?_
    try simp (disch := omega) only [zr_n]
    refine r_ifd_eq (tgt := 29) dX5_read_6 (by decide) (fun h6 => ?_) (fun h6 => ?_)
    · exact absurd hc (by omega)
    · refine r_iload_n dX5_read_9 rfl ?_
      refine r_iconst dX5_read_10 (k := ?_)
      refine r_iconst dX5_read_11 (k := ?_)
      refine r_s3 (c_isWithin _ _ _) kX5_156 dX5_read_12 ?_
      try simp (disch := omega) only [zr_n]
      refine r_ifd_eq (tgt := 29) dX5_read_15 (by decide) (fun h15 => ?_) (fun h15 => ?_)
      · exact absurd hc (by omega)
      · refine r_iload dX5_read_18 rfl ?_
        refine r_iconst dX5_read_20 (k := ?_)
        refine r_bipush dX5_read_21 (k := ?_)
        refine r_s3 (c_isWithin _ _ _) kX5_156 dX5_read_23 ?_
        try simp (disch := omega) only [zr_n]
        refine r_ifd_ne (tgt := 31) dX5_read_26 (by decide) (fun h26 => ?_) (fun h26 => ?_)
        · refine r_aload_n dX5_read_31 rfl ?_
          refine r_getR (q := 44) fX5_36 (by first | rfl | exact zlH (shp_H (by omega) (by omega))) rfl dX5_read_32 ?_
          try simp (disch := omega) only [zr_n]
          refine r_iload_n dX5_read_35 rfl ?_
          refine r_aaldS rfl (by omega) (by omega) (shp_at (by omega) (by omega)) dX5_read_36 ?_
          refine r_astore dX5_read_37 rfl ?_
          refine r_iconst dX5_read_39 (k := ?_)
          refine r_istore dX5_read_40 rfl ?_
          refine r_iconst dX5_read_42 (k := ?_)
          refine r_istore dX5_read_43 rfl ?_
          refine r_iconst dX5_read_45 (k := ?_)
          refine r_istore dX5_read_46 rfl ?_
          exact loop n.toNat 0 _ (by omega) (by omega) (fun t t0 t1 => absurd t1 (by omega)) hR
        · exact absurd hc (by omega)
  · simp only [if_neg hc]
    refine CT.of' (own := RX5) (ls0 := [zR 0, zI k, zI ln, zI f, zI n, zU, zU, zU, zU, zU]) rfl (by decide +kernel) (Nat.le_of_ble_eq_true rfl) rfl ?_
    refine r_iload_n dX5_read_0 rfl ?_
    refine r_iconst dX5_read_1 (k := ?_)
    refine r_iconst dX5_read_2 (k := ?_)
    refine r_s3 (c_isWithin _ _ _) kX5_156 dX5_read_3 ?_
    refine r_ifd_eq (tgt := 29) dX5_read_6 (by decide) (fun h6 => ?_) (fun h6 => ?_)
    · refine r_iconst dX5_read_29 (k := ?_)
      refine r_iret dX5_read_30 ?_
      exact zP1.i
    · refine r_iload_n dX5_read_9 rfl ?_
      refine r_iconst dX5_read_10 (k := ?_)
      refine r_iconst dX5_read_11 (k := ?_)
      refine r_s3 (c_isWithin _ _ _) kX5_156 dX5_read_12 ?_
      refine r_ifd_eq (tgt := 29) dX5_read_15 (by decide) (fun h15 => ?_) (fun h15 => ?_)
      · refine r_iconst dX5_read_29 (k := ?_)
        refine r_iret dX5_read_30 ?_
        exact zP1.i
      · refine r_iload dX5_read_18 rfl ?_
        refine r_iconst dX5_read_20 (k := ?_)
        refine r_bipush dX5_read_21 (k := ?_)
        refine r_s3 (c_isWithin _ _ _) kX5_156 dX5_read_23 ?_
        refine r_ifd_ne (tgt := 31) dX5_read_26 (by decide) (fun h26 => ?_) (fun h26 => ?_)
        · exact absurd (by omega) hc
        · refine r_iconst dX5_read_29 (k := ?_)
          refine r_iret dX5_read_30 ?_
          exact zP1.i
end
