/-! ===== both: the calls that show the firth ===== -/
def vR (W : zVw) : Int := W.2.2.2.1
def vP (W : zVw) : Int → Int := W.2.2.2.2.2.2.2.2.1
def vRule : zVw → Int → Int := fun (n, _, _, r, _, _, _, hol, p, bu, dy) w => if w = 0 then n else if w = 1 then r else if w = 2 then dy else if w = 3 then hol else if w = 4 then bu else if w = 5 then sSpread n p else -1
def vD : zVw → Int → Int := fun (n, t, g, _, _, _, _, _, p, _, _) i => sDriftOf (t i) (sPlain n p g i)
def vIsle : zVw → Int → Int → Int := fun W i w => match W with
  | (n, t, g, r, e1, e2, ln, hol, p, bu, dy) => if 0 ≤ i ∧ i < n then (if w = 0 then t i else if w = 1 then p i else if w = 2 then sRopes r e1 e2 i else if w = 3 then sSz (sDriftOf (t i) (sPlain n p g i)) else if w = 4 then (if 0 < sDriftOf (t i) (sPlain n p g i) then 1 else 0) else if w = 5 then sNear n p i else -1) else -1
def vRopeA : zVw → Int → Int → Int := fun (_, _, _, r, e1, e2, ln, _, _, _, _) k w => if 0 ≤ k ∧ k < r then (if w = 0 then e1 k else if w = 1 then e2 k else if w = 2 then ln k else -1) else -1
def vFar : zVw → Int → Int → Int := fun (n, _, _, _, _, _, _, _, p, _, _) i j => if 0 ≤ i ∧ i < n ∧ 0 ≤ j ∧ j < n ∧ i ≠ j then sSz (p i - p j) else -1
section
variable {l : Launch} {G : zG} {mem : zM}
set_option maxRecDepth 100000 in
theorem c_X5_rule (hI : zFI mem 1) (w : Int) : KX5_rule l G 2 [zR 0, zI w] mem (zP1 (zI (vRule (vC mem 1) w)) mem) := by
  refine CT.of' (own := RX5) (ls0 := [zR 0, zI w]) rfl (by decide +kernel) (Nat.le_of_ble_eq_true rfl) rfl ?_
  refine r_iload_n dX5_rule_0 rfl ?_
  rcases (show w = 0 ∨ w = 1 ∨ w = 2 ∨ w = 3 ∨ w = 4 ∨ w = 5 ∨ (w < 0 ∨ 5 < w) by omega) with hw | hw | hw | hw | hw | hw | hw
  · subst hw; refine r_tswIn (tgt := 40) dX5_rule_1 (by decide) (by rfl) (by decide) ?_
    refine r_aload_n dX5_rule_40 rfl ?_
    refine r_getR (q := 1) fX5_10 rfl rfl dX5_rule_41 ?_
    refine r_gI (q := 0) rfl fX5_92 rfl (by decide) dX5_rule_44 ?_
    refine r_iret dX5_rule_47 ?_
    exact zP1.ofI rfl
  · subst hw; refine r_tswIn (tgt := 48) dX5_rule_1 (by decide) (by rfl) (by decide) ?_
    refine r_aload_n dX5_rule_48 rfl ?_
    refine r_getR (q := 1) fX5_10 rfl rfl dX5_rule_49 ?_
    refine r_gI (q := 4) rfl fX5_95 rfl (by decide) dX5_rule_52 ?_
    refine r_iret dX5_rule_55 ?_
    exact zP1.ofI rfl
  · subst hw; refine r_tswIn (tgt := 56) dX5_rule_1 (by decide) (by rfl) (by decide) ?_
    refine r_aload_n dX5_rule_56 rfl ?_
    refine r_getR (q := 1) fX5_10 rfl rfl dX5_rule_57 ?_
    refine r_gI (q := 9) rfl fX5_98 rfl (by decide) dX5_rule_60 ?_
    refine r_iret dX5_rule_63 ?_
    exact zP1.ofI rfl
  · subst hw; refine r_tswIn (tgt := 64) dX5_rule_1 (by decide) (by rfl) (by decide) ?_
    refine r_aload_n dX5_rule_64 rfl ?_
    refine r_getR (q := 1) fX5_10 rfl rfl dX5_rule_65 ?_
    refine r_gI (q := 8) rfl fX5_101 rfl (by decide) dX5_rule_68 ?_
    refine r_iret dX5_rule_71 ?_
    exact zP1.ofI rfl
  · subst hw; refine r_tswIn (tgt := 72) dX5_rule_1 (by decide) (by rfl) (by decide) ?_
    refine r_aload_n dX5_rule_72 rfl ?_
    refine r_getR (q := 1) fX5_10 rfl rfl dX5_rule_73 ?_
    refine r_gI (q := 10) rfl fX5_104 rfl (by decide) dX5_rule_76 ?_
    refine r_iret dX5_rule_79 ?_
    exact zP1.ofI rfl
  · subst hw; refine r_tswIn (tgt := 80) dX5_rule_1 (by decide) (by rfl) (by decide) ?_
    refine r_aload_n dX5_rule_80 rfl ?_
    refine r_getR (q := 1) fX5_10 rfl rfl dX5_rule_81 ?_
    refine r_v0 (c_X0_spread hF1 hI) kX5_107 rfl dX5_rule_84 ?_
    refine r_iret dX5_rule_87 ?_
    exact zP1.ofI rfl
  · refine r_tswOut (tgt := 88) dX5_rule_1 hw (by decide) ?_
    refine r_iconst dX5_rule_88 (k := ?_)
    refine r_iret dX5_rule_89 ?_
    exact zP1.ofI (by unfold vRule vC; simp only []; repeat rw [if_neg (by omega)])
set_option maxRecDepth 100000 in
theorem c_X5_rope (hI : zFI mem 1) (k w : Int) : KX5_rope l G 1 [zR 0, zI k, zI w] mem (zP1 (zI (vRopeA (vC mem 1) k w)) mem) := by
  obtain ⟨hn0, hn5, hr0, hr6, hp, hg, hr⟩ := zFI1 hI
  refine CT.of' (own := RX5) (ls0 := [zR 0, zI k, zI w]) rfl (by decide +kernel) (Nat.le_of_ble_eq_true rfl) rfl ?_
  have e : vRopeA (vC mem 1) k w = if 0 ≤ k ∧ k < mem 1 4 then (if w = 0 then mem 5 k else if w = 1 then mem 6 k else if w = 2 then mem 7 k else -1) else -1 := rfl
  rw [e]
  refine r_aload_n dX5_rope_0 rfl ?_
  refine r_iload_n dX5_rope_1 rfl ?_
  refine r_v1 (c_X5_isRope _) kX5_144 rfl dX5_rope_2 ?_
  refine r_ifd_ne (tgt := 10) dX5_rope_5 (by decide) (fun h5 => ?_) (fun h5 => ?_)
  · rw [if_pos h5]
    refine r_iload_n dX5_rope_10 rfl ?_
    rcases (show w = 0 ∨ w = 1 ∨ w = 2 ∨ (w < 0 ∨ 2 < w) by omega) with hw | hw | hw | hw
    · subst hw; refine r_tswIn (tgt := 36) dX5_rope_11 (by decide) (by rfl) (by decide) ?_
      refine r_aload_n dX5_rope_36 rfl ?_
      refine r_getR (q := 1) fX5_10 rfl rfl dX5_rope_37 ?_
      refine r_getR (q := 5) fX5_147 rfl rfl dX5_rope_40 ?_
      refine r_iload_n dX5_rope_43 rfl ?_
      refine r_iald rfl (by omega) (by omega) dX5_rope_44 ?_
      refine r_iret dX5_rope_45 ?_
      exact zP1.ofI rfl
    · subst hw; refine r_tswIn (tgt := 46) dX5_rope_11 (by decide) (by rfl) (by decide) ?_
      refine r_aload_n dX5_rope_46 rfl ?_
      refine r_getR (q := 1) fX5_10 rfl rfl dX5_rope_47 ?_
      refine r_getR (q := 6) fX5_150 rfl rfl dX5_rope_50 ?_
      refine r_iload_n dX5_rope_53 rfl ?_
      refine r_iald rfl (by omega) (by omega) dX5_rope_54 ?_
      refine r_iret dX5_rope_55 ?_
      exact zP1.ofI rfl
    · subst hw; refine r_tswIn (tgt := 56) dX5_rope_11 (by decide) (by rfl) (by decide) ?_
      refine r_aload_n dX5_rope_56 rfl ?_
      refine r_getR (q := 1) fX5_10 rfl rfl dX5_rope_57 ?_
      refine r_getR (q := 7) fX5_153 rfl rfl dX5_rope_60 ?_
      refine r_iload_n dX5_rope_63 rfl ?_
      refine r_iald rfl (by omega) (by omega) dX5_rope_64 ?_
      refine r_iret dX5_rope_65 ?_
      exact zP1.ofI rfl
    · refine r_tswOut (tgt := 66) dX5_rope_11 hw (by decide) ?_
      refine r_iconst dX5_rope_66 (k := ?_)
      refine r_iret dX5_rope_67 ?_
      exact zP1.ofI (by rw [if_neg (by omega), if_neg (by omega), if_neg (by omega)])
  · rw [if_neg h5]
    refine r_iconst dX5_rope_8 (k := ?_)
    refine r_iret dX5_rope_9 ?_
    exact zP1.i
set_option maxRecDepth 100000 in
theorem c_X5_far (hI : zFI mem 1) (i j : Int) : KX5_far l G 2 [zR 0, zI i, zI j] mem (zP1 (zI (vFar (vC mem 1) i j)) mem) := by
  obtain ⟨hn0, hn5, hr0, hr6, hp, hg, hr⟩ := zFI1 hI
  refine CT.of' (own := RX5) (ls0 := [zR 0, zI i, zI j]) rfl (by decide +kernel) (Nat.le_of_ble_eq_true rfl) rfl ?_
  have e : vFar (vC mem 1) i j = if 0 ≤ i ∧ i < mem 1 0 ∧ 0 ≤ j ∧ j < mem 1 0 ∧ i ≠ j then sSz (mem 3 i - mem 3 j) else -1 := rfl
  rw [e]
  refine r_aload_n dX5_far_0 rfl ?_
  refine r_iload_n dX5_far_1 rfl ?_
  refine r_iload_n dX5_far_2 rfl ?_
  refine r_v2 (c_isPair _ _) kX5_136 rfl dX5_far_3 ?_
  refine r_ifd_eq (tgt := 34) dX5_far_6 (by decide) (fun h6 => ?_) (fun h6 => ?_)
  · rw [if_neg h6]
    refine r_iconst dX5_far_34 (k := ?_)
    refine r_iret dX5_far_35 ?_
    exact zP1.i
  · rw [if_pos h6]
    have a1 := hp i (by omega) (by omega)
    have a2 := hp j (by omega) (by omega)
    refine r_aload_n dX5_far_9 rfl ?_
    refine r_getR (q := 1) fX5_10 rfl rfl dX5_far_10 ?_
    refine r_getR (q := 3) fX5_118 rfl rfl dX5_far_13 ?_
    refine r_iload_n dX5_far_16 rfl ?_
    refine r_iald rfl (by omega) (by omega) dX5_far_17 ?_
    refine r_aload_n dX5_far_18 rfl ?_
    refine r_getR (q := 1) fX5_10 rfl rfl dX5_far_19 ?_
    refine r_getR (q := 3) fX5_118 rfl rfl dX5_far_22 ?_
    refine r_iload_n dX5_far_25 rfl ?_
    refine r_iald rfl (by omega) (by omega) dX5_far_26 ?_
    refine r_isub dX5_far_27 ?_
    try rw [zw_id (by omega) (by omega)]
    refine r_mabs kX5_128 dX5_far_28 ?_
    refine r_goto (tgt := 35) dX5_far_31 (by decide) ?_
    refine r_iret dX5_far_35 ?_
    exact zP1.ofI (zabs_sz (by omega) (by omega))
set_option maxRecDepth 100000 in
theorem c_X5_isle (hI : zFI mem 1) (i w : Int) : KX5_isle l G 2 [zR 0, zI i, zI w] mem (zP1 (zI (vIsle (vC mem 1) i w)) mem) := by
  obtain ⟨hn0, hn5, hr0, hr6, hp, hg, hr⟩ := zFI1 hI
  refine CT.of' (own := RX5) (ls0 := [zR 0, zI i, zI w]) rfl (by decide +kernel) (Nat.le_of_ble_eq_true rfl) rfl ?_
  have e : vIsle (vC mem 1) i w = if 0 ≤ i ∧ i < mem 1 0 then (if w = 0 then mem 2 i else if w = 1 then mem 3 i else if w = 2 then sRopes (mem 1 4) (mem 5) (mem 6) i else if w = 3 then sSz (sDriftOf (mem 2 i) (sPlain (mem 1 0) (mem 3) (mem 4) i)) else if w = 4 then (if 0 < sDriftOf (mem 2 i) (sPlain (mem 1 0) (mem 3) (mem 4) i) then 1 else 0) else if w = 5 then sNear (mem 1 0) (mem 3) i else -1) else -1 := rfl
  rw [e]
  refine r_aload_n dX5_isle_0 rfl ?_
  refine r_iload_n dX5_isle_1 rfl ?_
  refine r_v1 (c_X5_isIsle _) kX5_111 rfl dX5_isle_2 ?_
  refine r_ifd_ne (tgt := 10) dX5_isle_5 (by decide) (fun h5 => ?_) (fun h5 => ?_)
  · rw [if_pos h5]
    have hS := sPlain_bd (p := mem 3) (g := mem 4) (i := i) hn0 hn5 (fun j h1 h2 => hg i j h5.1 h5.2 h1 h2)
    have hD := sDriftOf_bd (t := mem 2 i) hS.1 hS.2
    refine r_iload_n dX5_isle_10 rfl ?_
    rcases (show w = 0 ∨ w = 1 ∨ w = 2 ∨ w = 3 ∨ w = 4 ∨ w = 5 ∨ (w < 0 ∨ 5 < w) by omega) with hw | hw | hw | hw | hw | hw | hw
    · subst hw; refine r_tswIn (tgt := 48) dX5_isle_11 (by decide) (by rfl) (by decide) ?_
      refine r_aload_n dX5_isle_48 rfl ?_
      refine r_getR (q := 1) fX5_10 rfl rfl dX5_isle_49 ?_
      refine r_getR (q := 2) fX5_115 rfl rfl dX5_isle_52 ?_
      refine r_iload_n dX5_isle_55 rfl ?_
      refine r_iald rfl (by omega) (by omega) dX5_isle_56 ?_
      refine r_iret dX5_isle_57 ?_
      exact zP1.ofI rfl
    · subst hw; refine r_tswIn (tgt := 58) dX5_isle_11 (by decide) (by rfl) (by decide) ?_
      refine r_aload_n dX5_isle_58 rfl ?_
      refine r_getR (q := 1) fX5_10 rfl rfl dX5_isle_59 ?_
      refine r_getR (q := 3) fX5_118 rfl rfl dX5_isle_62 ?_
      refine r_iload_n dX5_isle_65 rfl ?_
      refine r_iald rfl (by omega) (by omega) dX5_isle_66 ?_
      refine r_iret dX5_isle_67 ?_
      exact zP1.ofI rfl
    · subst hw; refine r_tswIn (tgt := 68) dX5_isle_11 (by decide) (by rfl) (by decide) ?_
      refine r_aload_n dX5_isle_68 rfl ?_
      refine r_getR (q := 1) fX5_10 rfl rfl dX5_isle_69 ?_
      refine r_iload_n dX5_isle_72 rfl ?_
      refine r_v1 (c_X0_ropesOf hF1 i hr0 hr6) kX5_121 rfl dX5_isle_73 ?_
      refine r_iret dX5_isle_76 ?_
      exact zP1.ofI rfl
    · subst hw; refine r_tswIn (tgt := 77) dX5_isle_11 (by decide) (by rfl) (by decide) ?_
      refine r_aload_n dX5_isle_77 rfl ?_
      refine r_getR (q := 1) fX5_10 rfl rfl dX5_isle_78 ?_
      refine r_iload_n dX5_isle_81 rfl ?_
      refine r_v1 (c_X0_driftOf hF1 hI i h5.1 h5.2) kX5_125 rfl dX5_isle_82 ?_
      refine r_mabs kX5_128 dX5_isle_85 ?_
      refine r_iret dX5_isle_88 ?_
      exact zP1.ofI (zabs_sz (show -2147483648 < sDriftOf (mem 2 i) (sPlain (mem 1 0) (mem 3) (mem 4) i) by omega) (show sDriftOf (mem 2 i) (sPlain (mem 1 0) (mem 3) (mem 4) i) < 2147483648 by omega))
    · subst hw; refine r_tswIn (tgt := 89) dX5_isle_11 (by decide) (by rfl) (by decide) ?_
      refine r_aload_n dX5_isle_89 rfl ?_
      refine r_getR (q := 1) fX5_10 rfl rfl dX5_isle_90 ?_
      refine r_iload_n dX5_isle_93 rfl ?_
      refine r_v1 (c_X0_driftOf hF1 hI i h5.1 h5.2) kX5_125 rfl dX5_isle_94 ?_
      refine r_if_le (tgt := 104) dX5_isle_97 (by decide) (fun h97 => ?_) (fun h97 => ?_)
      · refine r_iconst dX5_isle_104 (k := ?_)
        refine r_iret dX5_isle_105 ?_
        first | exact zP1.ofI (if_neg (Int.not_lt.mpr h97)).symm | exact zP1.ofI (if_pos (Int.not_le.mp h97)).symm
      · refine r_iconst dX5_isle_100 (k := ?_)
        refine r_goto (tgt := 105) dX5_isle_101 (by decide) ?_
        refine r_iret dX5_isle_105 ?_
        first | exact zP1.ofI (if_neg (Int.not_lt.mpr h97)).symm | exact zP1.ofI (if_pos (Int.not_le.mp h97)).symm
    · subst hw; refine r_tswIn (tgt := 106) dX5_isle_11 (by decide) (by rfl) (by decide) ?_
      refine r_aload_n dX5_isle_106 rfl ?_
      refine r_getR (q := 1) fX5_10 rfl rfl dX5_isle_107 ?_
      refine r_iload_n dX5_isle_110 rfl ?_
      refine r_v1 (c_X0_nearestTo hF1 hI i h5.1 h5.2) kX5_133 rfl dX5_isle_111 ?_
      refine r_iret dX5_isle_114 ?_
      exact zP1.ofI rfl
    · refine r_tswOut (tgt := 115) dX5_isle_11 hw (by decide) ?_
      refine r_iconst dX5_isle_115 (k := ?_)
      refine r_iret dX5_isle_116 ?_
      exact zP1.ofI (by repeat rw [if_neg (by omega)])
  · rw [if_neg h5]
    refine r_iconst dX5_isle_8 (k := ?_)
    refine r_iret dX5_isle_9 ?_
    exact zP1.i
set_option maxRecDepth 100000 in
theorem c_X5_haul (hI : zFI mem 1) (k v : Int) : KX5_haul l G 1 [zR 0, zI k, zI v] mem (zP1 (zI (if 0 ≤ k ∧ k < mem 1 4 ∧ 1 ≤ v ∧ v ≤ 30 then mem 7 k else -1)) (if 0 ≤ k ∧ k < mem 1 4 ∧ 1 ≤ v ∧ v ≤ 30 then zs mem 7 k v else mem)) := by
  obtain ⟨hn0, hn5, hr0, hr6, hp, hg, hr⟩ := zFI1 hI
  refine CT.of' (own := RX5) (ls0 := [zR 0, zI k, zI v, zU]) rfl (by decide +kernel) (Nat.le_of_ble_eq_true rfl) rfl ?_
  refine r_aload_n dX5_haul_0 rfl ?_
  refine r_iload_n dX5_haul_1 rfl ?_
  refine r_v1 (c_X5_isRope _) kX5_144 rfl dX5_haul_2 ?_
  refine r_ifd_eq (tgt := 18) dX5_haul_5 (by decide) (fun h5 => ?_) (fun h5 => ?_)
  · refine r_iconst dX5_haul_18 (k := ?_)
    refine r_iret dX5_haul_19 ?_
    first | (rw [if_pos (by omega), if_pos (by omega)]; exact zP1.i) | (rw [if_neg (by omega), if_neg (by omega)]; exact zP1.i)
  · refine r_iload_n dX5_haul_8 rfl ?_
    refine r_iconst dX5_haul_9 (k := ?_)
    refine r_bipush dX5_haul_10 (k := ?_)
    refine r_s3 (c_isWithin _ _ _) kX5_156 dX5_haul_12 ?_
    refine r_ifd_ne (tgt := 20) dX5_haul_15 (by decide) (fun h15 => ?_) (fun h15 => ?_)
    · refine r_aload_n dX5_haul_20 rfl ?_
      refine r_getR (q := 1) fX5_10 rfl rfl dX5_haul_21 ?_
      refine r_getR (q := 7) fX5_153 rfl rfl dX5_haul_24 ?_
      refine r_iload_n dX5_haul_27 rfl ?_
      refine r_iald rfl (by omega) (by omega) dX5_haul_28 ?_
      refine r_istore_n dX5_haul_29 rfl ?_
      refine r_aload_n dX5_haul_30 rfl ?_
      refine r_getR (q := 1) fX5_10 rfl rfl dX5_haul_31 ?_
      refine r_getR (q := 7) fX5_153 rfl rfl dX5_haul_34 ?_
      refine r_iload_n dX5_haul_37 rfl ?_
      refine r_iload_n dX5_haul_38 rfl ?_
      refine r_iast rfl (by omega) (by omega) dX5_haul_39 ?_
      refine r_iload_n dX5_haul_40 rfl ?_
      refine r_iret dX5_haul_41 ?_
      first | (rw [if_pos (by omega), if_pos (by omega)]; exact zP1.i) | (rw [if_neg (by omega), if_neg (by omega)]; exact zP1.i)
    · refine r_iconst dX5_haul_18 (k := ?_)
      refine r_iret dX5_haul_19 ?_
      first | (rw [if_pos (by omega), if_pos (by omega)]; exact zP1.i) | (rw [if_neg (by omega), if_neg (by omega)]; exact zP1.i)
set_option maxRecDepth 100000 in
theorem c_X5_wed (hI : zFI mem 1) (i j v : Int) : KX5_wed l G 2 [zR 0, zI i, zI j, zI v] mem (zP1 (zI (if 0 ≤ i ∧ i < mem 1 0 ∧ 0 ≤ j ∧ j < mem 1 0 ∧ i ≠ j ∧ 1 ≤ v ∧ v ≤ 30 then (if mem 1 4 = 6 then -3 else mem 1 4 + 1) else -1)) (if (0 ≤ i ∧ i < mem 1 0 ∧ 0 ≤ j ∧ j < mem 1 0 ∧ i ≠ j ∧ 1 ≤ v ∧ v ≤ 30) ∧ mem 1 4 ≠ 6 then zs (zs (zs (zs mem 5 (mem 1 4) i) 6 (mem 1 4) j) 7 (mem 1 4) v) 1 4 (mem 1 4 + 1) else mem)) := by
  obtain ⟨hn0, hn5, hr0, hr6, hp, hg, hr⟩ := zFI1 hI
  refine CT.of' (own := RX5) (ls0 := [zR 0, zI i, zI j, zI v]) rfl (by decide +kernel) (Nat.le_of_ble_eq_true rfl) rfl ?_
  refine r_aload_n dX5_wed_0 rfl ?_
  refine r_iload_n dX5_wed_1 rfl ?_
  refine r_iload_n dX5_wed_2 rfl ?_
  refine r_v2 (c_isPair _ _) kX5_136 rfl dX5_wed_3 ?_
  refine r_ifd_eq (tgt := 19) dX5_wed_6 (by decide) (fun h6 => ?_) (fun h6 => ?_)
  · refine r_iconst dX5_wed_19 (k := ?_)
    refine r_iret dX5_wed_20 ?_
    first | (rw [if_pos (by omega), if_pos (by omega), if_neg (by omega)]; exact zP1.i) | (rw [if_pos (by omega), if_neg (by omega), if_pos (by omega)]; exact zP1.i) | (rw [if_neg (by omega), if_neg (by omega)]; exact zP1.i)
  · refine r_iload_n dX5_wed_9 rfl ?_
    refine r_iconst dX5_wed_10 (k := ?_)
    refine r_bipush dX5_wed_11 (k := ?_)
    refine r_s3 (c_isWithin _ _ _) kX5_156 dX5_wed_13 ?_
    refine r_ifd_ne (tgt := 21) dX5_wed_16 (by decide) (fun h16 => ?_) (fun h16 => ?_)
    · refine r_aload_n dX5_wed_21 rfl ?_
      refine r_getR (q := 1) fX5_10 rfl rfl dX5_wed_22 ?_
      refine r_gI (q := 4) rfl fX5_95 rfl (by decide) dX5_wed_25 ?_
      refine r_bipush dX5_wed_28 (k := ?_)
      refine r_icmp_lt (tgt := 36) dX5_wed_30 (by decide) (fun h30 => ?_) (fun h30 => ?_)
      · refine r_aload_n dX5_wed_36 rfl ?_
        refine r_getR (q := 1) fX5_10 rfl rfl dX5_wed_37 ?_
        refine r_iload_n dX5_wed_40 rfl ?_
        refine r_iload_n dX5_wed_41 rfl ?_
        refine r_iload_n dX5_wed_42 rfl ?_
        refine r_w3 (c_X0_addRope hF1 _ _ _ (by omega) (by omega)) kX5_170 rfl dX5_wed_43 ?_
        refine r_aload_n dX5_wed_46 rfl ?_
        refine r_getR (q := 1) fX5_10 rfl rfl dX5_wed_47 ?_
        refine r_gI (q := 4) rfl fX5_95 rfl (by decide) dX5_wed_50 ?_
        rw [zs_v]
        refine r_iret dX5_wed_53 ?_
        first | (rw [if_pos (by omega), if_pos (by omega), if_neg (by omega)]; exact zP1.i) | (rw [if_pos (by omega), if_neg (by omega), if_pos (by omega)]; exact zP1.i) | (rw [if_neg (by omega), if_neg (by omega)]; exact zP1.i)
      · refine r_bipush dX5_wed_33 (k := ?_)
        refine r_iret dX5_wed_35 ?_
        first | (rw [if_pos (by omega), if_pos (by omega), if_neg (by omega)]; exact zP1.i) | (rw [if_pos (by omega), if_neg (by omega), if_pos (by omega)]; exact zP1.i) | (rw [if_neg (by omega), if_neg (by omega)]; exact zP1.i)
    · refine r_iconst dX5_wed_19 (k := ?_)
      refine r_iret dX5_wed_20 ?_
      first | (rw [if_pos (by omega), if_pos (by omega), if_neg (by omega)]; exact zP1.i) | (rw [if_pos (by omega), if_neg (by omega), if_pos (by omega)]; exact zP1.i) | (rw [if_neg (by omega), if_neg (by omega)]; exact zP1.i)
set_option maxRecDepth 100000 in
theorem c_X5_days (hI : zFI mem 1) (n : Int) (d0 : 0 ≤ mem 1 9) (d9 : mem 1 9 ≤ 999) : KX5_days l G 5 [zR 0, zI n] mem (zP1 (zI (if 0 ≤ n ∧ n ≤ 30 then (if 999 < mem 1 9 + n then -3 else vBumps (vC mem 1) n.toNat) else -1)) (if (0 ≤ n ∧ n ≤ 30) ∧ mem 1 9 + n ≤ 999 then zFy mem 1 (vDays (vC mem 1) n.toNat) else mem)) := by
  refine CT.of' (own := RX5) (ls0 := [zR 0, zI n, zU]) rfl (by decide +kernel) (Nat.le_of_ble_eq_true rfl) rfl ?_
  refine r_iload_n dX5_days_0 rfl ?_
  refine r_iconst dX5_days_1 (k := ?_)
  refine r_bipush dX5_days_2 (k := ?_)
  refine r_s3 (c_isWithin _ _ _) kX5_156 dX5_days_4 ?_
  refine r_ifd_ne (tgt := 12) dX5_days_7 (by decide) (fun h7 => ?_) (fun h7 => ?_)
  · refine r_aload_n dX5_days_12 rfl ?_
    refine r_getR (q := 1) fX5_10 rfl rfl dX5_days_13 ?_
    refine r_gI (q := 9) rfl fX5_98 rfl (by decide) dX5_days_16 ?_
    refine r_iload_n dX5_days_19 rfl ?_
    refine r_iadd dX5_days_20 ?_
    try rw [zw_id (by omega) (by omega)]
    refine r_sipush dX5_days_21 (k := ?_)
    refine r_icmp_lt (tgt := 30) dX5_days_24 (by decide) (fun h24 => ?_) (fun h24 => ?_)
    · refine r_aload_n dX5_days_30 rfl ?_
      refine r_getR (q := 1) fX5_10 rfl rfl dX5_days_31 ?_
      refine r_gI (q := 10) rfl fX5_104 rfl (by decide) dX5_days_34 ?_
      refine r_istore_n dX5_days_37 rfl ?_
      refine r_aload_n dX5_days_38 rfl ?_
      refine r_getR (q := 1) fX5_10 rfl rfl dX5_days_39 ?_
      refine r_iload_n dX5_days_42 rfl ?_
      refine r_w1 (c_X0_passDays hF1 hI _ (by omega) (by omega)) kX5_173 rfl dX5_days_43 ?_
      refine r_aload_n dX5_days_46 rfl ?_
      refine r_getR (q := 1) fX5_10 rfl rfl dX5_days_47 ?_
      refine r_gI (q := 10) rfl fX5_104 rfl (by decide) dX5_days_50 ?_
      rw [zFy_10]
      refine r_iload_n dX5_days_53 rfl ?_
      refine r_isub dX5_days_54 ?_
      refine r_iret dX5_days_55 ?_
      first | (rw [if_pos (by omega), if_pos (by omega), if_neg (by omega)]; exact zP1.i) | (rw [if_pos (by omega), if_neg (by omega), if_pos (by omega)]; exact zP1.i) | (rw [if_neg (by omega), if_neg (by omega)]; exact zP1.i)
    · refine r_bipush dX5_days_27 (k := ?_)
      refine r_iret dX5_days_29 ?_
      first | (rw [if_pos (by omega), if_pos (by omega), if_neg (by omega)]; exact zP1.i) | (rw [if_pos (by omega), if_neg (by omega), if_pos (by omega)]; exact zP1.i) | (rw [if_neg (by omega), if_neg (by omega)]; exact zP1.i)
  · refine r_iconst dX5_days_10 (k := ?_)
    refine r_iret dX5_days_11 ?_
    first | (rw [if_pos (by omega), if_pos (by omega), if_neg (by omega)]; exact zP1.i) | (rw [if_pos (by omega), if_neg (by omega), if_pos (by omega)]; exact zP1.i) | (rw [if_neg (by omega), if_neg (by omega)]; exact zP1.i)
set_option maxRecDepth 100000 in
theorem c_X5_alter (hI : zFI mem 1) (i w v : Int) : KX5_alter l G 1 [zR 0, zI i, zI w, zI v] mem (zP1 (zI (if (0 ≤ i ∧ i < mem 1 0) ∧ w = 0 ∧ 0 ≤ v ∧ v ≤ 3 then mem 2 i else if ((0 ≤ i ∧ i < mem 1 0) ∧ w = 1 ∧ 0 ≤ v ∧ v ≤ 99) ∧ sTaken (mem 1 0) (mem 3) v i = false then mem 3 i else -1)) (if (0 ≤ i ∧ i < mem 1 0) ∧ w = 0 ∧ 0 ≤ v ∧ v ≤ 3 then zs mem 2 i v else if ((0 ≤ i ∧ i < mem 1 0) ∧ w = 1 ∧ 0 ≤ v ∧ v ≤ 99) ∧ sTaken (mem 1 0) (mem 3) v i = false then zs mem 3 i v else mem)) := by
  obtain ⟨hn0, hn5, hr0, hr6, hp, hg, hr⟩ := zFI1 hI
  refine CT.of' (own := RX5) (ls0 := [zR 0, zI i, zI w, zI v, zU]) rfl (by decide +kernel) (Nat.le_of_ble_eq_true rfl) rfl ?_
  refine r_aload_n dX5_alter_0 rfl ?_
  refine r_iload_n dX5_alter_1 rfl ?_
  refine r_v1 (c_X5_isIsle _) kX5_111 rfl dX5_alter_2 ?_
  refine r_ifd_ne (tgt := 10) dX5_alter_5 (by decide) (fun h5 => ?_) (fun h5 => ?_)
  · refine r_iload_n dX5_alter_10 rfl ?_
    refine r_if_ne (tgt := 47) dX5_alter_11 (by decide) (fun h11 => ?_) (fun h11 => ?_)
    · refine r_iload_n dX5_alter_47 rfl ?_
      refine r_iconst dX5_alter_48 (k := ?_)
      refine r_icmp_ne (tgt := 98) dX5_alter_49 (by decide) (fun h49 => ?_) (fun h49 => ?_)
      · refine r_iconst dX5_alter_98 (k := ?_)
        refine r_iret dX5_alter_99 ?_
        first
          | (rw [if_pos (by omega), if_pos (by omega)]; exact zP1.i)
          | (simp only [if_neg (show ¬ ((0 ≤ i ∧ i < mem 1 0) ∧ w = 0 ∧ 0 ≤ v ∧ v ≤ 3) by omega), if_neg (show ¬ (((0 ≤ i ∧ i < mem 1 0) ∧ w = 1 ∧ 0 ≤ v ∧ v ≤ 99) ∧ sTaken (mem 1 0) (mem 3) v i = false) from fun q => by have := q.1; omega)]; exact zP1.i)
          | (simp only [if_neg (show ¬ ((0 ≤ i ∧ i < mem 1 0) ∧ w = 0 ∧ 0 ≤ v ∧ v ≤ 3) by omega), if_neg (show ¬ (((0 ≤ i ∧ i < mem 1 0) ∧ w = 1 ∧ 0 ≤ v ∧ v ≤ 99) ∧ sTaken (mem 1 0) (mem 3) v i = false) from fun q => by rw [show sTaken (mem 1 0) (mem 3) v i = true from h71] at q; exact absurd q.2 (by decide))]; exact zP1.i)
          | (simp only [if_neg (show ¬ ((0 ≤ i ∧ i < mem 1 0) ∧ w = 0 ∧ 0 ≤ v ∧ v ≤ 3) by omega), if_pos (show ((0 ≤ i ∧ i < mem 1 0) ∧ w = 1 ∧ 0 ≤ v ∧ v ≤ 99) ∧ sTaken (mem 1 0) (mem 3) v i = false from ⟨by omega, h71⟩)]; exact zP1.i)
      · refine r_iload_n dX5_alter_52 rfl ?_
        refine r_iconst dX5_alter_53 (k := ?_)
        refine r_bipush dX5_alter_54 (k := ?_)
        refine r_s3 (c_isWithin _ _ _) kX5_156 dX5_alter_56 ?_
        refine r_ifd_eq (tgt := 98) dX5_alter_59 (by decide) (fun h59 => ?_) (fun h59 => ?_)
        · refine r_iconst dX5_alter_98 (k := ?_)
          refine r_iret dX5_alter_99 ?_
          first
            | (rw [if_pos (by omega), if_pos (by omega)]; exact zP1.i)
            | (simp only [if_neg (show ¬ ((0 ≤ i ∧ i < mem 1 0) ∧ w = 0 ∧ 0 ≤ v ∧ v ≤ 3) by omega), if_neg (show ¬ (((0 ≤ i ∧ i < mem 1 0) ∧ w = 1 ∧ 0 ≤ v ∧ v ≤ 99) ∧ sTaken (mem 1 0) (mem 3) v i = false) from fun q => by have := q.1; omega)]; exact zP1.i)
            | (simp only [if_neg (show ¬ ((0 ≤ i ∧ i < mem 1 0) ∧ w = 0 ∧ 0 ≤ v ∧ v ≤ 3) by omega), if_neg (show ¬ (((0 ≤ i ∧ i < mem 1 0) ∧ w = 1 ∧ 0 ≤ v ∧ v ≤ 99) ∧ sTaken (mem 1 0) (mem 3) v i = false) from fun q => by rw [show sTaken (mem 1 0) (mem 3) v i = true from h71] at q; exact absurd q.2 (by decide))]; exact zP1.i)
            | (simp only [if_neg (show ¬ ((0 ≤ i ∧ i < mem 1 0) ∧ w = 0 ∧ 0 ≤ v ∧ v ≤ 3) by omega), if_pos (show ((0 ≤ i ∧ i < mem 1 0) ∧ w = 1 ∧ 0 ≤ v ∧ v ≤ 99) ∧ sTaken (mem 1 0) (mem 3) v i = false from ⟨by omega, h71⟩)]; exact zP1.i)
        · refine r_aload_n dX5_alter_62 rfl ?_
          refine r_getR (q := 1) fX5_10 rfl rfl dX5_alter_63 ?_
          refine r_iload_n dX5_alter_66 rfl ?_
          refine r_iload_n dX5_alter_67 rfl ?_
          refine r_v2 (c_X0_isTaken hF1 _ _ hn0 hn5) kX5_160 rfl dX5_alter_68 ?_
          refine r_ifb_ne (tgt := 98) dX5_alter_71 (by decide) (fun h71 => ?_) (fun h71 => ?_)
          · refine r_iconst dX5_alter_98 (k := ?_)
            refine r_iret dX5_alter_99 ?_
            first
              | (rw [if_pos (by omega), if_pos (by omega)]; exact zP1.i)
              | (simp only [if_neg (show ¬ ((0 ≤ i ∧ i < mem 1 0) ∧ w = 0 ∧ 0 ≤ v ∧ v ≤ 3) by omega), if_neg (show ¬ (((0 ≤ i ∧ i < mem 1 0) ∧ w = 1 ∧ 0 ≤ v ∧ v ≤ 99) ∧ sTaken (mem 1 0) (mem 3) v i = false) from fun q => by have := q.1; omega)]; exact zP1.i)
              | (simp only [if_neg (show ¬ ((0 ≤ i ∧ i < mem 1 0) ∧ w = 0 ∧ 0 ≤ v ∧ v ≤ 3) by omega), if_neg (show ¬ (((0 ≤ i ∧ i < mem 1 0) ∧ w = 1 ∧ 0 ≤ v ∧ v ≤ 99) ∧ sTaken (mem 1 0) (mem 3) v i = false) from fun q => by rw [show sTaken (mem 1 0) (mem 3) v i = true from h71] at q; exact absurd q.2 (by decide))]; exact zP1.i)
              | (simp only [if_neg (show ¬ ((0 ≤ i ∧ i < mem 1 0) ∧ w = 0 ∧ 0 ≤ v ∧ v ≤ 3) by omega), if_pos (show ((0 ≤ i ∧ i < mem 1 0) ∧ w = 1 ∧ 0 ≤ v ∧ v ≤ 99) ∧ sTaken (mem 1 0) (mem 3) v i = false from ⟨by omega, h71⟩)]; exact zP1.i)
          · refine r_aload_n dX5_alter_74 rfl ?_
            refine r_getR (q := 1) fX5_10 rfl rfl dX5_alter_75 ?_
            refine r_getR (q := 3) fX5_118 rfl rfl dX5_alter_78 ?_
            refine r_iload_n dX5_alter_81 rfl ?_
            refine r_iald rfl (by omega) (by omega) dX5_alter_82 ?_
            refine r_istore dX5_alter_83 rfl ?_
            refine r_aload_n dX5_alter_85 rfl ?_
            refine r_getR (q := 1) fX5_10 rfl rfl dX5_alter_86 ?_
            refine r_getR (q := 3) fX5_118 rfl rfl dX5_alter_89 ?_
            refine r_iload_n dX5_alter_92 rfl ?_
            refine r_iload_n dX5_alter_93 rfl ?_
            refine r_iast rfl (by omega) (by omega) dX5_alter_94 ?_
            refine r_iload dX5_alter_95 rfl ?_
            refine r_iret dX5_alter_97 ?_
            first
              | (rw [if_pos (by omega), if_pos (by omega)]; exact zP1.i)
              | (simp only [if_neg (show ¬ ((0 ≤ i ∧ i < mem 1 0) ∧ w = 0 ∧ 0 ≤ v ∧ v ≤ 3) by omega), if_neg (show ¬ (((0 ≤ i ∧ i < mem 1 0) ∧ w = 1 ∧ 0 ≤ v ∧ v ≤ 99) ∧ sTaken (mem 1 0) (mem 3) v i = false) from fun q => by have := q.1; omega)]; exact zP1.i)
              | (simp only [if_neg (show ¬ ((0 ≤ i ∧ i < mem 1 0) ∧ w = 0 ∧ 0 ≤ v ∧ v ≤ 3) by omega), if_neg (show ¬ (((0 ≤ i ∧ i < mem 1 0) ∧ w = 1 ∧ 0 ≤ v ∧ v ≤ 99) ∧ sTaken (mem 1 0) (mem 3) v i = false) from fun q => by rw [show sTaken (mem 1 0) (mem 3) v i = true from h71] at q; exact absurd q.2 (by decide))]; exact zP1.i)
              | (simp only [if_neg (show ¬ ((0 ≤ i ∧ i < mem 1 0) ∧ w = 0 ∧ 0 ≤ v ∧ v ≤ 3) by omega), if_pos (show ((0 ≤ i ∧ i < mem 1 0) ∧ w = 1 ∧ 0 ≤ v ∧ v ≤ 99) ∧ sTaken (mem 1 0) (mem 3) v i = false from ⟨by omega, h71⟩)]; exact zP1.i)
    · refine r_iload_n dX5_alter_14 rfl ?_
      refine r_iconst dX5_alter_15 (k := ?_)
      refine r_iconst dX5_alter_16 (k := ?_)
      refine r_s3 (c_isWithin _ _ _) kX5_156 dX5_alter_17 ?_
      refine r_ifd_eq (tgt := 47) dX5_alter_20 (by decide) (fun h20 => ?_) (fun h20 => ?_)
      · refine r_iload_n dX5_alter_47 rfl ?_
        refine r_iconst dX5_alter_48 (k := ?_)
        refine r_icmp_ne (tgt := 98) dX5_alter_49 (by decide) (fun h49 => ?_) (fun h49 => ?_)
        · refine r_iconst dX5_alter_98 (k := ?_)
          refine r_iret dX5_alter_99 ?_
          first
            | (rw [if_pos (by omega), if_pos (by omega)]; exact zP1.i)
            | (simp only [if_neg (show ¬ ((0 ≤ i ∧ i < mem 1 0) ∧ w = 0 ∧ 0 ≤ v ∧ v ≤ 3) by omega), if_neg (show ¬ (((0 ≤ i ∧ i < mem 1 0) ∧ w = 1 ∧ 0 ≤ v ∧ v ≤ 99) ∧ sTaken (mem 1 0) (mem 3) v i = false) from fun q => by have := q.1; omega)]; exact zP1.i)
            | (simp only [if_neg (show ¬ ((0 ≤ i ∧ i < mem 1 0) ∧ w = 0 ∧ 0 ≤ v ∧ v ≤ 3) by omega), if_neg (show ¬ (((0 ≤ i ∧ i < mem 1 0) ∧ w = 1 ∧ 0 ≤ v ∧ v ≤ 99) ∧ sTaken (mem 1 0) (mem 3) v i = false) from fun q => by rw [show sTaken (mem 1 0) (mem 3) v i = true from h71] at q; exact absurd q.2 (by decide))]; exact zP1.i)
            | (simp only [if_neg (show ¬ ((0 ≤ i ∧ i < mem 1 0) ∧ w = 0 ∧ 0 ≤ v ∧ v ≤ 3) by omega), if_pos (show ((0 ≤ i ∧ i < mem 1 0) ∧ w = 1 ∧ 0 ≤ v ∧ v ≤ 99) ∧ sTaken (mem 1 0) (mem 3) v i = false from ⟨by omega, h71⟩)]; exact zP1.i)
        · refine r_iload_n dX5_alter_52 rfl ?_
          refine r_iconst dX5_alter_53 (k := ?_)
          refine r_bipush dX5_alter_54 (k := ?_)
          refine r_s3 (c_isWithin _ _ _) kX5_156 dX5_alter_56 ?_
          refine r_ifd_eq (tgt := 98) dX5_alter_59 (by decide) (fun h59 => ?_) (fun h59 => ?_)
          · refine r_iconst dX5_alter_98 (k := ?_)
            refine r_iret dX5_alter_99 ?_
            first
              | (rw [if_pos (by omega), if_pos (by omega)]; exact zP1.i)
              | (simp only [if_neg (show ¬ ((0 ≤ i ∧ i < mem 1 0) ∧ w = 0 ∧ 0 ≤ v ∧ v ≤ 3) by omega), if_neg (show ¬ (((0 ≤ i ∧ i < mem 1 0) ∧ w = 1 ∧ 0 ≤ v ∧ v ≤ 99) ∧ sTaken (mem 1 0) (mem 3) v i = false) from fun q => by have := q.1; omega)]; exact zP1.i)
              | (simp only [if_neg (show ¬ ((0 ≤ i ∧ i < mem 1 0) ∧ w = 0 ∧ 0 ≤ v ∧ v ≤ 3) by omega), if_neg (show ¬ (((0 ≤ i ∧ i < mem 1 0) ∧ w = 1 ∧ 0 ≤ v ∧ v ≤ 99) ∧ sTaken (mem 1 0) (mem 3) v i = false) from fun q => by rw [show sTaken (mem 1 0) (mem 3) v i = true from h71] at q; exact absurd q.2 (by decide))]; exact zP1.i)
              | (simp only [if_neg (show ¬ ((0 ≤ i ∧ i < mem 1 0) ∧ w = 0 ∧ 0 ≤ v ∧ v ≤ 3) by omega), if_pos (show ((0 ≤ i ∧ i < mem 1 0) ∧ w = 1 ∧ 0 ≤ v ∧ v ≤ 99) ∧ sTaken (mem 1 0) (mem 3) v i = false from ⟨by omega, h71⟩)]; exact zP1.i)
          · refine r_aload_n dX5_alter_62 rfl ?_
            refine r_getR (q := 1) fX5_10 rfl rfl dX5_alter_63 ?_
            refine r_iload_n dX5_alter_66 rfl ?_
            refine r_iload_n dX5_alter_67 rfl ?_
            refine r_v2 (c_X0_isTaken hF1 _ _ hn0 hn5) kX5_160 rfl dX5_alter_68 ?_
            refine r_ifb_ne (tgt := 98) dX5_alter_71 (by decide) (fun h71 => ?_) (fun h71 => ?_)
            · refine r_iconst dX5_alter_98 (k := ?_)
              refine r_iret dX5_alter_99 ?_
              first
                | (rw [if_pos (by omega), if_pos (by omega)]; exact zP1.i)
                | (simp only [if_neg (show ¬ ((0 ≤ i ∧ i < mem 1 0) ∧ w = 0 ∧ 0 ≤ v ∧ v ≤ 3) by omega), if_neg (show ¬ (((0 ≤ i ∧ i < mem 1 0) ∧ w = 1 ∧ 0 ≤ v ∧ v ≤ 99) ∧ sTaken (mem 1 0) (mem 3) v i = false) from fun q => by have := q.1; omega)]; exact zP1.i)
                | (simp only [if_neg (show ¬ ((0 ≤ i ∧ i < mem 1 0) ∧ w = 0 ∧ 0 ≤ v ∧ v ≤ 3) by omega), if_neg (show ¬ (((0 ≤ i ∧ i < mem 1 0) ∧ w = 1 ∧ 0 ≤ v ∧ v ≤ 99) ∧ sTaken (mem 1 0) (mem 3) v i = false) from fun q => by rw [show sTaken (mem 1 0) (mem 3) v i = true from h71] at q; exact absurd q.2 (by decide))]; exact zP1.i)
                | (simp only [if_neg (show ¬ ((0 ≤ i ∧ i < mem 1 0) ∧ w = 0 ∧ 0 ≤ v ∧ v ≤ 3) by omega), if_pos (show ((0 ≤ i ∧ i < mem 1 0) ∧ w = 1 ∧ 0 ≤ v ∧ v ≤ 99) ∧ sTaken (mem 1 0) (mem 3) v i = false from ⟨by omega, h71⟩)]; exact zP1.i)
            · refine r_aload_n dX5_alter_74 rfl ?_
              refine r_getR (q := 1) fX5_10 rfl rfl dX5_alter_75 ?_
              refine r_getR (q := 3) fX5_118 rfl rfl dX5_alter_78 ?_
              refine r_iload_n dX5_alter_81 rfl ?_
              refine r_iald rfl (by omega) (by omega) dX5_alter_82 ?_
              refine r_istore dX5_alter_83 rfl ?_
              refine r_aload_n dX5_alter_85 rfl ?_
              refine r_getR (q := 1) fX5_10 rfl rfl dX5_alter_86 ?_
              refine r_getR (q := 3) fX5_118 rfl rfl dX5_alter_89 ?_
              refine r_iload_n dX5_alter_92 rfl ?_
              refine r_iload_n dX5_alter_93 rfl ?_
              refine r_iast rfl (by omega) (by omega) dX5_alter_94 ?_
              refine r_iload dX5_alter_95 rfl ?_
              refine r_iret dX5_alter_97 ?_
              first
                | (rw [if_pos (by omega), if_pos (by omega)]; exact zP1.i)
                | (simp only [if_neg (show ¬ ((0 ≤ i ∧ i < mem 1 0) ∧ w = 0 ∧ 0 ≤ v ∧ v ≤ 3) by omega), if_neg (show ¬ (((0 ≤ i ∧ i < mem 1 0) ∧ w = 1 ∧ 0 ≤ v ∧ v ≤ 99) ∧ sTaken (mem 1 0) (mem 3) v i = false) from fun q => by have := q.1; omega)]; exact zP1.i)
                | (simp only [if_neg (show ¬ ((0 ≤ i ∧ i < mem 1 0) ∧ w = 0 ∧ 0 ≤ v ∧ v ≤ 3) by omega), if_neg (show ¬ (((0 ≤ i ∧ i < mem 1 0) ∧ w = 1 ∧ 0 ≤ v ∧ v ≤ 99) ∧ sTaken (mem 1 0) (mem 3) v i = false) from fun q => by rw [show sTaken (mem 1 0) (mem 3) v i = true from h71] at q; exact absurd q.2 (by decide))]; exact zP1.i)
                | (simp only [if_neg (show ¬ ((0 ≤ i ∧ i < mem 1 0) ∧ w = 0 ∧ 0 ≤ v ∧ v ≤ 3) by omega), if_pos (show ((0 ≤ i ∧ i < mem 1 0) ∧ w = 1 ∧ 0 ≤ v ∧ v ≤ 99) ∧ sTaken (mem 1 0) (mem 3) v i = false from ⟨by omega, h71⟩)]; exact zP1.i)
      · refine r_aload_n dX5_alter_23 rfl ?_
        refine r_getR (q := 1) fX5_10 rfl rfl dX5_alter_24 ?_
        refine r_getR (q := 2) fX5_115 rfl rfl dX5_alter_27 ?_
        refine r_iload_n dX5_alter_30 rfl ?_
        refine r_iald rfl (by omega) (by omega) dX5_alter_31 ?_
        refine r_istore dX5_alter_32 rfl ?_
        refine r_aload_n dX5_alter_34 rfl ?_
        refine r_getR (q := 1) fX5_10 rfl rfl dX5_alter_35 ?_
        refine r_getR (q := 2) fX5_115 rfl rfl dX5_alter_38 ?_
        refine r_iload_n dX5_alter_41 rfl ?_
        refine r_iload_n dX5_alter_42 rfl ?_
        refine r_iast rfl (by omega) (by omega) dX5_alter_43 ?_
        refine r_iload dX5_alter_44 rfl ?_
        refine r_iret dX5_alter_46 ?_
        first
          | (rw [if_pos (by omega), if_pos (by omega)]; exact zP1.i)
          | (simp only [if_neg (show ¬ ((0 ≤ i ∧ i < mem 1 0) ∧ w = 0 ∧ 0 ≤ v ∧ v ≤ 3) by omega), if_neg (show ¬ (((0 ≤ i ∧ i < mem 1 0) ∧ w = 1 ∧ 0 ≤ v ∧ v ≤ 99) ∧ sTaken (mem 1 0) (mem 3) v i = false) from fun q => by have := q.1; omega)]; exact zP1.i)
          | (simp only [if_neg (show ¬ ((0 ≤ i ∧ i < mem 1 0) ∧ w = 0 ∧ 0 ≤ v ∧ v ≤ 3) by omega), if_neg (show ¬ (((0 ≤ i ∧ i < mem 1 0) ∧ w = 1 ∧ 0 ≤ v ∧ v ≤ 99) ∧ sTaken (mem 1 0) (mem 3) v i = false) from fun q => by rw [show sTaken (mem 1 0) (mem 3) v i = true from h71] at q; exact absurd q.2 (by decide))]; exact zP1.i)
          | (simp only [if_neg (show ¬ ((0 ≤ i ∧ i < mem 1 0) ∧ w = 0 ∧ 0 ≤ v ∧ v ≤ 3) by omega), if_pos (show ((0 ≤ i ∧ i < mem 1 0) ∧ w = 1 ∧ 0 ≤ v ∧ v ≤ 99) ∧ sTaken (mem 1 0) (mem 3) v i = false from ⟨by omega, h71⟩)]; exact zP1.i)
  · refine r_iconst dX5_alter_8 (k := ?_)
    refine r_iret dX5_alter_9 ?_
    first
      | (rw [if_pos (by omega), if_pos (by omega)]; exact zP1.i)
      | (simp only [if_neg (show ¬ ((0 ≤ i ∧ i < mem 1 0) ∧ w = 0 ∧ 0 ≤ v ∧ v ≤ 3) by omega), if_neg (show ¬ (((0 ≤ i ∧ i < mem 1 0) ∧ w = 1 ∧ 0 ≤ v ∧ v ≤ 99) ∧ sTaken (mem 1 0) (mem 3) v i = false) from fun q => by have := q.1; omega)]; exact zP1.i)
      | (simp only [if_neg (show ¬ ((0 ≤ i ∧ i < mem 1 0) ∧ w = 0 ∧ 0 ≤ v ∧ v ≤ 3) by omega), if_neg (show ¬ (((0 ≤ i ∧ i < mem 1 0) ∧ w = 1 ∧ 0 ≤ v ∧ v ≤ 99) ∧ sTaken (mem 1 0) (mem 3) v i = false) from fun q => by rw [show sTaken (mem 1 0) (mem 3) v i = true from h71] at q; exact absurd q.2 (by decide))]; exact zP1.i)
      | (simp only [if_neg (show ¬ ((0 ≤ i ∧ i < mem 1 0) ∧ w = 0 ∧ 0 ≤ v ∧ v ≤ 3) by omega), if_pos (show ((0 ≤ i ∧ i < mem 1 0) ∧ w = 1 ∧ 0 ≤ v ∧ v ≤ 99) ∧ sTaken (mem 1 0) (mem 3) v i = false from ⟨by omega, h71⟩)]; exact zP1.i)
end
