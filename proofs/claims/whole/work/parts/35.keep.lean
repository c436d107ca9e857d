/-! ===== images and sheets, on both sides; count ===== -/
theorem zcp_0' {f g : Int → Int} {a b : Int} : zcp f g a b 0 = g := by
  funext j; unfold zcp; rw [if_neg (by omega)]
theorem zcp_s' {c : Int → Int} {sp dp x : Int} (h : 0 ≤ x) : zu (zcp c c sp dp x) (dp + x) (c (sp + x)) = zcp c c sp dp (x + 1) := by
  funext j
  unfold zu zcp
  by_cases hj : j = dp + x
  · rw [if_pos hj, if_pos (by omega), show sp + (j - dp) = sp + x by omega]
  · rw [if_neg hj]
    by_cases h2 : dp ≤ j ∧ j < dp + x
    · rw [if_pos h2, if_pos (by omega)]
    · rw [if_neg h2, if_neg (by omega)]
section
variable {l : Launch} {G : zG} {mem : zM}
set_option maxRecDepth 100000 in
theorem c_copies (dp sp : Int) (h1 : 0 ≤ dp) (h2 : dp ≤ 152) (h3 : 0 ≤ sp) (h4 : sp ≤ 152) (h5 : dp + 76 ≤ sp ∨ sp + 76 ≤ dp) : KX6_copies l G 0 [zR 65, zI dp, zI sp] mem (zP0 (zr mem 66 (zcp (mem 66) (mem 66) sp dp 76))) := by
  refine CT.of' (own := RX6) (ls0 := [zR 65, zI dp, zI sp, zU]) rfl (by decide +kernel) (Nat.le_of_ble_eq_true rfl) rfl ?_
  have loop : ∀ (k : Nat) (x : Int), 0 ≤ x → x + k = 76 → SW l G (zrm 0) RX6 cX6_copies 4 none (zZ G (zP0 (zr mem 66 (zcp (mem 66) (mem 66) sp dp 76)))) 0 0 (fun _ => True) 2 [zR 65, zI dp, zI sp, zI x] [] (zr mem 66 (zcp (mem 66) (mem 66) sp dp x)) := by
    intro k
    induction k with
    | zero =>
      intro x a b
      refine r_iload_n dX6_copies_2 rfl ?_
      refine r_bipush dX6_copies_3 (k := ?_)
      refine r_icmp_ge (tgt := 30) dX6_copies_5 (by decide) (fun h5 => ?_) (fun h5 => ?_)
      · refine r_vret dX6_copies_30 ?_
        exact zP0.of (by rw [show x = 76 by omega])
      · exact absurd (by omega) h5
    | succ k ih =>
      intro x a b
      have e : zcp (mem 66) (mem 66) sp dp x (sp + x) = mem 66 (sp + x) := by unfold zcp; rw [if_neg (by omega)]
      have hh5 := h5
      refine r_iload_n dX6_copies_2 rfl ?_
      refine r_bipush dX6_copies_3 (k := ?_)
      refine r_icmp_ge (tgt := 30) dX6_copies_5 (by decide) (fun h5 => ?_) (fun h5 => ?_)
      · exact absurd h5 (by omega)
      · refine r_aload_n dX6_copies_8 rfl ?_
        refine r_getR (q := 66) fX6_7 rfl rfl dX6_copies_9 ?_
        try simp only [zr_s]
        refine r_iload_n dX6_copies_12 rfl ?_
        refine r_iload_n dX6_copies_13 rfl ?_
        refine r_iadd dX6_copies_14 ?_
        try rw [zw_id (by omega) (by omega)]
        refine r_aload_n dX6_copies_15 rfl ?_
        refine r_getR (q := 66) fX6_7 rfl rfl dX6_copies_16 ?_
        try simp only [zr_s]
        refine r_iload_n dX6_copies_19 rfl ?_
        refine r_iload_n dX6_copies_20 rfl ?_
        refine r_iadd dX6_copies_21 ?_
        try rw [zw_id (by omega) (by omega)]
        refine r_iald rfl (by omega) (by omega) dX6_copies_22 ?_
        try simp only [zr_s]
        refine r_iast rfl (by omega) (by omega) dX6_copies_23 ?_
        refine r_iinc dX6_copies_24 rfl rfl ?_
        try rw [zw_id (by omega) (by omega)]
        refine r_goto (tgt := 2) dX6_copies_27 (by decide) ?_
        rw [e, zs_zr, zcp_s' a]
        exact ih _ (by omega) (by omega)
  refine r_iconst dX6_copies_0 (k := ?_)
  refine r_istore_n dX6_copies_1 rfl ?_
  have fin := loop 76 0 (by omega) (by omega)
  rw [zcp_0', zr_self] at fin
  exact fin
set_option maxRecDepth 100000 in
theorem c_X5_keep0 : KX5_keep l G 2 [zR 0, zI 0] mem (zP1 (zI (if mem 20 0 = 0 then 0 else 1)) (zBeS (zBec (zs mem 20 0 1) 21 1) 28 15)) := by
  refine CT.of' (own := RX5) (ls0 := [zR 0, zI 0, zU]) rfl (by decide +kernel) (Nat.le_of_ble_eq_true rfl) rfl ?_
  refine r_iload_n dX5_keep_0 rfl ?_
  refine r_iconst dX5_keep_1 (k := ?_)
  refine r_aload_n dX5_keep_2 rfl ?_
  refine r_getR (q := 19) fX5_29 rfl rfl dX5_keep_3 ?_
  refine r_alenM rfl (by unfold zin32; decide) dX5_keep_6 ?_
  refine r_iconst dX5_keep_7 (k := ?_)
  refine r_isub dX5_keep_8 ?_
  try rw [zw_id (by omega) (by omega)]
  refine r_s3 (c_isWithin _ _ _) kX5_156 dX5_keep_9 ?_
  refine r_ifd_ne (tgt := 17) dX5_keep_12 (by decide) (fun h12 => ?_) (fun h12 => ?_)
  · refine r_aload_n dX5_keep_17 rfl ?_
    refine r_getR (q := 19) fX5_29 rfl rfl dX5_keep_18 ?_
    refine r_iload_n dX5_keep_21 rfl ?_
    refine r_aaldM (q := 20) rfl (by decide) (by decide) rfl dX5_keep_22 ?_
    refine r_gI (q := 0) rfl fX5_82 rfl (by decide) dX5_keep_23 ?_
    refine r_if_eq (tgt := 33) dX5_keep_26 (by decide) (fun h26 => ?_) (fun h26 => ?_)
    · refine r_iconst dX5_keep_33 (k := ?_)
      refine r_istore_n dX5_keep_34 rfl ?_
      refine r_aload_n dX5_keep_35 rfl ?_
      refine r_getR (q := 19) fX5_29 rfl rfl dX5_keep_36 ?_
      refine r_iload_n dX5_keep_39 rfl ?_
      refine r_aaldM (q := 20) rfl (by decide) (by decide) rfl dX5_keep_40 ?_
      refine r_iconst dX5_keep_41 (k := ?_)
      refine r_pZ (q := 0) rfl pX5_82 rfl (by decide) dX5_keep_42 ?_
      refine r_aload_n dX5_keep_45 rfl ?_
      refine r_getR (q := 19) fX5_29 rfl rfl dX5_keep_46 ?_
      refine r_iload_n dX5_keep_49 rfl ?_
      refine r_aaldM (q := 20) rfl (by decide) (by decide) rfl dX5_keep_50 ?_
      refine r_getR (q := 21) fX5_234 rfl rfl dX5_keep_51 ?_
      refine r_aload_n dX5_keep_54 rfl ?_
      refine r_getR (q := 1) fX5_10 rfl rfl dX5_keep_55 ?_
      refine r_w1 (c_X0_become hF21 hF1 (by decide)) kX5_75 rfl dX5_keep_58 ?_
      refine r_aload_n dX5_keep_61 rfl ?_
      refine r_getR (q := 19) fX5_29 rfl rfl dX5_keep_62 ?_
      refine r_iload_n dX5_keep_65 rfl ?_
      refine r_aaldM (q := 20) rfl (by decide) (by decide) rfl dX5_keep_66 ?_
      refine r_getR (q := 28) fX5_237 rfl rfl dX5_keep_67 ?_
      refine r_aload_n dX5_keep_70 rfl ?_
      refine r_getR (q := 15) fX5_22 rfl rfl dX5_keep_71 ?_
      refine r_w1 (c_X4_become hS28 hS15 (by decide)) kX5_238 rfl dX5_keep_74 ?_
      refine r_iload_n dX5_keep_77 rfl ?_
      refine r_iret dX5_keep_78 ?_
      first | (rw [if_pos h26]; exact zP1.i) | (rw [if_neg h26]; exact zP1.i)
    · refine r_iconst dX5_keep_29 (k := ?_)
      refine r_goto (tgt := 34) dX5_keep_30 (by decide) ?_
      refine r_istore_n dX5_keep_34 rfl ?_
      refine r_aload_n dX5_keep_35 rfl ?_
      refine r_getR (q := 19) fX5_29 rfl rfl dX5_keep_36 ?_
      refine r_iload_n dX5_keep_39 rfl ?_
      refine r_aaldM (q := 20) rfl (by decide) (by decide) rfl dX5_keep_40 ?_
      refine r_iconst dX5_keep_41 (k := ?_)
      refine r_pZ (q := 0) rfl pX5_82 rfl (by decide) dX5_keep_42 ?_
      refine r_aload_n dX5_keep_45 rfl ?_
      refine r_getR (q := 19) fX5_29 rfl rfl dX5_keep_46 ?_
      refine r_iload_n dX5_keep_49 rfl ?_
      refine r_aaldM (q := 20) rfl (by decide) (by decide) rfl dX5_keep_50 ?_
      refine r_getR (q := 21) fX5_234 rfl rfl dX5_keep_51 ?_
      refine r_aload_n dX5_keep_54 rfl ?_
      refine r_getR (q := 1) fX5_10 rfl rfl dX5_keep_55 ?_
      refine r_w1 (c_X0_become hF21 hF1 (by decide)) kX5_75 rfl dX5_keep_58 ?_
      refine r_aload_n dX5_keep_61 rfl ?_
      refine r_getR (q := 19) fX5_29 rfl rfl dX5_keep_62 ?_
      refine r_iload_n dX5_keep_65 rfl ?_
      refine r_aaldM (q := 20) rfl (by decide) (by decide) rfl dX5_keep_66 ?_
      refine r_getR (q := 28) fX5_237 rfl rfl dX5_keep_67 ?_
      refine r_aload_n dX5_keep_70 rfl ?_
      refine r_getR (q := 15) fX5_22 rfl rfl dX5_keep_71 ?_
      refine r_w1 (c_X4_become hS28 hS15 (by decide)) kX5_238 rfl dX5_keep_74 ?_
      refine r_iload_n dX5_keep_77 rfl ?_
      refine r_iret dX5_keep_78 ?_
      first | (rw [if_pos h26]; exact zP1.i) | (rw [if_neg h26]; exact zP1.i)
  · exact absurd (by decide) h12
set_option maxRecDepth 100000 in
theorem c_X5_keep1 : KX5_keep l G 2 [zR 0, zI 1] mem (zP1 (zI (if mem 32 0 = 0 then 0 else 1)) (zBeS (zBec (zs mem 32 0 1) 33 1) 40 15)) := by
  refine CT.of' (own := RX5) (ls0 := [zR 0, zI 1, zU]) rfl (by decide +kernel) (Nat.le_of_ble_eq_true rfl) rfl ?_
  refine r_iload_n dX5_keep_0 rfl ?_
  refine r_iconst dX5_keep_1 (k := ?_)
  refine r_aload_n dX5_keep_2 rfl ?_
  refine r_getR (q := 19) fX5_29 rfl rfl dX5_keep_3 ?_
  refine r_alenM rfl (by unfold zin32; decide) dX5_keep_6 ?_
  refine r_iconst dX5_keep_7 (k := ?_)
  refine r_isub dX5_keep_8 ?_
  try rw [zw_id (by omega) (by omega)]
  refine r_s3 (c_isWithin _ _ _) kX5_156 dX5_keep_9 ?_
  refine r_ifd_ne (tgt := 17) dX5_keep_12 (by decide) (fun h12 => ?_) (fun h12 => ?_)
  · refine r_aload_n dX5_keep_17 rfl ?_
    refine r_getR (q := 19) fX5_29 rfl rfl dX5_keep_18 ?_
    refine r_iload_n dX5_keep_21 rfl ?_
    refine r_aaldM (q := 32) rfl (by decide) (by decide) rfl dX5_keep_22 ?_
    refine r_gI (q := 0) rfl fX5_82 rfl (by decide) dX5_keep_23 ?_
    refine r_if_eq (tgt := 33) dX5_keep_26 (by decide) (fun h26 => ?_) (fun h26 => ?_)
    · refine r_iconst dX5_keep_33 (k := ?_)
      refine r_istore_n dX5_keep_34 rfl ?_
      refine r_aload_n dX5_keep_35 rfl ?_
      refine r_getR (q := 19) fX5_29 rfl rfl dX5_keep_36 ?_
      refine r_iload_n dX5_keep_39 rfl ?_
      refine r_aaldM (q := 32) rfl (by decide) (by decide) rfl dX5_keep_40 ?_
      refine r_iconst dX5_keep_41 (k := ?_)
      refine r_pZ (q := 0) rfl pX5_82 rfl (by decide) dX5_keep_42 ?_
      refine r_aload_n dX5_keep_45 rfl ?_
      refine r_getR (q := 19) fX5_29 rfl rfl dX5_keep_46 ?_
      refine r_iload_n dX5_keep_49 rfl ?_
      refine r_aaldM (q := 32) rfl (by decide) (by decide) rfl dX5_keep_50 ?_
      refine r_getR (q := 33) fX5_234 rfl rfl dX5_keep_51 ?_
      refine r_aload_n dX5_keep_54 rfl ?_
      refine r_getR (q := 1) fX5_10 rfl rfl dX5_keep_55 ?_
      refine r_w1 (c_X0_become hF33 hF1 (by decide)) kX5_75 rfl dX5_keep_58 ?_
      refine r_aload_n dX5_keep_61 rfl ?_
      refine r_getR (q := 19) fX5_29 rfl rfl dX5_keep_62 ?_
      refine r_iload_n dX5_keep_65 rfl ?_
      refine r_aaldM (q := 32) rfl (by decide) (by decide) rfl dX5_keep_66 ?_
      refine r_getR (q := 40) fX5_237 rfl rfl dX5_keep_67 ?_
      refine r_aload_n dX5_keep_70 rfl ?_
      refine r_getR (q := 15) fX5_22 rfl rfl dX5_keep_71 ?_
      refine r_w1 (c_X4_become hS40 hS15 (by decide)) kX5_238 rfl dX5_keep_74 ?_
      refine r_iload_n dX5_keep_77 rfl ?_
      refine r_iret dX5_keep_78 ?_
      first | (rw [if_pos h26]; exact zP1.i) | (rw [if_neg h26]; exact zP1.i)
    · refine r_iconst dX5_keep_29 (k := ?_)
      refine r_goto (tgt := 34) dX5_keep_30 (by decide) ?_
      refine r_istore_n dX5_keep_34 rfl ?_
      refine r_aload_n dX5_keep_35 rfl ?_
      refine r_getR (q := 19) fX5_29 rfl rfl dX5_keep_36 ?_
      refine r_iload_n dX5_keep_39 rfl ?_
      refine r_aaldM (q := 32) rfl (by decide) (by decide) rfl dX5_keep_40 ?_
      refine r_iconst dX5_keep_41 (k := ?_)
      refine r_pZ (q := 0) rfl pX5_82 rfl (by decide) dX5_keep_42 ?_
      refine r_aload_n dX5_keep_45 rfl ?_
      refine r_getR (q := 19) fX5_29 rfl rfl dX5_keep_46 ?_
      refine r_iload_n dX5_keep_49 rfl ?_
      refine r_aaldM (q := 32) rfl (by decide) (by decide) rfl dX5_keep_50 ?_
      refine r_getR (q := 33) fX5_234 rfl rfl dX5_keep_51 ?_
      refine r_aload_n dX5_keep_54 rfl ?_
      refine r_getR (q := 1) fX5_10 rfl rfl dX5_keep_55 ?_
      refine r_w1 (c_X0_become hF33 hF1 (by decide)) kX5_75 rfl dX5_keep_58 ?_
      refine r_aload_n dX5_keep_61 rfl ?_
      refine r_getR (q := 19) fX5_29 rfl rfl dX5_keep_62 ?_
      refine r_iload_n dX5_keep_65 rfl ?_
      refine r_aaldM (q := 32) rfl (by decide) (by decide) rfl dX5_keep_66 ?_
      refine r_getR (q := 40) fX5_237 rfl rfl dX5_keep_67 ?_
      refine r_aload_n dX5_keep_70 rfl ?_
      refine r_getR (q := 15) fX5_22 rfl rfl dX5_keep_71 ?_
      refine r_w1 (c_X4_become hS40 hS15 (by decide)) kX5_238 rfl dX5_keep_74 ?_
      refine r_iload_n dX5_keep_77 rfl ?_
      refine r_iret dX5_keep_78 ?_
      first | (rw [if_pos h26]; exact zP1.i) | (rw [if_neg h26]; exact zP1.i)
  · exact absurd (by decide) h12
set_option maxRecDepth 100000 in
theorem c_X5_keepB (k : Int) (h : k < 0 ∨ 1 < k) : KX5_keep l G 2 [zR 0, zI k] mem (zP1 (zI (-1)) mem) := by
  refine CT.of' (own := RX5) (ls0 := [zR 0, zI k, zU]) rfl (by decide +kernel) (Nat.le_of_ble_eq_true rfl) rfl ?_
  refine r_iload_n dX5_keep_0 rfl ?_
  refine r_iconst dX5_keep_1 (k := ?_)
  refine r_aload_n dX5_keep_2 rfl ?_
  refine r_getR (q := 19) fX5_29 rfl rfl dX5_keep_3 ?_
  refine r_alenM rfl (by unfold zin32; decide) dX5_keep_6 ?_
  refine r_iconst dX5_keep_7 (k := ?_)
  refine r_isub dX5_keep_8 ?_
  try rw [zw_id (by omega) (by omega)]
  refine r_s3 (c_isWithin _ _ _) kX5_156 dX5_keep_9 ?_
  refine r_ifd_ne (tgt := 17) dX5_keep_12 (by decide) (fun h12 => ?_) (fun h12 => ?_)
  · exact absurd h12 (by omega)
  · refine r_iconst dX5_keep_15 (k := ?_)
    refine r_iret dX5_keep_16 ?_
    exact zP1.i
set_option maxRecDepth 100000 in
theorem c_X5_back0 : KX5_back l G 2 [zR 0, zI 0] mem (zP1 (zI (if mem 20 0 = 0 then -2 else (zBeS (zBec mem 1 21) 15 28) 1 9)) (if mem 20 0 = 0 then mem else zBeS (zBec mem 1 21) 15 28)) := by
  refine CT.of' (own := RX5) (ls0 := [zR 0, zI 0]) rfl (by decide +kernel) (Nat.le_of_ble_eq_true rfl) rfl ?_
  refine r_iload_n dX5_back_0 rfl ?_
  refine r_iconst dX5_back_1 (k := ?_)
  refine r_aload_n dX5_back_2 rfl ?_
  refine r_getR (q := 19) fX5_29 rfl rfl dX5_back_3 ?_
  refine r_alenM rfl (by unfold zin32; decide) dX5_back_6 ?_
  refine r_iconst dX5_back_7 (k := ?_)
  refine r_isub dX5_back_8 ?_
  try rw [zw_id (by omega) (by omega)]
  refine r_s3 (c_isWithin _ _ _) kX5_156 dX5_back_9 ?_
  refine r_ifd_ne (tgt := 17) dX5_back_12 (by decide) (fun h12 => ?_) (fun h12 => ?_)
  · refine r_aload_n dX5_back_17 rfl ?_
    refine r_getR (q := 19) fX5_29 rfl rfl dX5_back_18 ?_
    refine r_iload_n dX5_back_21 rfl ?_
    refine r_aaldM (q := 20) rfl (by decide) (by decide) rfl dX5_back_22 ?_
    refine r_gI (q := 0) rfl fX5_82 rfl (by decide) dX5_back_23 ?_
    refine r_if_ne (tgt := 32) dX5_back_26 (by decide) (fun h26 => ?_) (fun h26 => ?_)
    · refine r_aload_n dX5_back_32 rfl ?_
      refine r_getR (q := 1) fX5_10 rfl rfl dX5_back_33 ?_
      refine r_aload_n dX5_back_36 rfl ?_
      refine r_getR (q := 19) fX5_29 rfl rfl dX5_back_37 ?_
      refine r_iload_n dX5_back_40 rfl ?_
      refine r_aaldM (q := 20) rfl (by decide) (by decide) rfl dX5_back_41 ?_
      refine r_getR (q := 21) fX5_234 rfl rfl dX5_back_42 ?_
      refine r_w1 (c_X0_become hF1 hF21 (by decide)) kX5_75 rfl dX5_back_45 ?_
      refine r_aload_n dX5_back_48 rfl ?_
      refine r_getR (q := 15) fX5_22 rfl rfl dX5_back_49 ?_
      refine r_aload_n dX5_back_52 rfl ?_
      refine r_getR (q := 19) fX5_29 rfl rfl dX5_back_53 ?_
      refine r_iload_n dX5_back_56 rfl ?_
      refine r_aaldM (q := 20) rfl (by decide) (by decide) rfl dX5_back_57 ?_
      refine r_getR (q := 28) fX5_237 rfl rfl dX5_back_58 ?_
      refine r_w1 (c_X4_become hS15 hS28 (by decide)) kX5_238 rfl dX5_back_61 ?_
      refine r_aload_n dX5_back_64 rfl ?_
      refine r_getR (q := 1) fX5_10 rfl rfl dX5_back_65 ?_
      refine r_gI (q := 9) rfl fX5_98 rfl (by decide) dX5_back_68 ?_
      refine r_iret dX5_back_71 ?_
      first | (rw [if_pos h26, if_pos h26]; exact zP1.i) | (rw [if_neg h26, if_neg h26]; exact zP1.i)
    · refine r_bipush dX5_back_29 (k := ?_)
      refine r_iret dX5_back_31 ?_
      first | (rw [if_pos h26, if_pos h26]; exact zP1.i) | (rw [if_neg h26, if_neg h26]; exact zP1.i)
  · exact absurd (by decide) h12
set_option maxRecDepth 100000 in
theorem c_X5_back1 : KX5_back l G 2 [zR 0, zI 1] mem (zP1 (zI (if mem 32 0 = 0 then -2 else (zBeS (zBec mem 1 33) 15 40) 1 9)) (if mem 32 0 = 0 then mem else zBeS (zBec mem 1 33) 15 40)) := by
  refine CT.of' (own := RX5) (ls0 := [zR 0, zI 1]) rfl (by decide +kernel) (Nat.le_of_ble_eq_true rfl) rfl ?_
  refine r_iload_n dX5_back_0 rfl ?_
  refine r_iconst dX5_back_1 (k := ?_)
  refine r_aload_n dX5_back_2 rfl ?_
  refine r_getR (q := 19) fX5_29 rfl rfl dX5_back_3 ?_
  refine r_alenM rfl (by unfold zin32; decide) dX5_back_6 ?_
  refine r_iconst dX5_back_7 (k := ?_)
  refine r_isub dX5_back_8 ?_
  try rw [zw_id (by omega) (by omega)]
  refine r_s3 (c_isWithin _ _ _) kX5_156 dX5_back_9 ?_
  refine r_ifd_ne (tgt := 17) dX5_back_12 (by decide) (fun h12 => ?_) (fun h12 => ?_)
  · refine r_aload_n dX5_back_17 rfl ?_
    refine r_getR (q := 19) fX5_29 rfl rfl dX5_back_18 ?_
    refine r_iload_n dX5_back_21 rfl ?_
    refine r_aaldM (q := 32) rfl (by decide) (by decide) rfl dX5_back_22 ?_
    refine r_gI (q := 0) rfl fX5_82 rfl (by decide) dX5_back_23 ?_
    refine r_if_ne (tgt := 32) dX5_back_26 (by decide) (fun h26 => ?_) (fun h26 => ?_)
    · refine r_aload_n dX5_back_32 rfl ?_
      refine r_getR (q := 1) fX5_10 rfl rfl dX5_back_33 ?_
      refine r_aload_n dX5_back_36 rfl ?_
      refine r_getR (q := 19) fX5_29 rfl rfl dX5_back_37 ?_
      refine r_iload_n dX5_back_40 rfl ?_
      refine r_aaldM (q := 32) rfl (by decide) (by decide) rfl dX5_back_41 ?_
      refine r_getR (q := 33) fX5_234 rfl rfl dX5_back_42 ?_
      refine r_w1 (c_X0_become hF1 hF33 (by decide)) kX5_75 rfl dX5_back_45 ?_
      refine r_aload_n dX5_back_48 rfl ?_
      refine r_getR (q := 15) fX5_22 rfl rfl dX5_back_49 ?_
      refine r_aload_n dX5_back_52 rfl ?_
      refine r_getR (q := 19) fX5_29 rfl rfl dX5_back_53 ?_
      refine r_iload_n dX5_back_56 rfl ?_
      refine r_aaldM (q := 32) rfl (by decide) (by decide) rfl dX5_back_57 ?_
      refine r_getR (q := 40) fX5_237 rfl rfl dX5_back_58 ?_
      refine r_w1 (c_X4_become hS15 hS40 (by decide)) kX5_238 rfl dX5_back_61 ?_
      refine r_aload_n dX5_back_64 rfl ?_
      refine r_getR (q := 1) fX5_10 rfl rfl dX5_back_65 ?_
      refine r_gI (q := 9) rfl fX5_98 rfl (by decide) dX5_back_68 ?_
      refine r_iret dX5_back_71 ?_
      first | (rw [if_pos h26, if_pos h26]; exact zP1.i) | (rw [if_neg h26, if_neg h26]; exact zP1.i)
    · refine r_bipush dX5_back_29 (k := ?_)
      refine r_iret dX5_back_31 ?_
      first | (rw [if_pos h26, if_pos h26]; exact zP1.i) | (rw [if_neg h26, if_neg h26]; exact zP1.i)
  · exact absurd (by decide) h12
set_option maxRecDepth 100000 in
theorem c_X5_backB (k : Int) (h : k < 0 ∨ 1 < k) : KX5_back l G 2 [zR 0, zI k] mem (zP1 (zI (-1)) mem) := by
  refine CT.of' (own := RX5) (ls0 := [zR 0, zI k]) rfl (by decide +kernel) (Nat.le_of_ble_eq_true rfl) rfl ?_
  refine r_iload_n dX5_back_0 rfl ?_
  refine r_iconst dX5_back_1 (k := ?_)
  refine r_aload_n dX5_back_2 rfl ?_
  refine r_getR (q := 19) fX5_29 rfl rfl dX5_back_3 ?_
  refine r_alenM rfl (by unfold zin32; decide) dX5_back_6 ?_
  refine r_iconst dX5_back_7 (k := ?_)
  refine r_isub dX5_back_8 ?_
  try rw [zw_id (by omega) (by omega)]
  refine r_s3 (c_isWithin _ _ _) kX5_156 dX5_back_9 ?_
  refine r_ifd_ne (tgt := 17) dX5_back_12 (by decide) (fun h12 => ?_) (fun h12 => ?_)
  · exact absurd h12 (by omega)
  · refine r_iconst dX5_back_15 (k := ?_)
    refine r_iret dX5_back_16 ?_
    exact zP1.i
set_option maxRecDepth 100000 in
theorem c_X6_keep (k : Int) (hz : mem 68 k = 0 ∨ mem 68 k = 1) : KX6_keep l G 1 [zR 65, zI k] mem (zP1 (zI (if 0 ≤ k ∧ k ≤ 1 then mem 68 k else -1)) (if 0 ≤ k ∧ k ≤ 1 then zr (zs mem 68 k 1) 66 (zcp (mem 66) (mem 66) 0 (76 * (k + 1)) 76) else mem)) := by
  refine CT.of' (own := RX6) (ls0 := [zR 65, zI k, zU]) rfl (by decide +kernel) (Nat.le_of_ble_eq_true rfl) rfl ?_
  refine r_iload_n dX6_keep_0 rfl ?_
  refine r_i2l dX6_keep_1 ?_
  refine r_lconst dX6_keep_2 rfl (k := ?_)
  refine r_lconst dX6_keep_3 rfl (k := ?_)
  refine r_s3 (c_in _ _ _) kX6_69 dX6_keep_4 ?_
  refine r_ifd_ne (tgt := 12) dX6_keep_7 (by decide) (fun h7 => ?_) (fun h7 => ?_)
  · refine r_aload_n dX6_keep_12 rfl ?_
    refine r_getR (q := 68) fX6_16 rfl rfl dX6_keep_13 ?_
    refine r_iload_n dX6_keep_16 rfl ?_
    refine r_zald rfl (by omega) (by omega) dX6_keep_17 ?_
    refine r_s1 (c_flag _ hz) kX6_200 dX6_keep_18 ?_
    refine r_istore_n dX6_keep_21 rfl ?_
    refine r_aload_n dX6_keep_22 rfl ?_
    refine r_getR (q := 68) fX6_16 rfl rfl dX6_keep_23 ?_
    refine r_iload_n dX6_keep_26 rfl ?_
    refine r_iconst dX6_keep_27 (k := ?_)
    refine r_zast rfl (by omega) (by omega) (by decide) dX6_keep_28 ?_
    refine r_aload_n dX6_keep_29 rfl ?_
    refine r_bipush dX6_keep_30 (k := ?_)
    refine r_iload_n dX6_keep_32 rfl ?_
    refine r_iconst dX6_keep_33 (k := ?_)
    refine r_iadd dX6_keep_34 ?_
    try rw [zw_id (by omega) (by omega)]
    refine r_imul dX6_keep_35 ?_
    try rw [zw_id (by omega) (by omega)]
    refine r_iconst dX6_keep_36 (k := ?_)
    refine r_w2 (c_copies _ _ (by omega) (by omega) (by omega) (by omega) (by omega)) kX6_307 rfl dX6_keep_37 ?_
    rw [zs_n (by decide)]
    refine r_iload_n dX6_keep_40 rfl ?_
    refine r_iret dX6_keep_41 ?_
    first | (rw [if_pos (show 0 ≤ k ∧ k ≤ 1 from h7), if_pos (show 0 ≤ k ∧ k ≤ 1 from h7)]; exact zP1.i) | (rw [if_neg (show ¬ (0 ≤ k ∧ k ≤ 1) from h7), if_neg (show ¬ (0 ≤ k ∧ k ≤ 1) from h7)]; exact zP1.i)
  · refine r_iconst dX6_keep_10 (k := ?_)
    refine r_iret dX6_keep_11 ?_
    first | (rw [if_pos (show 0 ≤ k ∧ k ≤ 1 from h7), if_pos (show 0 ≤ k ∧ k ≤ 1 from h7)]; exact zP1.i) | (rw [if_neg (show ¬ (0 ≤ k ∧ k ≤ 1) from h7), if_neg (show ¬ (0 ≤ k ∧ k ≤ 1) from h7)]; exact zP1.i)
set_option maxRecDepth 100000 in
theorem c_X6_back (k : Int) : KX6_back l G 1 [zR 65, zI k] mem (zP1 (zI (if 0 ≤ k ∧ k ≤ 1 then (if mem 68 k = 0 then -2 else zcp (mem 66) (mem 66) (76 * (k + 1)) 0 76 54) else -1)) (if 0 ≤ k ∧ k ≤ 1 then (if mem 68 k = 0 then mem else zr mem 66 (zcp (mem 66) (mem 66) (76 * (k + 1)) 0 76)) else mem)) := by
  refine CT.of' (own := RX6) (ls0 := [zR 65, zI k]) rfl (by decide +kernel) (Nat.le_of_ble_eq_true rfl) rfl ?_
  refine r_iload_n dX6_back_0 rfl ?_
  refine r_i2l dX6_back_1 ?_
  refine r_lconst dX6_back_2 rfl (k := ?_)
  refine r_lconst dX6_back_3 rfl (k := ?_)
  refine r_s3 (c_in _ _ _) kX6_69 dX6_back_4 ?_
  refine r_ifd_ne (tgt := 12) dX6_back_7 (by decide) (fun h7 => ?_) (fun h7 => ?_)
  · refine r_aload_n dX6_back_12 rfl ?_
    refine r_getR (q := 68) fX6_16 rfl rfl dX6_back_13 ?_
    refine r_iload_n dX6_back_16 rfl ?_
    refine r_zald rfl (by omega) (by omega) dX6_back_17 ?_
    refine r_if_ne (tgt := 24) dX6_back_18 (by decide) (fun h18 => ?_) (fun h18 => ?_)
    · refine r_aload_n dX6_back_24 rfl ?_
      refine r_iconst dX6_back_25 (k := ?_)
      refine r_bipush dX6_back_26 (k := ?_)
      refine r_iload_n dX6_back_28 rfl ?_
      refine r_iconst dX6_back_29 (k := ?_)
      refine r_iadd dX6_back_30 ?_
      try rw [zw_id (by omega) (by omega)]
      refine r_imul dX6_back_31 ?_
      try rw [zw_id (by omega) (by omega)]
      refine r_w2 (c_copies _ _ (by omega) (by omega) (by omega) (by omega) (by omega)) kX6_307 rfl dX6_back_32 ?_
      refine r_aload_n dX6_back_35 rfl ?_
      refine r_getR (q := 66) fX6_7 rfl rfl dX6_back_36 ?_
      refine r_bipush dX6_back_39 (k := ?_)
      refine r_iald rfl (by omega) (by omega) dX6_back_41 ?_
      rw [zr_s]
      refine r_iret dX6_back_42 ?_
      first | (rw [if_neg (show ¬ (0 ≤ k ∧ k ≤ 1) from h7), if_neg (show ¬ (0 ≤ k ∧ k ≤ 1) from h7)]; exact zP1.i) | (simp only [if_pos (show 0 ≤ k ∧ k ≤ 1 from h7), if_pos h18]; exact zP1.i) | (simp only [if_pos (show 0 ≤ k ∧ k ≤ 1 from h7), if_neg h18]; exact zP1.i)
    · refine r_bipush dX6_back_21 (k := ?_)
      refine r_iret dX6_back_23 ?_
      first | (rw [if_neg (show ¬ (0 ≤ k ∧ k ≤ 1) from h7), if_neg (show ¬ (0 ≤ k ∧ k ≤ 1) from h7)]; exact zP1.i) | (simp only [if_pos (show 0 ≤ k ∧ k ≤ 1 from h7), if_pos h18]; exact zP1.i) | (simp only [if_pos (show 0 ≤ k ∧ k ≤ 1 from h7), if_neg h18]; exact zP1.i)
  · refine r_iconst dX6_back_10 (k := ?_)
    refine r_iret dX6_back_11 ?_
    first | (rw [if_neg (show ¬ (0 ≤ k ∧ k ≤ 1) from h7), if_neg (show ¬ (0 ≤ k ∧ k ≤ 1) from h7)]; exact zP1.i) | (simp only [if_pos (show 0 ≤ k ∧ k ≤ 1 from h7), if_pos h18]; exact zP1.i) | (simp only [if_pos (show 0 ≤ k ∧ k ≤ 1 from h7), if_neg h18]; exact zP1.i)
/-- the place of a sheet -/
def shp (k : Int) : Nat := 45 + 2 * k.toNat
theorem shp_H {k : Int} (h0 : 0 ≤ k) (h1 : k ≤ 3) : isH (shp k) := by
  rcases (show k = 0 ∨ k = 1 ∨ k = 2 ∨ k = 3 by omega) with rfl | rfl | rfl | rfl
  · exact Or.inl rfl
  · exact Or.inr (Or.inl rfl)
  · exact Or.inr (Or.inr (Or.inl rfl))
  · exact Or.inr (Or.inr (Or.inr rfl))
theorem shp_at {k : Int} (h0 : 0 ≤ k) (h1 : k ≤ 3) : zRf 44 k.toNat = shp k := by
  rcases (show k = 0 ∨ k = 1 ∨ k = 2 ∨ k = 3 by omega) with rfl | rfl | rfl | rfl <;> rfl
set_option maxRecDepth 100000 in
theorem c_X5_sheet (k ln n : Int) : KX5_sheet l G 2 [zR 0, zI k, zI ln, zI n] mem (zP1 (zI (if (0 ≤ k ∧ k ≤ 3) ∧ (0 ≤ ln ∧ ln ≤ 2) ∧ n ≤ 40 then (if n < 0 then -14 else 1) else -1)) (if (0 ≤ k ∧ k ≤ 3) ∧ (0 ≤ ln ∧ ln ≤ 2) ∧ 0 ≤ n ∧ n ≤ 40 then zr (zs (zs mem (shp k) 0 ln) (shp k) 1 n) (shp k + 1) (zfil (mem (shp k + 1)) 0 40) else mem)) := by
  refine CT.of' (own := RX5) (ls0 := [zR 0, zI k, zI ln, zI n]) rfl (by decide +kernel) (Nat.le_of_ble_eq_true rfl) rfl ?_
  refine r_iload_n dX5_sheet_0 rfl ?_
  refine r_iconst dX5_sheet_1 (k := ?_)
  refine r_iconst dX5_sheet_2 (k := ?_)
  refine r_s3 (c_isWithin _ _ _) kX5_156 dX5_sheet_3 ?_
  refine r_ifd_eq (tgt := 24) dX5_sheet_6 (by decide) (fun h6 => ?_) (fun h6 => ?_)
  · refine r_iconst dX5_sheet_24 (k := ?_)
    refine r_iret dX5_sheet_25 ?_
    first | (rw [if_pos (by omega), if_pos (by omega), if_neg (by omega)]; exact zP1.i) | (rw [if_pos (by omega), if_neg (by omega), if_pos (by omega)]; exact zP1.i) | (rw [if_neg (by omega), if_neg (by omega)]; exact zP1.i)
  · refine r_iload_n dX5_sheet_9 rfl ?_
    refine r_iconst dX5_sheet_10 (k := ?_)
    refine r_iconst dX5_sheet_11 (k := ?_)
    refine r_s3 (c_isWithin _ _ _) kX5_156 dX5_sheet_12 ?_
    refine r_ifd_eq (tgt := 24) dX5_sheet_15 (by decide) (fun h15 => ?_) (fun h15 => ?_)
    · refine r_iconst dX5_sheet_24 (k := ?_)
      refine r_iret dX5_sheet_25 ?_
      first | (rw [if_pos (by omega), if_pos (by omega), if_neg (by omega)]; exact zP1.i) | (rw [if_pos (by omega), if_neg (by omega), if_pos (by omega)]; exact zP1.i) | (rw [if_neg (by omega), if_neg (by omega)]; exact zP1.i)
    · refine r_iload_n dX5_sheet_18 rfl ?_
      refine r_bipush dX5_sheet_19 (k := ?_)
      refine r_icmp_le (tgt := 26) dX5_sheet_21 (by decide) (fun h21 => ?_) (fun h21 => ?_)
      · refine r_iload_n dX5_sheet_26 rfl ?_
        refine r_if_ge (tgt := 33) dX5_sheet_27 (by decide) (fun h27 => ?_) (fun h27 => ?_)
        · refine r_aload_n dX5_sheet_33 rfl ?_
          refine r_getR (q := 44) fX5_36 rfl rfl dX5_sheet_34 ?_
          refine r_iload_n dX5_sheet_37 rfl ?_
          refine r_aaldS rfl (by omega) (by omega) (shp_at (by omega) (by omega)) dX5_sheet_38 ?_
          refine r_iload_n dX5_sheet_39 rfl ?_
          refine r_iload_n dX5_sheet_40 rfl ?_
          refine r_w2 (c_X3_renew (shp_H (by omega) (by omega)) _ _) kX5_241 (zlH (shp_H (by omega) (by omega))) dX5_sheet_41 ?_
          refine r_iconst dX5_sheet_44 (k := ?_)
          refine r_iret dX5_sheet_45 ?_
          first | (rw [if_pos (by omega), if_pos (by omega), if_neg (by omega)]; exact zP1.i) | (rw [if_pos (by omega), if_neg (by omega), if_pos (by omega)]; exact zP1.i) | (rw [if_neg (by omega), if_neg (by omega)]; exact zP1.i)
        · refine r_bipush dX5_sheet_30 (k := ?_)
          refine r_iret dX5_sheet_32 ?_
          first | (rw [if_pos (by omega), if_pos (by omega), if_neg (by omega)]; exact zP1.i) | (rw [if_pos (by omega), if_neg (by omega), if_pos (by omega)]; exact zP1.i) | (rw [if_neg (by omega), if_neg (by omega)]; exact zP1.i)
      · refine r_iconst dX5_sheet_24 (k := ?_)
        refine r_iret dX5_sheet_25 ?_
        first | (rw [if_pos (by omega), if_pos (by omega), if_neg (by omega)]; exact zP1.i) | (rw [if_pos (by omega), if_neg (by omega), if_pos (by omega)]; exact zP1.i) | (rw [if_neg (by omega), if_neg (by omega)]; exact zP1.i)
set_option maxRecDepth 100000 in
theorem c_X5_lay (k i v : Int) (hs : ∀ k, 0 ≤ k → k ≤ 3 → mem (shp k) 1 ≤ 40) : KX5_lay l G 1 [zR 0, zI k, zI i, zI v] mem (zP1 (zI (if 0 ≤ k ∧ k ≤ 3 then (if sFault (mem (shp k) 0) (mem (shp k) 1) (mem (shp k) 0) i = 0 then 1 else -10 - sFault (mem (shp k) 0) (mem (shp k) 1) (mem (shp k) 0) i) else -1)) (if (0 ≤ k ∧ k ≤ 3) ∧ sFault (mem (shp k) 0) (mem (shp k) 1) (mem (shp k) 0) i = 0 then zs mem (shp k + 1) i (sLane (mem (shp k) 0) v) else mem)) := by
  have fb : 0 ≤ sFault (mem (shp k) 0) (mem (shp k) 1) (mem (shp k) 0) i ∧ sFault (mem (shp k) 0) (mem (shp k) 1) (mem (shp k) 0) i ≤ 3 := by unfold sFault; split <;> (try split) <;> (try split) <;> omega
  have fi : sFault (mem (shp k) 0) (mem (shp k) 1) (mem (shp k) 0) i = 0 → 0 ≤ i ∧ i < mem (shp k) 1 := by
    intro h
    unfold sFault at h
    rw [if_pos rfl] at h
    split at h
    · omega
    · split at h <;> omega
  refine CT.of' (own := RX5) (ls0 := [zR 0, zI k, zI i, zI v, zU, zU]) rfl (by decide +kernel) (Nat.le_of_ble_eq_true rfl) rfl ?_
  refine r_iload_n dX5_lay_0 rfl ?_
  refine r_iconst dX5_lay_1 (k := ?_)
  refine r_iconst dX5_lay_2 (k := ?_)
  refine r_s3 (c_isWithin _ _ _) kX5_156 dX5_lay_3 ?_
  refine r_ifd_ne (tgt := 11) dX5_lay_6 (by decide) (fun h6 => ?_) (fun h6 => ?_)
  · refine r_aload_n dX5_lay_11 rfl ?_
    refine r_getR (q := 44) fX5_36 (by first | rfl | exact zlH (shp_H (by omega) (by omega))) rfl dX5_lay_12 ?_
    refine r_iload_n dX5_lay_15 rfl ?_
    refine r_aaldS rfl (by omega) (by omega) (shp_at (by omega) (by omega)) dX5_lay_16 ?_
    refine r_astore dX5_lay_17 rfl ?_
    refine r_aload dX5_lay_19 rfl ?_
    refine r_aload dX5_lay_21 rfl ?_
    refine r_gI (q := 0) rfl fX5_245 (by first | rfl | exact zlH (shp_H (by omega) (by omega))) (by decide) dX5_lay_23 ?_
    refine r_iload_n dX5_lay_26 rfl ?_
    refine r_v2 (c_X3_faultAt (shp_H (by omega) (by omega)) _ _) kX5_248 (zlH (shp_H (by omega) (by omega))) dX5_lay_27 ?_
    refine r_istore dX5_lay_30 rfl ?_
    refine r_iload dX5_lay_32 rfl ?_
    refine r_if_eq (tgt := 43) dX5_lay_34 (by decide) (fun h34 => ?_) (fun h34 => ?_)
    · refine r_aload dX5_lay_43 rfl ?_
      refine r_iload_n dX5_lay_45 rfl ?_
      refine r_iload_n dX5_lay_46 rfl ?_
      refine r_w2 (c_X3_put (shp_H (by omega) (by omega)) _ _ (by have := fi h34; omega) (by have := fi h34; have := hs k (by omega) (by omega); omega)) kX5_251 (zlH (shp_H (by omega) (by omega))) dX5_lay_47 ?_
      refine r_iconst dX5_lay_50 (k := ?_)
      refine r_iret dX5_lay_51 ?_
      first | (rw [if_neg (by omega), if_neg (by omega)]; exact zP1.i) | (rw [if_pos (by omega), if_neg h34, if_neg (by omega)]; exact zP1.i) | (rw [if_pos (by omega), if_pos h34, if_pos ⟨by omega, h34⟩]; exact zP1.i)
    · refine r_bipush dX5_lay_37 (k := ?_)
      refine r_iload dX5_lay_39 rfl ?_
      refine r_isub dX5_lay_41 ?_
      try rw [zw_id (by omega) (by omega)]
      refine r_iret dX5_lay_42 ?_
      first | (rw [if_neg (by omega), if_neg (by omega)]; exact zP1.i) | (rw [if_pos (by omega), if_neg h34, if_neg (by omega)]; exact zP1.i) | (rw [if_pos (by omega), if_pos h34, if_pos ⟨by omega, h34⟩]; exact zP1.i)
  · refine r_iconst dX5_lay_9 (k := ?_)
    refine r_iret dX5_lay_10 ?_
    first | (rw [if_neg (by omega), if_neg (by omega)]; exact zP1.i) | (rw [if_pos (by omega), if_neg h34, if_neg (by omega)]; exact zP1.i) | (rw [if_pos (by omega), if_pos h34, if_pos ⟨by omega, h34⟩]; exact zP1.i)
end
