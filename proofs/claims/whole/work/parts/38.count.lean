/-! ===== count on both sides ===== -/
def sCnt (a b c d e f g w : Int) : Int := if w = 0 then a else if w = 1 then b else if w = 2 then c else if w = 3 then (if d = -4 then -4 else e) else if w = 4 then f else if w = 5 then g else -1
section
variable {l : Launch} {G : zG} {mem : zM}
set_option maxRecDepth 100000 in
theorem c_X5_count (hI : zFI mem 1) (w : Int) : KX5_count l G 2 [zR 0, zI w] mem (zP1 (zI (sCnt (mem 15 0) ((if mem 20 0 = 0 then 0 else 1) + (if mem 32 0 = 0 then 0 else 1)) (mem 53 1) (mem 45 0) (mem 45 1) (sLens (mem 1 4) (mem 7)) (sGrudges (mem 1 0) (mem 4)) w)) mem) := by
  refine CT.of' (own := RX5) (ls0 := [zR 0, zI w]) rfl (by decide +kernel) (Nat.le_of_ble_eq_true rfl) rfl ?_
  refine r_iload_n dX5_count_0 rfl ?_
  rcases (show w = 0 ∨ w = 1 ∨ w = 2 ∨ w = 3 ∨ w = 4 ∨ w = 5 ∨ (w < 0 ∨ 5 < w) by omega) with hw | hw | hw | hw | hw | hw | hw
  · subst hw; refine r_tswIn (tgt := 40) dX5_count_1 (by decide) (by rfl) (by decide) ?_
    refine r_aload_n dX5_count_40 rfl ?_
    refine r_getR (q := 15) fX5_22 rfl rfl dX5_count_41 ?_
    refine r_gI (q := 0) rfl fX5_79 rfl (by decide) dX5_count_44 ?_
    refine r_iret dX5_count_47 ?_
    exact zP1.ofI rfl
  · subst hw; refine r_tswIn (tgt := 48) dX5_count_1 (by decide) (by rfl) (by decide) ?_
    refine r_aload_n dX5_count_48 rfl ?_
    refine r_getR (q := 19) fX5_29 rfl rfl dX5_count_49 ?_
    refine r_iconst dX5_count_52 (k := ?_)
    refine r_aaldM (q := 20) rfl (by decide) (by decide) rfl dX5_count_53 ?_
    refine r_gI (q := 0) rfl fX5_82 rfl (by decide) dX5_count_54 ?_
    by_cases a0 : mem 20 0 = 0
    · refine r_if_eq (tgt := 64) dX5_count_57 (by decide) (fun h57 => ?_) (fun h57 => absurd a0 h57)
      refine r_iconst dX5_count_64 (k := ?_)
      refine r_aload_n dX5_count_65 rfl ?_
      refine r_getR (q := 19) fX5_29 rfl rfl dX5_count_66 ?_
      refine r_iconst dX5_count_69 (k := ?_)
      refine r_aaldM (q := 32) rfl (by decide) (by decide) rfl dX5_count_70 ?_
      refine r_gI (q := 0) rfl fX5_82 rfl (by decide) dX5_count_71 ?_
      refine r_if_eq (tgt := 81) dX5_count_74 (by decide) (fun h74 => ?_) (fun h74 => ?_)
      · refine r_iconst dX5_count_81 (k := ?_)
        refine r_iadd dX5_count_82 ?_
        try rw [zw_id (by omega) (by omega)]
        refine r_iret dX5_count_83 ?_
        first | exact zP1.ofI (by unfold sCnt; rw [if_neg (by decide), if_pos rfl, if_pos a0, if_pos h74]) | exact zP1.ofI (by unfold sCnt; rw [if_neg (by decide), if_pos rfl, if_pos a0, if_neg h74])
      · refine r_iconst dX5_count_77 (k := ?_)
        refine r_goto (tgt := 82) dX5_count_78 (by decide) ?_
        refine r_iadd dX5_count_82 ?_
        try rw [zw_id (by omega) (by omega)]
        refine r_iret dX5_count_83 ?_
        first | exact zP1.ofI (by unfold sCnt; rw [if_neg (by decide), if_pos rfl, if_pos a0, if_pos h74]) | exact zP1.ofI (by unfold sCnt; rw [if_neg (by decide), if_pos rfl, if_pos a0, if_neg h74])
    · refine r_if_eq (tgt := 64) dX5_count_57 (by decide) (fun h57 => absurd h57 a0) (fun h57 => ?_)
      refine r_iconst dX5_count_60 (k := ?_)
      refine r_goto (tgt := 65) dX5_count_61 (by decide) ?_
      refine r_aload_n dX5_count_65 rfl ?_
      refine r_getR (q := 19) fX5_29 rfl rfl dX5_count_66 ?_
      refine r_iconst dX5_count_69 (k := ?_)
      refine r_aaldM (q := 32) rfl (by decide) (by decide) rfl dX5_count_70 ?_
      refine r_gI (q := 0) rfl fX5_82 rfl (by decide) dX5_count_71 ?_
      refine r_if_eq (tgt := 81) dX5_count_74 (by decide) (fun h74 => ?_) (fun h74 => ?_)
      · refine r_iconst dX5_count_81 (k := ?_)
        refine r_iadd dX5_count_82 ?_
        try rw [zw_id (by omega) (by omega)]
        refine r_iret dX5_count_83 ?_
        first | exact zP1.ofI (by unfold sCnt; rw [if_neg (by decide), if_pos rfl, if_neg a0, if_pos h74]) | exact zP1.ofI (by unfold sCnt; rw [if_neg (by decide), if_pos rfl, if_neg a0, if_neg h74])
      · refine r_iconst dX5_count_77 (k := ?_)
        refine r_goto (tgt := 82) dX5_count_78 (by decide) ?_
        refine r_iadd dX5_count_82 ?_
        try rw [zw_id (by omega) (by omega)]
        refine r_iret dX5_count_83 ?_
        first | exact zP1.ofI (by unfold sCnt; rw [if_neg (by decide), if_pos rfl, if_neg a0, if_pos h74]) | exact zP1.ofI (by unfold sCnt; rw [if_neg (by decide), if_pos rfl, if_neg a0, if_neg h74])
  · subst hw; refine r_tswIn (tgt := 84) dX5_count_1 (by decide) (by rfl) (by decide) ?_
    refine r_aload_n dX5_count_84 rfl ?_
    refine r_getR (q := 53) fX5_43 rfl rfl dX5_count_85 ?_
    refine r_gI (q := 1) rfl fX5_58 rfl (by decide) dX5_count_88 ?_
    refine r_iret dX5_count_91 ?_
    exact zP1.ofI rfl
  · subst hw; refine r_tswIn (tgt := 92) dX5_count_1 (by decide) (by rfl) (by decide) ?_
    refine r_aload_n dX5_count_92 rfl ?_
    refine r_getR (q := 44) fX5_36 rfl rfl dX5_count_93 ?_
    refine r_iconst dX5_count_96 (k := ?_)
    refine r_aaldS (q := 45) rfl (by decide) (by decide) rfl dX5_count_97 ?_
    refine r_gI (q := 0) rfl fX5_245 rfl (by decide) dX5_count_98 ?_
    refine r_bipush dX5_count_101 (k := ?_)
    refine r_icmp_ne (tgt := 111) dX5_count_103 (by decide) (fun h103 => ?_) (fun h103 => ?_)
    · refine r_aload_n dX5_count_111 rfl ?_
      refine r_getR (q := 44) fX5_36 rfl rfl dX5_count_112 ?_
      refine r_iconst dX5_count_115 (k := ?_)
      refine r_aaldS (q := 45) rfl (by decide) (by decide) rfl dX5_count_116 ?_
      refine r_gI (q := 1) rfl fX5_260 rfl (by decide) dX5_count_117 ?_
      refine r_iret dX5_count_120 ?_
      first | exact zP1.ofI (by unfold sCnt; rw [if_neg (by decide), if_neg (by decide), if_neg (by decide), if_pos rfl, if_neg (by omega)]) | exact zP1.ofI (by unfold sCnt; rw [if_neg (by decide), if_neg (by decide), if_neg (by decide), if_pos rfl, if_pos (by omega)])
    · refine r_bipush dX5_count_106 (k := ?_)
      refine r_goto (tgt := 120) dX5_count_108 (by decide) ?_
      refine r_iret dX5_count_120 ?_
      first | exact zP1.ofI (by unfold sCnt; rw [if_neg (by decide), if_neg (by decide), if_neg (by decide), if_pos rfl, if_neg (by omega)]) | exact zP1.ofI (by unfold sCnt; rw [if_neg (by decide), if_neg (by decide), if_neg (by decide), if_pos rfl, if_pos (by omega)])
  · subst hw; refine r_tswIn (tgt := 121) dX5_count_1 (by decide) (by rfl) (by decide) ?_
    refine r_aload_n dX5_count_121 rfl ?_
    refine r_getR (q := 1) fX5_10 rfl rfl dX5_count_122 ?_
    refine r_v0 (c_X0_lengthOfAll hF1 hI) kX5_263 rfl dX5_count_125 ?_
    refine r_iret dX5_count_128 ?_
    exact zP1.ofI rfl
  · subst hw; refine r_tswIn (tgt := 129) dX5_count_1 (by decide) (by rfl) (by decide) ?_
    refine r_aload_n dX5_count_129 rfl ?_
    refine r_getR (q := 1) fX5_10 rfl rfl dX5_count_130 ?_
    refine r_v0 (c_X0_grudgeOfAll hF1 hI) kX5_266 rfl dX5_count_133 ?_
    refine r_iret dX5_count_136 ?_
    exact zP1.ofI rfl
  · refine r_tswOut (tgt := 137) dX5_count_1 hw (by decide) ?_
    refine r_iconst dX5_count_137 (k := ?_)
    refine r_iret dX5_count_138 ?_
    exact zP1.ofI (by unfold sCnt; repeat rw [if_neg (by omega)])
/-- all 25 sulks of a row -/
def mAll (c : Int → Int) : Int := zfor (fun k a => a + c (10 + k)) 0 25 0
set_option maxRecDepth 100000 in
theorem c_X6_count (hI : mI (mem 65 3) (mem 66)) (w : Int) (hg5 : ∀ k, 0 ≤ k → k < 25 → 0 ≤ mem 66 (10 + k) ∧ mem 66 (10 + k) ≤ 3) (hz0 : mem 68 0 = 0 ∨ mem 68 0 = 1) (hz1 : mem 68 1 = 0 ∨ mem 68 1 = 1) : KX6_count l G 1 [zR 65, zI w] mem (zP1 (zI (sCnt (mem 66 57) (mem 68 0 + mem 68 1) (mem 65 10) (mem 73 0) (mem 74 0) (sLens (mem 66 53) (m3 (mem 66))) (mAll (mem 66)) w)) mem) := by
  obtain ⟨hn0, hn5, hr0, hr6, hp, hg, hr⟩ := id hI
  generalize hA : sCnt (mem 66 57) (mem 68 0 + mem 68 1) (mem 65 10) (mem 73 0) (mem 74 0) (sLens (mem 66 53) (m3 (mem 66))) (mAll (mem 66)) w = A
  refine CT.of' (own := RX6) (ls0 := [zR 65, zI w, zU, zU, zU]) rfl (by decide +kernel) (Nat.le_of_ble_eq_true rfl) rfl ?_
  have fin : ∀ (c x : Int), c = mAll (mem 66) → x = 25 → SW l G (zrm 1) RX6 cX6_count 5 (some .int) (zZ G (zP1 (zI A) mem)) 0 0 (fun _ => True) 71 [zR 65, zI w, zI (sLens (mem 66 53) (m3 (mem 66))), zI c, zI x] [] mem := by
    intro c x hc hx
    refine r_iload_n dX6_count_71 rfl ?_
    rcases (show w = 0 ∨ w = 1 ∨ w = 2 ∨ w = 3 ∨ w = 4 ∨ w = 5 ∨ (w < 0 ∨ 5 < w) by omega) with hw | hw | hw | hw | hw | hw | hw
    · subst hw; refine r_tswIn (tgt := 112) dX6_count_72 (by decide) (by rfl) (by decide) ?_
      refine r_aload_n dX6_count_112 rfl ?_
      refine r_getR (q := 66) fX6_7 rfl rfl dX6_count_113 ?_
      refine r_bipush dX6_count_116 (k := ?_)
      refine r_iald rfl (by omega) (by omega) dX6_count_118 ?_
      refine r_iret dX6_count_119 ?_
      exact zP1.ofI (by rw [← hA]; rfl)
    · subst hw; refine r_tswIn (tgt := 120) dX6_count_72 (by decide) (by rfl) (by decide) ?_
      refine r_aload_n dX6_count_120 rfl ?_
      refine r_getR (q := 68) fX6_16 rfl rfl dX6_count_121 ?_
      refine r_iconst dX6_count_124 (k := ?_)
      refine r_zald rfl (by omega) (by omega) dX6_count_125 ?_
      refine r_s1 (c_flag _ hz0) kX6_200 dX6_count_126 ?_
      refine r_aload_n dX6_count_129 rfl ?_
      refine r_getR (q := 68) fX6_16 rfl rfl dX6_count_130 ?_
      refine r_iconst dX6_count_133 (k := ?_)
      refine r_zald rfl (by omega) (by omega) dX6_count_134 ?_
      refine r_s1 (c_flag _ hz1) kX6_200 dX6_count_135 ?_
      refine r_iadd dX6_count_138 ?_
      try rw [zw_id (by omega) (by omega)]
      refine r_iret dX6_count_139 ?_
      exact zP1.ofI (by rw [← hA]; rfl)
    · subst hw; refine r_tswIn (tgt := 140) dX6_count_72 (by decide) (by rfl) (by decide) ?_
      refine r_aload_n dX6_count_140 rfl ?_
      refine r_gI (q := 10) rfl fX6_73 rfl (by decide) dX6_count_141 ?_
      refine r_iret dX6_count_144 ?_
      exact zP1.ofI (by rw [← hA]; rfl)
    · subst hw; refine r_tswIn (tgt := 145) dX6_count_72 (by decide) (by rfl) (by decide) ?_
      refine r_aload_n dX6_count_145 rfl ?_
      refine r_getR (q := 73) fX6_32 rfl rfl dX6_count_146 ?_
      refine r_iconst dX6_count_149 (k := ?_)
      refine r_iald rfl (by omega) (by omega) dX6_count_150 ?_
      refine r_bipush dX6_count_151 (k := ?_)
      refine r_icmp_ne (tgt := 161) dX6_count_153 (by decide) (fun h153 => ?_) (fun h153 => ?_)
      · refine r_aload_n dX6_count_161 rfl ?_
        refine r_getR (q := 74) fX6_35 rfl rfl dX6_count_162 ?_
        refine r_iconst dX6_count_165 (k := ?_)
        refine r_iald rfl (by omega) (by omega) dX6_count_166 ?_
        refine r_iret dX6_count_167 ?_
        first | exact zP1.ofI (by rw [← hA]; unfold sCnt; rw [if_neg (by decide), if_neg (by decide), if_neg (by decide), if_pos rfl, if_neg (by omega)]) | exact zP1.ofI (by rw [← hA]; unfold sCnt; rw [if_neg (by decide), if_neg (by decide), if_neg (by decide), if_pos rfl, if_pos (by omega)])
      · refine r_bipush dX6_count_156 (k := ?_)
        refine r_goto (tgt := 167) dX6_count_158 (by decide) ?_
        refine r_iret dX6_count_167 ?_
        first | exact zP1.ofI (by rw [← hA]; unfold sCnt; rw [if_neg (by decide), if_neg (by decide), if_neg (by decide), if_pos rfl, if_neg (by omega)]) | exact zP1.ofI (by rw [← hA]; unfold sCnt; rw [if_neg (by decide), if_neg (by decide), if_neg (by decide), if_pos rfl, if_pos (by omega)])
    · subst hw; refine r_tswIn (tgt := 168) dX6_count_72 (by decide) (by rfl) (by decide) ?_
      refine r_iload_n dX6_count_168 rfl ?_
      refine r_iret dX6_count_169 ?_
      exact zP1.ofI (by rw [← hA]; rfl)
    · subst hw; refine r_tswIn (tgt := 170) dX6_count_72 (by decide) (by rfl) (by decide) ?_
      refine r_iload_n dX6_count_170 rfl ?_
      refine r_iret dX6_count_171 ?_
      exact zP1.ofI (by rw [← hA, hc]; rfl)
    · refine r_tswOut (tgt := 172) dX6_count_72 hw (by decide) ?_
      refine r_iconst dX6_count_172 (k := ?_)
      refine r_iret dX6_count_173 ?_
      exact zP1.ofI (by rw [← hA]; unfold sCnt; repeat rw [if_neg (by omega)])
  have loop2 : ∀ (k : Nat) (x a : Int), 0 ≤ x → x + k = 25 → 0 ≤ a → a ≤ 3 * x → zfor (fun k a => a + mem 66 (10 + k)) x k a = mAll (mem 66) → SW l G (zrm 1) RX6 cX6_count 5 (some .int) (zZ G (zP1 (zI A) mem)) 0 0 (fun _ => True) 45 [zR 65, zI w, zI (sLens (mem 66 53) (m3 (mem 66))), zI a, zI x] [] mem := by
    intro k
    induction k with
    | zero =>
      intro x a q0 q1 q2 q3 he
      refine r_iload dX6_count_45 rfl ?_
      refine r_bipush dX6_count_47 (k := ?_)
      refine r_icmp_ge (tgt := 71) dX6_count_49 (by decide) (fun h49 => ?_) (fun h49 => ?_)
      · exact fin _ _ he (by omega)
      · exact absurd (by omega) h49
    | succ k ih =>
      intro x a q0 q1 q2 q3 he
      have hb := hg5 x q0 (by omega)
      rw [zfor] at he
      refine r_iload dX6_count_45 rfl ?_
      refine r_bipush dX6_count_47 (k := ?_)
      refine r_icmp_ge (tgt := 71) dX6_count_49 (by decide) (fun h49 => ?_) (fun h49 => ?_)
      · exact absurd h49 (by omega)
      · refine r_iload_n dX6_count_52 rfl ?_
        refine r_aload_n dX6_count_53 rfl ?_
        refine r_getR (q := 66) fX6_7 rfl rfl dX6_count_54 ?_
        refine r_bipush dX6_count_57 (k := ?_)
        refine r_iload dX6_count_59 rfl ?_
        refine r_iadd dX6_count_61 ?_
        try rw [zw_id (by omega) (by omega)]
        refine r_iald rfl (by omega) (by omega) dX6_count_62 ?_
        refine r_iadd dX6_count_63 ?_
        try rw [zw_id (by omega) (by omega)]
        refine r_istore_n dX6_count_64 rfl ?_
        refine r_iinc dX6_count_65 rfl rfl ?_
        try rw [zw_id (by omega) (by omega)]
        refine r_goto (tgt := 45) dX6_count_68 (by decide) ?_
        exact ih _ _ (by omega) (by omega) (by omega) (by omega) he
  have loop1 : ∀ (k : Nat) (x a : Int), 0 ≤ x → x + k = mem 66 53 → 0 ≤ a → a ≤ 30 * x → zfor (fun k a => a + m3 (mem 66) k) x k a = sLens (mem 66 53) (m3 (mem 66)) → SW l G (zrm 1) RX6 cX6_count 5 (some .int) (zZ G (zP1 (zI A) mem)) 0 0 (fun _ => True) 7 [zR 65, zI w, zI a, zI 0, zI x] [] mem := by
    intro k
    induction k with
    | zero =>
      intro x a q0 q1 q2 q3 he
      refine r_iload dX6_count_7 rfl ?_
      refine r_aload_n dX6_count_9 rfl ?_
      refine r_getR (q := 66) fX6_7 rfl rfl dX6_count_10 ?_
      refine r_bipush dX6_count_13 (k := ?_)
      refine r_iald rfl (by omega) (by omega) dX6_count_15 ?_
      refine r_icmp_ge (tgt := 42) dX6_count_16 (by decide) (fun h16 => ?_) (fun h16 => ?_)
      · refine r_iconst dX6_count_42 (k := ?_)
        refine r_istore dX6_count_43 rfl ?_
        rw [show a = sLens (mem 66 53) (m3 (mem 66)) from he]
        exact loop2 25 0 0 (by omega) (by omega) (by omega) (by omega) rfl
      · exact absurd (by omega) h16
    | succ k ih =>
      intro x a q0 q1 q2 q3 he
      have hb := hr x q0 (by omega)
      rw [zfor] at he
      refine r_iload dX6_count_7 rfl ?_
      refine r_aload_n dX6_count_9 rfl ?_
      refine r_getR (q := 66) fX6_7 rfl rfl dX6_count_10 ?_
      refine r_bipush dX6_count_13 (k := ?_)
      refine r_iald rfl (by omega) (by omega) dX6_count_15 ?_
      refine r_icmp_ge (tgt := 42) dX6_count_16 (by decide) (fun h16 => ?_) (fun h16 => ?_)
      · exact absurd h16 (by omega)
      · refine r_iload_n dX6_count_19 rfl ?_
        refine r_aload_n dX6_count_20 rfl ?_
        refine r_getR (q := 66) fX6_7 rfl rfl dX6_count_21 ?_
        refine r_bipush dX6_count_24 (k := ?_)
        refine r_iconst dX6_count_26 (k := ?_)
        refine r_iload dX6_count_27 rfl ?_
        refine r_imul dX6_count_29 ?_
        try rw [zw_id (by omega) (by omega)]
        refine r_iadd dX6_count_30 ?_
        try rw [zw_id (by omega) (by omega)]
        refine r_iconst dX6_count_31 (k := ?_)
        refine r_iadd dX6_count_32 ?_
        try rw [zw_id (by omega) (by omega)]
        refine r_iald rfl (by omega) (by omega) dX6_count_33 ?_
        rw [m3_at (c := mem 66) (k := x) (j := 35 + 3 * x + 2) (by omega) (by omega)]
        refine r_iadd dX6_count_34 ?_
        try rw [zw_id (by omega) (by omega)]
        refine r_istore_n dX6_count_35 rfl ?_
        refine r_iinc dX6_count_36 rfl rfl ?_
        try rw [zw_id (by omega) (by omega)]
        refine r_goto (tgt := 7) dX6_count_39 (by decide) ?_
        exact ih _ _ (by omega) (by omega) (by omega) (by omega) he
  refine r_iconst dX6_count_0 (k := ?_)
  refine r_istore_n dX6_count_1 rfl ?_
  refine r_iconst dX6_count_2 (k := ?_)
  refine r_istore_n dX6_count_3 rfl ?_
  refine r_iconst dX6_count_4 (k := ?_)
  refine r_istore dX6_count_5 rfl ?_
  exact loop1 (mem 66 53).toNat 0 0 (by omega) (by omega) (by omega) (by omega) rfl
end
