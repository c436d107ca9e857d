/-! ===== the reference: the calls that show and change the firth ===== -/
section
variable {l : Launch} {G : zG} {mem : zM}
set_option maxRecDepth 100000 in
theorem c_X6_rule (hI : mI (mem 65 3) (mem 66)) (w : Int) : KX6_rule l G 3 [zR 65, zI w] mem (zPM (zI (vRule (vM (mem 65 3) (mem 66)) w)) mem) := by
  obtain ⟨f1, f2, f3⟩ := mStart hI kM.rf
  refine CT.of' (own := RX6) (ls0 := [zR 65, zI w]) rfl (by decide +kernel) (Nat.le_of_ble_eq_true rfl) rfl ?_
  refine r_aload_n dX6_rule_0 rfl ?_
  refine r_w0 (c_starts) kX6_194 rfl dX6_rule_1 ?_
  try simp (disch := decide) only [zr_n, zr_s]
  refine r_iload_n dX6_rule_4 rfl ?_
  rcases (show w = 0 ∨ w = 1 ∨ w = 2 ∨ w = 3 ∨ w = 4 ∨ w = 5 ∨ (w < 0 ∨ 5 < w) by omega) with hw | hw | hw | hw | hw | hw | hw
  · subst hw; refine r_tswIn (tgt := 44) dX6_rule_5 (by decide) (by rfl) (by decide) ?_
    refine r_aload_n dX6_rule_44 rfl ?_
    refine r_gI (q := 3) rfl fX6_64 rfl (by decide) dX6_rule_45 ?_
    try simp (disch := decide) only [zr_n, zr_s]
    refine r_iret dX6_rule_48 ?_
    exact zPM.i rfl f3
  · subst hw; refine r_tswIn (tgt := 49) dX6_rule_5 (by decide) (by rfl) (by decide) ?_
    refine r_aload_n dX6_rule_49 rfl ?_
    refine r_getR (q := 66) fX6_7 rfl rfl dX6_rule_50 ?_
    try simp (disch := decide) only [zr_n, zr_s]
    refine r_bipush dX6_rule_53 (k := ?_)
    refine r_iald rfl (by omega) (by omega) dX6_rule_55 ?_
    try simp (disch := decide) only [zr_n, zr_s]
    refine r_iret dX6_rule_56 ?_
    exact zPM.i rfl f3
  · subst hw; refine r_tswIn (tgt := 57) dX6_rule_5 (by decide) (by rfl) (by decide) ?_
    refine r_aload_n dX6_rule_57 rfl ?_
    refine r_getR (q := 66) fX6_7 rfl rfl dX6_rule_58 ?_
    try simp (disch := decide) only [zr_n, zr_s]
    refine r_bipush dX6_rule_61 (k := ?_)
    refine r_iald rfl (by omega) (by omega) dX6_rule_63 ?_
    try simp (disch := decide) only [zr_n, zr_s]
    refine r_iret dX6_rule_64 ?_
    exact zPM.i rfl f3
  · subst hw; refine r_tswIn (tgt := 65) dX6_rule_5 (by decide) (by rfl) (by decide) ?_
    refine r_aload_n dX6_rule_65 rfl ?_
    refine r_getR (q := 66) fX6_7 rfl rfl dX6_rule_66 ?_
    try simp (disch := decide) only [zr_n, zr_s]
    refine r_bipush dX6_rule_69 (k := ?_)
    refine r_iald rfl (by omega) (by omega) dX6_rule_71 ?_
    try simp (disch := decide) only [zr_n, zr_s]
    refine r_iret dX6_rule_72 ?_
    exact zPM.i rfl f3
  · subst hw; refine r_tswIn (tgt := 73) dX6_rule_5 (by decide) (by rfl) (by decide) ?_
    refine r_aload_n dX6_rule_73 rfl ?_
    refine r_getR (q := 66) fX6_7 rfl rfl dX6_rule_74 ?_
    try simp (disch := decide) only [zr_n, zr_s]
    refine r_bipush dX6_rule_77 (k := ?_)
    refine r_iald rfl (by omega) (by omega) dX6_rule_79 ?_
    try simp (disch := decide) only [zr_n, zr_s]
    refine r_iret dX6_rule_80 ?_
    exact zPM.i rfl f3
  · subst hw; refine r_tswIn (tgt := 81) dX6_rule_5 (by decide) (by rfl) (by decide) ?_
    refine r_aload_n dX6_rule_81 rfl ?_
    refine r_v0 (c_X6_spread (by rw [zr_n (by decide), zr_s]; exact f1)) kX6_197 rfl dX6_rule_82 ?_
    try simp (disch := decide) only [zr_n, zr_s]
    refine r_iret dX6_rule_85 ?_
    exact zPM.i (sSpread_c f2.s0.2.1) f3
  · refine r_tswOut (tgt := 86) dX6_rule_5 hw (by decide) ?_
    refine r_iconst dX6_rule_86 (k := ?_)
    refine r_iret dX6_rule_87 ?_
    exact zPM.i (by unfold vRule vM; simp only []; repeat rw [if_neg (by omega)]) f3
set_option maxRecDepth 100000 in
theorem c_X6_ropesOf (hr0 : 0 ≤ mem 66 53) (hr6 : mem 66 53 ≤ 6) (i : Int) : KX6_ropesOf l G 1 [zR 65, zI i] mem (zP1 (zI (sRopes (mem 66 53) (m1 (mem 66)) (m2 (mem 66)) i)) mem) := by
  refine CT.of' (own := RX6) (ls0 := [zR 65, zI i, zU, zU, zU]) rfl (by decide +kernel) (Nat.le_of_ble_eq_true rfl) rfl ?_
  have loop : ∀ (k : Nat) (x a : Int) (v : zV), 0 ≤ x → x + k = mem 66 53 → 0 ≤ a → a ≤ x → zfor (fun k a => if m1 (mem 66) k = i ∨ m2 (mem 66) k = i then a + 1 else a) x k a = sRopes (mem 66 53) (m1 (mem 66)) (m2 (mem 66)) i → SW l G (zrm 1) RX6 cX6_ropesOf 5 (some .int) (zZ G (zP1 (zI (sRopes (mem 66 53) (m1 (mem 66)) (m2 (mem 66)) i)) mem)) 0 0 (fun _ => True) 4 [zR 65, zI i, zI a, zI x, v] [] mem := by
    intro k
    induction k with
    | zero =>
      intro x a v h0 h1 h2 h3 he
      refine r_iload_n dX6_ropesOf_4 rfl ?_
      refine r_aload_n dX6_ropesOf_5 rfl ?_
      refine r_getR (q := 66) fX6_7 rfl rfl dX6_ropesOf_6 ?_
      refine r_bipush dX6_ropesOf_9 (k := ?_)
      refine r_iald rfl (by omega) (by omega) dX6_ropesOf_11 ?_
      refine r_icmp_ge (tgt := 64) dX6_ropesOf_12 (by decide) (fun h12 => ?_) (fun h12 => ?_)
      · refine r_iload_n dX6_ropesOf_64 rfl ?_
        refine r_iret dX6_ropesOf_65 ?_
        exact zP1.ofI he
      · exact absurd (by omega) h12
    | succ k ih =>
      intro x a v h0 h1 h2 h3 he
      rw [zfor] at he
      refine r_iload_n dX6_ropesOf_4 rfl ?_
      refine r_aload_n dX6_ropesOf_5 rfl ?_
      refine r_getR (q := 66) fX6_7 rfl rfl dX6_ropesOf_6 ?_
      refine r_bipush dX6_ropesOf_9 (k := ?_)
      refine r_iald rfl (by omega) (by omega) dX6_ropesOf_11 ?_
      refine r_icmp_ge (tgt := 64) dX6_ropesOf_12 (by decide) (fun h12 => ?_) (fun h12 => ?_)
      · exact absurd h12 (by omega)
      · refine r_bipush dX6_ropesOf_15 (k := ?_)
        refine r_iconst dX6_ropesOf_17 (k := ?_)
        refine r_iload_n dX6_ropesOf_18 rfl ?_
        refine r_imul dX6_ropesOf_19 ?_
        try rw [zw_id (by omega) (by omega)]
        refine r_iadd dX6_ropesOf_20 ?_
        try rw [zw_id (by omega) (by omega)]
        refine r_istore dX6_ropesOf_21 rfl ?_
        refine r_iload_n dX6_ropesOf_23 rfl ?_
        refine r_aload_n dX6_ropesOf_24 rfl ?_
        refine r_getR (q := 66) fX6_7 rfl rfl dX6_ropesOf_25 ?_
        refine r_iload dX6_ropesOf_28 rfl ?_
        refine r_iald rfl (by omega) (by omega) dX6_ropesOf_30 ?_
        rw [m1_at (c := mem 66) (k := x) (j := 35 + 3 * x) (by omega) (by omega)]
        refine r_iload_n dX6_ropesOf_31 rfl ?_
        refine r_icmp_eq (tgt := 48) dX6_ropesOf_32 (by decide) (fun h32 => ?_) (fun h32 => ?_)
        · refine r_iconst dX6_ropesOf_48 (k := ?_)
          refine r_goto (tgt := 53) dX6_ropesOf_49 (by decide) ?_
          refine r_s1 (c_flag _ (by decide)) kX6_200 dX6_ropesOf_53 ?_
          refine r_iadd dX6_ropesOf_56 ?_
          try rw [zw_id (by omega) (by omega)]
          refine r_istore_n dX6_ropesOf_57 rfl ?_
          refine r_iinc dX6_ropesOf_58 rfl rfl ?_
          try rw [zw_id (by omega) (by omega)]
          refine r_goto (tgt := 4) dX6_ropesOf_61 (by decide) ?_
          first
            | exact ih _ _ _ (by omega) (by omega) (by omega) (by omega) (by rw [if_pos (Or.inl h32)] at he; exact he)
            | exact ih _ _ _ (by omega) (by omega) (by omega) (by omega) (by rw [if_pos (Or.inr h45)] at he; exact he)
            | exact ih _ _ _ (by omega) (by omega) (by omega) (by omega) (by rw [if_neg (by rintro (q | q); exact h32 q; exact h45 q)] at he; rw [Int.add_zero]; exact he)
        · refine r_aload_n dX6_ropesOf_35 rfl ?_
          refine r_getR (q := 66) fX6_7 rfl rfl dX6_ropesOf_36 ?_
          refine r_iload dX6_ropesOf_39 rfl ?_
          refine r_iconst dX6_ropesOf_41 (k := ?_)
          refine r_iadd dX6_ropesOf_42 ?_
          try rw [zw_id (by omega) (by omega)]
          refine r_iald rfl (by omega) (by omega) dX6_ropesOf_43 ?_
          rw [m2_at (c := mem 66) (k := x) (j := 35 + 3 * x + 1) (by omega) (by omega)]
          refine r_iload_n dX6_ropesOf_44 rfl ?_
          refine r_icmp_ne (tgt := 52) dX6_ropesOf_45 (by decide) (fun h45 => ?_) (fun h45 => ?_)
          · refine r_iconst dX6_ropesOf_52 (k := ?_)
            refine r_s1 (c_flag _ (by decide)) kX6_200 dX6_ropesOf_53 ?_
            refine r_iadd dX6_ropesOf_56 ?_
            try rw [zw_id (by omega) (by omega)]
            refine r_istore_n dX6_ropesOf_57 rfl ?_
            refine r_iinc dX6_ropesOf_58 rfl rfl ?_
            try rw [zw_id (by omega) (by omega)]
            refine r_goto (tgt := 4) dX6_ropesOf_61 (by decide) ?_
            first
              | exact ih _ _ _ (by omega) (by omega) (by omega) (by omega) (by rw [if_pos (Or.inl h32)] at he; exact he)
              | exact ih _ _ _ (by omega) (by omega) (by omega) (by omega) (by rw [if_pos (Or.inr h45)] at he; exact he)
              | exact ih _ _ _ (by omega) (by omega) (by omega) (by omega) (by rw [if_neg (by rintro (q | q); exact h32 q; exact h45 q)] at he; rw [Int.add_zero]; exact he)
          · refine r_iconst dX6_ropesOf_48 (k := ?_)
            refine r_goto (tgt := 53) dX6_ropesOf_49 (by decide) ?_
            refine r_s1 (c_flag _ (by decide)) kX6_200 dX6_ropesOf_53 ?_
            refine r_iadd dX6_ropesOf_56 ?_
            try rw [zw_id (by omega) (by omega)]
            refine r_istore_n dX6_ropesOf_57 rfl ?_
            refine r_iinc dX6_ropesOf_58 rfl rfl ?_
            try rw [zw_id (by omega) (by omega)]
            refine r_goto (tgt := 4) dX6_ropesOf_61 (by decide) ?_
            first
              | exact ih _ _ _ (by omega) (by omega) (by omega) (by omega) (by rw [if_pos (Or.inl h32)] at he; exact he)
              | exact ih _ _ _ (by omega) (by omega) (by omega) (by omega) (by rw [if_pos (Or.inr h45)] at he; exact he)
              | exact ih _ _ _ (by omega) (by omega) (by omega) (by omega) (by rw [if_neg (by rintro (q | q); exact h32 q; exact h45 q)] at he; rw [Int.add_zero]; exact he)
  refine r_iconst dX6_ropesOf_0 (k := ?_)
  refine r_istore_n dX6_ropesOf_1 rfl ?_
  refine r_iconst dX6_ropesOf_2 (k := ?_)
  refine r_istore_n dX6_ropesOf_3 rfl ?_
  exact loop (mem 66 53).toNat 0 0 zU (by omega) (by omega) (by omega) (by omega) rfl
set_option maxRecDepth 100000 in
theorem c_X6_far (hI : mI (mem 65 3) (mem 66)) (i j : Int) : KX6_far l G 3 [zR 65, zI i, zI j] mem (zPM (zI (vFar (vM (mem 65 3) (mem 66)) i j)) mem) := by
  have hn0 := hI.1
  have hn5 := hI.2.1
  obtain ⟨f1, f2, f3⟩ := mStart hI kM.rf
  have e : vFar (vM (mem 65 3) (mem 66)) i j = if 0 ≤ i ∧ i < mem 65 3 ∧ 0 ≤ j ∧ j < mem 65 3 ∧ i ≠ j then sSz (mP (mem 66) i - mP (mem 66) j) else -1 := rfl
  rw [e]
  refine CT.of' (own := RX6) (ls0 := [zR 65, zI i, zI j]) rfl (by decide +kernel) (Nat.le_of_ble_eq_true rfl) rfl ?_
  refine r_aload_n dX6_far_0 rfl ?_
  refine r_iload_n dX6_far_1 rfl ?_
  refine r_iload_n dX6_far_2 rfl ?_
  refine r_v2 (c_areTwo _ _ hn0 hn5) kX6_207 rfl dX6_far_3 ?_
  try simp (disch := decide) only [zr_n, zr_s]
  refine r_ifd_ne (tgt := 11) dX6_far_6 (by decide) (fun h6 => ?_) (fun h6 => ?_)
  · refine r_aload_n dX6_far_11 rfl ?_
    refine r_w0 (c_starts) kX6_194 rfl dX6_far_12 ?_
    try simp (disch := decide) only [zr_n, zr_s]
    refine r_aload_n dX6_far_15 rfl ?_
    refine r_iload_n dX6_far_16 rfl ?_
    refine r_iload_n dX6_far_17 rfl ?_
    refine r_v2 (c_apart _ _ h6.1 (by rw [zr_n (by decide)]; omega) (by omega) (by rw [zr_n (by decide)]; omega) (by rw [zr_n (by decide), zr_s]; exact f1)) kX6_162 rfl dX6_far_18 ?_
    try simp (disch := decide) only [zr_n, zr_s]
    refine r_iret dX6_far_21 ?_
    first | (rw [if_neg h6]; exact zPM.i rfl kM.rf) | (rw [if_pos h6]; exact zPM.i (by rw [f2.s0.2.1 i (by omega) (show i < mem 65 3 by omega), f2.s0.2.1 j (by omega) (show j < mem 65 3 by omega)]; rfl) f3) | (rw [if_pos h6]; exact zPM.i (by rw [mP_zcp (by omega) (by omega), mP_zcp (by omega) (by omega)]) f3)
  · refine r_iconst dX6_far_9 (k := ?_)
    refine r_iret dX6_far_10 ?_
    first | (rw [if_neg h6]; exact zPM.i rfl kM.rf) | (rw [if_pos h6]; exact zPM.i (by rw [f2.s0.2.1 i (by omega) (show i < mem 65 3 by omega), f2.s0.2.1 j (by omega) (show j < mem 65 3 by omega)]; rfl) f3) | (rw [if_pos h6]; exact zPM.i (by rw [mP_zcp (by omega) (by omega), mP_zcp (by omega) (by omega)]) f3)
theorem sRopes_c {n r : Int} {e1 e2 ln f1 f2 fl : Int → Int} {i : Int} (h : RE n r e1 e2 ln f1 f2 fl) : sRopes r e1 e2 i = sRopes r f1 f2 i := by
  unfold sRopes
  exact zfor_congr _ _ _ (fun k a h1 h2 => by obtain ⟨a1, a2, -⟩ := h k h1 (by omega); rw [a1, a2])
theorem VEQ.isle {W V : zVw} (h : VEQ W V) (i w : Int) : vIsle W i w = vIsle V i w := by
  obtain ⟨n, t, g, r, e1, e2, ln, hol, p, bu, dy⟩ := W
  obtain ⟨n', t', g', r', f1, f2, fl, hol', q, bu', dy'⟩ := V
  obtain ⟨a1, a2, a3, a4, a5, a6, a7, a8, a9, a10, a11⟩ := h
  subst a1 a4 a6 a8 a9
  unfold vIsle
  dsimp only
  by_cases hc : 0 ≤ i ∧ i < n
  · rw [if_pos hc, if_pos hc, a2 i hc.1 hc.2, a7 i hc.1 hc.2, sRopes_c a5, sPlain_c a7 a3 hc.1 hc.2, sNear_c a7 hc.1 hc.2]
  · rw [if_neg hc, if_neg hc]
theorem VEQ.rule {W V : zVw} (h : VEQ W V) (w : Int) : vRule W w = vRule V w := by
  obtain ⟨n, t, g, r, e1, e2, ln, hol, p, bu, dy⟩ := W
  obtain ⟨n', t', g', r', f1, f2, fl, hol', q, bu', dy'⟩ := V
  obtain ⟨a1, a2, a3, a4, a5, a6, a7, a8, a9, a10, a11⟩ := h
  subst a1 a4 a6 a8 a9
  unfold vRule
  dsimp only
  rw [sSpread_c a7]
theorem VEQ.ropeA {W V : zVw} (h : VEQ W V) (k w : Int) : vRopeA W k w = vRopeA V k w := by
  obtain ⟨n, t, g, r, e1, e2, ln, hol, p, bu, dy⟩ := W
  obtain ⟨n', t', g', r', f1, f2, fl, hol', q, bu', dy'⟩ := V
  obtain ⟨a1, a2, a3, a4, a5, a6, a7, a8, a9, a10, a11⟩ := h
  subst a1 a4 a6 a8 a9
  unfold vRopeA
  dsimp only
  by_cases hc : 0 ≤ k ∧ k < r
  · obtain ⟨b1, b2, b3, -⟩ := a5 k hc.1 hc.2
    rw [if_pos hc, if_pos hc, b1, b2, b3]
  · rw [if_neg hc, if_neg hc]
theorem VEQ.far {W V : zVw} (h : VEQ W V) (i j : Int) : vFar W i j = vFar V i j := by
  obtain ⟨n, t, g, r, e1, e2, ln, hol, p, bu, dy⟩ := W
  obtain ⟨n', t', g', r', f1, f2, fl, hol', q, bu', dy'⟩ := V
  obtain ⟨a1, a2, a3, a4, a5, a6, a7, a8, a9, a10, a11⟩ := h
  subst a1 a4 a6 a8 a9
  unfold vFar
  dsimp only
  by_cases hc : 0 ≤ i ∧ i < n ∧ 0 ≤ j ∧ j < n ∧ i ≠ j
  · rw [if_pos hc, if_pos hc, a7 i hc.1 hc.2.1, a7 j hc.2.2.1 hc.2.2.2.1]
  · rw [if_neg hc, if_neg hc]
set_option maxRecDepth 100000 in
theorem c_X6_isle (hI : mI (mem 65 3) (mem 66)) (i w : Int) : KX6_isle l G 3 [zR 65, zI i, zI w] mem (zPM (zI (vIsle (vM (mem 65 3) (mem 66)) i w)) mem) := by
  have hn0 := hI.1
  have hn5 := hI.2.1
  have hr0 := hI.2.2.1
  have hr6 := hI.2.2.2.1
  obtain ⟨f1, f2, f3⟩ := mStart hI kM.rf
  obtain ⟨ev, -⟩ := vM_cp (d := mem 67) hI
  rw [← f2.isle, ev]
  have hS : 0 ≤ i → i < mem 65 3 → _ := fun h1 h2 => sPlain_bd (p := mP (zcp (mem 66) (mem 67) 0 0 76)) (g := mG (mem 66)) (i := i) hn0 hn5 (fun j a b => hI.2.2.2.2.2.1 i j h1 h2 a b)
  have e : vIsle (mem 65 3, mT (mem 66), mG (mem 66), mem 66 53, m1 (mem 66), m2 (mem 66), m3 (mem 66), mem 66 55, mP (zcp (mem 66) (mem 67) 0 0 76), mem 66 56, mem 66 54) i w = if 0 ≤ i ∧ i < mem 65 3 then (if w = 0 then mT (mem 66) i else if w = 1 then mP (zcp (mem 66) (mem 67) 0 0 76) i else if w = 2 then sRopes (mem 66 53) (m1 (mem 66)) (m2 (mem 66)) i else if w = 3 then sSz (sDriftOf (mT (mem 66) i) (sPlain (mem 65 3) (mP (zcp (mem 66) (mem 67) 0 0 76)) (mG (mem 66)) i)) else if w = 4 then (if 0 < sDriftOf (mT (mem 66) i) (sPlain (mem 65 3) (mP (zcp (mem 66) (mem 67) 0 0 76)) (mG (mem 66)) i) then 1 else 0) else if w = 5 then sNear (mem 65 3) (mP (zcp (mem 66) (mem 67) 0 0 76)) i else -1) else -1 := rfl
  rw [e]
  have k1 : mT (zcp (mem 66) (mem 67) 0 0 76) = mT (mem 66) := congrArg (fun W => W.2.1) ev
  have k2 : mG (zcp (mem 66) (mem 67) 0 0 76) = mG (mem 66) := congrArg (fun W => W.2.2.1) ev
  refine CT.of' (own := RX6) (ls0 := [zR 65, zI i, zI w]) rfl (by decide +kernel) (Nat.le_of_ble_eq_true rfl) rfl ?_
  refine r_aload_n dX6_isle_0 rfl ?_
  refine r_iload_n dX6_isle_1 rfl ?_
  refine r_v1 (c_isIsle _ hn0 hn5) kX6_151 rfl dX6_isle_2 ?_
  try simp (disch := decide) only [zr_n, zr_s, k1, k2]
  refine r_ifd_ne (tgt := 10) dX6_isle_5 (by decide) (fun h5 => ?_) (fun h5 => ?_)
  · rw [if_pos h5]
    have hb := hS h5.1 h5.2
    have hD := sDriftOf_bd (t := mT (mem 66) i) hb.1 hb.2
    refine r_aload_n dX6_isle_10 rfl ?_
    refine r_w0 (c_starts) kX6_194 rfl dX6_isle_11 ?_
    try simp (disch := decide) only [zr_n, zr_s, k1, k2]
    refine r_iload_n dX6_isle_14 rfl ?_
    rcases (show w = 0 ∨ w = 1 ∨ w = 2 ∨ w = 3 ∨ w = 4 ∨ w = 5 ∨ (w < 0 ∨ 5 < w) by omega) with hw | hw | hw | hw | hw | hw | hw
    · subst hw; refine r_tswIn (tgt := 52) dX6_isle_15 (by decide) (by rfl) (by decide) ?_
      refine r_aload_n dX6_isle_52 rfl ?_
      refine r_getR (q := 67) fX6_13 rfl rfl dX6_isle_53 ?_
      try simp (disch := decide) only [zr_n, zr_s, k1, k2]
      refine r_iconst dX6_isle_56 (k := ?_)
      refine r_iload_n dX6_isle_57 rfl ?_
      refine r_imul dX6_isle_58 ?_
      try rw [zw_id (by omega) (by omega)]
      refine r_iload_n dX6_isle_59 rfl ?_
      refine r_iadd dX6_isle_60 ?_
      try rw [zw_id (by omega) (by omega)]
      refine r_iald rfl (by omega) (by omega) dX6_isle_61 ?_
      try simp (disch := decide) only [zr_n, zr_s, k1, k2]
      refine r_iret dX6_isle_62 ?_
      exact zPM.i (by rw [mT_at (c := (zcp (mem 66) (mem 67) 0 0 76)) (k := i) (j := 2 * i + 0) (by omega) (by omega), k1]; rfl) f3
    · subst hw; refine r_tswIn (tgt := 52) dX6_isle_15 (by decide) (by rfl) (by decide) ?_
      refine r_aload_n dX6_isle_52 rfl ?_
      refine r_getR (q := 67) fX6_13 rfl rfl dX6_isle_53 ?_
      try simp (disch := decide) only [zr_n, zr_s, k1, k2]
      refine r_iconst dX6_isle_56 (k := ?_)
      refine r_iload_n dX6_isle_57 rfl ?_
      refine r_imul dX6_isle_58 ?_
      try rw [zw_id (by omega) (by omega)]
      refine r_iload_n dX6_isle_59 rfl ?_
      refine r_iadd dX6_isle_60 ?_
      try rw [zw_id (by omega) (by omega)]
      refine r_iald rfl (by omega) (by omega) dX6_isle_61 ?_
      try simp (disch := decide) only [zr_n, zr_s, k1, k2]
      refine r_iret dX6_isle_62 ?_
      exact zPM.i rfl f3
    · subst hw; refine r_tswIn (tgt := 63) dX6_isle_15 (by decide) (by rfl) (by decide) ?_
      refine r_aload_n dX6_isle_63 rfl ?_
      refine r_iload_n dX6_isle_64 rfl ?_
      refine r_v1 (c_X6_ropesOf (by rw [zr_n (by decide)]; exact hr0) (by rw [zr_n (by decide)]; exact hr6) i) kX6_204 rfl dX6_isle_65 ?_
      try simp (disch := decide) only [zr_n, zr_s, k1, k2]
      refine r_iret dX6_isle_68 ?_
      exact zPM.i rfl f3
    · subst hw; refine r_tswIn (tgt := 69) dX6_isle_15 (by decide) (by rfl) (by decide) ?_
      refine r_aload_n dX6_isle_69 rfl ?_
      refine r_iload_n dX6_isle_70 rfl ?_
      refine r_v1 (c_X6_driftOf (by rw [zr_n (by decide), zr_s]; exact f1) i h5.1 (by rw [zr_n (by decide)]; exact h5.2)) kX6_168 rfl dX6_isle_71 ?_
      try simp (disch := decide) only [zr_n, zr_s, k1, k2]
      refine r_s1 (c_sizeOf _) kX6_159 dX6_isle_74 ?_
      try simp (disch := decide) only [zr_n, zr_s, k1, k2]
      refine r_iret dX6_isle_77 ?_
      exact zPM.i (zabs_sz (show -2147483648 < sDriftOf (mT (mem 66) i) (sPlain (mem 65 3) (mP (zcp (mem 66) (mem 67) 0 0 76)) (mG (mem 66)) i) by omega) (show sDriftOf (mT (mem 66) i) (sPlain (mem 65 3) (mP (zcp (mem 66) (mem 67) 0 0 76)) (mG (mem 66)) i) < 2147483648 by omega)) f3
    · subst hw; refine r_tswIn (tgt := 78) dX6_isle_15 (by decide) (by rfl) (by decide) ?_
      refine r_aload_n dX6_isle_78 rfl ?_
      refine r_iload_n dX6_isle_79 rfl ?_
      refine r_v1 (c_X6_driftOf (by rw [zr_n (by decide), zr_s]; exact f1) i h5.1 (by rw [zr_n (by decide)]; exact h5.2)) kX6_168 rfl dX6_isle_80 ?_
      try simp (disch := decide) only [zr_n, zr_s, k1, k2]
      refine r_if_le (tgt := 90) dX6_isle_83 (by decide) (fun h83 => ?_) (fun h83 => ?_)
      · refine r_iconst dX6_isle_90 (k := ?_)
        refine r_s1 (c_flag _ (by decide)) kX6_200 dX6_isle_91 ?_
        try simp (disch := decide) only [zr_n, zr_s, k1, k2]
        refine r_iret dX6_isle_94 ?_
        first | exact zPM.i (if_neg (Int.not_lt.mpr h83)).symm f3 | exact zPM.i (if_pos (Int.not_le.mp h83)).symm f3
      · refine r_iconst dX6_isle_86 (k := ?_)
        refine r_goto (tgt := 91) dX6_isle_87 (by decide) ?_
        refine r_s1 (c_flag _ (by decide)) kX6_200 dX6_isle_91 ?_
        try simp (disch := decide) only [zr_n, zr_s, k1, k2]
        refine r_iret dX6_isle_94 ?_
        first | exact zPM.i (if_neg (Int.not_lt.mpr h83)).symm f3 | exact zPM.i (if_pos (Int.not_le.mp h83)).symm f3
    · subst hw; refine r_tswIn (tgt := 95) dX6_isle_15 (by decide) (by rfl) (by decide) ?_
      refine r_aload_n dX6_isle_95 rfl ?_
      refine r_iload_n dX6_isle_96 rfl ?_
      refine r_v1 (c_nearest (by rw [zr_n (by decide), zr_s]; exact f1) i h5.1 (by rw [zr_n (by decide)]; exact h5.2)) kX6_181 rfl dX6_isle_97 ?_
      try simp (disch := decide) only [zr_n, zr_s, k1, k2]
      refine r_iret dX6_isle_100 ?_
      exact zPM.i (by rw [mNear_eq hn0 f1.2.2.2.2.1 h5.1 h5.2]; rfl) f3
    · refine r_tswOut (tgt := 101) dX6_isle_15 hw (by decide) ?_
      refine r_iconst dX6_isle_101 (k := ?_)
      refine r_iret dX6_isle_102 ?_
      exact zPM.i (by repeat rw [if_neg (by omega)]) f3
  · rw [if_neg h5]
    refine r_iconst dX6_isle_8 (k := ?_)
    refine r_iret dX6_isle_9 ?_
    exact zPM.i rfl kM.rf
end
