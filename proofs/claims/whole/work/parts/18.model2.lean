/-! ===== the reference: drifts, ropes, days ===== -/
section
variable {l : Launch} {G : zG} {mem : zM}
set_option maxRecDepth 100000 in
theorem c_sulkOf (hI : mI (mem 65 3) (mem 67)) (i : Int) (hi0 : 0 ≤ i) (hi1 : i < mem 65 3) : KX6_sulkOf l G 1 [zR 65, zI i] mem (zP1 (zI (sPlain (mem 65 3) (mP (mem 67)) (mG (mem 67)) i)) mem) := by
  obtain ⟨hn0, hn5, hr0, hr6, hp, hg, hr⟩ := id hI
  refine CT.of' (own := RX6) (ls0 := [zR 65, zI i, zU, zU, zU]) rfl (by decide +kernel) (Nat.le_of_ble_eq_true rfl) rfl ?_
  have loop : ∀ (k : Nat) (x a : Int) (v : zV), 0 ≤ x → x + k = mem 65 3 → -(3 * x) ≤ a → a ≤ 3 * x → zfor (fun j a => if j = i then a else a + if mP (mem 67) j < mP (mem 67) i then mG (mem 67) (5 * i + j) else -mG (mem 67) (5 * i + j)) x k a = sPlain (mem 65 3) (mP (mem 67)) (mG (mem 67)) i → SW l G (zrm 1) RX6 cX6_sulkOf 5 (some .int) (zZ G (zP1 (zI (sPlain (mem 65 3) (mP (mem 67)) (mG (mem 67)) i)) mem)) 0 0 (fun _ => True) 4 [zR 65, zI i, zI a, zI x, v] [] mem := by
    intro k
    induction k with
    | zero =>
      intro x a v h0 h1 h2 h3 he
      refine r_iload_n dX6_sulkOf_4 rfl ?_
      refine r_aload_n dX6_sulkOf_5 rfl ?_
      refine r_gI (q := 3) rfl fX6_64 rfl (by decide) dX6_sulkOf_6 ?_
      refine r_icmp_ge (tgt := 66) dX6_sulkOf_9 (by decide) (fun h9 => ?_) (fun h9 => ?_)
      · refine r_iload_n dX6_sulkOf_66 rfl ?_
        refine r_iret dX6_sulkOf_67 ?_
        exact zP1.ofI he
      · exact absurd (by omega) h9
    | succ k ih =>
      intro x a v h0 h1 h2 h3 he
      have hx := hg i x hi0 hi1 h0 (by omega)
      rw [zfor] at he
      refine r_iload_n dX6_sulkOf_4 rfl ?_
      refine r_aload_n dX6_sulkOf_5 rfl ?_
      refine r_gI (q := 3) rfl fX6_64 rfl (by decide) dX6_sulkOf_6 ?_
      refine r_icmp_ge (tgt := 66) dX6_sulkOf_9 (by decide) (fun h9 => ?_) (fun h9 => ?_)
      · exact absurd h9 (by omega)
      · refine r_aload_n dX6_sulkOf_12 rfl ?_
        refine r_getR (q := 67) fX6_13 rfl rfl dX6_sulkOf_13 ?_
        refine r_bipush dX6_sulkOf_16 (k := ?_)
        refine r_iconst dX6_sulkOf_18 (k := ?_)
        refine r_iload_n dX6_sulkOf_19 rfl ?_
        refine r_imul dX6_sulkOf_20 ?_
        try rw [zw_id (by omega) (by omega)]
        refine r_iadd dX6_sulkOf_21 ?_
        try rw [zw_id (by omega) (by omega)]
        refine r_iload_n dX6_sulkOf_22 rfl ?_
        refine r_iadd dX6_sulkOf_23 ?_
        try rw [zw_id (by omega) (by omega)]
        refine r_iald rfl (by omega) (by omega) dX6_sulkOf_24 ?_
        rw [mG_at (c := mem 67) (k := 5 * i + x) (j := 10 + 5 * i + x) (by omega) (by omega)]
        refine r_istore dX6_sulkOf_25 rfl ?_
        refine r_iload_n dX6_sulkOf_27 rfl ?_
        refine r_iload_n dX6_sulkOf_28 rfl ?_
        refine r_iload_n dX6_sulkOf_29 rfl ?_
        refine r_icmp_ne (tgt := 37) dX6_sulkOf_30 (by decide) (fun h30 => ?_) (fun h30 => ?_)
        · refine r_aload_n dX6_sulkOf_37 rfl ?_
          refine r_iload_n dX6_sulkOf_38 rfl ?_
          refine r_v1 (c_place _ (by omega) (by omega)) kX6_156 rfl dX6_sulkOf_39 ?_
          refine r_aload_n dX6_sulkOf_42 rfl ?_
          refine r_iload_n dX6_sulkOf_43 rfl ?_
          refine r_v1 (c_place _ (by omega) (by omega)) kX6_156 rfl dX6_sulkOf_44 ?_
          refine r_icmp_le (tgt := 55) dX6_sulkOf_47 (by decide) (fun h47 => ?_) (fun h47 => ?_)
          · refine r_iload dX6_sulkOf_55 rfl ?_
            refine r_ineg dX6_sulkOf_57 ?_
            try rw [zw_id (by omega) (by omega)]
            refine r_iadd dX6_sulkOf_58 ?_
            try rw [zw_id (by omega) (by omega)]
            refine r_istore_n dX6_sulkOf_59 rfl ?_
            refine r_iinc dX6_sulkOf_60 rfl rfl ?_
            try rw [zw_id (by omega) (by omega)]
            refine r_goto (tgt := 4) dX6_sulkOf_63 (by decide) ?_
            first | exact ih _ _ _ (by omega) (by omega) (by omega) (by omega) (by rw [if_pos h30] at he; rw [Int.add_zero]; exact he) | exact ih _ _ _ (by omega) (by omega) (by omega) (by omega) (by rw [if_neg h30, if_pos (by omega)] at he; exact he) | exact ih _ _ _ (by omega) (by omega) (by omega) (by omega) (by rw [if_neg h30, if_neg (by omega)] at he; exact he)
          · refine r_iload dX6_sulkOf_50 rfl ?_
            refine r_goto (tgt := 58) dX6_sulkOf_52 (by decide) ?_
            refine r_iadd dX6_sulkOf_58 ?_
            try rw [zw_id (by omega) (by omega)]
            refine r_istore_n dX6_sulkOf_59 rfl ?_
            refine r_iinc dX6_sulkOf_60 rfl rfl ?_
            try rw [zw_id (by omega) (by omega)]
            refine r_goto (tgt := 4) dX6_sulkOf_63 (by decide) ?_
            first | exact ih _ _ _ (by omega) (by omega) (by omega) (by omega) (by rw [if_pos h30] at he; rw [Int.add_zero]; exact he) | exact ih _ _ _ (by omega) (by omega) (by omega) (by omega) (by rw [if_neg h30, if_pos (by omega)] at he; exact he) | exact ih _ _ _ (by omega) (by omega) (by omega) (by omega) (by rw [if_neg h30, if_neg (by omega)] at he; exact he)
        · refine r_iconst dX6_sulkOf_33 (k := ?_)
          refine r_goto (tgt := 58) dX6_sulkOf_34 (by decide) ?_
          refine r_iadd dX6_sulkOf_58 ?_
          try rw [zw_id (by omega) (by omega)]
          refine r_istore_n dX6_sulkOf_59 rfl ?_
          refine r_iinc dX6_sulkOf_60 rfl rfl ?_
          try rw [zw_id (by omega) (by omega)]
          refine r_goto (tgt := 4) dX6_sulkOf_63 (by decide) ?_
          first | exact ih _ _ _ (by omega) (by omega) (by omega) (by omega) (by rw [if_pos h30] at he; rw [Int.add_zero]; exact he) | exact ih _ _ _ (by omega) (by omega) (by omega) (by omega) (by rw [if_neg h30, if_pos (by omega)] at he; exact he) | exact ih _ _ _ (by omega) (by omega) (by omega) (by omega) (by rw [if_neg h30, if_neg (by omega)] at he; exact he)
  refine r_iconst dX6_sulkOf_0 (k := ?_)
  refine r_istore_n dX6_sulkOf_1 rfl ?_
  refine r_iconst dX6_sulkOf_2 (k := ?_)
  refine r_istore_n dX6_sulkOf_3 rfl ?_
  exact loop (mem 65 3).toNat 0 0 zU (by omega) (by omega) (by omega) (by omega) rfl
set_option maxRecDepth 100000 in
theorem c_X6_driftOf (hI : mI (mem 65 3) (mem 67)) (i : Int) (hi0 : 0 ≤ i) (hi1 : i < mem 65 3) : KX6_driftOf l G 2 [zR 65, zI i] mem (zP1 (zI (sDriftOf (mT (mem 67) i) (sPlain (mem 65 3) (mP (mem 67)) (mG (mem 67)) i))) mem) := by
  obtain ⟨hn0, hn5, hr0, hr6, hp, hg, hr⟩ := id hI
  have hS := sPlain_bd (p := mP (mem 67)) hn0 hn5 (fun j h1 h2 => hg i j hi0 hi1 h1 h2)
  refine CT.of' (own := RX6) (ls0 := [zR 65, zI i, zU, zU]) rfl (by decide +kernel) (Nat.le_of_ble_eq_true rfl) rfl ?_
  refine r_aload_n dX6_driftOf_0 rfl ?_
  refine r_iload_n dX6_driftOf_1 rfl ?_
  refine r_v1 (c_sulkOf hI i hi0 hi1) kX6_165 rfl dX6_driftOf_2 ?_
  generalize sPlain (mem 65 3) (mP (mem 67)) (mG (mem 67)) i = a at hS ⊢
  have ht2 := tdiv2_bd hS.1 hS.2
  refine r_istore_n dX6_driftOf_5 rfl ?_
  refine r_iconst dX6_driftOf_6 (k := ?_)
  refine r_iload_n dX6_driftOf_7 rfl ?_
  refine r_imul dX6_driftOf_8 ?_
  try rw [zw_id (by omega) (by omega)]
  refine r_istore_n dX6_driftOf_9 rfl ?_
  refine r_aload_n dX6_driftOf_10 rfl ?_
  refine r_getR (q := 67) fX6_13 rfl rfl dX6_driftOf_11 ?_
  refine r_iconst dX6_driftOf_14 (k := ?_)
  refine r_iload_n dX6_driftOf_15 rfl ?_
  refine r_imul dX6_driftOf_16 ?_
  try rw [zw_id (by omega) (by omega)]
  refine r_iconst dX6_driftOf_17 (k := ?_)
  refine r_iadd dX6_driftOf_18 ?_
  try rw [zw_id (by omega) (by omega)]
  refine r_iald rfl (by omega) (by omega) dX6_driftOf_19 ?_
  rw [mT_at (c := mem 67) (k := i) (j := 2 * i + 0) (by omega) (by omega)]
  rcases (show mT (mem 67) i = 1 ∨ mT (mem 67) i = 2 ∨ mT (mem 67) i = 3 ∨ (mT (mem 67) i < 1 ∨ 3 < mT (mem 67) i) by omega) with ht | ht | ht | ht
  · rw [ht]
    refine r_tswIn (tgt := 48) dX6_driftOf_20 (by decide) (by rfl) (by decide) ?_
    refine r_iload_n dX6_driftOf_48 rfl ?_
    refine r_iret dX6_driftOf_49 ?_
    exact zP1.ofI (by simp [sDriftOf])
  · rw [ht]
    refine r_tswIn (tgt := 50) dX6_driftOf_20 (by decide) (by rfl) (by decide) ?_
    have e2 : sDriftOf 2 a = a.tdiv 2 := by simp [sDriftOf]
    rw [e2]
    have e3 : (-a).tdiv 2 = -(a.tdiv 2) := Int.neg_tdiv ..
    refine r_iload_n dX6_driftOf_50 rfl ?_
    refine r_if_ge (tgt := 62) dX6_driftOf_51 (by decide) (fun h51 => ?_) (fun h51 => ?_)
    · refine r_iload_n dX6_driftOf_62 rfl ?_
      refine r_iconst dX6_driftOf_63 (k := ?_)
      refine r_idiv dX6_driftOf_64 (by decide) ?_
      refine r_iret dX6_driftOf_65 ?_
      first | exact zP1.ofI (by rw [e3, zw_id (x := -(a.tdiv 2)) (by omega) (by omega), Int.neg_neg, zw_id (by omega) (by omega)]) | exact zP1.ofI (by rw [zw_id (by omega) (by omega)]) | exact zP1.ofI (by rw [e3]; omega)
    · refine r_iload_n dX6_driftOf_54 rfl ?_
      refine r_ineg dX6_driftOf_55 ?_
      try rw [zw_id (by omega) (by omega)]
      refine r_iconst dX6_driftOf_56 (k := ?_)
      refine r_idiv dX6_driftOf_57 (by decide) ?_
      refine r_ineg dX6_driftOf_58 ?_
      try rw [zw_id (by omega) (by omega)]
      refine r_goto (tgt := 65) dX6_driftOf_59 (by decide) ?_
      refine r_iret dX6_driftOf_65 ?_
      first | exact zP1.ofI (by rw [e3, zw_id (x := -(a.tdiv 2)) (by omega) (by omega), Int.neg_neg, zw_id (by omega) (by omega)]) | exact zP1.ofI (by rw [zw_id (by omega) (by omega)]) | exact zP1.ofI (by rw [e3]; omega)
  · rw [ht]
    refine r_tswIn (tgt := 66) dX6_driftOf_20 (by decide) (by rfl) (by decide) ?_
    have e2 : sDriftOf 3 a = 2 * a - zsg a := by simp [sDriftOf]
    rw [e2]
    refine r_iload_n dX6_driftOf_66 rfl ?_
    refine r_if_le (tgt := 76) dX6_driftOf_67 (by decide) (fun h67 => ?_) (fun h67 => ?_)
    · refine r_iload_n dX6_driftOf_76 rfl ?_
      refine r_if_ge (tgt := 86) dX6_driftOf_77 (by decide) (fun h77 => ?_) (fun h77 => ?_)
      · refine r_iconst dX6_driftOf_86 (k := ?_)
        refine r_iret dX6_driftOf_87 ?_
        exact zP1.ofI (by unfold zsg; split <;> (try split) <;> omega)
      · refine r_iload_n dX6_driftOf_80 rfl ?_
        refine r_iconst dX6_driftOf_81 (k := ?_)
        refine r_iadd dX6_driftOf_82 ?_
        try rw [zw_id (by omega) (by omega)]
        refine r_goto (tgt := 87) dX6_driftOf_83 (by decide) ?_
        refine r_iret dX6_driftOf_87 ?_
        exact zP1.ofI (by unfold zsg; split <;> (try split) <;> omega)
    · refine r_iload_n dX6_driftOf_70 rfl ?_
      refine r_iconst dX6_driftOf_71 (k := ?_)
      refine r_isub dX6_driftOf_72 ?_
      try rw [zw_id (by omega) (by omega)]
      refine r_goto (tgt := 87) dX6_driftOf_73 (by decide) ?_
      refine r_iret dX6_driftOf_87 ?_
      exact zP1.ofI (by unfold zsg; split <;> (try split) <;> omega)
  · refine r_tswOut (tgt := 88) dX6_driftOf_20 ht (by decide) ?_
    refine r_iload_n dX6_driftOf_88 rfl ?_
    refine r_iret dX6_driftOf_89 ?_
    exact zP1.ofI (by unfold sDriftOf; rw [if_neg (by omega), if_neg (by omega), if_neg (by omega)])
set_option maxRecDepth 100000 in
set_option maxHeartbeats 1000000 in
theorem c_X6_isHeld (hI : mI (mem 65 3) (mem 67)) (i to : Int) (hi0 : 0 ≤ i) (hi1 : i < mem 65 3) (ht0 : -1 ≤ to) (ht1 : to ≤ 100) : KX6_isHeld l G 2 [zR 65, zI i, zI to] mem (zP1 (zI (zb (sHeld (mem 67 53) (m1 (mem 67)) (m2 (mem 67)) (m3 (mem 67)) (mP (mem 67)) i to))) mem) := by
  obtain ⟨hn0, hn5, hr0, hr6, hp, hg, hr⟩ := id hI
  have hpi := hp i hi0 hi1
  refine CT.of' (own := RX6) (ls0 := [zR 65, zI i, zI to, zU, zU, zU, zU, zU]) rfl (by decide +kernel) (Nat.le_of_ble_eq_true rfl) rfl ?_
  have loop : ∀ (k : Nat) (x : Int) (acc : Bool) (v5 v6 v7 : zV), 0 ≤ x → x + k = mem 67 53 → (acc || zany (fun k => decide ((m1 (mem 67) k = i ∨ m2 (mem 67) k = i) ∧ m3 (mem 67) k < sSz (to - mP (mem 67) (if m1 (mem 67) k = i then m2 (mem 67) k else m1 (mem 67) k)) ∧ sSz (mP (mem 67) i - mP (mem 67) (if m1 (mem 67) k = i then m2 (mem 67) k else m1 (mem 67) k)) < sSz (to - mP (mem 67) (if m1 (mem 67) k = i then m2 (mem 67) k else m1 (mem 67) k)))) x k) = sHeld (mem 67 53) (m1 (mem 67)) (m2 (mem 67)) (m3 (mem 67)) (mP (mem 67)) i to → SW l G (zrm 2) RX6 cX6_isHeld 8 (some .boolean) (zZ G (zP1 (zI (zb (sHeld (mem 67 53) (m1 (mem 67)) (m2 (mem 67)) (m3 (mem 67)) (mP (mem 67)) i to))) mem)) 0 0 (fun _ => True) 5 [zR 65, zI i, zI to, zI (zb acc), zI x, v5, v6, v7] [] mem := by
    intro k
    induction k with
    | zero =>
      intro x acc v5 v6 v7 h0 h1 he
      refine r_iload dX6_isHeld_5 rfl ?_
      refine r_aload_n dX6_isHeld_7 rfl ?_
      refine r_getR (q := 67) fX6_13 rfl rfl dX6_isHeld_8 ?_
      refine r_bipush dX6_isHeld_11 (k := ?_)
      refine r_iald rfl (by omega) (by omega) dX6_isHeld_13 ?_
      refine r_icmp_ge (tgt := 138) dX6_isHeld_14 (by decide) (fun h14 => ?_) (fun h14 => ?_)
      · refine r_iload_n dX6_isHeld_138 rfl ?_
        refine r_zret dX6_isHeld_139 (zb_01 _) ?_
        exact zP1.ofI (by rw [← he, zany, Bool.or_false])
      · exact absurd (by omega) h14
    | succ k ih =>
      intro x acc v5 v6 v7 h0 h1 he
      obtain ⟨q1, q2, q3, q4, q5, q6⟩ := hr x h0 (by omega)
      rw [zany] at he
      have tail : ∀ (a2 : Bool) (v5 v6 v7 : zV), (a2 || zany (fun k => decide ((m1 (mem 67) k = i ∨ m2 (mem 67) k = i) ∧ m3 (mem 67) k < sSz (to - mP (mem 67) (if m1 (mem 67) k = i then m2 (mem 67) k else m1 (mem 67) k)) ∧ sSz (mP (mem 67) i - mP (mem 67) (if m1 (mem 67) k = i then m2 (mem 67) k else m1 (mem 67) k)) < sSz (to - mP (mem 67) (if m1 (mem 67) k = i then m2 (mem 67) k else m1 (mem 67) k)))) (x + 1) k) = sHeld (mem 67 53) (m1 (mem 67)) (m2 (mem 67)) (m3 (mem 67)) (mP (mem 67)) i to → SW l G (zrm 2) RX6 cX6_isHeld 8 (some .boolean) (zZ G (zP1 (zI (zb (sHeld (mem 67 53) (m1 (mem 67)) (m2 (mem 67)) (m3 (mem 67)) (mP (mem 67)) i to))) mem)) 0 0 (fun _ => True) 132 [zR 65, zI i, zI to, zI (zb a2), zI x, v5, v6, v7] [] mem := by
        intro a2 v5 v6 v7 ha
        refine r_iinc dX6_isHeld_132 rfl rfl ?_
        try rw [zw_id (by omega) (by omega)]
        refine r_goto (tgt := 5) dX6_isHeld_135 (by decide) ?_
        exact ih _ a2 _ _ _ (by omega) (by omega) ha
      have rest : ∀ o : Int, 0 ≤ o → o < mem 65 3 → (acc || (decide (m3 (mem 67) x < sSz (to - mP (mem 67) o) ∧ sSz (mP (mem 67) i - mP (mem 67) o) < sSz (to - mP (mem 67) o)) || zany (fun k => decide ((m1 (mem 67) k = i ∨ m2 (mem 67) k = i) ∧ m3 (mem 67) k < sSz (to - mP (mem 67) (if m1 (mem 67) k = i then m2 (mem 67) k else m1 (mem 67) k)) ∧ sSz (mP (mem 67) i - mP (mem 67) (if m1 (mem 67) k = i then m2 (mem 67) k else m1 (mem 67) k)) < sSz (to - mP (mem 67) (if m1 (mem 67) k = i then m2 (mem 67) k else m1 (mem 67) k)))) (x + 1) k)) = sHeld (mem 67 53) (m1 (mem 67)) (m2 (mem 67)) (m3 (mem 67)) (mP (mem 67)) i to → SW l G (zrm 2) RX6 cX6_isHeld 8 (some .boolean) (zZ G (zP1 (zI (zb (sHeld (mem 67 53) (m1 (mem 67)) (m2 (mem 67)) (m3 (mem 67)) (mP (mem 67)) i to))) mem)) 0 0 (fun _ => True) 74 [zR 65, zI i, zI to, zI (zb acc), zI x, zI (35 + 3 * x), v6, v7] [zI o] mem := by
        intro o ho0 ho9 hf
        have hpo := hp o ho0 ho9
        refine r_istore dX6_isHeld_74 rfl ?_
        refine r_iload dX6_isHeld_76 rfl ?_
        refine r_bipush dX6_isHeld_78 (k := ?_)
        refine r_icmp_eq (tgt := 132) dX6_isHeld_80 (by decide) (fun h80 => absurd h80 (by omega)) (fun h80 => ?_)
        refine r_iload_n dX6_isHeld_83 rfl ?_
        refine r_aload_n dX6_isHeld_84 rfl ?_
        refine r_iload dX6_isHeld_85 rfl ?_
        refine r_v1 (c_place _ (by omega) (by omega)) kX6_156 rfl dX6_isHeld_87 ?_
        refine r_isub dX6_isHeld_90 ?_
        try rw [zw_id (by omega) (by omega)]
        refine r_s1 (c_sizeOf _) kX6_159 dX6_isHeld_91 ?_
        rw [zabs_sz (by omega) (by omega)]
        refine r_istore dX6_isHeld_94 rfl ?_
        refine r_iload_n dX6_isHeld_96 rfl ?_
        refine r_ifb_ne (tgt := 126) dX6_isHeld_97 (by decide) (fun h97 => ?_) (fun h97 => ?_)
        · refine r_iconst dX6_isHeld_126 (k := ?_)
          refine r_goto (tgt := 131) dX6_isHeld_127 (by decide) ?_
          refine r_istore_n dX6_isHeld_131 rfl ?_
          exact tail true _ _ _ (by rw [← hf]; first | (rw [h97]; rfl) | (rw [decide_eq_true (show m3 (mem 67) x < sSz (to - mP (mem 67) o) ∧ sSz (mP (mem 67) i - mP (mem 67) o) < sSz (to - mP (mem 67) o) by omega)]; simp))
        · refine r_iload dX6_isHeld_100 rfl ?_
          refine r_aload_n dX6_isHeld_102 rfl ?_
          refine r_getR (q := 67) fX6_13 rfl rfl dX6_isHeld_103 ?_
          refine r_iload dX6_isHeld_106 rfl ?_
          refine r_iconst dX6_isHeld_108 (k := ?_)
          refine r_iadd dX6_isHeld_109 ?_
          try rw [zw_id (by omega) (by omega)]
          refine r_iald rfl (by omega) (by omega) dX6_isHeld_110 ?_
          rw [m3_at (c := mem 67) (k := x) (j := 35 + 3 * x + 2) (by omega) (by omega)]
          refine r_icmp_le (tgt := 130) dX6_isHeld_111 (by decide) (fun h111 => ?_) (fun h111 => ?_)
          · refine r_iconst dX6_isHeld_130 (k := ?_)
            refine r_istore_n dX6_isHeld_131 rfl ?_
            exact tail false _ _ _ (by rw [← hf, h97, decide_eq_false (show ¬ (m3 (mem 67) x < sSz (to - mP (mem 67) o) ∧ sSz (mP (mem 67) i - mP (mem 67) o) < sSz (to - mP (mem 67) o)) by omega)]; rfl)
          · refine r_iload dX6_isHeld_114 rfl ?_
            refine r_aload_n dX6_isHeld_116 rfl ?_
            refine r_iload_n dX6_isHeld_117 rfl ?_
            refine r_iload dX6_isHeld_118 rfl ?_
            refine r_v2 (c_apart _ _ (by omega) (by omega) (by omega) (by omega) hI) kX6_162 rfl dX6_isHeld_120 ?_
            refine r_icmp_le (tgt := 130) dX6_isHeld_123 (by decide) (fun h123 => ?_) (fun h123 => ?_)
            · refine r_iconst dX6_isHeld_130 (k := ?_)
              refine r_istore_n dX6_isHeld_131 rfl ?_
              exact tail false _ _ _ (by rw [← hf, h97, decide_eq_false (show ¬ (m3 (mem 67) x < sSz (to - mP (mem 67) o) ∧ sSz (mP (mem 67) i - mP (mem 67) o) < sSz (to - mP (mem 67) o)) by omega)]; rfl)
            · refine r_iconst dX6_isHeld_126 (k := ?_)
              refine r_goto (tgt := 131) dX6_isHeld_127 (by decide) ?_
              refine r_istore_n dX6_isHeld_131 rfl ?_
              exact tail true _ _ _ (by rw [← hf]; first | (rw [h97]; rfl) | (rw [decide_eq_true (show m3 (mem 67) x < sSz (to - mP (mem 67) o) ∧ sSz (mP (mem 67) i - mP (mem 67) o) < sSz (to - mP (mem 67) o) by omega)]; simp))
      refine r_iload dX6_isHeld_5 rfl ?_
      refine r_aload_n dX6_isHeld_7 rfl ?_
      refine r_getR (q := 67) fX6_13 rfl rfl dX6_isHeld_8 ?_
      refine r_bipush dX6_isHeld_11 (k := ?_)
      refine r_iald rfl (by omega) (by omega) dX6_isHeld_13 ?_
      refine r_icmp_ge (tgt := 138) dX6_isHeld_14 (by decide) (fun h14 => absurd h14 (by omega)) (fun h14 => ?_)
      refine r_bipush dX6_isHeld_17 (k := ?_)
      refine r_iconst dX6_isHeld_19 (k := ?_)
      refine r_iload dX6_isHeld_20 rfl ?_
      refine r_imul dX6_isHeld_22 ?_
      try rw [zw_id (by omega) (by omega)]
      refine r_iadd dX6_isHeld_23 ?_
      try rw [zw_id (by omega) (by omega)]
      refine r_istore dX6_isHeld_24 rfl ?_
      refine r_aload_n dX6_isHeld_26 rfl ?_
      refine r_getR (q := 67) fX6_13 rfl rfl dX6_isHeld_27 ?_
      refine r_iload dX6_isHeld_30 rfl ?_
      refine r_iald rfl (by omega) (by omega) dX6_isHeld_32 ?_
      rw [m1_at (c := mem 67) (k := x) (j := 35 + 3 * x) (by omega) (by omega)]
      refine r_iload_n dX6_isHeld_33 rfl ?_
      refine r_icmp_ne (tgt := 49) dX6_isHeld_34 (by decide) (fun h34 => ?_) (fun h34 => ?_)
      ·
        refine r_aload_n dX6_isHeld_49 rfl ?_
        refine r_getR (q := 67) fX6_13 rfl rfl dX6_isHeld_50 ?_
        refine r_iload dX6_isHeld_53 rfl ?_
        refine r_iconst dX6_isHeld_55 (k := ?_)
        refine r_iadd dX6_isHeld_56 ?_
        try rw [zw_id (by omega) (by omega)]
        refine r_iald rfl (by omega) (by omega) dX6_isHeld_57 ?_
        rw [m2_at (c := mem 67) (k := x) (j := 35 + 3 * x + 1) (by omega) (by omega)]
        refine r_iload_n dX6_isHeld_58 rfl ?_
        refine r_icmp_ne (tgt := 72) dX6_isHeld_59 (by decide) (fun h59 => ?_) (fun h59 => ?_)
        ·
          refine r_bipush dX6_isHeld_72 (k := ?_)
          refine r_istore dX6_isHeld_74 rfl ?_
          refine r_iload dX6_isHeld_76 rfl ?_
          refine r_bipush dX6_isHeld_78 (k := ?_)
          refine r_icmp_eq (tgt := 132) dX6_isHeld_80 (by decide) (fun h80 => ?_) (fun h80 => absurd rfl h80)
          exact tail acc _ _ _ (by rw [← he]; simp [h34, h59])
        ·
          refine r_aload_n dX6_isHeld_62 rfl ?_
          refine r_getR (q := 67) fX6_13 rfl rfl dX6_isHeld_63 ?_
          refine r_iload dX6_isHeld_66 rfl ?_
          refine r_iald rfl (by omega) (by omega) dX6_isHeld_68 ?_
          rw [m1_at (c := mem 67) (k := x) (j := 35 + 3 * x) (by omega) (by omega)]
          refine r_goto (tgt := 74) dX6_isHeld_69 (by decide) ?_
          exact rest _ q1 q2 (by rw [← he]; simp [h34, h59])
      ·
        refine r_aload_n dX6_isHeld_37 rfl ?_
        refine r_getR (q := 67) fX6_13 rfl rfl dX6_isHeld_38 ?_
        refine r_iload dX6_isHeld_41 rfl ?_
        refine r_iconst dX6_isHeld_43 (k := ?_)
        refine r_iadd dX6_isHeld_44 ?_
        try rw [zw_id (by omega) (by omega)]
        refine r_iald rfl (by omega) (by omega) dX6_isHeld_45 ?_
        rw [m2_at (c := mem 67) (k := x) (j := 35 + 3 * x + 1) (by omega) (by omega)]
        refine r_goto (tgt := 74) dX6_isHeld_46 (by decide) ?_
        exact rest _ q3 q4 (by rw [← he]; simp [h34])
  refine r_iconst dX6_isHeld_0 (k := ?_)
  refine r_istore_n dX6_isHeld_1 rfl ?_
  refine r_iconst dX6_isHeld_2 (k := ?_)
  refine r_istore dX6_isHeld_3 rfl ?_
  exact loop (mem 67 53).toNat 0 false zU zU zU (by omega) (by omega) (by rw [Bool.false_or]; rfl)
def mTaken (n : Int) (p : Int → Int) (v : Int) : Bool := zany (fun i => decide (p i = v)) 0 n.toNat
set_option maxRecDepth 100000 in
theorem c_X6_isTaken (hI : mI (mem 65 3) (mem 67)) (v : Int) : KX6_isTaken l G 1 [zR 65, zI v] mem (zP1 (zI (zb (mTaken (mem 65 3) (mP (mem 67)) v))) mem) := by
  obtain ⟨hn0, hn5, hr0, hr6, hp, hg, hr⟩ := id hI
  refine CT.of' (own := RX6) (ls0 := [zR 65, zI v, zU, zU]) rfl (by decide +kernel) (Nat.le_of_ble_eq_true rfl) rfl ?_
  have loop : ∀ (k : Nat) (x : Int) (acc : Bool), 0 ≤ x → x + k = mem 65 3 → (acc || zany (fun i => decide (mP (mem 67) i = v)) x k) = mTaken (mem 65 3) (mP (mem 67)) v → SW l G (zrm 1) RX6 cX6_isTaken 4 (some .boolean) (zZ G (zP1 (zI (zb (mTaken (mem 65 3) (mP (mem 67)) v))) mem)) 0 0 (fun _ => True) 4 [zR 65, zI v, zI (zb acc), zI x] [] mem := by
    intro k
    induction k with
    | zero =>
      intro x acc h0 h1 he
      refine r_iload_n dX6_isTaken_4 rfl ?_
      refine r_aload_n dX6_isTaken_5 rfl ?_
      refine r_gI (q := 3) rfl fX6_64 rfl (by decide) dX6_isTaken_6 ?_
      refine r_icmp_ge (tgt := 37) dX6_isTaken_9 (by decide) (fun h9 => ?_) (fun h9 => ?_)
      · refine r_iload_n dX6_isTaken_37 rfl ?_
        refine r_zret dX6_isTaken_38 (zb_01 _) ?_
        exact zP1.ofI (by rw [← he, zany, Bool.or_false])
      · exact absurd (by omega) h9
    | succ k ih =>
      intro x acc h0 h1 he
      rw [zany] at he
      refine r_iload_n dX6_isTaken_4 rfl ?_
      refine r_aload_n dX6_isTaken_5 rfl ?_
      refine r_gI (q := 3) rfl fX6_64 rfl (by decide) dX6_isTaken_6 ?_
      refine r_icmp_ge (tgt := 37) dX6_isTaken_9 (by decide) (fun h9 => ?_) (fun h9 => ?_)
      · exact absurd h9 (by omega)
      · refine r_iload_n dX6_isTaken_12 rfl ?_
        refine r_ifb_ne (tgt := 25) dX6_isTaken_13 (by decide) (fun h13 => ?_) (fun h13 => ?_)
        · refine r_iconst dX6_isTaken_25 (k := ?_)
          refine r_goto (tgt := 30) dX6_isTaken_26 (by decide) ?_
          refine r_istore_n dX6_isTaken_30 rfl ?_
          refine r_iinc dX6_isTaken_31 rfl rfl ?_
          try rw [zw_id (by omega) (by omega)]
          refine r_goto (tgt := 4) dX6_isTaken_34 (by decide) ?_
          first | exact ih _ true (by omega) (by omega) (by rw [← he, h13]; rfl) | exact ih _ true (by omega) (by omega) (by rw [← he, h13, decide_eq_true h22]; rfl) | exact ih _ false (by omega) (by omega) (by rw [← he, h13, decide_eq_false h22]; rfl)
        · refine r_aload_n dX6_isTaken_16 rfl ?_
          refine r_iload_n dX6_isTaken_17 rfl ?_
          refine r_v1 (c_place _ (by omega) (by omega)) kX6_156 rfl dX6_isTaken_18 ?_
          refine r_iload_n dX6_isTaken_21 rfl ?_
          refine r_icmp_ne (tgt := 29) dX6_isTaken_22 (by decide) (fun h22 => ?_) (fun h22 => ?_)
          · refine r_iconst dX6_isTaken_29 (k := ?_)
            refine r_istore_n dX6_isTaken_30 rfl ?_
            refine r_iinc dX6_isTaken_31 rfl rfl ?_
            try rw [zw_id (by omega) (by omega)]
            refine r_goto (tgt := 4) dX6_isTaken_34 (by decide) ?_
            first | exact ih _ true (by omega) (by omega) (by rw [← he, h13]; rfl) | exact ih _ true (by omega) (by omega) (by rw [← he, h13, decide_eq_true h22]; rfl) | exact ih _ false (by omega) (by omega) (by rw [← he, h13, decide_eq_false h22]; rfl)
          · refine r_iconst dX6_isTaken_25 (k := ?_)
            refine r_goto (tgt := 30) dX6_isTaken_26 (by decide) ?_
            refine r_istore_n dX6_isTaken_30 rfl ?_
            refine r_iinc dX6_isTaken_31 rfl rfl ?_
            try rw [zw_id (by omega) (by omega)]
            refine r_goto (tgt := 4) dX6_isTaken_34 (by decide) ?_
            first | exact ih _ true (by omega) (by omega) (by rw [← he, h13]; rfl) | exact ih _ true (by omega) (by omega) (by rw [← he, h13, decide_eq_true h22]; rfl) | exact ih _ false (by omega) (by omega) (by rw [← he, h13, decide_eq_false h22]; rfl)
  refine r_iconst dX6_isTaken_0 (k := ?_)
  refine r_istore_n dX6_isTaken_1 rfl ?_
  refine r_iconst dX6_isTaken_2 (k := ?_)
  refine r_istore_n dX6_isTaken_3 rfl ?_
  exact loop (mem 65 3).toNat 0 false (by omega) (by omega) (by rw [Bool.false_or]; rfl)
def mNear (n : Int) (p : Int → Int) (i : Int) : Int := zfor (fun j f => if j ≠ i ∧ (f = -4 ∨ sSz (p i - p j) < sSz (p i - p f)) then j else f) 0 n.toNat (-4)
set_option maxRecDepth 100000 in
theorem c_nearest (hI : mI (mem 65 3) (mem 67)) (i : Int) (hi0 : 0 ≤ i) (hi1 : i < mem 65 3) : KX6_nearest l G 2 [zR 65, zI i] mem (zP1 (zI (mNear (mem 65 3) (mP (mem 67)) i)) mem) := by
  obtain ⟨hn0, hn5, hr0, hr6, hp, hg, hr⟩ := id hI
  refine CT.of' (own := RX6) (ls0 := [zR 65, zI i, zU, zU]) rfl (by decide +kernel) (Nat.le_of_ble_eq_true rfl) rfl ?_
  have loop : ∀ (k : Nat) (x f : Int), 0 ≤ x → x + k = mem 65 3 → (f = -4 ∨ (0 ≤ f ∧ f < mem 65 3)) → zfor (fun j f => if j ≠ i ∧ (f = -4 ∨ sSz (mP (mem 67) i - mP (mem 67) j) < sSz (mP (mem 67) i - mP (mem 67) f)) then j else f) x k f = mNear (mem 65 3) (mP (mem 67)) i → SW l G (zrm 2) RX6 cX6_nearest 4 (some .int) (zZ G (zP1 (zI (mNear (mem 65 3) (mP (mem 67)) i)) mem)) 0 0 (fun _ => True) 5 [zR 65, zI i, zI f, zI x] [] mem := by
    intro k
    induction k with
    | zero =>
      intro x f h0 h1 hf he
      refine r_iload_n dX6_nearest_5 rfl ?_
      refine r_aload_n dX6_nearest_6 rfl ?_
      refine r_gI (q := 3) rfl fX6_64 rfl (by decide) dX6_nearest_7 ?_
      refine r_icmp_ge (tgt := 51) dX6_nearest_10 (by decide) (fun h10 => ?_) (fun h10 => ?_)
      · refine r_iload_n dX6_nearest_51 rfl ?_
        refine r_iret dX6_nearest_52 ?_
        exact zP1.ofI he
      · exact absurd (by omega) h10
    | succ k ih =>
      intro x f h0 h1 hf he
      rw [zfor] at he
      refine r_iload_n dX6_nearest_5 rfl ?_
      refine r_aload_n dX6_nearest_6 rfl ?_
      refine r_gI (q := 3) rfl fX6_64 rfl (by decide) dX6_nearest_7 ?_
      refine r_icmp_ge (tgt := 51) dX6_nearest_10 (by decide) (fun h10 => ?_) (fun h10 => ?_)
      · exact absurd h10 (by omega)
      · refine r_iload_n dX6_nearest_13 rfl ?_
        refine r_iload_n dX6_nearest_14 rfl ?_
        refine r_icmp_eq (tgt := 43) dX6_nearest_15 (by decide) (fun h15 => ?_) (fun h15 => ?_)
        · refine r_iload_n dX6_nearest_43 rfl ?_
          refine r_istore_n dX6_nearest_44 rfl ?_
          refine r_iinc dX6_nearest_45 rfl rfl ?_
          try rw [zw_id (by omega) (by omega)]
          refine r_goto (tgt := 5) dX6_nearest_48 (by decide) ?_
          exact ih _ _ (by omega) (by omega) (by omega) (by split at he <;> first | exact he | (exfalso; omega))
        · refine r_iload_n dX6_nearest_18 rfl ?_
          refine r_bipush dX6_nearest_19 (k := ?_)
          refine r_icmp_eq (tgt := 39) dX6_nearest_21 (by decide) (fun h21 => ?_) (fun h21 => ?_)
          · refine r_iload_n dX6_nearest_39 rfl ?_
            refine r_goto (tgt := 44) dX6_nearest_40 (by decide) ?_
            refine r_istore_n dX6_nearest_44 rfl ?_
            refine r_iinc dX6_nearest_45 rfl rfl ?_
            try rw [zw_id (by omega) (by omega)]
            refine r_goto (tgt := 5) dX6_nearest_48 (by decide) ?_
            exact ih _ _ (by omega) (by omega) (by omega) (by split at he <;> first | exact he | (exfalso; omega))
          · refine r_aload_n dX6_nearest_24 rfl ?_
            refine r_iload_n dX6_nearest_25 rfl ?_
            refine r_iload_n dX6_nearest_26 rfl ?_
            refine r_v2 (c_apart _ _ (by omega) (by omega) (by omega) (by omega) hI) kX6_162 rfl dX6_nearest_27 ?_
            refine r_aload_n dX6_nearest_30 rfl ?_
            refine r_iload_n dX6_nearest_31 rfl ?_
            refine r_iload_n dX6_nearest_32 rfl ?_
            refine r_v2 (c_apart _ _ (by omega) (by omega) (by omega) (by omega) hI) kX6_162 rfl dX6_nearest_33 ?_
            refine r_icmp_ge (tgt := 43) dX6_nearest_36 (by decide) (fun h36 => ?_) (fun h36 => ?_)
            · refine r_iload_n dX6_nearest_43 rfl ?_
              refine r_istore_n dX6_nearest_44 rfl ?_
              refine r_iinc dX6_nearest_45 rfl rfl ?_
              try rw [zw_id (by omega) (by omega)]
              refine r_goto (tgt := 5) dX6_nearest_48 (by decide) ?_
              exact ih _ _ (by omega) (by omega) (by omega) (by split at he <;> first | exact he | (exfalso; omega))
            · refine r_iload_n dX6_nearest_39 rfl ?_
              refine r_goto (tgt := 44) dX6_nearest_40 (by decide) ?_
              refine r_istore_n dX6_nearest_44 rfl ?_
              refine r_iinc dX6_nearest_45 rfl rfl ?_
              try rw [zw_id (by omega) (by omega)]
              refine r_goto (tgt := 5) dX6_nearest_48 (by decide) ?_
              exact ih _ _ (by omega) (by omega) (by omega) (by split at he <;> first | exact he | (exfalso; omega))
  refine r_bipush dX6_nearest_0 (k := ?_)
  refine r_istore_n dX6_nearest_2 rfl ?_
  refine r_iconst dX6_nearest_3 (k := ?_)
  refine r_istore_n dX6_nearest_4 rfl ?_
  exact loop (mem 65 3).toNat 0 (-4) (by omega) (by omega) (by omega) rfl
end
