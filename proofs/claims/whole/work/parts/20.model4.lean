/-! ===== the reference: a day, walked ===== -/
theorem zu_id {f : Int → Int} {k : Int} : zu f k (f k) = f := by
  funext j
  by_cases h : j = k
  · rw [h, zu_s]
  · rw [zu_n h]
theorem mR_i {c : Int → Int} {s : (Int → Int) × Int × Int} {i : Int} (h0 : 0 ≤ i) (h1 : i < 5) : mR c s (2 * i + 1) = s.1 i := by
  unfold mR
  rw [if_neg (by omega), if_neg (by omega), if_pos (by omega), show (2 * i + 1 - 1) / 2 = i by omega]
theorem mR_mR {c : Int → Int} {s t : (Int → Int) × Int × Int} : mR (mR c s) t = mR c t := by
  funext k
  unfold mR
  by_cases h1 : k = 56
  · simp only [if_pos h1]
  · by_cases h2 : k = 54
    · simp only [if_neg h1, if_pos h2]
    · by_cases h3 : 0 ≤ k ∧ k < 10 ∧ k % 2 = 1
      · simp only [if_neg h1, if_neg h2, if_pos h3]
      · simp only [if_neg h1, if_neg h2, if_neg h3]
section
variable {l : Launch} {G : zG} {mem : zM}
set_option maxRecDepth 100000 in
theorem c_drifts (hI : mI (mem 65 3) (mem 67)) (i : Int) (hi0 : 0 ≤ i) (hi1 : i < mem 65 3) : KX6_drifts l G 3 [zR 65, zI i] mem (zP0 (zr mem 67 (mR (mem 67) ((sOff (mem 65 3) (mem 67 53) (m1 (mem 67)) (m2 (mem 67)) (m3 (mem 67)) i (zsg (sDriftOf (mT (mem 67) i) (sPlain (mem 65 3) (mP (mem 67)) (mG (mem 67)) i))) (sSz (sDriftOf (mT (mem 67) i) (sPlain (mem 65 3) (mP (mem 67)) (mG (mem 67)) i))).toNat (mP (mem 67), mem 67 56)).1, (sOff (mem 65 3) (mem 67 53) (m1 (mem 67)) (m2 (mem 67)) (m3 (mem 67)) i (zsg (sDriftOf (mT (mem 67) i) (sPlain (mem 65 3) (mP (mem 67)) (mG (mem 67)) i))) (sSz (sDriftOf (mT (mem 67) i) (sPlain (mem 65 3) (mP (mem 67)) (mG (mem 67)) i))).toNat (mP (mem 67), mem 67 56)).2, mem 67 54)))) := by
  obtain ⟨hn0, hn5, hr0, hr6, hp, hg, hr⟩ := id hI
  have hS := sPlain_bd (p := mP (mem 67)) hn0 hn5 (fun j h1 h2 => hg i j hi0 hi1 h1 h2)
  have hD := sDriftOf_bd (t := mT (mem 67) i) hS.1 hS.2
  refine CT.of' (own := RX6) (ls0 := [zR 65, zI i, zU, zU, zU, zU, zU]) rfl (by decide +kernel) (Nat.le_of_ble_eq_true rfl) rfl ?_
  generalize hS9 : sOff (mem 65 3) (mem 67 53) (m1 (mem 67)) (m2 (mem 67)) (m3 (mem 67)) i (zsg (sDriftOf (mT (mem 67) i) (sPlain (mem 65 3) (mP (mem 67)) (mG (mem 67)) i))) (sSz (sDriftOf (mT (mem 67) i) (sPlain (mem 65 3) (mP (mem 67)) (mG (mem 67)) i))).toNat (mP (mem 67), mem 67 56) = S
  have hz := zsg_bd (sDriftOf (mT (mem 67) i) (sPlain (mem 65 3) (mP (mem 67)) (mG (mem 67)) i))
  have hsz := sSz_le (x := (sDriftOf (mT (mem 67) i) (sPlain (mem 65 3) (mP (mem 67)) (mG (mem 67)) i))) (m := 40) (by omega) (by omega)
  have hs0 := sSz_0 (sDriftOf (mT (mem 67) i) (sPlain (mem 65 3) (mP (mem 67)) (mG (mem 67)) i))
  have stopped : ∀ (x D w : Int) (p : Int → Int) (bu : Int) (v6 : zV), -40 ≤ D → D ≤ 40 → (p, bu) = S → SW l G (zrm 3) RX6 cX6_drifts 7 none (zZ G (zP0 (zr mem 67 (mR (mem 67) (S.1, S.2, mem 67 54))))) 0 0 (fun _ => True) 22 [zR 65, zI i, zI D, zI w, zI 1, zI x, v6] [] (zr mem 67 (mR (mem 67) (p, bu, mem 67 54))) := by
    intro x D w p bu v6 d1 d2 he
    refine r_iload dX6_drifts_22 rfl ?_
    refine r_iload_n dX6_drifts_24 rfl ?_
    refine r_s1 (c_sizeOf _) kX6_159 dX6_drifts_25 ?_
    try simp (disch := decide) only [zr_s, zr_n, mR_P hmo, mR_T, mR_G, mR_1, mR_2, mR_3, mR_53, mR_55, mR_56, mR_54]
    refine r_icmp_ge (tgt := 127) dX6_drifts_28 (by decide) (fun h28 => ?_) (fun h28 => ?_)
    · refine r_vret dX6_drifts_127 ?_
      exact zP0.of (by rw [← he])
    · refine r_iload dX6_drifts_31 rfl ?_
      refine r_if_ne (tgt := 127) dX6_drifts_33 (by decide) (fun h33 => ?_) (fun h33 => ?_)
      · refine r_vret dX6_drifts_127 ?_
        exact zP0.of (by rw [← he])
      · exact absurd h33 (by decide)
  have loop : ∀ (k : Nat) (x D w : Int) (p : Int → Int) (bu : Int) (v6 : zV), 0 ≤ x → -40 ≤ D → D ≤ 40 → x + k = sSz D → (w = 1 ∨ w = -1) → sPB (mem 65 3) p → mOut (mem 67) p → sOff (mem 65 3) (mem 67 53) (m1 (mem 67)) (m2 (mem 67)) (m3 (mem 67)) i w k (p, bu) = S → SW l G (zrm 3) RX6 cX6_drifts 7 none (zZ G (zP0 (zr mem 67 (mR (mem 67) (S.1, S.2, mem 67 54))))) 0 0 (fun _ => True) 22 [zR 65, zI i, zI D, zI w, zI 0, zI x, v6] [] (zr mem 67 (mR (mem 67) (p, bu, mem 67 54))) := by
    intro k
    induction k with
    | zero =>
      intro x D w p bu v6 h0 d1 d2 hx hw hpb hmo he
      refine r_iload dX6_drifts_22 rfl ?_
      refine r_iload_n dX6_drifts_24 rfl ?_
      refine r_s1 (c_sizeOf _) kX6_159 dX6_drifts_25 ?_
      try simp (disch := decide) only [zr_s, zr_n, mR_P hmo, mR_T, mR_G, mR_1, mR_2, mR_3, mR_53, mR_55, mR_56, mR_54]
      rw [zabs_sz (by omega) (by omega)]
      refine r_icmp_ge (tgt := 127) dX6_drifts_28 (by decide) (fun h28 => ?_) (fun h28 => ?_)
      · refine r_vret dX6_drifts_127 ?_
        exact zP0.of (by rw [← he]; rfl)
      · exact absurd (by omega) h28
    | succ k ih =>
      intro x D w p bu v6 h0 d1 d2 hx hw hpb hmo he
      have hJ : mI (zr mem 67 (mR (mem 67) (p, bu, mem 67 54)) 65 3) (zr mem 67 (mR (mem 67) (p, bu, mem 67 54)) 67) := by
        rw [zr_n (by decide), zr_s]; exact hI.r hmo hpb
      have hmo : mOut (mem 67) (p, bu, mem 67 54).1 := hmo
      have hpi := hpb i hi0 hi1
      have hsd := sSz_le (x := D) (m := 40) (by omega) (by omega)
      rw [sOff] at he
      dsimp only at he
      have wr : ∀ v : Int, zs (zr mem 67 (mR (mem 67) (p, bu, mem 67 54))) 67 (2 * i + 1) v = zr mem 67 (mR (mem 67) (zu p i v, bu, mem 67 54)) := fun v => by rw [zs_zr, mR_p hi0 (by omega)]
      have wb : ∀ v : Int, zs (zr mem 67 (mR (mem 67) (p, bu, mem 67 54))) 67 56 v = zr mem 67 (mR (mem 67) (p, v, mem 67 54)) := fun v => by rw [zs_zr, mR_b]
      have wr2 : ∀ v b2 : Int, zs (zr mem 67 (mR (mem 67) (p, b2, mem 67 54))) 67 (2 * i + 1) v = zr mem 67 (mR (mem 67) (zu p i v, b2, mem 67 54)) := fun v b2 => by rw [zs_zr, mR_p hi0 (by omega)]
      refine r_iload dX6_drifts_22 rfl ?_
      refine r_iload_n dX6_drifts_24 rfl ?_
      refine r_s1 (c_sizeOf _) kX6_159 dX6_drifts_25 ?_
      try simp (disch := decide) only [zr_s, zr_n, mR_P hmo, mR_T, mR_G, mR_1, mR_2, mR_3, mR_53, mR_55, mR_56, mR_54]
      rw [zabs_sz (by omega) (by omega)]
      refine r_icmp_ge (tgt := 127) dX6_drifts_28 (by decide) (fun h28 => absurd h28 (by omega)) (fun h28 => ?_)
      refine r_iload dX6_drifts_31 rfl ?_
      refine r_if_ne (tgt := 127) dX6_drifts_33 (by decide) (fun h33 => absurd rfl h33) (fun h33 => ?_)
      refine r_aload_n dX6_drifts_36 rfl ?_
      refine r_iload_n dX6_drifts_37 rfl ?_
      refine r_v1 (c_place _ (by omega) (by omega)) kX6_156 rfl dX6_drifts_38 ?_
      try simp (disch := decide) only [zr_s, zr_n, mR_P hmo, mR_T, mR_G, mR_1, mR_2, mR_3, mR_53, mR_55, mR_56, mR_54]
      refine r_iload_n dX6_drifts_41 rfl ?_
      refine r_iadd dX6_drifts_42 ?_
      try rw [zw_id (by omega) (by omega)]
      refine r_istore dX6_drifts_43 rfl ?_
      have hold : (p i + w < 0 ∨ 99 < p i + w ∨ sHeld (mem 67 53) (m1 (mem 67)) (m2 (mem 67)) (m3 (mem 67)) p i (p i + w) = true) → SW l G (zrm 3) RX6 cX6_drifts 7 none (zZ G (zP0 (zr mem 67 (mR (mem 67) (S.1, S.2, mem 67 54))))) 0 0 (fun _ => True) 63 [zR 65, zI i, zI D, zI w, zI 0, zI x, zI (p i + w)] [] (zr mem 67 (mR (mem 67) (p, bu, mem 67 54))) := by
        intro hc
        rw [if_pos hc] at he
        refine r_iconst dX6_drifts_63 (k := ?_)
        refine r_goto (tgt := 68) dX6_drifts_64 (by decide) ?_
        refine r_istore dX6_drifts_68 rfl ?_
        refine r_iload dX6_drifts_70 rfl ?_
        refine r_if_ne (tgt := 98) dX6_drifts_72 (by decide) (fun h72 => ?_) (fun h72 => absurd h72 (by decide))
        refine r_aload_n dX6_drifts_98 rfl ?_
        refine r_getR (q := 67) fX6_13 rfl rfl dX6_drifts_99 ?_
        try simp (disch := decide) only [zr_s, zr_n, mR_P hmo, mR_T, mR_G, mR_1, mR_2, mR_3, mR_53, mR_55, mR_56, mR_54]
        refine r_iconst dX6_drifts_102 (k := ?_)
        refine r_iload_n dX6_drifts_103 rfl ?_
        refine r_imul dX6_drifts_104 ?_
        try rw [zw_id (by omega) (by omega)]
        refine r_iconst dX6_drifts_105 (k := ?_)
        refine r_iadd dX6_drifts_106 ?_
        try rw [zw_id (by omega) (by omega)]
        refine r_dup2 dX6_drifts_107 rfl rfl ?_
        refine r_iald rfl (by omega) (by omega) dX6_drifts_108 ?_
        try simp (disch := decide) only [zr_s, zr_n, mR_P hmo, mR_T, mR_G, mR_1, mR_2, mR_3, mR_53, mR_55, mR_56, mR_54]
        rw [mR_i hi0 (by omega)]
        try dsimp only
        refine r_iload dX6_drifts_109 rfl ?_
        refine r_if_eq (tgt := 118) dX6_drifts_111 (by decide) (fun h111 => absurd h111 (by decide)) (fun h111 => ?_)
        refine r_iconst dX6_drifts_114 (k := ?_)
        refine r_goto (tgt := 119) dX6_drifts_115 (by decide) ?_
        refine r_iadd dX6_drifts_119 ?_
        try rw [zw_id (by omega) (by omega)]
        refine r_iast rfl (by omega) (by omega) dX6_drifts_120 ?_
        rw [wr, Int.add_zero, zu_id]
        refine r_iinc dX6_drifts_121 rfl rfl ?_
        try rw [zw_id (by omega) (by omega)]
        refine r_goto (tgt := 22) dX6_drifts_124 (by decide) ?_
        exact stopped _ _ _ _ _ _ d1 d2 he
      refine r_iload dX6_drifts_45 rfl ?_
      refine r_s1 (c_isFathom _) kX6_171 dX6_drifts_47 ?_
      try simp (disch := decide) only [zr_s, zr_n, mR_P hmo, mR_T, mR_G, mR_1, mR_2, mR_3, mR_53, mR_55, mR_56, mR_54]
      refine r_ifb_eq (tgt := 63) dX6_drifts_50 (by decide) (fun h50 => ?_) (fun h50 => ?_)
      · exact hold (by simp only [decide_eq_false_iff_not] at h50; omega)
      simp only [decide_eq_true_eq] at h50
      refine r_aload_n dX6_drifts_53 rfl ?_
      refine r_iload_n dX6_drifts_54 rfl ?_
      refine r_iload dX6_drifts_55 rfl ?_
      refine r_v2 (c_X6_isHeld hJ i _ hi0 (by rw [zr_n (by decide)]; exact hi1) (by omega) (by omega)) kX6_174 rfl dX6_drifts_57 ?_
      try simp (disch := decide) only [zr_s, zr_n, mR_P hmo, mR_T, mR_G, mR_1, mR_2, mR_3, mR_53, mR_55, mR_56, mR_54]
      refine r_ifb_eq (tgt := 67) dX6_drifts_60 (by decide) (fun h60 => ?_) (fun h60 => ?_)
      rotate_left
      · exact hold (Or.inr (Or.inr h60))
      rw [if_neg (by rintro (q | q | q); omega; omega; rw [h60] at q; exact absurd q (by decide))] at he
      refine r_iconst dX6_drifts_67 (k := ?_)
      refine r_istore dX6_drifts_68 rfl ?_
      refine r_iload dX6_drifts_70 rfl ?_
      refine r_if_ne (tgt := 98) dX6_drifts_72 (by decide) (fun h72 => absurd rfl h72) (fun h72 => ?_)
      have htk : mTaken (mem 65 3) p (p i + w) = sTaken (mem 65 3) p (p i + w) i := mTaken_eq (by omega)
      refine r_aload_n dX6_drifts_75 rfl ?_
      refine r_iload dX6_drifts_76 rfl ?_
      refine r_v1 (c_X6_isTaken hJ _) kX6_178 rfl dX6_drifts_78 ?_
      try simp (disch := decide) only [zr_s, zr_n, mR_P hmo, mR_T, mR_G, mR_1, mR_2, mR_3, mR_53, mR_55, mR_56, mR_54]
      rw [htk]
      refine r_ifb_eq (tgt := 98) dX6_drifts_81 (by decide) (fun h81 => ?_) (fun h81 => ?_)
      ·
        rw [if_neg (by rw [h81]; decide)] at he
        refine r_aload_n dX6_drifts_98 rfl ?_
        refine r_getR (q := 67) fX6_13 rfl rfl dX6_drifts_99 ?_
        try simp (disch := decide) only [zr_s, zr_n, mR_P hmo, mR_T, mR_G, mR_1, mR_2, mR_3, mR_53, mR_55, mR_56, mR_54]
        refine r_iconst dX6_drifts_102 (k := ?_)
        refine r_iload_n dX6_drifts_103 rfl ?_
        refine r_imul dX6_drifts_104 ?_
        try rw [zw_id (by omega) (by omega)]
        refine r_iconst dX6_drifts_105 (k := ?_)
        refine r_iadd dX6_drifts_106 ?_
        try rw [zw_id (by omega) (by omega)]
        refine r_dup2 dX6_drifts_107 rfl rfl ?_
        refine r_iald rfl (by omega) (by omega) dX6_drifts_108 ?_
        try simp (disch := decide) only [zr_s, zr_n, mR_P hmo, mR_T, mR_G, mR_1, mR_2, mR_3, mR_53, mR_55, mR_56, mR_54]
        rw [mR_i hi0 (by omega)]
        try dsimp only
        refine r_iload dX6_drifts_109 rfl ?_
        refine r_if_eq (tgt := 118) dX6_drifts_111 (by decide) (fun h111 => ?_) (fun h111 => absurd rfl h111)
        refine r_iload_n dX6_drifts_118 rfl ?_
        refine r_iadd dX6_drifts_119 ?_
        try rw [zw_id (by omega) (by omega)]
        refine r_iast rfl (by omega) (by omega) dX6_drifts_120 ?_
        rw [wr]
        refine r_iinc dX6_drifts_121 rfl rfl ?_
        try rw [zw_id (by omega) (by omega)]
        refine r_goto (tgt := 22) dX6_drifts_124 (by decide) ?_
        exact ih _ _ _ _ _ _ (by omega) d1 d2 (by omega) hw (hpb.u (by omega) (by omega)) (hmo.u hi0 (by omega)) he
      ·
        rw [if_pos h81] at he
        refine r_iconst dX6_drifts_84 (k := ?_)
        refine r_istore dX6_drifts_85 rfl ?_
        refine r_aload_n dX6_drifts_87 rfl ?_
        refine r_getR (q := 67) fX6_13 rfl rfl dX6_drifts_88 ?_
        try simp (disch := decide) only [zr_s, zr_n, mR_P hmo, mR_T, mR_G, mR_1, mR_2, mR_3, mR_53, mR_55, mR_56, mR_54]
        refine r_bipush dX6_drifts_91 (k := ?_)
        refine r_dup2 dX6_drifts_93 rfl rfl ?_
        refine r_iald rfl (by omega) (by omega) dX6_drifts_94 ?_
        try simp (disch := decide) only [zr_s, zr_n, mR_P hmo, mR_T, mR_G, mR_1, mR_2, mR_3, mR_53, mR_55, mR_56, mR_54]
        refine r_iconst dX6_drifts_95 (k := ?_)
        refine r_iadd dX6_drifts_96 ?_
        refine r_iast rfl (by omega) (by omega) dX6_drifts_97 ?_
        rw [wb]
        have hmo : mOut (mem 67) (p, zw (bu + 1), mem 67 54).1 := hmo
        refine r_aload_n dX6_drifts_98 rfl ?_
        refine r_getR (q := 67) fX6_13 rfl rfl dX6_drifts_99 ?_
        try simp (disch := decide) only [zr_s, zr_n, mR_P hmo, mR_T, mR_G, mR_1, mR_2, mR_3, mR_53, mR_55, mR_56, mR_54]
        refine r_iconst dX6_drifts_102 (k := ?_)
        refine r_iload_n dX6_drifts_103 rfl ?_
        refine r_imul dX6_drifts_104 ?_
        try rw [zw_id (by omega) (by omega)]
        refine r_iconst dX6_drifts_105 (k := ?_)
        refine r_iadd dX6_drifts_106 ?_
        try rw [zw_id (by omega) (by omega)]
        refine r_dup2 dX6_drifts_107 rfl rfl ?_
        refine r_iald rfl (by omega) (by omega) dX6_drifts_108 ?_
        try simp (disch := decide) only [zr_s, zr_n, mR_P hmo, mR_T, mR_G, mR_1, mR_2, mR_3, mR_53, mR_55, mR_56, mR_54]
        rw [mR_i hi0 (by omega)]
        try dsimp only
        refine r_iload dX6_drifts_109 rfl ?_
        refine r_if_eq (tgt := 118) dX6_drifts_111 (by decide) (fun h111 => absurd h111 (by decide)) (fun h111 => ?_)
        refine r_iconst dX6_drifts_114 (k := ?_)
        refine r_goto (tgt := 119) dX6_drifts_115 (by decide) ?_
        refine r_iadd dX6_drifts_119 ?_
        try rw [zw_id (by omega) (by omega)]
        refine r_iast rfl (by omega) (by omega) dX6_drifts_120 ?_
        rw [wr2, Int.add_zero, zu_id]
        refine r_iinc dX6_drifts_121 rfl rfl ?_
        try rw [zw_id (by omega) (by omega)]
        refine r_goto (tgt := 22) dX6_drifts_124 (by decide) ?_
        exact stopped _ _ _ _ _ _ d1 d2 he
  have start : ∀ (w : Int) (v6 : zV), (w = 1 ∨ w = -1) → ((sDriftOf (mT (mem 67) i) (sPlain (mem 65 3) (mP (mem 67)) (mG (mem 67)) i)) ≠ 0 → w = zsg (sDriftOf (mT (mem 67) i) (sPlain (mem 65 3) (mP (mem 67)) (mG (mem 67)) i))) → SW l G (zrm 3) RX6 cX6_drifts 7 none (zZ G (zP0 (zr mem 67 (mR (mem 67) (S.1, S.2, mem 67 54))))) 0 0 (fun _ => True) 22 [zR 65, zI i, zI (sDriftOf (mT (mem 67) i) (sPlain (mem 65 3) (mP (mem 67)) (mG (mem 67)) i)), zI w, zI 0, zI 0, v6] [] mem := by
    intro w v6 hw hw2
    have fin := loop (sSz (sDriftOf (mT (mem 67) i) (sPlain (mem 65 3) (mP (mem 67)) (mG (mem 67)) i))).toNat 0 (sDriftOf (mT (mem 67) i) (sPlain (mem 65 3) (mP (mem 67)) (mG (mem 67)) i)) w (mP (mem 67)) (mem 67 56) v6 (by omega) hD.1 hD.2 (by omega) hw hp mOut.s (by
      by_cases hz0 : (sDriftOf (mT (mem 67) i) (sPlain (mem 65 3) (mP (mem 67)) (mG (mem 67)) i)) = 0
      · rw [hz0] at hS9 ⊢
        exact hS9
      · rw [hw2 hz0]; exact hS9)
    rw [mR_self, zr_self] at fin
    exact fin
  refine r_aload_n dX6_drifts_0 rfl ?_
  refine r_iload_n dX6_drifts_1 rfl ?_
  refine r_v1 (c_X6_driftOf hI i hi0 hi1) kX6_168 rfl dX6_drifts_2 ?_
  try simp (disch := decide) only [zr_s, zr_n, mR_P hmo, mR_T, mR_G, mR_1, mR_2, mR_3, mR_53, mR_55, mR_56, mR_54]
  refine r_istore_n dX6_drifts_5 rfl ?_
  refine r_iload_n dX6_drifts_6 rfl ?_
  refine r_if_ge (tgt := 14) dX6_drifts_7 (by decide) (fun h7 => ?_) (fun h7 => ?_)
  · refine r_iconst dX6_drifts_14 (k := ?_)
    refine r_istore_n dX6_drifts_15 rfl ?_
    refine r_iconst dX6_drifts_16 (k := ?_)
    refine r_istore dX6_drifts_17 rfl ?_
    refine r_iconst dX6_drifts_19 (k := ?_)
    refine r_istore dX6_drifts_20 rfl ?_
    first | exact start 1 zU (Or.inl rfl) (fun q => by unfold zsg; rw [if_neg (by omega), if_neg q]) | exact start (-1) zU (Or.inr rfl) (fun q => by unfold zsg; rw [if_pos (by omega)])
  · refine r_iconst dX6_drifts_10 (k := ?_)
    refine r_goto (tgt := 15) dX6_drifts_11 (by decide) ?_
    refine r_istore_n dX6_drifts_15 rfl ?_
    refine r_iconst dX6_drifts_16 (k := ?_)
    refine r_istore dX6_drifts_17 rfl ?_
    refine r_iconst dX6_drifts_19 (k := ?_)
    refine r_istore dX6_drifts_20 rfl ?_
    first | exact start 1 zU (Or.inl rfl) (fun q => by unfold zsg; rw [if_neg (by omega), if_neg q]) | exact start (-1) zU (Or.inr rfl) (fun q => by unfold zsg; rw [if_pos (by omega)])
set_option maxRecDepth 100000 in
theorem c_feasts (hI : mI (mem 65 3) (mem 67)) (i : Int) (hi0 : 0 ≤ i) (hi1 : i < mem 65 3) : KX6_feasts l G 3 [zR 65, zI i] mem (zP0 (zr mem 67 (mR (mem 67) (sCome (mem 65 3) (mem 67 53) (m1 (mem 67)) (m2 (mem 67)) (m3 (mem 67)) i (mP (mem 67)), mem 67 56, mem 67 54)))) := by
  obtain ⟨hn0, hn5, hr0, hr6, hp, hg, hr⟩ := id hI
  have hpi := hp i hi0 hi1
  have hne := mNear_eq hn0 hp hi0 hi1
  have hsame : zr mem 67 (mR (mem 67) (mP (mem 67), mem 67 56, mem 67 54)) = mem := by rw [mR_self, zr_self]
  have wr : ∀ v : Int, zs mem 67 (2 * i + 1) v = zr mem 67 (mR (mem 67) (zu (mP (mem 67)) i v, mem 67 56, mem 67 54)) := fun v => by
    conv => lhs; rw [← hsame]
    rw [zs_zr, mR_p hi0 (by omega)]
  refine CT.of' (own := RX6) (ls0 := [zR 65, zI i, zU, zU]) rfl (by decide +kernel) (Nat.le_of_ble_eq_true rfl) rfl ?_
  refine r_aload_n dX6_feasts_0 rfl ?_
  refine r_iload_n dX6_feasts_1 rfl ?_
  refine r_v1 (c_nearest hI i hi0 hi1) kX6_181 rfl dX6_feasts_2 ?_
  rw [hne]
  have hrg := sNear_rng (p := mP (mem 67)) (i := i) hn0
  refine r_istore_n dX6_feasts_5 rfl ?_
  refine r_iload_n dX6_feasts_6 rfl ?_
  refine r_bipush dX6_feasts_7 (k := ?_)
  refine r_icmp_eq (tgt := 75) dX6_feasts_9 (by decide) (fun h9 => ?_) (fun h9 => ?_)
  ·
    refine r_vret dX6_feasts_75 ?_
    refine zP0.of ?_
    unfold sCome
    rw [if_pos (by omega), hsame]
  ·
    have q1 : 0 ≤ sNear (mem 65 3) (mP (mem 67)) i ∧ sNear (mem 65 3) (mP (mem 67)) i < mem 65 3 := by omega
    have hpn := hp _ q1.1 q1.2
    have e1 : sSz (mP (mem 67) i - mP (mem 67) (sNear (mem 65 3) (mP (mem 67)) i)) = sSz (mP (mem 67) (sNear (mem 65 3) (mP (mem 67)) i) - mP (mem 67) i) := by unfold sSz; split <;> split <;> omega
    refine r_aload_n dX6_feasts_12 rfl ?_
    refine r_iload_n dX6_feasts_13 rfl ?_
    refine r_iload_n dX6_feasts_14 rfl ?_
    refine r_v2 (c_apart _ _ (by omega) (by omega) (by omega) (by omega) hI) kX6_162 rfl dX6_feasts_15 ?_
    rw [e1]
    refine r_iconst dX6_feasts_18 (k := ?_)
    refine r_icmp_le (tgt := 75) dX6_feasts_19 (by decide) (fun h19 => ?_) (fun h19 => ?_)
    ·
      refine r_vret dX6_feasts_75 ?_
      refine zP0.of ?_
      unfold sCome
      rw [if_neg (by omega), if_neg (fun q => by have := q.1; omega), hsame]
    ·
      have fin : ∀ (w : Int) (v3 : zV), w = zsg (mP (mem 67) (sNear (mem 65 3) (mP (mem 67)) i) - mP (mem 67) i) → SW l G (zrm 3) RX6 cX6_feasts 4 none (zZ G (zP0 (zr mem 67 (mR (mem 67) (sCome (mem 65 3) (mem 67 53) (m1 (mem 67)) (m2 (mem 67)) (m3 (mem 67)) i (mP (mem 67)), mem 67 56, mem 67 54))))) 0 0 (fun _ => True) 45 [zR 65, zI i, zI (sNear (mem 65 3) (mP (mem 67)) i), v3] [zI w, zI (mP (mem 67) i)] mem := by
        intro w v3 hw
        have hz := zsg_bd (mP (mem 67) (sNear (mem 65 3) (mP (mem 67)) i) - mP (mem 67) i)
        refine r_iadd dX6_feasts_45 ?_
        try rw [zw_id (by omega) (by omega)]
        refine r_istore_n dX6_feasts_46 rfl ?_
        refine r_aload_n dX6_feasts_47 rfl ?_
        refine r_getR (q := 67) fX6_13 rfl rfl dX6_feasts_48 ?_
        refine r_iconst dX6_feasts_51 (k := ?_)
        refine r_iload_n dX6_feasts_52 rfl ?_
        refine r_imul dX6_feasts_53 ?_
        try rw [zw_id (by omega) (by omega)]
        refine r_iconst dX6_feasts_54 (k := ?_)
        refine r_iadd dX6_feasts_55 ?_
        try rw [zw_id (by omega) (by omega)]
        refine r_aload_n dX6_feasts_56 rfl ?_
        refine r_iload_n dX6_feasts_57 rfl ?_
        refine r_iload_n dX6_feasts_58 rfl ?_
        refine r_v2 (c_X6_isHeld hI i _ hi0 hi1 (by omega) (by omega)) kX6_174 rfl dX6_feasts_59 ?_
        refine r_ifb_eq (tgt := 73) dX6_feasts_62 (by decide) (fun h62 => ?_) (fun h62 => ?_)
        · refine r_iload_n dX6_feasts_73 rfl ?_
          refine r_iast rfl (by omega) (by omega) dX6_feasts_74 ?_
          refine r_vret dX6_feasts_75 ?_
          refine zP0.of ?_
          rw [wr]
          unfold sCome
          first | (rw [if_neg (by omega), if_pos ⟨by omega, by rw [← hw]; exact h62⟩, hw]) | (rw [if_neg (by omega), if_neg (fun q => by rw [← hw, h62] at q; exact absurd q.2 (by decide)), zu_id])
        · refine r_aload_n dX6_feasts_65 rfl ?_
          refine r_iload_n dX6_feasts_66 rfl ?_
          refine r_v1 (c_place _ (by omega) (by omega)) kX6_156 rfl dX6_feasts_67 ?_
          refine r_goto (tgt := 74) dX6_feasts_70 (by decide) ?_
          refine r_iast rfl (by omega) (by omega) dX6_feasts_74 ?_
          refine r_vret dX6_feasts_75 ?_
          refine zP0.of ?_
          rw [wr]
          unfold sCome
          first | (rw [if_neg (by omega), if_pos ⟨by omega, by rw [← hw]; exact h62⟩, hw]) | (rw [if_neg (by omega), if_neg (fun q => by rw [← hw, h62] at q; exact absurd q.2 (by decide)), zu_id])
      refine r_aload_n dX6_feasts_22 rfl ?_
      refine r_iload_n dX6_feasts_23 rfl ?_
      refine r_v1 (c_place _ (by omega) (by omega)) kX6_156 rfl dX6_feasts_24 ?_
      refine r_aload_n dX6_feasts_27 rfl ?_
      refine r_iload_n dX6_feasts_28 rfl ?_
      refine r_v1 (c_place _ (by omega) (by omega)) kX6_156 rfl dX6_feasts_29 ?_
      refine r_aload_n dX6_feasts_32 rfl ?_
      refine r_iload_n dX6_feasts_33 rfl ?_
      refine r_v1 (c_place _ (by omega) (by omega)) kX6_156 rfl dX6_feasts_34 ?_
      refine r_icmp_le (tgt := 44) dX6_feasts_37 (by decide) (fun h37 => ?_) (fun h37 => ?_)
      · refine r_iconst dX6_feasts_44 (k := ?_)
        first | exact fin _ _ (by unfold zsg; rw [if_neg (by omega), if_neg (by omega)]) | exact fin _ _ (by unfold zsg; split <;> (try split) <;> first | rfl | (exfalso; unfold sSz at h19; split at h19 <;> omega))
      · refine r_iconst dX6_feasts_40 (k := ?_)
        refine r_goto (tgt := 45) dX6_feasts_41 (by decide) ?_
        first | exact fin _ _ (by unfold zsg; rw [if_neg (by omega), if_neg (by omega)]) | exact fin _ _ (by unfold zsg; split <;> (try split) <;> first | rfl | (exfalso; unfold sSz at h19; split at h19 <;> omega))
set_option maxRecDepth 100000 in
theorem c_dayGoes (hI : mI (mem 65 3) (mem 67)) (st : Bool) : KX6_dayGoes l G 4 [zR 65, zI (zb st)] mem (zP0 (zr mem 67 (mR (mem 67) (if st = true then (mP (mem 67), mem 67 56, zw (mem 67 54 + 1)) else sDay (mem 65 3) (mT (mem 67)) (mG (mem 67)) (mem 67 53) (m1 (mem 67)) (m2 (mem 67)) (m3 (mem 67)) (mem 67 55) (mP (mem 67), mem 67 56, mem 67 54))))) := by
  obtain ⟨hn0, hn5, hr0, hr6, hp, hg, hr⟩ := id hI
  have hsame : zr mem 67 (mR (mem 67) (mP (mem 67), mem 67 56, mem 67 54)) = mem := by rw [mR_self, zr_self]
  refine CT.of' (own := RX6) (ls0 := [zR 65, zI (zb st), zU, zU]) rfl (by decide +kernel) (Nat.le_of_ble_eq_true rfl) rfl ?_
  have tail : ∀ (p : Int → Int) (bu : Int) (v2 v3 : zV), mOut (mem 67) p → (if st = true then (mP (mem 67), mem 67 56, zw (mem 67 54 + 1)) else sDay (mem 65 3) (mT (mem 67)) (mG (mem 67)) (mem 67 53) (m1 (mem 67)) (m2 (mem 67)) (m3 (mem 67)) (mem 67 55) (mP (mem 67), mem 67 56, mem 67 54)) = (p, bu, zw (mem 67 54 + 1)) → SW l G (zrm 4) RX6 cX6_dayGoes 4 none (zZ G (zP0 (zr mem 67 (mR (mem 67) (if st = true then (mP (mem 67), mem 67 56, zw (mem 67 54 + 1)) else sDay (mem 65 3) (mT (mem 67)) (mG (mem 67)) (mem 67 53) (m1 (mem 67)) (m2 (mem 67)) (m3 (mem 67)) (mem 67 55) (mP (mem 67), mem 67 56, mem 67 54)))))) 0 0 (fun _ => True) 63 [zR 65, zI (zb st), v2, v3] [] (zr mem 67 (mR (mem 67) (p, bu, mem 67 54))) := by
    intro p bu v2 v3 hmo he
    rw [he]
    have hmo : mOut (mem 67) (p, bu, mem 67 54).1 := hmo
    refine r_aload_n dX6_dayGoes_63 rfl ?_
    refine r_getR (q := 67) fX6_13 rfl rfl dX6_dayGoes_64 ?_
    try simp (disch := decide) only [zr_s, zr_n, mR_P hmo, mR_T, mR_G, mR_1, mR_2, mR_3, mR_53, mR_55, mR_56, mR_54]
    refine r_bipush dX6_dayGoes_67 (k := ?_)
    refine r_dup2 dX6_dayGoes_69 rfl rfl ?_
    refine r_iald rfl (by omega) (by omega) dX6_dayGoes_70 ?_
    try simp (disch := decide) only [zr_s, zr_n, mR_P hmo, mR_T, mR_G, mR_1, mR_2, mR_3, mR_53, mR_55, mR_56, mR_54]
    refine r_iconst dX6_dayGoes_71 (k := ?_)
    refine r_iadd dX6_dayGoes_72 ?_
    refine r_iast rfl (by omega) (by omega) dX6_dayGoes_73 ?_
    refine r_vret dX6_dayGoes_74 ?_
    exact zP0.of (by rw [zs_zr, mR_d])
  cases st with
  | true =>
    refine r_aload_n dX6_dayGoes_0 rfl ?_
    refine r_getR (q := 67) fX6_13 rfl rfl dX6_dayGoes_1 ?_
    try simp (disch := decide) only [zr_s, zr_n, mR_P hmo, mR_T, mR_G, mR_1, mR_2, mR_3, mR_53, mR_55, mR_56, mR_54]
    refine r_bipush dX6_dayGoes_4 (k := ?_)
    refine r_iald rfl (by omega) (by omega) dX6_dayGoes_6 ?_
    try simp (disch := decide) only [zr_s, zr_n, mR_P hmo, mR_T, mR_G, mR_1, mR_2, mR_3, mR_53, mR_55, mR_56, mR_54]
    refine r_bipush dX6_dayGoes_7 (k := ?_)
    refine r_irem dX6_dayGoes_9 (by decide) ?_
    refine r_aload_n dX6_dayGoes_10 rfl ?_
    refine r_getR (q := 67) fX6_13 rfl rfl dX6_dayGoes_11 ?_
    try simp (disch := decide) only [zr_s, zr_n, mR_P hmo, mR_T, mR_G, mR_1, mR_2, mR_3, mR_53, mR_55, mR_56, mR_54]
    refine r_bipush dX6_dayGoes_14 (k := ?_)
    refine r_iald rfl (by omega) (by omega) dX6_dayGoes_16 ?_
    try simp (disch := decide) only [zr_s, zr_n, mR_P hmo, mR_T, mR_G, mR_1, mR_2, mR_3, mR_53, mR_55, mR_56, mR_54]
    have fin := tail (mP (mem 67)) (mem 67 56)
    rw [hsame] at fin
    refine r_icmp_ne (tgt := 24) dX6_dayGoes_17 (by decide) (fun h17 => ?_) (fun h17 => ?_)
    · refine r_iconst dX6_dayGoes_24 (k := ?_)
      refine r_istore_n dX6_dayGoes_25 rfl ?_
      refine r_iconst dX6_dayGoes_26 (k := ?_)
      refine r_istore_n dX6_dayGoes_27 rfl ?_
      refine r_iload_n dX6_dayGoes_28 rfl ?_
      refine r_aload_n dX6_dayGoes_29 rfl ?_
      refine r_gI (q := 3) rfl fX6_64 rfl (by decide) dX6_dayGoes_30 ?_
      try simp (disch := decide) only [zr_s, zr_n, mR_P hmo, mR_T, mR_G, mR_1, mR_2, mR_3, mR_53, mR_55, mR_56, mR_54]
      refine r_icmp_ge (tgt := 63) dX6_dayGoes_33 (by decide) (fun h33 => ?_) (fun h33 => ?_)
      · exact fin _ _ mOut.s rfl
      · refine r_iload_n dX6_dayGoes_36 rfl ?_
        refine r_ifb_ne (tgt := 63) dX6_dayGoes_37 (by decide) (fun h37 => ?_) (fun h37 => ?_)
        · exact fin _ _ mOut.s rfl
        · exact absurd h37 (by decide)
    · refine r_iconst dX6_dayGoes_20 (k := ?_)
      refine r_goto (tgt := 25) dX6_dayGoes_21 (by decide) ?_
      refine r_istore_n dX6_dayGoes_25 rfl ?_
      refine r_iconst dX6_dayGoes_26 (k := ?_)
      refine r_istore_n dX6_dayGoes_27 rfl ?_
      refine r_iload_n dX6_dayGoes_28 rfl ?_
      refine r_aload_n dX6_dayGoes_29 rfl ?_
      refine r_gI (q := 3) rfl fX6_64 rfl (by decide) dX6_dayGoes_30 ?_
      try simp (disch := decide) only [zr_s, zr_n, mR_P hmo, mR_T, mR_G, mR_1, mR_2, mR_3, mR_53, mR_55, mR_56, mR_54]
      refine r_icmp_ge (tgt := 63) dX6_dayGoes_33 (by decide) (fun h33 => ?_) (fun h33 => ?_)
      · exact fin _ _ mOut.s rfl
      · refine r_iload_n dX6_dayGoes_36 rfl ?_
        refine r_ifb_ne (tgt := 63) dX6_dayGoes_37 (by decide) (fun h37 => ?_) (fun h37 => ?_)
        · exact fin _ _ mOut.s rfl
        · exact absurd h37 (by decide)
  | false =>
    have e0 : (if false = true then (mP (mem 67), mem 67 56, zw (mem 67 54 + 1)) else sDay (mem 65 3) (mT (mem 67)) (mG (mem 67)) (mem 67 53) (m1 (mem 67)) (m2 (mem 67)) (m3 (mem 67)) (mem 67 55) (mP (mem 67), mem 67 56, mem 67 54)) = sDay (mem 65 3) (mT (mem 67)) (mG (mem 67)) (mem 67 53) (m1 (mem 67)) (m2 (mem 67)) (m3 (mem 67)) (mem 67 55) (mP (mem 67), mem 67 56, mem 67 54) := if_neg (by decide)
    rw [e0] at tail ⊢
    unfold sDay at tail ⊢
    dsimp only at tail ⊢
    generalize hS : sAll (mem 65 3) (mT (mem 67)) (mG (mem 67)) (mem 67 53) (m1 (mem 67)) (m2 (mem 67)) (m3 (mem 67)) (sFest (mem 67 55) (mem 67 54)) (mP (mem 67), mem 67 56) = S at tail ⊢
    have loop : ∀ (k : Nat) (x : Int) (p : Int → Int) (bu : Int), 0 ≤ x → x + k = mem 65 3 → sPB (mem 65 3) p → mOut (mem 67) p → zfor (fun i s => sOne (mem 65 3) (mT (mem 67)) (mG (mem 67)) (mem 67 53) (m1 (mem 67)) (m2 (mem 67)) (m3 (mem 67)) (sFest (mem 67 55) (mem 67 54)) i s) x k (p, bu) = S → SW l G (zrm 4) RX6 cX6_dayGoes 4 none (zZ G (zP0 (zr mem 67 (mR (mem 67) (S.1, S.2, zw (mem 67 54 + 1)))))) 0 0 (fun _ => True) 28 [zR 65, zI (zb false), zI (zb (sFest (mem 67 55) (mem 67 54))), zI x] [] (zr mem 67 (mR (mem 67) (p, bu, mem 67 54))) := by
      intro k
      induction k with
      | zero =>
        intro x p bu h0 h1 hpb hmo he
        have hmo9 := hmo
        have hmo : mOut (mem 67) (p, bu, mem 67 54).1 := hmo
        refine r_iload_n dX6_dayGoes_28 rfl ?_
        refine r_aload_n dX6_dayGoes_29 rfl ?_
        refine r_gI (q := 3) rfl fX6_64 rfl (by decide) dX6_dayGoes_30 ?_
        try simp (disch := decide) only [zr_s, zr_n, mR_P hmo, mR_T, mR_G, mR_1, mR_2, mR_3, mR_53, mR_55, mR_56, mR_54]
        refine r_icmp_ge (tgt := 63) dX6_dayGoes_33 (by decide) (fun h33 => ?_) (fun h33 => ?_)
        · exact tail _ _ _ _ hmo9 (by rw [← he]; rfl)
        · exact absurd (by omega) h33
      | succ k ih =>
        intro x p bu h0 h1 hpb hmo he
        have hJ : mI (zr mem 67 (mR (mem 67) (p, bu, mem 67 54)) 65 3) (zr mem 67 (mR (mem 67) (p, bu, mem 67 54)) 67) := by
          rw [zr_n (by decide), zr_s]; exact hI.r hmo hpb
        have hmo : mOut (mem 67) (p, bu, mem 67 54).1 := hmo
        rw [zfor] at he
        have hpb2 := sOne_bd (t := mT (mem 67)) (g := mG (mem 67)) (r := mem 67 53) (e1 := m1 (mem 67)) (e2 := m2 (mem 67)) (ln := m3 (mem 67)) (fest := sFest (mem 67 55) (mem 67 54)) (s := (p, bu)) hn0 h0 (by omega) hpb
        have hmo2 := sOne_out (n := mem 65 3) (t := mT (mem 67)) (g := mG (mem 67)) (r := mem 67 53) (e1 := m1 (mem 67)) (e2 := m2 (mem 67)) (ln := m3 (mem 67)) (fest := sFest (mem 67 55) (mem 67 54)) (s := (p, bu)) h0 (show x < 5 by omega) hmo
        refine r_iload_n dX6_dayGoes_28 rfl ?_
        refine r_aload_n dX6_dayGoes_29 rfl ?_
        refine r_gI (q := 3) rfl fX6_64 rfl (by decide) dX6_dayGoes_30 ?_
        try simp (disch := decide) only [zr_s, zr_n, mR_P hmo, mR_T, mR_G, mR_1, mR_2, mR_3, mR_53, mR_55, mR_56, mR_54]
        refine r_icmp_ge (tgt := 63) dX6_dayGoes_33 (by decide) (fun h33 => absurd h33 (by omega)) (fun h33 => ?_)
        refine r_iload_n dX6_dayGoes_36 rfl ?_
        refine r_ifb_ne (tgt := 63) dX6_dayGoes_37 (by decide) (fun h37 => absurd h37 (by decide)) (fun h37 => ?_)
        refine r_iload_n dX6_dayGoes_40 rfl ?_
        refine r_ifb_eq (tgt := 52) dX6_dayGoes_41 (by decide) (fun h41 => ?_) (fun h41 => ?_)
        ·
          have e1 : sOne (mem 65 3) (mT (mem 67)) (mG (mem 67)) (mem 67 53) (m1 (mem 67)) (m2 (mem 67)) (m3 (mem 67)) (sFest (mem 67 55) (mem 67 54)) x (p, bu) = sOff (mem 65 3) (mem 67 53) (m1 (mem 67)) (m2 (mem 67)) (m3 (mem 67)) x (zsg (sDriftOf (mT (mem 67) x) (sPlain (mem 65 3) p (mG (mem 67)) x))) (sSz (sDriftOf (mT (mem 67) x) (sPlain (mem 65 3) p (mG (mem 67)) x))).toNat (p, bu) := by
            unfold sOne
            rw [if_neg (by rw [h41]; decide)]
          rw [e1] at he hpb2 hmo2
          refine r_aload_n dX6_dayGoes_52 rfl ?_
          refine r_iload_n dX6_dayGoes_53 rfl ?_
          refine r_w1 (c_drifts hJ _ h0 (by rw [zr_n (by decide)]; omega)) kX6_187 rfl dX6_dayGoes_54 ?_
          try simp (disch := decide) only [zr_s, zr_n, mR_P hmo, mR_T, mR_G, mR_1, mR_2, mR_3, mR_53, mR_55, mR_56, mR_54]
          rw [zr_zr, mR_mR]
          refine r_iinc dX6_dayGoes_57 rfl rfl ?_
          rw [zw_id (x := x + 1) (by omega) (by omega)]
          refine r_goto (tgt := 28) dX6_dayGoes_60 (by decide) ?_
          exact ih _ _ _ (by omega) (by omega) hpb2 hmo2 he
        ·
          have e1 : sOne (mem 65 3) (mT (mem 67)) (mG (mem 67)) (mem 67 53) (m1 (mem 67)) (m2 (mem 67)) (m3 (mem 67)) (sFest (mem 67 55) (mem 67 54)) x (p, bu) = (sCome (mem 65 3) (mem 67 53) (m1 (mem 67)) (m2 (mem 67)) (m3 (mem 67)) x p, bu) := by
            unfold sOne
            rw [if_pos h41]
          rw [e1] at he hpb2 hmo2
          refine r_aload_n dX6_dayGoes_44 rfl ?_
          refine r_iload_n dX6_dayGoes_45 rfl ?_
          refine r_w1 (c_feasts hJ _ h0 (by rw [zr_n (by decide)]; omega)) kX6_184 rfl dX6_dayGoes_46 ?_
          try simp (disch := decide) only [zr_s, zr_n, mR_P hmo, mR_T, mR_G, mR_1, mR_2, mR_3, mR_53, mR_55, mR_56, mR_54]
          refine r_goto (tgt := 57) dX6_dayGoes_49 (by decide) ?_
          rw [zr_zr, mR_mR]
          refine r_iinc dX6_dayGoes_57 rfl rfl ?_
          rw [zw_id (x := x + 1) (by omega) (by omega)]
          refine r_goto (tgt := 28) dX6_dayGoes_60 (by decide) ?_
          exact ih _ _ _ (by omega) (by omega) hpb2 hmo2 he
    have fin := loop (mem 65 3).toNat 0 (mP (mem 67)) (mem 67 56) (by omega) (by omega) hp mOut.s hS
    rw [hsame] at fin
    refine r_aload_n dX6_dayGoes_0 rfl ?_
    refine r_getR (q := 67) fX6_13 rfl rfl dX6_dayGoes_1 ?_
    try simp (disch := decide) only [zr_s, zr_n, mR_P hmo, mR_T, mR_G, mR_1, mR_2, mR_3, mR_53, mR_55, mR_56, mR_54]
    refine r_bipush dX6_dayGoes_4 (k := ?_)
    refine r_iald rfl (by omega) (by omega) dX6_dayGoes_6 ?_
    try simp (disch := decide) only [zr_s, zr_n, mR_P hmo, mR_T, mR_G, mR_1, mR_2, mR_3, mR_53, mR_55, mR_56, mR_54]
    refine r_bipush dX6_dayGoes_7 (k := ?_)
    refine r_irem dX6_dayGoes_9 (by decide) ?_
    refine r_aload_n dX6_dayGoes_10 rfl ?_
    refine r_getR (q := 67) fX6_13 rfl rfl dX6_dayGoes_11 ?_
    try simp (disch := decide) only [zr_s, zr_n, mR_P hmo, mR_T, mR_G, mR_1, mR_2, mR_3, mR_53, mR_55, mR_56, mR_54]
    refine r_bipush dX6_dayGoes_14 (k := ?_)
    refine r_iald rfl (by omega) (by omega) dX6_dayGoes_16 ?_
    try simp (disch := decide) only [zr_s, zr_n, mR_P hmo, mR_T, mR_G, mR_1, mR_2, mR_3, mR_53, mR_55, mR_56, mR_54]
    refine r_icmp_ne (tgt := 24) dX6_dayGoes_17 (by decide) (fun h17 => ?_) (fun h17 => ?_)
    ·
      refine r_iconst dX6_dayGoes_24 (k := ?_)
      refine r_istore_n dX6_dayGoes_25 rfl ?_
      refine r_iconst dX6_dayGoes_26 (k := ?_)
      refine r_istore_n dX6_dayGoes_27 rfl ?_
      have hf : sFest (mem 67 55) (mem 67 54) = false := decide_eq_false h17
      rw [hf] at fin
      exact fin
    ·
      refine r_iconst dX6_dayGoes_20 (k := ?_)
      refine r_goto (tgt := 25) dX6_dayGoes_21 (by decide) ?_
      refine r_istore_n dX6_dayGoes_25 rfl ?_
      refine r_iconst dX6_dayGoes_26 (k := ?_)
      refine r_istore_n dX6_dayGoes_27 rfl ?_
      have hf : sFest (mem 67 55) (mem 67 54) = true := decide_eq_true h17
      rw [hf] at fin
      exact fin
set_option maxRecDepth 100000 in
theorem c_daysGo (hI : mI (mem 65 3) (mem 67)) (n : Int) (h0 : 0 ≤ n) (h9 : n ≤ 1000) : KX6_daysGo l G 5 [zR 65, zI n] mem (zP0 (zr mem 67 (mR (mem 67) (sDays (mem 65 3) (mT (mem 67)) (mG (mem 67)) (mem 67 53) (m1 (mem 67)) (m2 (mem 67)) (m3 (mem 67)) (mem 67 55) n.toNat (mP (mem 67), mem 67 56, mem 67 54))))) := by
  obtain ⟨hn0, hn5, hr0, hr6, hp, hg, hr⟩ := id hI
  have hsame : zr mem 67 (mR (mem 67) (mP (mem 67), mem 67 56, mem 67 54)) = mem := by rw [mR_self, zr_self]
  refine CT.of' (own := RX6) (ls0 := [zR 65, zI n, zU]) rfl (by decide +kernel) (Nat.le_of_ble_eq_true rfl) rfl ?_
  generalize hS : sDays (mem 65 3) (mT (mem 67)) (mG (mem 67)) (mem 67 53) (m1 (mem 67)) (m2 (mem 67)) (m3 (mem 67)) (mem 67 55) n.toNat (mP (mem 67), mem 67 56, mem 67 54) = S
  have loop : ∀ (k : Nat) (x : Int) (s : (Int → Int) × Int × Int), 0 ≤ x → x + k = n → sPB (mem 65 3) s.1 → mOut (mem 67) s.1 → zfor (fun _ s => sDay (mem 65 3) (mT (mem 67)) (mG (mem 67)) (mem 67 53) (m1 (mem 67)) (m2 (mem 67)) (m3 (mem 67)) (mem 67 55) s) x k s = S → SW l G (zrm 5) RX6 cX6_daysGo 3 none (zZ G (zP0 (zr mem 67 (mR (mem 67) S)))) 0 0 (fun _ => True) 2 [zR 65, zI n, zI x] [] (zr mem 67 (mR (mem 67) s)) := by
    intro k
    induction k with
    | zero =>
      intro x s h1 h2 hpb hmo he
      refine r_iload_n dX6_daysGo_2 rfl ?_
      refine r_iload_n dX6_daysGo_3 rfl ?_
      refine r_icmp_ge (tgt := 18) dX6_daysGo_4 (by decide) (fun h4 => ?_) (fun h4 => ?_)
      · refine r_vret dX6_daysGo_18 ?_
        exact zP0.of (by rw [← he]; rfl)
      · exact absurd (by omega) h4
    | succ k ih =>
      intro x s h1 h2 hpb hmo he
      have hJ : mI (zr mem 67 (mR (mem 67) s) 65 3) (zr mem 67 (mR (mem 67) s) 67) := by
        rw [zr_n (by decide), zr_s]; exact hI.r hmo hpb
      rw [zfor] at he
      refine r_iload_n dX6_daysGo_2 rfl ?_
      refine r_iload_n dX6_daysGo_3 rfl ?_
      refine r_icmp_ge (tgt := 18) dX6_daysGo_4 (by decide) (fun h4 => absurd h4 (by omega)) (fun h4 => ?_)
      refine r_aload_n dX6_daysGo_7 rfl ?_
      refine r_iconst dX6_daysGo_8 (k := ?_)
      refine r_w1 (c_dayGoes hJ false) kX6_190 rfl dX6_daysGo_9 ?_
      try simp (disch := decide) only [zr_s, zr_n, mR_P hmo, mR_T, mR_G, mR_1, mR_2, mR_3, mR_53, mR_55, mR_56, mR_54]
      rw [zr_zr, mR_mR, if_neg (by decide)]
      refine r_iinc dX6_daysGo_12 rfl rfl ?_
      try rw [zw_id (by omega) (by omega)]
      refine r_goto (tgt := 2) dX6_daysGo_15 (by decide) ?_
      exact ih _ _ (by omega) (by omega) (sDay_bd hn0 hpb) (sDay_out hn0 hn5 hmo) he
  refine r_iconst dX6_daysGo_0 (k := ?_)
  refine r_istore_n dX6_daysGo_1 rfl ?_
  have fin := loop n.toNat 0 (mP (mem 67), mem 67 56, mem 67 54) (by omega) (by omega) hp mOut.s hS
  rw [hsame] at fin
  exact fin
end
