/-! ===== the reference: sulks and ropes told ===== -/
theorem sLc_e {t : Int → Int} {L p : Int} {D : zDr} {e : zEr} (h : sPr t L p = .error e) : sLc0 t L D p = .error e := by unfold sLc0; simp only [h]
theorem sRp_e {t : Int → Int} {L p : Int} {D : zDr} {e : zEr} (h : sPr t L p = .error e) : sRp t L D p = .error e := by unfold sRp; simp only [h]
section
variable {l : Launch} {G : zG} {mem : zM} {t : Int → Int} {L p : Int} {D : zDr}
set_option maxRecDepth 100000 in
theorem c_readCross (hE : TP t L mem) (p0 : 0 ≤ p) (p1 : p ≤ L) (h : AH (sTk t L p) mem) (hD : DR mem D) (n5 : D.1.1 ≤ 5) (r0 : 0 ≤ dR D) : KX6_readCross l G 4 [zR 65] mem (zPLn t L (sLc0 t L D p) mem) := by
  refine CT.of' (own := RX6) (ls0 := [zR 65, zU, zU]) rfl (by decide +kernel) (Nat.le_of_ble_eq_true rfl) rfl ?_
  have T84 : ∀ (e : zEr) (i j : Int) (m : zM), sLc0 t L D p = .error e → kD mem m → fS m e → 0 ≤ i → i ≤ 4 → 0 ≤ j → j ≤ 4 → SW l G (zrm 4) RX6 cX6_readCross 3 none (zZ G (zPLn t L (sLc0 t L D p) mem)) 0 0 (fun _ => True) 84 [zR 65, zI i, zI j] [] m := by
    intro e i j m hs hk hf i0 i4 j0 j4
    have f1 := hf.1
    have f3 := hf.2.2
    refine r_aload_n dX6_readCross_84 rfl ?_
    refine r_getR (q := 69) fX6_20 rfl rfl dX6_readCross_85 ?_
    refine r_bipush dX6_readCross_88 (k := ?_)
    refine r_iconst dX6_readCross_90 (k := ?_)
    refine r_iload_n dX6_readCross_91 rfl ?_
    refine r_imul dX6_readCross_92 ?_
    try rw [zw_id (by omega) (by omega)]
    refine r_iadd dX6_readCross_93 ?_
    try rw [zw_id (by omega) (by omega)]
    refine r_iload_n dX6_readCross_94 rfl ?_
    refine r_iadd dX6_readCross_95 ?_
    try rw [zw_id (by omega) (by omega)]
    refine r_aload_n dX6_readCross_96 rfl ?_
    refine r_iconst dX6_readCross_97 (k := ?_)
    refine r_iconst dX6_readCross_98 (k := ?_)
    refine r_v2 (c_readNumber_f _ _ (by omega)) kX6_125 rfl dX6_readCross_99 ?_
    refine r_iast rfl (by omega) (by omega) dX6_readCross_102 ?_
    refine r_vret dX6_readCross_103 ?_
    exact zPLn.e hs (by repeat first | assumption | exact kD.rf | refine kD.s ?_ (by decide) | refine kD.z ?_) (by repeat first | assumption | refine fS.n ?_ (by first | decide | exact Or.inl (by decide)))
  have T54 : ∀ (e : zEr) (i j : Int) (m : zM), sLc0 t L D p = .error e → kD mem m → fS m e → 0 ≤ i → i ≤ 4 → 0 ≤ j → j ≤ 4 → SW l G (zrm 4) RX6 cX6_readCross 3 none (zZ G (zPLn t L (sLc0 t L D p) mem)) 0 0 (fun _ => True) 54 [zR 65, zI i, zI j] [] m := by
    intro e i j m hs hk hf i0 i4 j0 j4
    have f1 := hf.1
    have f3 := hf.2.2
    refine r_aload_n dX6_readCross_54 rfl ?_
    refine r_dup dX6_readCross_55 rfl ?_
    refine r_gI (q := 7) rfl fX6_58 rfl (by decide) dX6_readCross_56 ?_
    refine r_iconst dX6_readCross_59 (k := ?_)
    refine r_iconst dX6_readCross_60 (k := ?_)
    refine r_iload_n dX6_readCross_61 rfl ?_
    refine r_imul dX6_readCross_62 ?_
    try rw [zw_id (by omega) (by omega)]
    refine r_iload_n dX6_readCross_63 rfl ?_
    refine r_iadd dX6_readCross_64 ?_
    try rw [zw_id (by omega) (by omega)]
    refine r_ishl dX6_readCross_65 ?_
    refine r_ior dX6_readCross_66 ?_
    refine r_pI (q := 7) rfl pX6_58 rfl dX6_readCross_67 ?_
    refine r_aload_n dX6_readCross_70 rfl ?_
    refine r_iload_n dX6_readCross_71 rfl ?_
    refine r_w1 (c_noteHighest _) kX6_128 rfl dX6_readCross_72 ?_
    refine r_aload_n dX6_readCross_75 rfl ?_
    refine r_iload_n dX6_readCross_76 rfl ?_
    refine r_w1 (c_noteHighest _) kX6_128 rfl dX6_readCross_77 ?_
    refine r_aload_n dX6_readCross_80 rfl ?_
    refine r_w0 (c_takes_f (by simp (disch := omega) only [zs_n, zs_v, zs_k]; omega)) kX6_122 rfl dX6_readCross_81 ?_
    exact T84 e i j _ hs (by repeat first | assumption | exact kD.rf | refine kD.s ?_ (by decide) | refine kD.z ?_) (by repeat first | assumption | refine fS.n ?_ (by first | decide | exact Or.inl (by decide))) i0 i4 j0 j4
  have T29 : ∀ (e : zEr) (i j : Int) (m : zM), sLc0 t L D p = .error e → kD mem m → fS m e → 0 ≤ i → i ≤ 4 → 0 ≤ j → j ≤ 4 → SW l G (zrm 4) RX6 cX6_readCross 3 none (zZ G (zPLn t L (sLc0 t L D p) mem)) 0 0 (fun _ => True) 29 [zR 65, zI i, zI j] [] m := by
    intro e i j m hs hk hf i0 i4 j0 j4
    have f1 := hf.1
    have f3 := hf.2.2
    refine r_aload_n dX6_readCross_29 rfl ?_
    refine r_aload_n dX6_readCross_30 rfl ?_
    refine r_gI (q := 7) rfl fX6_58 rfl (by decide) dX6_readCross_31 ?_
    refine r_iconst dX6_readCross_34 (k := ?_)
    refine r_iload_n dX6_readCross_35 rfl ?_
    refine r_imul dX6_readCross_36 ?_
    try rw [zw_id (by omega) (by omega)]
    refine r_iload_n dX6_readCross_37 rfl ?_
    refine r_iadd dX6_readCross_38 ?_
    try rw [zw_id (by omega) (by omega)]
    refine r_ishr dX6_readCross_39 ?_
    refine r_iconst dX6_readCross_40 (k := ?_)
    refine r_iand dX6_readCross_41 ?_
    refine r_if_ne (tgt := 49) dX6_readCross_42 (by decide) (fun h42 => ?_) (fun h42 => ?_)
    · refine r_iconst dX6_readCross_49 (k := ?_)
      refine r_iconst dX6_readCross_50 (k := ?_)
      refine r_w2 (c_needs_f _ _ (by omega)) kX6_114 rfl dX6_readCross_51 ?_
      exact T54 e i j m hs hk hf i0 i4 j0 j4
    · refine r_iconst dX6_readCross_45 (k := ?_)
      refine r_goto (tgt := 50) dX6_readCross_46 (by decide) ?_
      refine r_iconst dX6_readCross_50 (k := ?_)
      refine r_w2 (c_needs_f _ _ (by omega)) kX6_114 rfl dX6_readCross_51 ?_
      exact T54 e i j m hs hk hf i0 i4 j0 j4
  have T14 : ∀ (e : zEr) (i j : Int) (m : zM), sLc0 t L D p = .error e → kD mem m → fS m e → 0 ≤ i → i ≤ 4 → 0 ≤ j → j ≤ 4 → SW l G (zrm 4) RX6 cX6_readCross 3 none (zZ G (zPLn t L (sLc0 t L D p) mem)) 0 0 (fun _ => True) 14 [zR 65, zI i, zI j] [] m := by
    intro e i j m hs hk hf i0 i4 j0 j4
    have f1 := hf.1
    have f3 := hf.2.2
    refine r_aload_n dX6_readCross_14 rfl ?_
    refine r_iload_n dX6_readCross_15 rfl ?_
    refine r_iload_n dX6_readCross_16 rfl ?_
    refine r_icmp_eq (tgt := 24) dX6_readCross_17 (by decide) (fun h17 => ?_) (fun h17 => ?_)
    · refine r_iconst dX6_readCross_24 (k := ?_)
      refine r_iconst dX6_readCross_25 (k := ?_)
      refine r_w2 (c_needs_f _ _ (by omega)) kX6_114 rfl dX6_readCross_26 ?_
      exact T29 e i j m hs hk hf i0 i4 j0 j4
    · refine r_iconst dX6_readCross_20 (k := ?_)
      refine r_goto (tgt := 25) dX6_readCross_21 (by decide) ?_
      refine r_iconst dX6_readCross_25 (k := ?_)
      refine r_w2 (c_needs_f _ _ (by omega)) kX6_114 rfl dX6_readCross_26 ?_
      exact T29 e i j m hs hk hf i0 i4 j0 j4
  refine r_aload_n dX6_readCross_0 rfl ?_
  refine r_iconst dX6_readCross_1 (k := ?_)
  refine r_iconst dX6_readCross_2 (k := ?_)
  refine r_vRN (c_readNumber 0 4 hE p0 p1 h) kX6_125 rfl dX6_readCross_3 (fun e3 m3 x3 k3 f3 => ?_) (fun a3 m3 x3 k3 ah3 => ?_)
  · have hs := sLc_e (D := D) (sPr_1 x3)
    refine r_istore_n dX6_readCross_6 rfl ?_
    refine r_aload_n dX6_readCross_7 rfl ?_
    refine r_iconst dX6_readCross_8 (k := ?_)
    refine r_iconst dX6_readCross_9 (k := ?_)
    refine r_v2 (c_looked_f _ _ (by rw [f3.1]; exact f3.2.2)) kX6_118 rfl dX6_readCross_10 ?_
    refine r_istore_n dX6_readCross_13 rfl ?_
    exact T14 e3 0 0 m3 hs k3.d f3 (by decide) (by decide) (by decide) (by decide)
  have n3 := sNum_ok p1 x3
  have hE3 := hE.a k3
  have hD3 := hD.k k3
  refine r_istore_n dX6_readCross_6 rfl ?_
  refine r_aload_n dX6_readCross_7 rfl ?_
  refine r_iconst dX6_readCross_8 (k := ?_)
  refine r_iconst dX6_readCross_9 (k := ?_)
  refine r_vL (c_looked _ _ ah3) kX6_118 rfl dX6_readCross_10 (fun e10 m10 x10 k10 f10 => ?_) (fun a10 x10 y15 y11 y12 => ?_)
  · have x10 : sNum t L a3.2.1 0 4 = .error e10 := x10
    have hs := sLc_e (D := D) (sPr_2 x3 x10)
    refine r_istore_n dX6_readCross_13 rfl ?_
    exact T14 e10 a3.1 0 m10 hs (k3.d.tr k10.d) f10 n3.1 n3.2.1 (by decide) (by decide)
  have x10 : sNum t L a3.2.1 0 4 = .ok a10 := x10
  have n10 := sNum_ok (by omega) x10
  by_cases c : a3.1 = a10.1
  · have hs := sLc_e (D := D) (sPr_3 x3 x10 c)
    refine r_istore_n dX6_readCross_13 rfl ?_
    refine r_aload_n dX6_readCross_14 rfl ?_
    refine r_iload_n dX6_readCross_15 rfl ?_
    refine r_iload_n dX6_readCross_16 rfl ?_
    refine r_icmp_eq (tgt := 24) dX6_readCross_17 (by decide) (fun h17 => ?_) (fun h17 => ?_)
    · refine r_iconst dX6_readCross_24 (k := ?_)
      refine r_iconst dX6_readCross_25 (k := ?_)
      refine r_w2 (c_needs_n _ y15) kX6_114 rfl dX6_readCross_26 ?_
      exact T29 (3, a10.2.2) a3.1 a10.1 _ hs ((k3.d.s (by decide)).s (by decide)) ⟨by simp (disch := omega) only [zs_n, zs_v, zs_k], by simp (disch := omega) only [zs_n, zs_v, zs_k]; exact y12, (by show (0 : Int) < 3; decide)⟩ n3.1 n3.2.1 n10.1 n10.2.1
    · exfalso; omega
  have hpr := sPr_k x3 x10 c
  have hat := hD3.at (k := 5 * a3.1 + a10.1) (by omega) (by omega)
  by_cases c2 : D.2.1 (5 * a3.1 + a10.1) = 0
  ·
    have hD5 := ((hD3.told (k := 5 * a3.1 + a10.1) (by omega) (by omega)).hi n3.1).hi n10.1
    have em : max (max D.2.2.2 a3.1) a10.1 = max D.2.2.2 (max a3.1 a10.1) := by omega
    have go : ∀ m5, kD mem m5 → DR m5 (D.1, zu D.2.1 (5 * a3.1 + a10.1) 1, D.2.2.1, max (max D.2.2.2 a3.1) a10.1) → m5 65 15 = 0 → m5 65 11 = a10.2.1 → m5 65 6 = mem 65 6 → SW l G (zrm 4) RX6 cX6_readCross 3 none (zZ G (zPLn t L (sLc0 t L D p) mem)) 0 0 (fun _ => True) 80 [zR 65, zI a3.1, zI a10.1] [] m5 := by
      intro m5 kd5 hD5 z15 z11 z6
      refine r_aload_n dX6_readCross_80 rfl ?_
      refine r_wA0 (c_takes' (p := a10.2.1) (hE.k kd5) z15 z11 (by omega) (by omega)) kX6_122 rfl dX6_readCross_81 (fun m8 k8 ah8 => ?_)
      refine r_aload_n dX6_readCross_84 rfl ?_
      refine r_getR (q := 69) fX6_20 rfl rfl dX6_readCross_85 ?_
      refine r_bipush dX6_readCross_88 (k := ?_)
      refine r_iconst dX6_readCross_90 (k := ?_)
      refine r_iload_n dX6_readCross_91 rfl ?_
      refine r_imul dX6_readCross_92 ?_
      try rw [zw_id (by omega) (by omega)]
      refine r_iadd dX6_readCross_93 ?_
      try rw [zw_id (by omega) (by omega)]
      refine r_iload_n dX6_readCross_94 rfl ?_
      refine r_iadd dX6_readCross_95 ?_
      try rw [zw_id (by omega) (by omega)]
      refine r_aload_n dX6_readCross_96 rfl ?_
      refine r_iconst dX6_readCross_97 (k := ?_)
      refine r_iconst dX6_readCross_98 (k := ?_)
      refine r_vRN (c_readNumber (p := a10.2.1) 0 3 ((hE.k kd5).a k8) (by omega) (by omega) ah8) kX6_125 rfl dX6_readCross_99 (fun e9 m9 x9 k9 f9 => ?_) (fun a9 m9 x9 k9 ah9 => ?_)
      · have hs : sLc0 t L D p = .error e9 := by unfold sLc0; simp only [hpr]; rw [if_pos c2]; simp only [x9]
        refine r_iast rfl (by omega) (by omega) dX6_readCross_102 ?_
        refine r_vret dX6_readCross_103 ?_
        exact zPLn.e hs (((kd5.tr k8.d).tr k9.d).z) (f9.n (Or.inl (by decide)))
      · have hs : sLc0 t L D p = .ok (dGr D a3.1 a10.1 a9.1, a9.2.1) := by unfold sLc0; simp only [hpr]; rw [if_pos c2]; simp only [x9]
        refine r_iast rfl (by omega) (by omega) dX6_readCross_102 ?_
        refine r_vret dX6_readCross_103 ?_
        refine zPLn.k hs (((kd5.tr k8.d).tr k9.d).z) ah9.d ?_ (by rw [zs_n (by decide), k9.2 6 (by decide), k8.2 6 (by decide)]; exact z6)
        have fin := ((hD5.k k8).k k9).g (i := a3.1) (j := a10.1) (v := a9.1) (by omega) (by omega) n5 r0
        rw [em] at fin
        exact fin
    refine r_istore_n dX6_readCross_13 rfl ?_
    refine r_aload_n dX6_readCross_14 rfl ?_
    refine r_iload_n dX6_readCross_15 rfl ?_
    refine r_iload_n dX6_readCross_16 rfl ?_
    refine r_icmp_eq (tgt := 24) dX6_readCross_17 (by decide) (fun h17 => ?_) (fun h17 => ?_)
    · exfalso; omega
    · refine r_iconst dX6_readCross_20 (k := ?_)
      refine r_goto (tgt := 25) dX6_readCross_21 (by decide) ?_
      refine r_iconst dX6_readCross_25 (k := ?_)
      refine r_w2 (c_needs_t _ _ (by decide)) kX6_114 rfl dX6_readCross_26 ?_
      refine r_aload_n dX6_readCross_29 rfl ?_
      refine r_aload_n dX6_readCross_30 rfl ?_
      refine r_gI (q := 7) rfl fX6_58 rfl (by decide) dX6_readCross_31 ?_
      refine r_iconst dX6_readCross_34 (k := ?_)
      refine r_iload_n dX6_readCross_35 rfl ?_
      refine r_imul dX6_readCross_36 ?_
      try rw [zw_id (by omega) (by omega)]
      refine r_iload_n dX6_readCross_37 rfl ?_
      refine r_iadd dX6_readCross_38 ?_
      try rw [zw_id (by omega) (by omega)]
      refine r_ishr dX6_readCross_39 ?_
      refine r_iconst dX6_readCross_40 (k := ?_)
      refine r_iand dX6_readCross_41 ?_
      rw [hat]
      refine r_if_ne (tgt := 49) dX6_readCross_42 (by decide) (fun h42 => ?_) (fun h42 => ?_)
      · exfalso; omega
      · refine r_iconst dX6_readCross_45 (k := ?_)
        refine r_goto (tgt := 50) dX6_readCross_46 (by decide) ?_
        refine r_iconst dX6_readCross_50 (k := ?_)
        refine r_w2 (c_needs_t _ _ (by decide)) kX6_114 rfl dX6_readCross_51 ?_
        refine r_aload_n dX6_readCross_54 rfl ?_
        refine r_dup dX6_readCross_55 rfl ?_
        refine r_gI (q := 7) rfl fX6_58 rfl (by decide) dX6_readCross_56 ?_
        refine r_iconst dX6_readCross_59 (k := ?_)
        refine r_iconst dX6_readCross_60 (k := ?_)
        refine r_iload_n dX6_readCross_61 rfl ?_
        refine r_imul dX6_readCross_62 ?_
        try rw [zw_id (by omega) (by omega)]
        refine r_iload_n dX6_readCross_63 rfl ?_
        refine r_iadd dX6_readCross_64 ?_
        try rw [zw_id (by omega) (by omega)]
        refine r_ishl dX6_readCross_65 ?_
        refine r_ior dX6_readCross_66 ?_
        refine r_pI (q := 7) rfl pX6_58 rfl dX6_readCross_67 ?_
        refine r_aload_n dX6_readCross_70 rfl ?_
        refine r_iload_n dX6_readCross_71 rfl ?_
        refine r_w1 (c_noteHighest _) kX6_128 rfl dX6_readCross_72 ?_
        refine r_aload_n dX6_readCross_75 rfl ?_
        refine r_iload_n dX6_readCross_76 rfl ?_
        refine r_w1 (c_noteHighest _) kX6_128 rfl dX6_readCross_77 ?_
        exact go _ (((k3.d.s (by decide)).s (by decide)).s (by decide)) hD5 (by simp (disch := omega) only [zs_n, zs_v, zs_k]; exact y15) (by simp (disch := omega) only [zs_n, zs_v, zs_k]; exact y11) (by simp (disch := omega) only [zs_n, zs_v, zs_k]; exact k3.2 6 (by decide))
  · have hs : sLc0 t L D p = .error (4, a10.2.2) := by unfold sLc0; simp only [hpr]; rw [if_neg c2]
    refine r_istore_n dX6_readCross_13 rfl ?_
    refine r_aload_n dX6_readCross_14 rfl ?_
    refine r_iload_n dX6_readCross_15 rfl ?_
    refine r_iload_n dX6_readCross_16 rfl ?_
    refine r_icmp_eq (tgt := 24) dX6_readCross_17 (by decide) (fun h17 => ?_) (fun h17 => ?_)
    · exfalso; omega
    · refine r_iconst dX6_readCross_20 (k := ?_)
      refine r_goto (tgt := 25) dX6_readCross_21 (by decide) ?_
      refine r_iconst dX6_readCross_25 (k := ?_)
      refine r_w2 (c_needs_t _ _ (by decide)) kX6_114 rfl dX6_readCross_26 ?_
      refine r_aload_n dX6_readCross_29 rfl ?_
      refine r_aload_n dX6_readCross_30 rfl ?_
      refine r_gI (q := 7) rfl fX6_58 rfl (by decide) dX6_readCross_31 ?_
      refine r_iconst dX6_readCross_34 (k := ?_)
      refine r_iload_n dX6_readCross_35 rfl ?_
      refine r_imul dX6_readCross_36 ?_
      try rw [zw_id (by omega) (by omega)]
      refine r_iload_n dX6_readCross_37 rfl ?_
      refine r_iadd dX6_readCross_38 ?_
      try rw [zw_id (by omega) (by omega)]
      refine r_ishr dX6_readCross_39 ?_
      refine r_iconst dX6_readCross_40 (k := ?_)
      refine r_iand dX6_readCross_41 ?_
      rw [hat]
      refine r_if_ne (tgt := 49) dX6_readCross_42 (by decide) (fun h42 => ?_) (fun h42 => ?_)
      · refine r_iconst dX6_readCross_49 (k := ?_)
        refine r_iconst dX6_readCross_50 (k := ?_)
        refine r_w2 (c_needs_n _ y15) kX6_114 rfl dX6_readCross_51 ?_
        exact T54 (4, a10.2.2) a3.1 a10.1 _ hs ((k3.d.s (by decide)).s (by decide)) ⟨by simp (disch := omega) only [zs_n, zs_v, zs_k], by simp (disch := omega) only [zs_n, zs_v, zs_k]; exact y12, (by show (0 : Int) < 4; decide)⟩ n3.1 n3.2.1 n10.1 n10.2.1
      · exfalso; omega
set_option maxRecDepth 100000 in
theorem c_readRope (hE : TP t L mem) (p0 : 0 ≤ p) (p1 : p ≤ L) (h : AH (sTk t L p) mem) (hD : DR mem D) (n5 : D.1.1 ≤ 5) (r0 : 0 ≤ dR D) (r6 : dR D < 6) : KX6_readRope l G 4 [zR 65] mem (zPLn t L (sRp t L D p) mem) := by
  have e53 : mem 69 53 = dR D := hD.2.2.2.1
  refine CT.of' (own := RX6) (ls0 := [zR 65, zU, zU, zU]) rfl (by decide +kernel) (Nat.le_of_ble_eq_true rfl) rfl ?_
  have T56 : ∀ (e : zEr) (i j : Int) (m : zM), sRp t L D p = .error e → kD mem m → m 69 = mem 69 → fS m e → SW l G (zrm 4) RX6 cX6_readRope 4 none (zZ G (zPLn t L (sRp t L D p) mem)) 0 0 (fun _ => True) 56 [zR 65, zI (35 + 3 * dR D), zI i, zI j] [] m := by
    intro e i j m hs hk h69 hf
    have f1 := hf.1
    have f3 := hf.2.2
    refine r_aload_n dX6_readRope_56 rfl ?_
    refine r_getR (q := 69) fX6_20 rfl rfl dX6_readRope_57 ?_
    try simp (disch := omega) only [zs_n, zs_v, zs_k, h69, e53]
    refine r_iload_n dX6_readRope_60 rfl ?_
    refine r_iload_n dX6_readRope_61 rfl ?_
    refine r_iast rfl (by omega) (by omega) dX6_readRope_62 ?_
    refine r_aload_n dX6_readRope_63 rfl ?_
    refine r_getR (q := 69) fX6_20 rfl rfl dX6_readRope_64 ?_
    try simp (disch := omega) only [zs_n, zs_v, zs_k, h69, e53]
    refine r_iload_n dX6_readRope_67 rfl ?_
    refine r_iconst dX6_readRope_68 (k := ?_)
    refine r_iadd dX6_readRope_69 ?_
    try rw [zw_id (by omega) (by omega)]
    refine r_iload_n dX6_readRope_70 rfl ?_
    refine r_iast rfl (by omega) (by omega) dX6_readRope_71 ?_
    refine r_aload_n dX6_readRope_72 rfl ?_
    refine r_getR (q := 69) fX6_20 rfl rfl dX6_readRope_73 ?_
    try simp (disch := omega) only [zs_n, zs_v, zs_k, h69, e53]
    refine r_iload_n dX6_readRope_76 rfl ?_
    refine r_iconst dX6_readRope_77 (k := ?_)
    refine r_iadd dX6_readRope_78 ?_
    try rw [zw_id (by omega) (by omega)]
    refine r_aload_n dX6_readRope_79 rfl ?_
    refine r_iconst dX6_readRope_80 (k := ?_)
    refine r_bipush dX6_readRope_81 (k := ?_)
    refine r_v2 (c_readNumber_f _ _ (by simp (disch := omega) only [zs_n, zs_v, zs_k]; omega)) kX6_125 rfl dX6_readRope_83 ?_
    try simp (disch := omega) only [zs_n, zs_v, zs_k, h69, e53]
    refine r_iast rfl (by omega) (by omega) dX6_readRope_86 ?_
    refine r_aload_n dX6_readRope_87 rfl ?_
    refine r_getR (q := 69) fX6_20 rfl rfl dX6_readRope_88 ?_
    try simp (disch := omega) only [zs_n, zs_v, zs_k, h69, e53]
    refine r_bipush dX6_readRope_91 (k := ?_)
    refine r_dup2 dX6_readRope_93 rfl rfl ?_
    refine r_iald rfl (by omega) (by omega) dX6_readRope_94 ?_
    try simp (disch := omega) only [zs_n, zs_v, zs_k, h69, e53]
    refine r_iconst dX6_readRope_95 (k := ?_)
    refine r_iadd dX6_readRope_96 ?_
    try rw [zw_id (by omega) (by omega)]
    refine r_iast rfl (by omega) (by omega) dX6_readRope_97 ?_
    refine r_vret dX6_readRope_98 ?_
    exact zPLn.e hs (by repeat first | assumption | exact kD.rf | refine kD.s ?_ (by decide) | refine kD.z ?_) (by repeat first | assumption | refine fS.n ?_ (by first | decide | exact Or.inl (by decide)))
  have T42 : ∀ (e : zEr) (i j : Int) (m : zM), sRp t L D p = .error e → kD mem m → m 69 = mem 69 → fS m e → SW l G (zrm 4) RX6 cX6_readRope 4 none (zZ G (zPLn t L (sRp t L D p) mem)) 0 0 (fun _ => True) 42 [zR 65, zI (35 + 3 * dR D), zI i, zI j] [] m := by
    intro e i j m hs hk h69 hf
    have f1 := hf.1
    have f3 := hf.2.2
    refine r_aload_n dX6_readRope_42 rfl ?_
    refine r_iload_n dX6_readRope_43 rfl ?_
    refine r_w1 (c_noteHighest _) kX6_128 rfl dX6_readRope_44 ?_
    refine r_aload_n dX6_readRope_47 rfl ?_
    refine r_iload_n dX6_readRope_48 rfl ?_
    refine r_w1 (c_noteHighest _) kX6_128 rfl dX6_readRope_49 ?_
    refine r_aload_n dX6_readRope_52 rfl ?_
    refine r_w0 (c_takes_f (by simp (disch := omega) only [zs_n, zs_v, zs_k]; omega)) kX6_122 rfl dX6_readRope_53 ?_
    exact T56 e i j _ hs (by repeat first | assumption | exact kD.rf | refine kD.s ?_ (by decide) | refine kD.z ?_) (by rw [zs_n (by decide), zs_n (by decide)]; exact h69) (by repeat first | assumption | refine fS.n ?_ (by first | decide | exact Or.inl (by decide)))
  have T27 : ∀ (e : zEr) (i j : Int) (m : zM), sRp t L D p = .error e → kD mem m → m 69 = mem 69 → fS m e → SW l G (zrm 4) RX6 cX6_readRope 4 none (zZ G (zPLn t L (sRp t L D p) mem)) 0 0 (fun _ => True) 27 [zR 65, zI (35 + 3 * dR D), zI i, zI j] [] m := by
    intro e i j m hs hk h69 hf
    have f1 := hf.1
    have f3 := hf.2.2
    refine r_aload_n dX6_readRope_27 rfl ?_
    refine r_iload_n dX6_readRope_28 rfl ?_
    refine r_iload_n dX6_readRope_29 rfl ?_
    refine r_icmp_eq (tgt := 37) dX6_readRope_30 (by decide) (fun h30 => ?_) (fun h30 => ?_)
    · refine r_iconst dX6_readRope_37 (k := ?_)
      refine r_iconst dX6_readRope_38 (k := ?_)
      refine r_w2 (c_needs_f _ _ (by omega)) kX6_114 rfl dX6_readRope_39 ?_
      exact T42 e i j m hs hk h69 hf
    · refine r_iconst dX6_readRope_33 (k := ?_)
      refine r_goto (tgt := 38) dX6_readRope_34 (by decide) ?_
      refine r_iconst dX6_readRope_38 (k := ?_)
      refine r_w2 (c_needs_f _ _ (by omega)) kX6_114 rfl dX6_readRope_39 ?_
      exact T42 e i j m hs hk h69 hf
  refine r_bipush dX6_readRope_0 (k := ?_)
  refine r_iconst dX6_readRope_2 (k := ?_)
  refine r_aload_n dX6_readRope_3 rfl ?_
  refine r_getR (q := 69) fX6_20 rfl rfl dX6_readRope_4 ?_
  try simp (disch := omega) only [e53]
  refine r_bipush dX6_readRope_7 (k := ?_)
  refine r_iald rfl (by omega) (by omega) dX6_readRope_9 ?_
  try simp (disch := omega) only [e53]
  refine r_imul dX6_readRope_10 ?_
  try rw [zw_id (by omega) (by omega)]
  refine r_iadd dX6_readRope_11 ?_
  try rw [zw_id (by omega) (by omega)]
  refine r_istore_n dX6_readRope_12 rfl ?_
  refine r_aload_n dX6_readRope_13 rfl ?_
  refine r_iconst dX6_readRope_14 (k := ?_)
  refine r_iconst dX6_readRope_15 (k := ?_)
  refine r_vRN (c_readNumber 0 4 hE p0 p1 h) kX6_125 rfl dX6_readRope_16 (fun e3 m3 x3 k3 f3 => ?_) (fun a3 m3 x3 k3 ah3 => ?_)
  · have hs := sRp_e (D := D) (sPr_1 x3)
    refine r_istore_n dX6_readRope_19 rfl ?_
    refine r_aload_n dX6_readRope_20 rfl ?_
    refine r_iconst dX6_readRope_21 (k := ?_)
    refine r_iconst dX6_readRope_22 (k := ?_)
    refine r_v2 (c_looked_f _ _ (by rw [f3.1]; exact f3.2.2)) kX6_118 rfl dX6_readRope_23 ?_
    refine r_istore_n dX6_readRope_26 rfl ?_
    exact T27 e3 _ _ m3 hs k3.d (k3.1 69 (by decide)) f3
  have n3 := sNum_ok p1 x3
  have hE3 := hE.a k3
  have hD3 := hD.k k3
  have h693 := k3.1 69 (by decide)
  refine r_istore_n dX6_readRope_19 rfl ?_
  refine r_aload_n dX6_readRope_20 rfl ?_
  refine r_iconst dX6_readRope_21 (k := ?_)
  refine r_iconst dX6_readRope_22 (k := ?_)
  refine r_vL (c_looked _ _ ah3) kX6_118 rfl dX6_readRope_23 (fun e10 m10 x10 k10 f10 => ?_) (fun a10 x10 y15 y11 y12 => ?_)
  · have x10 : sNum t L a3.2.1 0 4 = .error e10 := x10
    have hs := sRp_e (D := D) (sPr_2 x3 x10)
    refine r_istore_n dX6_readRope_26 rfl ?_
    exact T27 e10 _ _ m10 hs (k3.d.tr k10.d) (by rw [k10.1 69 (by decide)]; exact h693) f10
  have x10 : sNum t L a3.2.1 0 4 = .ok a10 := x10
  have n10 := sNum_ok (by omega) x10
  by_cases c : a3.1 = a10.1
  · have hs := sRp_e (D := D) (sPr_3 x3 x10 c)
    refine r_istore_n dX6_readRope_26 rfl ?_
    refine r_aload_n dX6_readRope_27 rfl ?_
    refine r_iload_n dX6_readRope_28 rfl ?_
    refine r_iload_n dX6_readRope_29 rfl ?_
    refine r_icmp_eq (tgt := 37) dX6_readRope_30 (by decide) (fun h30 => ?_) (fun h30 => ?_)
    · refine r_iconst dX6_readRope_37 (k := ?_)
      refine r_iconst dX6_readRope_38 (k := ?_)
      refine r_w2 (c_needs_n _ y15) kX6_114 rfl dX6_readRope_39 ?_
      exact T42 (3, a10.2.2) _ _ _ hs ((k3.d.s (by decide)).s (by decide)) (by rw [zs_n (by decide), zs_n (by decide)]; exact h693) ⟨by simp (disch := omega) only [zs_n, zs_v, zs_k], by simp (disch := omega) only [zs_n, zs_v, zs_k]; exact y12, (by show (0 : Int) < 3; decide)⟩
    · exfalso; omega
  have hpr := sPr_k x3 x10 c
  have hD5 := (hD3.hi n3.1).hi n10.1
  have em : max (max D.2.2.2 a3.1) a10.1 = max D.2.2.2 (max a3.1 a10.1) := by omega
  have go : ∀ m5, kD mem m5 → DR m5 (D.1, D.2.1, D.2.2.1, max (max D.2.2.2 a3.1) a10.1) → m5 65 15 = 0 → m5 65 11 = a10.2.1 → m5 65 6 = mem 65 6 → SW l G (zrm 4) RX6 cX6_readRope 4 none (zZ G (zPLn t L (sRp t L D p) mem)) 0 0 (fun _ => True) 52 [zR 65, zI (35 + 3 * dR D), zI a3.1, zI a10.1] [] m5 := by
    intro m5 kd5 hD5 z15 z11 z6
    refine r_aload_n dX6_readRope_52 rfl ?_
    refine r_wA0 (c_takes' (p := a10.2.1) (hE.k kd5) z15 z11 (by omega) (by omega)) kX6_122 rfl dX6_readRope_53 (fun m8 k8 ah8 => ?_)
    have hD8 := ((hD5.k k8).w (k := 35 + 3 * dR D) (v := a3.1) r0 r6 n5 (by show 35 + 3 * dR D ≤ _; omega) (by show _ ≤ 37 + 3 * dR D; omega)).w (k := 35 + 3 * dR D + 1) (v := a10.1) r0 r6 n5 (by show 35 + 3 * dR D ≤ _; omega) (by show _ ≤ 37 + 3 * dR D; omega)
    refine r_aload_n dX6_readRope_56 rfl ?_
    refine r_getR (q := 69) fX6_20 rfl rfl dX6_readRope_57 ?_
    refine r_iload_n dX6_readRope_60 rfl ?_
    refine r_iload_n dX6_readRope_61 rfl ?_
    refine r_iast rfl (by omega) (by omega) dX6_readRope_62 ?_
    refine r_aload_n dX6_readRope_63 rfl ?_
    refine r_getR (q := 69) fX6_20 rfl rfl dX6_readRope_64 ?_
    refine r_iload_n dX6_readRope_67 rfl ?_
    refine r_iconst dX6_readRope_68 (k := ?_)
    refine r_iadd dX6_readRope_69 ?_
    try rw [zw_id (by omega) (by omega)]
    refine r_iload_n dX6_readRope_70 rfl ?_
    refine r_iast rfl (by omega) (by omega) dX6_readRope_71 ?_
    refine r_aload_n dX6_readRope_72 rfl ?_
    refine r_getR (q := 69) fX6_20 rfl rfl dX6_readRope_73 ?_
    refine r_iload_n dX6_readRope_76 rfl ?_
    refine r_iconst dX6_readRope_77 (k := ?_)
    refine r_iadd dX6_readRope_78 ?_
    try rw [zw_id (by omega) (by omega)]
    refine r_aload_n dX6_readRope_79 rfl ?_
    refine r_iconst dX6_readRope_80 (k := ?_)
    refine r_bipush dX6_readRope_81 (k := ?_)
    refine r_vRN (c_readNumber (p := a10.2.1) 1 30 (((hE.k kd5).a k8).k (by repeat first | assumption | exact kD.rf | refine kD.s ?_ (by decide) | refine kD.z ?_)) (by omega) (by omega) ah8.d.d) kX6_125 rfl dX6_readRope_83 (fun e9 m9 x9 k9 f9 => ?_) (fun a9 m9 x9 k9 ah9 => ?_)
    · have hs : sRp t L D p = .error e9 := by unfold sRp; simp only [hpr, x9]
      have kd9 := ((((kd5.tr k8.d).z (k := 35 + 3 * dR D) (v := a3.1)).z (k := 35 + 3 * dR D + 1) (v := a10.1)).tr k9.d)
      have e9' : m9 69 53 = dR D := (hD8.k k9).2.2.2.1
      refine r_iast rfl (by omega) (by omega) dX6_readRope_86 ?_
      refine r_aload_n dX6_readRope_87 rfl ?_
      refine r_getR (q := 69) fX6_20 rfl rfl dX6_readRope_88 ?_
      try simp (disch := omega) only [zs_n, zs_v, zs_k, e9']
      refine r_bipush dX6_readRope_91 (k := ?_)
      refine r_dup2 dX6_readRope_93 rfl rfl ?_
      refine r_iald rfl (by omega) (by omega) dX6_readRope_94 ?_
      try simp (disch := omega) only [zs_n, zs_v, zs_k, e9']
      refine r_iconst dX6_readRope_95 (k := ?_)
      refine r_iadd dX6_readRope_96 ?_
      try rw [zw_id (by omega) (by omega)]
      refine r_iast rfl (by omega) (by omega) dX6_readRope_97 ?_
      refine r_vret dX6_readRope_98 ?_
      exact zPLn.e hs (by repeat first | assumption | exact kD.rf | refine kD.s ?_ (by decide) | refine kD.z ?_) (by repeat first | assumption | refine fS.n ?_ (by first | decide | exact Or.inl (by decide)))
    · have hs : sRp t L D p = .ok (dRope D a3.1 a10.1 a9.1, a9.2.1) := by unfold sRp; simp only [hpr, x9]
      have kd9 := ((((kd5.tr k8.d).z (k := 35 + 3 * dR D) (v := a3.1)).z (k := 35 + 3 * dR D + 1) (v := a10.1)).tr k9.d)
      have hD9 := (hD8.k k9).w (k := 35 + 3 * dR D + 2) (v := a9.1) r0 r6 n5 (by show 35 + 3 * dR D ≤ _; omega) (by show _ ≤ 37 + 3 * dR D; omega)
      have e9' : m9 69 53 = dR D := (hD8.k k9).2.2.2.1
      have w1 : m9 69 (35 + 3 * dR D) = a3.1 := by rw [k9.1 69 (by decide), zs_k (by omega), zs_v]
      have w2 : m9 69 (36 + 3 * dR D) = a10.1 := by rw [k9.1 69 (by decide), show 36 + 3 * dR D = 35 + 3 * dR D + 1 by omega, zs_v]
      have fin := hD9.rope (i := a3.1) (j := a10.1) (v := a9.1) r0 r6 n5 (by rw [show dR (D.1, D.2.1, D.2.2.1, max (max D.2.2.2 a3.1) a10.1) = dR D from rfl, zs_k (by omega)]; exact w1) (by rw [show dR (D.1, D.2.1, D.2.2.1, max (max D.2.2.2 a3.1) a10.1) = dR D from rfl, zs_k (by omega)]; exact w2) (by rw [show dR (D.1, D.2.1, D.2.2.1, max (max D.2.2.2 a3.1) a10.1) = dR D from rfl, show 37 + 3 * dR D = 35 + 3 * dR D + 2 by omega, zs_v])
      rw [em] at fin
      refine r_iast rfl (by omega) (by omega) dX6_readRope_86 ?_
      refine r_aload_n dX6_readRope_87 rfl ?_
      refine r_getR (q := 69) fX6_20 rfl rfl dX6_readRope_88 ?_
      try simp (disch := omega) only [zs_n, zs_v, zs_k, e9']
      refine r_bipush dX6_readRope_91 (k := ?_)
      refine r_dup2 dX6_readRope_93 rfl rfl ?_
      refine r_iald rfl (by omega) (by omega) dX6_readRope_94 ?_
      try simp (disch := omega) only [zs_n, zs_v, zs_k, e9']
      refine r_iconst dX6_readRope_95 (k := ?_)
      refine r_iadd dX6_readRope_96 ?_
      try rw [zw_id (by omega) (by omega)]
      refine r_iast rfl (by omega) (by omega) dX6_readRope_97 ?_
      refine r_vret dX6_readRope_98 ?_
      exact zPLn.k hs (by repeat first | assumption | exact kD.rf | refine kD.s ?_ (by decide) | refine kD.z ?_) ah9.d.d fin (by rw [zs_n (by decide), zs_n (by decide), k9.2 6 (by decide), zs_n (by decide), zs_n (by decide), k8.2 6 (by decide)]; exact z6)
  refine r_istore_n dX6_readRope_26 rfl ?_
  refine r_aload_n dX6_readRope_27 rfl ?_
  refine r_iload_n dX6_readRope_28 rfl ?_
  refine r_iload_n dX6_readRope_29 rfl ?_
  refine r_icmp_eq (tgt := 37) dX6_readRope_30 (by decide) (fun h30 => ?_) (fun h30 => ?_)
  · exfalso; omega
  · refine r_iconst dX6_readRope_33 (k := ?_)
    refine r_goto (tgt := 38) dX6_readRope_34 (by decide) ?_
    refine r_iconst dX6_readRope_38 (k := ?_)
    refine r_w2 (c_needs_t _ _ (by decide)) kX6_114 rfl dX6_readRope_39 ?_
    refine r_aload_n dX6_readRope_42 rfl ?_
    refine r_iload_n dX6_readRope_43 rfl ?_
    refine r_w1 (c_noteHighest _) kX6_128 rfl dX6_readRope_44 ?_
    refine r_aload_n dX6_readRope_47 rfl ?_
    refine r_iload_n dX6_readRope_48 rfl ?_
    refine r_w1 (c_noteHighest _) kX6_128 rfl dX6_readRope_49 ?_
    exact go _ ((k3.d.s (by decide)).s (by decide)) hD5 (by simp (disch := omega) only [zs_n, zs_v, zs_k]; exact y15) (by simp (disch := omega) only [zs_n, zs_v, zs_k]; exact y11) (by simp (disch := omega) only [zs_n, zs_v, zs_k]; exact k3.2 6 (by decide))
end
