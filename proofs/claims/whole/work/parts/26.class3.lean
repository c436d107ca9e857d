/-! ===== the class: which is best ===== -/
def sJ (c v : Int) (a : Int × Int) : Int × Int := if v < a.2 then (c, v) else a
def sHoly (W : zVw) (n i0 : Int) : Int × Int := zfor (fun v a => sJ v (vSpread (vHol W v) n.toNat) a) 0 7 (-4, i0)
def sKind (W : zVw) (i n i0 : Int) : Int × Int := zfor (fun v a => sJ v (vSpread (vKind W i v) n.toNat) a) 0 4 (-4, i0)
def sMatch (W : zVw) (len : Int) : Int × Int := zfor (fun i a => zfor (fun j a => sJ (10 * i + j) (vSpread (vRope W i j len) 30) a) (i + 1) (W.1 - (i + 1)).toNat a) 0 W.1.toNat (-4, vSpread W 30)
def sFray (W : zVw) : Int × Int := zfor (fun k a => sJ k (vBumps (vDrop W k) 30) a) 0 W.2.2.2.1.toNat (-4, vBumps W 30)
/-- the class passes over what is no sulk -/
def sSootheC (W : zVw) : Int × Int := zfor (fun i a => zfor (fun j a => if i = j ∨ W.2.2.1 (5 * i + j) = 0 then a else sJ (10 * i + j) (vSpread (vGrudge W i j 0) 30) a) 0 W.1.toNat a) 0 W.1.toNat (-4, vSpread W 30)
def sSlack (W : zVw) (k n v : Int) : Nat → Int
  | 0 => -4
  | L + 1 => if vSpread (vLen W k (L + 1)) n.toNat ≤ v then L + 1 else sSlack W k n v L
section
variable {l : Launch} {G : zG} {mem : zM}
theorem zBec_t {m : zM} (hI : zFI mem 1) (hk : kC mem m) : zFI (zBec m 8 1) 8 ∧ VEQ (vC (zBec m 8 1) 8) (vC mem 1) ∧ kC mem (zBec m 8 1) := ⟨zFI_bec (hI.k hk), by rw [← vC.k hk]; exact vC_bec (hI.k hk), hk.b⟩
set_option maxRecDepth 100000 in
theorem c_X5_holy (hI : zFI mem 1) (n w : Int) : KX5_holy l G 6 [zR 0, zI n, zI w] mem (zPC (zI (if 0 ≤ n ∧ n ≤ 60 ∧ 0 ≤ w ∧ w ≤ 1 then sAdv (sHoly (vC mem 1) n 100).1 (sHoly (vC mem 1) n 100).2 w else -1)) mem) := by
  refine CT.of' (own := RX5) (ls0 := [zR 0, zI n, zI w, zU, zU, zU, zU, zU]) rfl (by decide +kernel) (Nat.le_of_ble_eq_true rfl) rfl ?_
  by_cases hc : 0 ≤ n ∧ n ≤ 60 ∧ 0 ≤ w ∧ w ≤ 1
  · rw [if_pos hc]
    have loop : ∀ (k : Nat) (x a c : Int) (m : zM) (v6 v7 : zV), 0 ≤ x → x + k = 7 → kC mem m → zfor (fun v a => sJ v (vSpread (vHol (vC mem 1) v) n.toNat) a) x k (c, a) = sHoly (vC mem 1) n 100 → SW l G (zrm 6) RX5 cX5_holy 8 (some .int) (zZ G (zPC (zI (sAdv (sHoly (vC mem 1) n 100).1 (sHoly (vC mem 1) n 100).2 w)) mem)) 0 0 (fun _ => True) 31 [zR 0, zI n, zI w, zI a, zI c, zI x, v6, v7] [] m := by
      intro k
      induction k with
      | zero =>
        intro x a c m v6 v7 h0 h1 hk he
        refine r_iload dX5_holy_31 rfl ?_
        refine r_bipush dX5_holy_33 (k := ?_)
        refine r_icmp_ge (tgt := 78) dX5_holy_35 (by decide) (fun h35 => ?_) (fun h35 => ?_)
        · refine r_iload dX5_holy_78 rfl ?_
          refine r_iload_n dX5_holy_80 rfl ?_
          refine r_iload_n dX5_holy_81 rfl ?_
          refine r_s3 (c_advice _ _ _) kX5_194 dX5_holy_82 ?_
          refine r_iret dX5_holy_85 ?_
          exact zPC.i (by rw [← he]; rfl) hk
        · exact absurd (by omega) h35
      | succ k ih =>
        intro x a c m v6 v7 h0 h1 hk he
        obtain ⟨g1, g2, g3⟩ := zBec_t hI hk
        rw [zfor, sJ] at he
        refine r_iload dX5_holy_31 rfl ?_
        refine r_bipush dX5_holy_33 (k := ?_)
        refine r_icmp_ge (tgt := 78) dX5_holy_35 (by decide) (fun h35 => ?_) (fun h35 => ?_)
        · exact absurd h35 (by omega)
        · refine r_aload_n dX5_holy_38 rfl ?_
          refine r_v0 (c_asItIs) kX5_177 rfl dX5_holy_39 ?_
          refine r_astore dX5_holy_42 rfl ?_
          refine r_aload dX5_holy_44 rfl ?_
          refine r_iload dX5_holy_46 rfl ?_
          refine r_pI (q := 8) rfl pX5_101 rfl dX5_holy_48 ?_
          refine r_aload dX5_holy_51 rfl ?_
          refine r_iload_n dX5_holy_53 rfl ?_
          refine r_vC1 (c_tSpread g1.hol (by rw [vC_hol]; exact g2.hol _) _ (by omega) (by omega)) kX5_191 rfl dX5_holy_54 (fun m54 hk54 => ?_)
          refine r_istore dX5_holy_57 rfl ?_
          refine r_iload dX5_holy_59 rfl ?_
          refine r_iload_n dX5_holy_61 rfl ?_
          refine r_icmp_ge (tgt := 72) dX5_holy_62 (by decide) (fun h62 => ?_) (fun h62 => ?_)
          · refine r_iinc dX5_holy_72 rfl rfl ?_
            try rw [zw_id (by omega) (by omega)]
            refine r_goto (tgt := 31) dX5_holy_75 (by decide) ?_
            exact ih _ _ _ _ _ _ (by omega) (by omega) ((g3.z (by omega)).tr hk54) (by split at he <;> first | exact he | (exfalso; omega))
          · refine r_iload dX5_holy_65 rfl ?_
            refine r_istore_n dX5_holy_67 rfl ?_
            refine r_iload dX5_holy_68 rfl ?_
            refine r_istore dX5_holy_70 rfl ?_
            refine r_iinc dX5_holy_72 rfl rfl ?_
            try rw [zw_id (by omega) (by omega)]
            refine r_goto (tgt := 31) dX5_holy_75 (by decide) ?_
            exact ih _ _ _ _ _ _ (by omega) (by omega) ((g3.z (by omega)).tr hk54) (by split at he <;> first | exact he | (exfalso; omega))
    refine r_iload_n dX5_holy_0 rfl ?_
    refine r_iconst dX5_holy_1 (k := ?_)
    refine r_bipush dX5_holy_2 (k := ?_)
    refine r_s3 (c_isWithin _ _ _) kX5_156 dX5_holy_4 ?_
    refine r_ifd_eq (tgt := 19) dX5_holy_7 (by decide) (fun h7 => ?_) (fun h7 => ?_)
    · exact absurd hc (by omega)
    · refine r_iload_n dX5_holy_10 rfl ?_
      refine r_iconst dX5_holy_11 (k := ?_)
      refine r_iconst dX5_holy_12 (k := ?_)
      refine r_s3 (c_isWithin _ _ _) kX5_156 dX5_holy_13 ?_
      refine r_ifd_ne (tgt := 21) dX5_holy_16 (by decide) (fun h16 => ?_) (fun h16 => ?_)
      · refine r_bipush dX5_holy_21 (k := ?_)
        refine r_istore_n dX5_holy_23 rfl ?_
        refine r_bipush dX5_holy_24 (k := ?_)
        refine r_istore dX5_holy_26 rfl ?_
        refine r_iconst dX5_holy_28 (k := ?_)
        refine r_istore dX5_holy_29 rfl ?_
        exact loop 7 0 100 (-4) _ _ _ (by omega) (by omega) kC.rf rfl
      · exact absurd hc (by omega)
  · rw [if_neg hc]
    refine r_iload_n dX5_holy_0 rfl ?_
    refine r_iconst dX5_holy_1 (k := ?_)
    refine r_bipush dX5_holy_2 (k := ?_)
    refine r_s3 (c_isWithin _ _ _) kX5_156 dX5_holy_4 ?_
    refine r_ifd_eq (tgt := 19) dX5_holy_7 (by decide) (fun h7 => ?_) (fun h7 => ?_)
    · refine r_iconst dX5_holy_19 (k := ?_)
      refine r_iret dX5_holy_20 ?_
      exact zPC.i rfl kC.rf
    · refine r_iload_n dX5_holy_10 rfl ?_
      refine r_iconst dX5_holy_11 (k := ?_)
      refine r_iconst dX5_holy_12 (k := ?_)
      refine r_s3 (c_isWithin _ _ _) kX5_156 dX5_holy_13 ?_
      refine r_ifd_ne (tgt := 21) dX5_holy_16 (by decide) (fun h16 => ?_) (fun h16 => ?_)
      · exact absurd (by omega) hc
      · refine r_iconst dX5_holy_19 (k := ?_)
        refine r_iret dX5_holy_20 ?_
        exact zPC.i rfl kC.rf
set_option maxRecDepth 100000 in
theorem c_X5_kind (hI : zFI mem 1) (i n w : Int) : KX5_kind l G 6 [zR 0, zI i, zI n, zI w] mem (zPC (zI (if 0 ≤ i ∧ i < mem 1 0 ∧ 0 ≤ n ∧ n ≤ 60 ∧ 0 ≤ w ∧ w ≤ 1 then sAdv (sKind (vC mem 1) i n 100).1 (sKind (vC mem 1) i n 100).2 w else -1)) mem) := by
  obtain ⟨hn0, hn5, -⟩ := zFI1 hI
  refine CT.of' (own := RX5) (ls0 := [zR 0, zI i, zI n, zI w, zU, zU, zU, zU, zU]) rfl (by decide +kernel) (Nat.le_of_ble_eq_true rfl) rfl ?_
  by_cases hc : 0 ≤ i ∧ i < mem 1 0 ∧ 0 ≤ n ∧ n ≤ 60 ∧ 0 ≤ w ∧ w ≤ 1
  · rw [if_pos hc]
    have loop : ∀ (k : Nat) (x a c : Int) (m : zM) (v7 v8 : zV), 0 ≤ x → x + k = 4 → kC mem m → zfor (fun v a => sJ v (vSpread (vKind (vC mem 1) i v) n.toNat) a) x k (c, a) = sKind (vC mem 1) i n 100 → SW l G (zrm 6) RX5 cX5_kind 9 (some .int) (zZ G (zPC (zI (sAdv (sKind (vC mem 1) i n 100).1 (sKind (vC mem 1) i n 100).2 w)) mem)) 0 0 (fun _ => True) 40 [zR 0, zI i, zI n, zI w, zI a, zI c, zI x, v7, v8] [] m := by
      intro k
      induction k with
      | zero =>
        intro x a c m v7 v8 h0 h1 hk he
        refine r_iload dX5_kind_40 rfl ?_
        refine r_iconst dX5_kind_42 (k := ?_)
        refine r_icmp_ge (tgt := 90) dX5_kind_43 (by decide) (fun h43 => ?_) (fun h43 => ?_)
        · refine r_iload dX5_kind_90 rfl ?_
          refine r_iload dX5_kind_92 rfl ?_
          refine r_iload_n dX5_kind_94 rfl ?_
          refine r_s3 (c_advice _ _ _) kX5_194 dX5_kind_95 ?_
          refine r_iret dX5_kind_98 ?_
          exact zPC.i (by rw [← he]; rfl) hk
        · exact absurd (by omega) h43
      | succ k ih =>
        intro x a c m v7 v8 h0 h1 hk he
        obtain ⟨g1, g2, g3⟩ := zBec_t hI hk
        rw [zfor, sJ] at he
        refine r_iload dX5_kind_40 rfl ?_
        refine r_iconst dX5_kind_42 (k := ?_)
        refine r_icmp_ge (tgt := 90) dX5_kind_43 (by decide) (fun h43 => ?_) (fun h43 => ?_)
        · exact absurd h43 (by omega)
        · refine r_aload_n dX5_kind_46 rfl ?_
          refine r_v0 (c_asItIs) kX5_177 rfl dX5_kind_47 ?_
          refine r_astore dX5_kind_50 rfl ?_
          refine r_aload dX5_kind_52 rfl ?_
          refine r_getR (q := 9) fX5_115 rfl rfl dX5_kind_54 ?_
          refine r_iload_n dX5_kind_57 rfl ?_
          refine r_iload dX5_kind_58 rfl ?_
          refine r_iast rfl (by omega) (by omega) dX5_kind_60 ?_
          refine r_aload dX5_kind_61 rfl ?_
          refine r_iload_n dX5_kind_63 rfl ?_
          refine r_vC1 (c_tSpread (g1.kind (k := i) (v := x)) (by rw [vC_kind]; exact g2.kind _ _) _ (by omega) (by omega)) kX5_191 rfl dX5_kind_64 (fun m64 hk64 => ?_)
          refine r_istore dX5_kind_67 rfl ?_
          refine r_iload dX5_kind_69 rfl ?_
          refine r_iload dX5_kind_71 rfl ?_
          refine r_icmp_ge (tgt := 84) dX5_kind_73 (by decide) (fun h73 => ?_) (fun h73 => ?_)
          · refine r_iinc dX5_kind_84 rfl rfl ?_
            try rw [zw_id (by omega) (by omega)]
            refine r_goto (tgt := 40) dX5_kind_87 (by decide) ?_
            exact ih _ _ _ _ _ _ (by omega) (by omega) ((g3.z (by omega)).tr hk64) (by split at he <;> first | exact he | (exfalso; omega))
          · refine r_iload dX5_kind_76 rfl ?_
            refine r_istore dX5_kind_78 rfl ?_
            refine r_iload dX5_kind_80 rfl ?_
            refine r_istore dX5_kind_82 rfl ?_
            refine r_iinc dX5_kind_84 rfl rfl ?_
            try rw [zw_id (by omega) (by omega)]
            refine r_goto (tgt := 40) dX5_kind_87 (by decide) ?_
            exact ih _ _ _ _ _ _ (by omega) (by omega) ((g3.z (by omega)).tr hk64) (by split at he <;> first | exact he | (exfalso; omega))
    refine r_aload_n dX5_kind_0 rfl ?_
    refine r_iload_n dX5_kind_1 rfl ?_
    refine r_v1 (c_X5_isIsle _) kX5_111 rfl dX5_kind_2 ?_
    refine r_ifd_eq (tgt := 27) dX5_kind_5 (by decide) (fun h5 => ?_) (fun h5 => ?_)
    · exact absurd hc (by omega)
    · refine r_iload_n dX5_kind_8 rfl ?_
      refine r_iconst dX5_kind_9 (k := ?_)
      refine r_bipush dX5_kind_10 (k := ?_)
      refine r_s3 (c_isWithin _ _ _) kX5_156 dX5_kind_12 ?_
      refine r_ifd_eq (tgt := 27) dX5_kind_15 (by decide) (fun h15 => ?_) (fun h15 => ?_)
      · exact absurd hc (by omega)
      · refine r_iload_n dX5_kind_18 rfl ?_
        refine r_iconst dX5_kind_19 (k := ?_)
        refine r_iconst dX5_kind_20 (k := ?_)
        refine r_s3 (c_isWithin _ _ _) kX5_156 dX5_kind_21 ?_
        refine r_ifd_ne (tgt := 29) dX5_kind_24 (by decide) (fun h24 => ?_) (fun h24 => ?_)
        · refine r_bipush dX5_kind_29 (k := ?_)
          refine r_istore dX5_kind_31 rfl ?_
          refine r_bipush dX5_kind_33 (k := ?_)
          refine r_istore dX5_kind_35 rfl ?_
          refine r_iconst dX5_kind_37 (k := ?_)
          refine r_istore dX5_kind_38 rfl ?_
          exact loop 4 0 100 (-4) _ _ _ (by omega) (by omega) kC.rf rfl
        · exact absurd hc (by omega)
  · rw [if_neg hc]
    refine r_aload_n dX5_kind_0 rfl ?_
    refine r_iload_n dX5_kind_1 rfl ?_
    refine r_v1 (c_X5_isIsle _) kX5_111 rfl dX5_kind_2 ?_
    refine r_ifd_eq (tgt := 27) dX5_kind_5 (by decide) (fun h5 => ?_) (fun h5 => ?_)
    · refine r_iconst dX5_kind_27 (k := ?_)
      refine r_iret dX5_kind_28 ?_
      exact zPC.i rfl kC.rf
    · refine r_iload_n dX5_kind_8 rfl ?_
      refine r_iconst dX5_kind_9 (k := ?_)
      refine r_bipush dX5_kind_10 (k := ?_)
      refine r_s3 (c_isWithin _ _ _) kX5_156 dX5_kind_12 ?_
      refine r_ifd_eq (tgt := 27) dX5_kind_15 (by decide) (fun h15 => ?_) (fun h15 => ?_)
      · refine r_iconst dX5_kind_27 (k := ?_)
        refine r_iret dX5_kind_28 ?_
        exact zPC.i rfl kC.rf
      · refine r_iload_n dX5_kind_18 rfl ?_
        refine r_iconst dX5_kind_19 (k := ?_)
        refine r_iconst dX5_kind_20 (k := ?_)
        refine r_s3 (c_isWithin _ _ _) kX5_156 dX5_kind_21 ?_
        refine r_ifd_ne (tgt := 29) dX5_kind_24 (by decide) (fun h24 => ?_) (fun h24 => ?_)
        · exact absurd (by omega) hc
        · refine r_iconst dX5_kind_27 (k := ?_)
          refine r_iret dX5_kind_28 ?_
          exact zPC.i rfl kC.rf
set_option maxRecDepth 100000 in
theorem c_X5_slack (hI : zFI mem 1) (i n w : Int) : KX5_slack l G 6 [zR 0, zI i, zI n, zI w] mem (zPC (zI (if 0 ≤ i ∧ i < mem 1 4 ∧ 0 ≤ n ∧ n ≤ 60 ∧ 0 ≤ w ∧ w ≤ 99 then sSlack (vC mem 1) i n w 30 else -1)) mem) := by
  obtain ⟨hn0, hn5, hr0, hr6, -⟩ := zFI1 hI
  refine CT.of' (own := RX5) (ls0 := [zR 0, zI i, zI n, zI w, zU, zU]) rfl (by decide +kernel) (Nat.le_of_ble_eq_true rfl) rfl ?_
  by_cases hc : 0 ≤ i ∧ i < mem 1 4 ∧ 0 ≤ n ∧ n ≤ 60 ∧ 0 ≤ w ∧ w ≤ 99
  · rw [if_pos hc]
    have loop : ∀ (k : Nat) (x : Int) (m : zM) (v5 : zV), x = k → k ≤ 30 → kC mem m → sSlack (vC mem 1) i n w k = sSlack (vC mem 1) i n w 30 → SW l G (zrm 6) RX5 cX5_slack 6 (some .int) (zZ G (zPC (zI (sSlack (vC mem 1) i n w 30)) mem)) 0 0 (fun _ => True) 34 [zR 0, zI i, zI n, zI w, zI x, v5] [] m := by
      intro k
      induction k with
      | zero =>
        intro x m v5 hx h1 hk he
        refine r_iload dX5_slack_34 rfl ?_
        refine r_iconst dX5_slack_36 (k := ?_)
        refine r_icmp_lt (tgt := 74) dX5_slack_37 (by decide) (fun h37 => ?_) (fun h37 => ?_)
        · refine r_bipush dX5_slack_74 (k := ?_)
          refine r_iret dX5_slack_76 ?_
          exact zPC.i (by rw [← he]; rfl) hk
        · exact absurd (by omega) h37
      | succ k ih =>
        intro x m v5 hx h1 hk he
        obtain ⟨g1, g2, g3⟩ := zBec_t hI hk
        rw [sSlack, show ((k : Int) + 1) = x by omega] at he
        refine r_iload dX5_slack_34 rfl ?_
        refine r_iconst dX5_slack_36 (k := ?_)
        refine r_icmp_lt (tgt := 74) dX5_slack_37 (by decide) (fun h37 => ?_) (fun h37 => ?_)
        · exact absurd h37 (by omega)
        · refine r_aload_n dX5_slack_40 rfl ?_
          refine r_v0 (c_asItIs) kX5_177 rfl dX5_slack_41 ?_
          refine r_astore dX5_slack_44 rfl ?_
          refine r_aload dX5_slack_46 rfl ?_
          refine r_getR (q := 14) fX5_153 rfl rfl dX5_slack_48 ?_
          refine r_iload_n dX5_slack_51 rfl ?_
          refine r_iload dX5_slack_52 rfl ?_
          refine r_iast rfl (by omega) (by omega) dX5_slack_54 ?_
          refine r_aload dX5_slack_55 rfl ?_
          refine r_iload_n dX5_slack_57 rfl ?_
          refine r_vC1 (c_tSpread (g1.len (k := i) (v := x) (by omega) (by omega)) (by rw [vC_len]; exact g2.len _ _) _ (by omega) (by omega)) kX5_191 rfl dX5_slack_58 (fun m58 hk58 => ?_)
          refine r_iload_n dX5_slack_61 rfl ?_
          refine r_icmp_gt (tgt := 68) dX5_slack_62 (by decide) (fun h62 => ?_) (fun h62 => ?_)
          · refine r_iinc dX5_slack_68 rfl rfl ?_
            try rw [zw_id (by omega) (by omega)]
            refine r_goto (tgt := 34) dX5_slack_71 (by decide) ?_
            exact ih _ _ _ (by omega) (by omega) ((g3.z (by omega)).tr hk58) (by rw [if_neg (by omega)] at he; exact he)
          · refine r_iload dX5_slack_65 rfl ?_
            refine r_iret dX5_slack_67 ?_
            exact zPC.i (by rw [← he, if_pos (by omega)]) ((g3.z (by omega)).tr hk58)
    refine r_aload_n dX5_slack_0 rfl ?_
    refine r_iload_n dX5_slack_1 rfl ?_
    refine r_v1 (c_X5_isRope _) kX5_144 rfl dX5_slack_2 ?_
    refine r_ifd_eq (tgt := 28) dX5_slack_5 (by decide) (fun h5 => ?_) (fun h5 => ?_)
    · exact absurd hc (by omega)
    · refine r_iload_n dX5_slack_8 rfl ?_
      refine r_iconst dX5_slack_9 (k := ?_)
      refine r_bipush dX5_slack_10 (k := ?_)
      refine r_s3 (c_isWithin _ _ _) kX5_156 dX5_slack_12 ?_
      refine r_ifd_eq (tgt := 28) dX5_slack_15 (by decide) (fun h15 => ?_) (fun h15 => ?_)
      · exact absurd hc (by omega)
      · refine r_iload_n dX5_slack_18 rfl ?_
        refine r_iconst dX5_slack_19 (k := ?_)
        refine r_bipush dX5_slack_20 (k := ?_)
        refine r_s3 (c_isWithin _ _ _) kX5_156 dX5_slack_22 ?_
        refine r_ifd_ne (tgt := 30) dX5_slack_25 (by decide) (fun h25 => ?_) (fun h25 => ?_)
        · refine r_bipush dX5_slack_30 (k := ?_)
          refine r_istore dX5_slack_32 rfl ?_
          exact loop 30 30 _ _ rfl (by omega) kC.rf rfl
        · exact absurd hc (by omega)
  · rw [if_neg hc]
    refine r_aload_n dX5_slack_0 rfl ?_
    refine r_iload_n dX5_slack_1 rfl ?_
    refine r_v1 (c_X5_isRope _) kX5_144 rfl dX5_slack_2 ?_
    refine r_ifd_eq (tgt := 28) dX5_slack_5 (by decide) (fun h5 => ?_) (fun h5 => ?_)
    · refine r_iconst dX5_slack_28 (k := ?_)
      refine r_iret dX5_slack_29 ?_
      exact zPC.i rfl kC.rf
    · refine r_iload_n dX5_slack_8 rfl ?_
      refine r_iconst dX5_slack_9 (k := ?_)
      refine r_bipush dX5_slack_10 (k := ?_)
      refine r_s3 (c_isWithin _ _ _) kX5_156 dX5_slack_12 ?_
      refine r_ifd_eq (tgt := 28) dX5_slack_15 (by decide) (fun h15 => ?_) (fun h15 => ?_)
      · refine r_iconst dX5_slack_28 (k := ?_)
        refine r_iret dX5_slack_29 ?_
        exact zPC.i rfl kC.rf
      · refine r_iload_n dX5_slack_18 rfl ?_
        refine r_iconst dX5_slack_19 (k := ?_)
        refine r_bipush dX5_slack_20 (k := ?_)
        refine r_s3 (c_isWithin _ _ _) kX5_156 dX5_slack_22 ?_
        refine r_ifd_ne (tgt := 30) dX5_slack_25 (by decide) (fun h25 => ?_) (fun h25 => ?_)
        · exact absurd (by omega) hc
        · refine r_iconst dX5_slack_28 (k := ?_)
          refine r_iret dX5_slack_29 ?_
          exact zPC.i rfl kC.rf
set_option maxRecDepth 100000 in
theorem c_X5_fray (hI : zFI mem 1) (w : Int) : KX5_fray l G 6 [zR 0, zI w] mem (zPC (zI (if 0 ≤ w ∧ w ≤ 1 then sAdv (sFray (vC mem 1)).1 (sFray (vC mem 1)).2 w else -1)) mem) := by
  obtain ⟨hn0, hn5, hr0, hr6, -⟩ := zFI1 hI
  refine CT.of' (own := RX5) (ls0 := [zR 0, zI w, zU, zU, zU, zU, zU]) rfl (by decide +kernel) (Nat.le_of_ble_eq_true rfl) rfl ?_
  obtain ⟨f1, f2, f3⟩ := zBec_t hI kC.rf
  by_cases hc : 0 ≤ w ∧ w ≤ 1
  · rw [if_pos hc]
    have loop : ∀ (k : Nat) (x a c : Int) (m : zM) (v5 v6 : zV), 0 ≤ x → x + k = mem 1 4 → kC mem m → zfor (fun k a => sJ k (vBumps (vDrop (vC mem 1) k) 30) a) x k (c, a) = sFray (vC mem 1) → SW l G (zrm 6) RX5 cX5_fray 7 (some .int) (zZ G (zPC (zI (sAdv (sFray (vC mem 1)).1 (sFray (vC mem 1)).2 w)) mem)) 0 0 (fun _ => True) 27 [zR 0, zI w, zI a, zI c, zI x, v5, v6] [] m := by
      intro k
      induction k with
      | zero =>
        intro x a c m v5 v6 h0 h1 hk he
        have e1 : m 1 = mem 1 := hk.at (by omega) (by omega) (by omega)
        refine r_iload dX5_fray_27 rfl ?_
        refine r_aload_n dX5_fray_29 rfl ?_
        refine r_getR (q := 1) fX5_10 rfl rfl dX5_fray_30 ?_
        try simp only [e1]
        refine r_gI (q := 4) rfl fX5_95 rfl (by decide) dX5_fray_33 ?_
        try simp only [e1]
        refine r_icmp_ge (tgt := 79) dX5_fray_36 (by decide) (fun h36 => ?_) (fun h36 => ?_)
        · refine r_iload_n dX5_fray_79 rfl ?_
          refine r_iload_n dX5_fray_80 rfl ?_
          refine r_iload_n dX5_fray_81 rfl ?_
          refine r_s3 (c_advice _ _ _) kX5_194 dX5_fray_82 ?_
          try simp only [e1]
          refine r_iret dX5_fray_85 ?_
          exact zPC.i (by rw [← he]; rfl) hk
        · exact absurd (by omega) h36
      | succ k ih =>
        intro x a c m v5 v6 h0 h1 hk he
        have e1 : m 1 = mem 1 := hk.at (by omega) (by omega) (by omega)
        obtain ⟨g1, g2, g3⟩ := zBec_t hI hk
        have e8 : zBec m 8 1 8 4 = mem 1 4 := by rw [zBec_b, if_pos (by omega), e1]
        have g4 : kC mem (zs (zDrM (zBec m 8 1) 8 x (zBec m 8 1 8 4 - 1)) 8 4 (zBec m 8 1 8 4 - 1)) := fun o a1 a2 a3 => by rw [zs_n (by omega), zDrM_o (by omega) (by omega) (by omega)]; exact g3 o a1 a2 a3
        rw [zfor, sJ] at he
        refine r_iload dX5_fray_27 rfl ?_
        refine r_aload_n dX5_fray_29 rfl ?_
        refine r_getR (q := 1) fX5_10 rfl rfl dX5_fray_30 ?_
        try simp only [e1]
        refine r_gI (q := 4) rfl fX5_95 rfl (by decide) dX5_fray_33 ?_
        try simp only [e1]
        refine r_icmp_ge (tgt := 79) dX5_fray_36 (by decide) (fun h36 => ?_) (fun h36 => ?_)
        · exact absurd h36 (by omega)
        · refine r_aload_n dX5_fray_39 rfl ?_
          refine r_v0 (c_asItIs) kX5_177 rfl dX5_fray_40 ?_
          try simp only [e1]
          refine r_astore dX5_fray_43 rfl ?_
          refine r_aload dX5_fray_45 rfl ?_
          refine r_iload dX5_fray_47 rfl ?_
          refine r_w1 (c_X0_dropRope hF8 _ h0 (by rw [e8]; omega) (by rw [e8]; omega)) kX5_201 rfl dX5_fray_49 ?_
          try simp only [e1]
          refine r_aload dX5_fray_52 rfl ?_
          refine r_bipush dX5_fray_54 (k := ?_)
          refine r_vC1 (c_tBumps (g1.drop h0 (by rw [e8]; omega)) (by rw [vC_drop]; exact g2.drop h0 (show x < zBec m 8 1 8 4 by rw [e8]; omega)) _ (by decide) (by decide)) kX5_198 rfl dX5_fray_56 (fun m56 hk56 => ?_)
          try simp only [e1]
          try rw [show Int.toNat 30 = 30 from rfl]
          refine r_istore dX5_fray_59 rfl ?_
          refine r_iload dX5_fray_61 rfl ?_
          refine r_iload_n dX5_fray_63 rfl ?_
          refine r_icmp_ge (tgt := 73) dX5_fray_64 (by decide) (fun h64 => ?_) (fun h64 => ?_)
          · refine r_iinc dX5_fray_73 rfl rfl ?_
            try rw [zw_id (by omega) (by omega)]
            refine r_goto (tgt := 27) dX5_fray_76 (by decide) ?_
            exact ih _ _ _ _ _ _ (by omega) (by omega) (g4.tr hk56) (by split at he <;> first | exact he | (exfalso; omega))
          · refine r_iload dX5_fray_67 rfl ?_
            refine r_istore_n dX5_fray_69 rfl ?_
            refine r_iload dX5_fray_70 rfl ?_
            refine r_istore_n dX5_fray_72 rfl ?_
            refine r_iinc dX5_fray_73 rfl rfl ?_
            try rw [zw_id (by omega) (by omega)]
            refine r_goto (tgt := 27) dX5_fray_76 (by decide) ?_
            exact ih _ _ _ _ _ _ (by omega) (by omega) (g4.tr hk56) (by split at he <;> first | exact he | (exfalso; omega))
    refine r_iload_n dX5_fray_0 rfl ?_
    refine r_iconst dX5_fray_1 (k := ?_)
    refine r_iconst dX5_fray_2 (k := ?_)
    refine r_s3 (c_isWithin _ _ _) kX5_156 dX5_fray_3 ?_
    refine r_ifd_ne (tgt := 11) dX5_fray_6 (by decide) (fun h6 => ?_) (fun h6 => ?_)
    · refine r_aload_n dX5_fray_11 rfl ?_
      refine r_v0 (c_asItIs) kX5_177 rfl dX5_fray_12 ?_
      refine r_bipush dX5_fray_15 (k := ?_)
      refine r_vC1 (c_tBumps f1 f2 _ (by decide) (by decide)) kX5_198 rfl dX5_fray_17 (fun m17 hk17 => ?_)
      try rw [show Int.toNat 30 = 30 from rfl]
      refine r_istore_n dX5_fray_20 rfl ?_
      refine r_bipush dX5_fray_21 (k := ?_)
      refine r_istore_n dX5_fray_23 rfl ?_
      refine r_iconst dX5_fray_24 (k := ?_)
      refine r_istore dX5_fray_25 rfl ?_
      exact loop (mem 1 4).toNat 0 _ (-4) _ _ _ (by omega) (by omega) (f3.tr hk17) rfl
    · exact absurd hc (by omega)
  · rw [if_neg hc]
    refine r_iload_n dX5_fray_0 rfl ?_
    refine r_iconst dX5_fray_1 (k := ?_)
    refine r_iconst dX5_fray_2 (k := ?_)
    refine r_s3 (c_isWithin _ _ _) kX5_156 dX5_fray_3 ?_
    refine r_ifd_ne (tgt := 11) dX5_fray_6 (by decide) (fun h6 => ?_) (fun h6 => ?_)
    · exact absurd (by omega) hc
    · refine r_iconst dX5_fray_9 (k := ?_)
      refine r_iret dX5_fray_10 ?_
      exact zPC.i rfl kC.rf
set_option maxRecDepth 100000 in
set_option maxHeartbeats 1000000 in
theorem c_X5_match (hI : zFI mem 1) (len w : Int) : KX5_match l G 6 [zR 0, zI len, zI w] mem (zPC (zI (if 1 ≤ len ∧ len ≤ 30 ∧ 0 ≤ w ∧ w ≤ 1 then (if mem 1 4 = 6 then -3 else sAdv (sMatch (vC mem 1) len).1 (sMatch (vC mem 1) len).2 w) else -1)) mem) := by
  obtain ⟨hn0, hn5, hr0, hr6, -⟩ := zFI1 hI
  refine CT.of' (own := RX5) (ls0 := [zR 0, zI len, zI w, zU, zU, zU, zU, zU, zU]) rfl (by decide +kernel) (Nat.le_of_ble_eq_true rfl) rfl ?_
  obtain ⟨f1, f2, f3⟩ := zBec_t hI kC.rf
  by_cases hc : 1 ≤ len ∧ len ≤ 30 ∧ 0 ≤ w ∧ w ≤ 1
  · rw [if_pos hc]
    by_cases hfull : mem 1 4 = 6
    · rw [if_pos hfull]
      refine r_iload_n dX5_match_0 rfl ?_
      refine r_iconst dX5_match_1 (k := ?_)
      refine r_bipush dX5_match_2 (k := ?_)
      refine r_s3 (c_isWithin _ _ _) kX5_156 dX5_match_4 ?_
      refine r_ifd_eq (tgt := 19) dX5_match_7 (by decide) (fun h7 => ?_) (fun h7 => ?_)
      · exact absurd hc (by omega)
      · refine r_iload_n dX5_match_10 rfl ?_
        refine r_iconst dX5_match_11 (k := ?_)
        refine r_iconst dX5_match_12 (k := ?_)
        refine r_s3 (c_isWithin _ _ _) kX5_156 dX5_match_13 ?_
        refine r_ifd_ne (tgt := 21) dX5_match_16 (by decide) (fun h16 => ?_) (fun h16 => ?_)
        · refine r_aload_n dX5_match_21 rfl ?_
          refine r_getR (q := 1) fX5_10 rfl rfl dX5_match_22 ?_
          refine r_gI (q := 4) rfl fX5_95 rfl (by decide) dX5_match_25 ?_
          refine r_bipush dX5_match_28 (k := ?_)
          refine r_icmp_lt (tgt := 36) dX5_match_30 (by decide) (fun h30 => ?_) (fun h30 => ?_)
          · exact absurd h30 (by omega)
          · refine r_bipush dX5_match_33 (k := ?_)
            refine r_iret dX5_match_35 ?_
            exact zPC.i rfl kC.rf
        · exact absurd hc (by omega)
    · rw [if_neg hfull]
      have loop : ∀ (k : Nat) (x a c : Int) (m : zM) (v6 v7 v8 : zV), 0 ≤ x → x + k = mem 1 0 → kC mem m → zfor (fun i a => zfor (fun j a => sJ (10 * i + j) (vSpread (vRope (vC mem 1) i j len) 30) a) (i + 1) (mem 1 0 - (i + 1)).toNat a) x k (c, a) = sMatch (vC mem 1) len → SW l G (zrm 6) RX5 cX5_match 9 (some .int) (zZ G (zPC (zI (sAdv (sMatch (vC mem 1) len).1 (sMatch (vC mem 1) len).2 w)) mem)) 0 0 (fun _ => True) 53 [zR 0, zI len, zI w, zI a, zI c, zI x, v6, v7, v8] [] m := by
        intro k
        induction k with
        | zero =>
          intro x a c m v6 v7 v8 h0 h1 hk he
          have e1 : m 1 = mem 1 := hk.at (by omega) (by omega) (by omega)
          refine r_iload dX5_match_53 rfl ?_
          refine r_aload_n dX5_match_55 rfl ?_
          refine r_getR (q := 1) fX5_10 rfl rfl dX5_match_56 ?_
          try simp only [e1]
          refine r_gI (q := 0) rfl fX5_92 rfl (by decide) dX5_match_59 ?_
          try simp only [e1]
          refine r_icmp_ge (tgt := 139) dX5_match_62 (by decide) (fun h62 => ?_) (fun h62 => ?_)
          · refine r_iload dX5_match_139 rfl ?_
            refine r_iload_n dX5_match_141 rfl ?_
            refine r_iload_n dX5_match_142 rfl ?_
            refine r_s3 (c_advice _ _ _) kX5_194 dX5_match_143 ?_
            try simp only [e1]
            refine r_iret dX5_match_146 ?_
            exact zPC.i (by rw [← he]; rfl) hk
          · exact absurd (by omega) h62
        | succ k ih =>
          intro x a c m v6 v7 v8 h0 h1 hk he
          have e1 : m 1 = mem 1 := hk.at (by omega) (by omega) (by omega)
          rw [zfor] at he
          have inner : ∀ (kk : Nat) (y a c : Int) (m : zM) (v7 v8 : zV), x + 1 ≤ y → y + kk = mem 1 0 → kC mem m → zfor (fun i a => zfor (fun j a => sJ (10 * i + j) (vSpread (vRope (vC mem 1) i j len) 30) a) (i + 1) (mem 1 0 - (i + 1)).toNat a) (x + 1) k (zfor (fun j a => sJ (10 * x + j) (vSpread (vRope (vC mem 1) x j len) 30) a) y kk (c, a)) = sMatch (vC mem 1) len → SW l G (zrm 6) RX5 cX5_match 9 (some .int) (zZ G (zPC (zI (sAdv (sMatch (vC mem 1) len).1 (sMatch (vC mem 1) len).2 w)) mem)) 0 0 (fun _ => True) 71 [zR 0, zI len, zI w, zI a, zI c, zI x, zI y, v7, v8] [] m := by
            intro kk
            induction kk with
            | zero =>
              intro y a c m v7 v8 g0 g1 hk he
              have e1 : m 1 = mem 1 := hk.at (by omega) (by omega) (by omega)
              refine r_iload dX5_match_71 rfl ?_
              refine r_aload_n dX5_match_73 rfl ?_
              refine r_getR (q := 1) fX5_10 rfl rfl dX5_match_74 ?_
              try simp only [e1]
              refine r_gI (q := 0) rfl fX5_92 rfl (by decide) dX5_match_77 ?_
              try simp only [e1]
              refine r_icmp_ge (tgt := 133) dX5_match_80 (by decide) (fun h80 => ?_) (fun h80 => ?_)
              · refine r_iinc dX5_match_133 rfl rfl ?_
                try rw [zw_id (by omega) (by omega)]
                refine r_goto (tgt := 53) dX5_match_136 (by decide) ?_
                exact ih _ _ _ _ _ _ _ (by omega) (by omega) hk he
              · exact absurd (by omega) h80
            | succ kk ih2 =>
              intro y a c m v7 v8 q0 q1 hk he
              have e1 : m 1 = mem 1 := hk.at (by omega) (by omega) (by omega)
              obtain ⟨g1, g2, g3⟩ := zBec_t hI hk
              have e8 : zBec m 8 1 8 4 = mem 1 4 := by rw [zBec_b, if_pos (by omega), e1]
              have e80 : zBec m 8 1 8 0 = mem 1 0 := by rw [zBec_b, if_pos (by omega), e1]
              have g4 : kC mem (zs (zs (zs (zs (zBec m 8 1) (8 + 4) (zBec m 8 1 8 4) x) (8 + 5) (zBec m 8 1 8 4) y) (8 + 6) (zBec m 8 1 8 4) len) 8 4 (zBec m 8 1 8 4 + 1)) := (((g3.z (by omega)).z (by omega)).z (by omega)).z (by omega)
              rw [zfor, sJ] at he
              refine r_iload dX5_match_71 rfl ?_
              refine r_aload_n dX5_match_73 rfl ?_
              refine r_getR (q := 1) fX5_10 rfl rfl dX5_match_74 ?_
              try simp only [e1]
              refine r_gI (q := 0) rfl fX5_92 rfl (by decide) dX5_match_77 ?_
              try simp only [e1]
              refine r_icmp_ge (tgt := 133) dX5_match_80 (by decide) (fun h80 => ?_) (fun h80 => ?_)
              · exact absurd h80 (by omega)
              · refine r_aload_n dX5_match_83 rfl ?_
                refine r_v0 (c_asItIs) kX5_177 rfl dX5_match_84 ?_
                try simp only [e1]
                refine r_astore dX5_match_87 rfl ?_
                refine r_aload dX5_match_89 rfl ?_
                refine r_iload dX5_match_91 rfl ?_
                refine r_iload dX5_match_93 rfl ?_
                refine r_iload_n dX5_match_95 rfl ?_
                refine r_w3 (c_X0_addRope hF8 _ _ _ (by rw [e8]; omega) (by rw [e8]; omega)) kX5_170 rfl dX5_match_96 ?_
                try simp only [e1]
                refine r_aload dX5_match_99 rfl ?_
                refine r_bipush dX5_match_101 (k := ?_)
                refine r_vC1 (c_tSpread (g1.rope (by rw [e8]; omega) (by omega) (by rw [e80]; omega) (by omega) (by rw [e80]; omega) (by omega) (by omega)) (by rw [vC_rope]; exact g2.rope _ (by omega) (show x < zBec m 8 1 8 0 by rw [e80]; omega) (by omega) (show y < zBec m 8 1 8 0 by rw [e80]; omega)) _ (by decide) (by decide)) kX5_191 rfl dX5_match_103 (fun m103 hk103 => ?_)
                try simp only [e1]
                try rw [show Int.toNat 30 = 30 from rfl]
                refine r_istore dX5_match_106 rfl ?_
                refine r_iload dX5_match_108 rfl ?_
                refine r_iload_n dX5_match_110 rfl ?_
                refine r_icmp_ge (tgt := 127) dX5_match_111 (by decide) (fun h111 => ?_) (fun h111 => ?_)
                · refine r_iinc dX5_match_127 rfl rfl ?_
                  try rw [zw_id (by omega) (by omega)]
                  refine r_goto (tgt := 71) dX5_match_130 (by decide) ?_
                  exact ih2 _ _ _ _ _ _ (by omega) (by omega) (g4.tr hk103) (by split at he <;> first | exact he | (exfalso; omega))
                · refine r_iload dX5_match_114 rfl ?_
                  refine r_istore_n dX5_match_116 rfl ?_
                  refine r_bipush dX5_match_117 (k := ?_)
                  refine r_iload dX5_match_119 rfl ?_
                  refine r_imul dX5_match_121 ?_
                  try rw [zw_id (by omega) (by omega)]
                  refine r_iload dX5_match_122 rfl ?_
                  refine r_iadd dX5_match_124 ?_
                  try rw [zw_id (by omega) (by omega)]
                  refine r_istore dX5_match_125 rfl ?_
                  refine r_iinc dX5_match_127 rfl rfl ?_
                  try rw [zw_id (by omega) (by omega)]
                  refine r_goto (tgt := 71) dX5_match_130 (by decide) ?_
                  exact ih2 _ _ _ _ _ _ (by omega) (by omega) (g4.tr hk103) (by split at he <;> first | exact he | (exfalso; omega))
          refine r_iload dX5_match_53 rfl ?_
          refine r_aload_n dX5_match_55 rfl ?_
          refine r_getR (q := 1) fX5_10 rfl rfl dX5_match_56 ?_
          try simp only [e1]
          refine r_gI (q := 0) rfl fX5_92 rfl (by decide) dX5_match_59 ?_
          try simp only [e1]
          refine r_icmp_ge (tgt := 139) dX5_match_62 (by decide) (fun h62 => ?_) (fun h62 => ?_)
          · exact absurd h62 (by omega)
          · refine r_iload dX5_match_65 rfl ?_
            refine r_iconst dX5_match_67 (k := ?_)
            refine r_iadd dX5_match_68 ?_
            try rw [zw_id (by omega) (by omega)]
            refine r_istore dX5_match_69 rfl ?_
            exact inner (mem 1 0 - (x + 1)).toNat _ _ _ _ _ _ (by omega) (by omega) hk he
      refine r_iload_n dX5_match_0 rfl ?_
      refine r_iconst dX5_match_1 (k := ?_)
      refine r_bipush dX5_match_2 (k := ?_)
      refine r_s3 (c_isWithin _ _ _) kX5_156 dX5_match_4 ?_
      refine r_ifd_eq (tgt := 19) dX5_match_7 (by decide) (fun h7 => ?_) (fun h7 => ?_)
      · exact absurd hc (by omega)
      · refine r_iload_n dX5_match_10 rfl ?_
        refine r_iconst dX5_match_11 (k := ?_)
        refine r_iconst dX5_match_12 (k := ?_)
        refine r_s3 (c_isWithin _ _ _) kX5_156 dX5_match_13 ?_
        refine r_ifd_ne (tgt := 21) dX5_match_16 (by decide) (fun h16 => ?_) (fun h16 => ?_)
        · refine r_aload_n dX5_match_21 rfl ?_
          refine r_getR (q := 1) fX5_10 rfl rfl dX5_match_22 ?_
          refine r_gI (q := 4) rfl fX5_95 rfl (by decide) dX5_match_25 ?_
          refine r_bipush dX5_match_28 (k := ?_)
          refine r_icmp_lt (tgt := 36) dX5_match_30 (by decide) (fun h30 => ?_) (fun h30 => ?_)
          · refine r_aload_n dX5_match_36 rfl ?_
            refine r_v0 (c_asItIs) kX5_177 rfl dX5_match_37 ?_
            refine r_bipush dX5_match_40 (k := ?_)
            refine r_vC1 (c_tSpread f1 f2 _ (by decide) (by decide)) kX5_191 rfl dX5_match_42 (fun m42 hk42 => ?_)
            try rw [show Int.toNat 30 = 30 from rfl]
            refine r_istore_n dX5_match_45 rfl ?_
            refine r_bipush dX5_match_46 (k := ?_)
            refine r_istore dX5_match_48 rfl ?_
            refine r_iconst dX5_match_50 (k := ?_)
            refine r_istore dX5_match_51 rfl ?_
            exact loop (mem 1 0).toNat 0 _ (-4) _ _ _ _ (by omega) (by omega) (f3.tr hk42) rfl
          · exact absurd h30 (by omega)
        · exact absurd hc (by omega)
  · rw [if_neg hc]
    refine r_iload_n dX5_match_0 rfl ?_
    refine r_iconst dX5_match_1 (k := ?_)
    refine r_bipush dX5_match_2 (k := ?_)
    refine r_s3 (c_isWithin _ _ _) kX5_156 dX5_match_4 ?_
    refine r_ifd_eq (tgt := 19) dX5_match_7 (by decide) (fun h7 => ?_) (fun h7 => ?_)
    · refine r_iconst dX5_match_19 (k := ?_)
      refine r_iret dX5_match_20 ?_
      exact zPC.i rfl kC.rf
    · refine r_iload_n dX5_match_10 rfl ?_
      refine r_iconst dX5_match_11 (k := ?_)
      refine r_iconst dX5_match_12 (k := ?_)
      refine r_s3 (c_isWithin _ _ _) kX5_156 dX5_match_13 ?_
      refine r_ifd_ne (tgt := 21) dX5_match_16 (by decide) (fun h16 => ?_) (fun h16 => ?_)
      · exact absurd (by omega) hc
      · refine r_iconst dX5_match_19 (k := ?_)
        refine r_iret dX5_match_20 ?_
        exact zPC.i rfl kC.rf
set_option maxRecDepth 100000 in
set_option maxHeartbeats 1000000 in
theorem c_X5_soothe (hI : zFI mem 1) (w : Int) : KX5_soothe l G 6 [zR 0, zI w] mem (zPC (zI (if 0 ≤ w ∧ w ≤ 1 then sAdv (sSootheC (vC mem 1)).1 (sSootheC (vC mem 1)).2 w else -1)) mem) := by
  obtain ⟨hn0, hn5, hr0, hr6, hp, hg, hr⟩ := zFI1 hI
  refine CT.of' (own := RX5) (ls0 := [zR 0, zI w, zU, zU, zU, zU, zU, zU]) rfl (by decide +kernel) (Nat.le_of_ble_eq_true rfl) rfl ?_
  obtain ⟨f1, f2, f3⟩ := zBec_t hI kC.rf
  by_cases hc : 0 ≤ w ∧ w ≤ 1
  · rw [if_pos hc]
    have loop : ∀ (k : Nat) (x a c : Int) (m : zM) (v5 v6 v7 : zV), 0 ≤ x → x + k = mem 1 0 → kC mem m → zfor (fun i a => zfor (fun j a => if i = j ∨ mem 4 (5 * i + j) = 0 then a else sJ (10 * i + j) (vSpread (vGrudge (vC mem 1) i j 0) 30) a) 0 (mem 1 0).toNat a) x k (c, a) = sSootheC (vC mem 1) → SW l G (zrm 6) RX5 cX5_soothe 8 (some .int) (zZ G (zPC (zI (sAdv (sSootheC (vC mem 1)).1 (sSootheC (vC mem 1)).2 w)) mem)) 0 0 (fun _ => True) 27 [zR 0, zI w, zI a, zI c, zI x, v5, v6, v7] [] m := by
      intro k
      induction k with
      | zero =>
        intro x a c m v5 v6 v7 h0 h1 hk he
        have e1 : m 1 = mem 1 := hk.at (by omega) (by omega) (by omega)
        refine r_iload dX5_soothe_27 rfl ?_
        refine r_aload_n dX5_soothe_29 rfl ?_
        refine r_getR (q := 1) fX5_10 rfl rfl dX5_soothe_30 ?_
        try simp only [e1]
        refine r_gI (q := 0) rfl fX5_92 rfl (by decide) dX5_soothe_33 ?_
        try simp only [e1]
        refine r_icmp_ge (tgt := 133) dX5_soothe_36 (by decide) (fun h36 => ?_) (fun h36 => ?_)
        · refine r_iload_n dX5_soothe_133 rfl ?_
          refine r_iload_n dX5_soothe_134 rfl ?_
          refine r_iload_n dX5_soothe_135 rfl ?_
          refine r_s3 (c_advice _ _ _) kX5_194 dX5_soothe_136 ?_
          try simp only [e1]
          refine r_iret dX5_soothe_139 ?_
          exact zPC.i (by rw [← he]; rfl) hk
        · exact absurd (by omega) h36
      | succ k ih =>
        intro x a c m v5 v6 v7 h0 h1 hk he
        have e1 : m 1 = mem 1 := hk.at (by omega) (by omega) (by omega)
        rw [zfor] at he
        have inner : ∀ (kk : Nat) (y a c : Int) (m : zM) (v6 v7 : zV), 0 ≤ y → y + kk = mem 1 0 → kC mem m → zfor (fun i a => zfor (fun j a => if i = j ∨ mem 4 (5 * i + j) = 0 then a else sJ (10 * i + j) (vSpread (vGrudge (vC mem 1) i j 0) 30) a) 0 (mem 1 0).toNat a) (x + 1) k (zfor (fun j a => if x = j ∨ mem 4 (5 * x + j) = 0 then a else sJ (10 * x + j) (vSpread (vGrudge (vC mem 1) x j 0) 30) a) y kk (c, a)) = sSootheC (vC mem 1) → SW l G (zrm 6) RX5 cX5_soothe 8 (some .int) (zZ G (zPC (zI (sAdv (sSootheC (vC mem 1)).1 (sSootheC (vC mem 1)).2 w)) mem)) 0 0 (fun _ => True) 42 [zR 0, zI w, zI a, zI c, zI x, zI y, v6, v7] [] m := by
          intro kk
          induction kk with
          | zero =>
            intro y a c m v6 v7 g0 g1 hk he
            have e1 : m 1 = mem 1 := hk.at (by omega) (by omega) (by omega)
            refine r_iload dX5_soothe_42 rfl ?_
            refine r_aload_n dX5_soothe_44 rfl ?_
            refine r_getR (q := 1) fX5_10 rfl rfl dX5_soothe_45 ?_
            try simp only [e1]
            refine r_gI (q := 0) rfl fX5_92 rfl (by decide) dX5_soothe_48 ?_
            try simp only [e1]
            refine r_icmp_ge (tgt := 127) dX5_soothe_51 (by decide) (fun h51 => ?_) (fun h51 => ?_)
            · refine r_iinc dX5_soothe_127 rfl rfl ?_
              try rw [zw_id (by omega) (by omega)]
              refine r_goto (tgt := 27) dX5_soothe_130 (by decide) ?_
              exact ih _ _ _ _ _ _ _ (by omega) (by omega) hk he
            · exact absurd (by omega) h51
          | succ kk ih2 =>
            intro y a c m v6 v7 q0 q1 hk he
            have e1 : m 1 = mem 1 := hk.at (by omega) (by omega) (by omega)
            have e4 : m (1 + 3) = mem 4 := hk.at (by omega) (by omega) (by omega)
            obtain ⟨g1, g2, g3⟩ := zBec_t hI hk
            have g4 : kC mem (zs (zBec m 8 1) (8 + 3) (5 * x + y) 0) := g3.z (by omega)
            rw [zfor] at he
            refine r_iload dX5_soothe_42 rfl ?_
            refine r_aload_n dX5_soothe_44 rfl ?_
            refine r_getR (q := 1) fX5_10 rfl rfl dX5_soothe_45 ?_
            try simp only [e1]
            refine r_gI (q := 0) rfl fX5_92 rfl (by decide) dX5_soothe_48 ?_
            try simp only [e1]
            refine r_icmp_ge (tgt := 127) dX5_soothe_51 (by decide) (fun h51 => ?_) (fun h51 => ?_)
            · exact absurd h51 (by omega)
            · refine r_iload dX5_soothe_54 rfl ?_
              refine r_iload dX5_soothe_56 rfl ?_
              refine r_icmp_eq (tgt := 121) dX5_soothe_58 (by decide) (fun h58 => ?_) (fun h58 => ?_)
              · refine r_iinc dX5_soothe_121 rfl rfl ?_
                try rw [zw_id (by omega) (by omega)]
                refine r_goto (tgt := 42) dX5_soothe_124 (by decide) ?_
                first | exact ih2 _ _ _ _ _ _ (by omega) (by omega) hk (by rw [if_pos (by first | exact Or.inl h58 | exact Or.inr h72)] at he; exact he) | exact ih2 _ _ _ _ _ _ (by omega) (by omega) (g4.tr hk98) (by rw [if_neg (by rintro (q | q); exact h58 q; exact h72 q), sJ] at he; split at he <;> first | exact he | (exfalso; omega))
              · refine r_aload_n dX5_soothe_61 rfl ?_
                refine r_getR (q := 1) fX5_10 rfl rfl dX5_soothe_62 ?_
                try simp only [e1]
                refine r_iload dX5_soothe_65 rfl ?_
                refine r_iload dX5_soothe_67 rfl ?_
                refine r_v2 (c_X0_grudge hF1 _ _ (by omega) (by omega) (by omega) (by omega)) kX5_140 rfl dX5_soothe_69 ?_
                try simp only [e1]
                rw [e4]
                refine r_if_ne (tgt := 78) dX5_soothe_72 (by decide) (fun h72 => ?_) (fun h72 => ?_)
                · refine r_aload_n dX5_soothe_78 rfl ?_
                  refine r_v0 (c_asItIs) kX5_177 rfl dX5_soothe_79 ?_
                  try simp only [e1]
                  refine r_astore dX5_soothe_82 rfl ?_
                  refine r_aload dX5_soothe_84 rfl ?_
                  refine r_iload dX5_soothe_86 rfl ?_
                  refine r_iload dX5_soothe_88 rfl ?_
                  refine r_iconst dX5_soothe_90 (k := ?_)
                  refine r_w3 (c_X0_setGrudge hF8 _ _ _ (by omega) (by omega) (by omega) (by omega)) kX5_166 rfl dX5_soothe_91 ?_
                  try simp only [e1]
                  refine r_aload dX5_soothe_94 rfl ?_
                  refine r_bipush dX5_soothe_96 (k := ?_)
                  refine r_vC1 (c_tSpread (g1.grudge (k := 5 * x + y) (v := 0) (by decide) (by decide)) (by rw [vC_grudge]; exact g2.grudge _ _ _) _ (by decide) (by decide)) kX5_191 rfl dX5_soothe_98 (fun m98 hk98 => ?_)
                  try simp only [e1]
                  try rw [show Int.toNat 30 = 30 from rfl]
                  refine r_istore dX5_soothe_101 rfl ?_
                  refine r_iload dX5_soothe_103 rfl ?_
                  refine r_iload_n dX5_soothe_105 rfl ?_
                  refine r_icmp_ge (tgt := 121) dX5_soothe_106 (by decide) (fun h106 => ?_) (fun h106 => ?_)
                  · refine r_iinc dX5_soothe_121 rfl rfl ?_
                    try rw [zw_id (by omega) (by omega)]
                    refine r_goto (tgt := 42) dX5_soothe_124 (by decide) ?_
                    first | exact ih2 _ _ _ _ _ _ (by omega) (by omega) hk (by rw [if_pos (by first | exact Or.inl h58 | exact Or.inr h72)] at he; exact he) | exact ih2 _ _ _ _ _ _ (by omega) (by omega) (g4.tr hk98) (by rw [if_neg (by rintro (q | q); exact h58 q; exact h72 q), sJ] at he; split at he <;> first | exact he | (exfalso; omega))
                  · refine r_iload dX5_soothe_109 rfl ?_
                    refine r_istore_n dX5_soothe_111 rfl ?_
                    refine r_bipush dX5_soothe_112 (k := ?_)
                    refine r_iload dX5_soothe_114 rfl ?_
                    refine r_imul dX5_soothe_116 ?_
                    try rw [zw_id (by omega) (by omega)]
                    refine r_iload dX5_soothe_117 rfl ?_
                    refine r_iadd dX5_soothe_119 ?_
                    try rw [zw_id (by omega) (by omega)]
                    refine r_istore_n dX5_soothe_120 rfl ?_
                    refine r_iinc dX5_soothe_121 rfl rfl ?_
                    try rw [zw_id (by omega) (by omega)]
                    refine r_goto (tgt := 42) dX5_soothe_124 (by decide) ?_
                    first | exact ih2 _ _ _ _ _ _ (by omega) (by omega) hk (by rw [if_pos (by first | exact Or.inl h58 | exact Or.inr h72)] at he; exact he) | exact ih2 _ _ _ _ _ _ (by omega) (by omega) (g4.tr hk98) (by rw [if_neg (by rintro (q | q); exact h58 q; exact h72 q), sJ] at he; split at he <;> first | exact he | (exfalso; omega))
                · refine r_goto (tgt := 121) dX5_soothe_75 (by decide) ?_
                  refine r_iinc dX5_soothe_121 rfl rfl ?_
                  try rw [zw_id (by omega) (by omega)]
                  refine r_goto (tgt := 42) dX5_soothe_124 (by decide) ?_
                  first | exact ih2 _ _ _ _ _ _ (by omega) (by omega) hk (by rw [if_pos (by first | exact Or.inl h58 | exact Or.inr h72)] at he; exact he) | exact ih2 _ _ _ _ _ _ (by omega) (by omega) (g4.tr hk98) (by rw [if_neg (by rintro (q | q); exact h58 q; exact h72 q), sJ] at he; split at he <;> first | exact he | (exfalso; omega))
        refine r_iload dX5_soothe_27 rfl ?_
        refine r_aload_n dX5_soothe_29 rfl ?_
        refine r_getR (q := 1) fX5_10 rfl rfl dX5_soothe_30 ?_
        try simp only [e1]
        refine r_gI (q := 0) rfl fX5_92 rfl (by decide) dX5_soothe_33 ?_
        try simp only [e1]
        refine r_icmp_ge (tgt := 133) dX5_soothe_36 (by decide) (fun h36 => ?_) (fun h36 => ?_)
        · exact absurd h36 (by omega)
        · refine r_iconst dX5_soothe_39 (k := ?_)
          refine r_istore dX5_soothe_40 rfl ?_
          exact inner (mem 1 0).toNat _ _ _ _ _ _ (by omega) (by omega) hk he
    refine r_iload_n dX5_soothe_0 rfl ?_
    refine r_iconst dX5_soothe_1 (k := ?_)
    refine r_iconst dX5_soothe_2 (k := ?_)
    refine r_s3 (c_isWithin _ _ _) kX5_156 dX5_soothe_3 ?_
    refine r_ifd_ne (tgt := 11) dX5_soothe_6 (by decide) (fun h6 => ?_) (fun h6 => ?_)
    · refine r_aload_n dX5_soothe_11 rfl ?_
      refine r_v0 (c_asItIs) kX5_177 rfl dX5_soothe_12 ?_
      refine r_bipush dX5_soothe_15 (k := ?_)
      refine r_vC1 (c_tSpread f1 f2 _ (by decide) (by decide)) kX5_191 rfl dX5_soothe_17 (fun m17 hk17 => ?_)
      try rw [show Int.toNat 30 = 30 from rfl]
      refine r_istore_n dX5_soothe_20 rfl ?_
      refine r_bipush dX5_soothe_21 (k := ?_)
      refine r_istore_n dX5_soothe_23 rfl ?_
      refine r_iconst dX5_soothe_24 (k := ?_)
      refine r_istore dX5_soothe_25 rfl ?_
      exact loop (mem 1 0).toNat 0 _ (-4) _ _ _ _ (by omega) (by omega) (f3.tr hk17) rfl
    · exact absurd hc (by omega)
  · rw [if_neg hc]
    refine r_iload_n dX5_soothe_0 rfl ?_
    refine r_iconst dX5_soothe_1 (k := ?_)
    refine r_iconst dX5_soothe_2 (k := ?_)
    refine r_s3 (c_isWithin _ _ _) kX5_156 dX5_soothe_3 ?_
    refine r_ifd_ne (tgt := 11) dX5_soothe_6 (by decide) (fun h6 => ?_) (fun h6 => ?_)
    · exact absurd (by omega) hc
    · refine r_iconst dX5_soothe_9 (k := ?_)
      refine r_iret dX5_soothe_10 ?_
      exact zPC.i rfl kC.rf
end
