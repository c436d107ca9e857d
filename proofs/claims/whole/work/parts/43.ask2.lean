/-! ===== ask on both sides ===== -/
section
variable {l : Launch} {G : zG} {mem : zM}
theorem c_layCourses' {m : zM} (hk : kC mem m) (hI : zFI mem 1) (i : Int) (f : Int → Bool) (hi0 : 0 ≤ i) (hi1 : i < mem 1 0) : KX5_layCourses l G 5 [zR 0, zI i, zI (sBits f 4)] m (zPL (zI (sCn f 4)) (vC mem 1) i f m) := by
  have q := c_layCourses (l := l) (G := G) (hI.k hk) i f hi0 (by rw [hk.at (o := 1) (by omega) (by omega) (by omega)]; exact hi1)
  rw [vC.k hk] at q
  exact q
set_option maxRecDepth 100000 in
theorem c_X5_ask (hI : zFI mem 1) (hs : sSB (mem 1 0) (mem 15 0) (mem 16) (mem 17)) (i w : Int) : KX5_ask l G 6 [zR 0, zI i, zI w] mem (zPC (zI (if 0 ≤ i ∧ i < mem 1 0 ∧ 0 ≤ w ∧ w ≤ 1 then sAdv (sAskS (mem 1 0) (sCn (fun v => sSo (vKind (vC mem 1) i v) (mem 15 0) (mem 16) (mem 17) (mem 18)) 4) (sCan (vC mem 1) i (fun v => sSo (vKind (vC mem 1) i v) (mem 15 0) (mem 16) (mem 17) (mem 18)))).1 (sAskS (mem 1 0) (sCn (fun v => sSo (vKind (vC mem 1) i v) (mem 15 0) (mem 16) (mem 17) (mem 18)) 4) (sCan (vC mem 1) i (fun v => sSo (vKind (vC mem 1) i v) (mem 15 0) (mem 16) (mem 17) (mem 18)))).2 w else -1)) mem) := by
  obtain ⟨hn0, hn5, -⟩ := zFI1 hI
  obtain ⟨f1, f2, f3⟩ := zBec_t hI kC.rf
  have vv : VEQ (vC mem 1) (vC mem 1) := f2.symm.trans f2
  have hcn := sCn_b (f := (fun v => sSo (vKind (vC mem 1) i v) (mem 15 0) (mem 16) (mem 17) (mem 18))) 4
  by_cases hc : 0 ≤ i ∧ i < mem 1 0 ∧ 0 ≤ w ∧ w ≤ 1
  · rw [if_pos hc]
    have hcan : ∀ C, sCrs (vC mem 1) i (fun v => sSo (vKind (vC mem 1) i v) (mem 15 0) (mem 16) (mem 17) (mem 18)) 4 C → sAskS (mem 1 0) (sCn (fun v => sSo (vKind (vC mem 1) i v) (mem 15 0) (mem 16) (mem 17) (mem 18)) 4) C = (sAskS (mem 1 0) (sCn (fun v => sSo (vKind (vC mem 1) i v) (mem 15 0) (mem 16) (mem 17) (mem 18)) 4) (sCan (vC mem 1) i (fun v => sSo (vKind (vC mem 1) i v) (mem 15 0) (mem 16) (mem 17) (mem 18)))) := fun C h => sAskS_c vv h (sCan_ok hn5)
    generalize (sAskS (mem 1 0) (sCn (fun v => sSo (vKind (vC mem 1) i v) (mem 15 0) (mem 16) (mem 17) (mem 18)) 4) (sCan (vC mem 1) i (fun v => sSo (vKind (vC mem 1) i v) (mem 15 0) (mem 16) (mem 17) (mem 18)))) = A at *
    generalize hf : (fun v => sSo (vKind (vC mem 1) i v) (mem 15 0) (mem 16) (mem 17) (mem 18)) = f at *
    refine CT.of' (own := RX5) (ls0 := [zR 0, zI i, zI w, zU, zU, zU, zU, zU, zU]) rfl (by decide +kernel) (Nat.le_of_ble_eq_true rfl) rfl ?_
    have main : ∀ m, kC mem m → sCrs (vC mem 1) i f 4 (m 63) → ∀ (k : Nat) (x a c : Int) (v7 v8 : zV), 0 ≤ x → x + k = 21 → zfor (fun n a => zfor (fun j a => sJ (10 * n + j) (sMost (sCn f 4) (m 63) (5 * n + j)) a) 0 (mem 1 0).toNat a) x k (c, a) = A → SW l G (zrm 6) RX5 cX5_ask 9 (some .int) (zZ G (zPC (zI (sAdv A.1 A.2 w)) mem)) 0 0 (fun _ => True) 40 [zR 0, zI i, zI w, zI (sCn f 4), zI a, zI c, zI x, v7, v8] [] m := by
      intro m hk hC k
      have e1 : m 1 = mem 1 := hk.at (by omega) (by omega) (by omega)
      induction k with
      | zero =>
        intro x a c v7 v8 h0 h1 he
        refine r_iload dX5_ask_40 rfl ?_
        refine r_bipush dX5_ask_42 (k := ?_)
        refine r_icmp_gt (tgt := 109) dX5_ask_44 (by decide) (fun h44 => ?_) (fun h44 => ?_)
        · refine r_iload dX5_ask_109 rfl ?_
          refine r_iload dX5_ask_111 rfl ?_
          refine r_iload_n dX5_ask_113 rfl ?_
          refine r_s3 (c_advice _ _ _) kX5_194 dX5_ask_114 ?_
          try simp only [e1]
          refine r_iret dX5_ask_117 ?_
          exact zPC.i (by rw [← he]; rfl) hk
        · exact absurd (by omega) h44
      | succ k ih =>
        intro x a c v7 v8 h0 h1 he
        rw [zfor] at he
        have inner : ∀ (q : Nat) (y a c : Int) (v8 : zV), 0 ≤ y → y + q = mem 1 0 → zfor (fun n a => zfor (fun j a => sJ (10 * n + j) (sMost (sCn f 4) (m 63) (5 * n + j)) a) 0 (mem 1 0).toNat a) (x + 1) k (zfor (fun j a => sJ (10 * x + j) (sMost (sCn f 4) (m 63) (5 * x + j)) a) y q (c, a)) = A → SW l G (zrm 6) RX5 cX5_ask 9 (some .int) (zZ G (zPC (zI (sAdv A.1 A.2 w)) mem)) 0 0 (fun _ => True) 50 [zR 0, zI i, zI w, zI (sCn f 4), zI a, zI c, zI x, zI y, v8] [] m := by
          intro q
          induction q with
          | zero =>
            intro y a c v8 g0 g1 he
            refine r_iload dX5_ask_50 rfl ?_
            refine r_aload_n dX5_ask_52 rfl ?_
            refine r_getR (q := 1) fX5_10 rfl rfl dX5_ask_53 ?_
            try simp only [e1]
            refine r_gI (q := 0) rfl fX5_92 rfl (by decide) dX5_ask_56 ?_
            try simp only [e1]
            refine r_icmp_ge (tgt := 103) dX5_ask_59 (by decide) (fun h59 => ?_) (fun h59 => ?_)
            · refine r_iinc dX5_ask_103 rfl rfl ?_
              try rw [zw_id (by omega) (by omega)]
              refine r_goto (tgt := 40) dX5_ask_106 (by decide) ?_
              exact ih _ _ _ _ _ (by omega) (by omega) he
            · exact absurd (by omega) h59
          | succ q ihq =>
            intro y a c v8 g0 g1 he
            rw [zfor, sJ] at he
            refine r_iload dX5_ask_50 rfl ?_
            refine r_aload_n dX5_ask_52 rfl ?_
            refine r_getR (q := 1) fX5_10 rfl rfl dX5_ask_53 ?_
            try simp only [e1]
            refine r_gI (q := 0) rfl fX5_92 rfl (by decide) dX5_ask_56 ?_
            try simp only [e1]
            refine r_icmp_ge (tgt := 103) dX5_ask_59 (by decide) (fun h59 => ?_) (fun h59 => ?_)
            · exact absurd h59 (by omega)
            · refine r_aload_n dX5_ask_62 rfl ?_
              refine r_iload_n dX5_ask_63 rfl ?_
              refine r_iload dX5_ask_64 rfl ?_
              refine r_iconst dX5_ask_66 (k := ?_)
              refine r_imul dX5_ask_67 ?_
              try rw [zw_id (by omega) (by omega)]
              refine r_iload dX5_ask_68 rfl ?_
              refine r_iadd dX5_ask_70 ?_
              try rw [zw_id (by omega) (by omega)]
              rw [show x * 5 + y = 5 * x + y by omega]
              refine r_v2 (c_mostLeft _ _ (by omega) (by omega) (by omega) (by omega)) kX5_230 rfl dX5_ask_71 ?_
              try simp only [e1]
              refine r_istore dX5_ask_74 rfl ?_
              refine r_iload dX5_ask_76 rfl ?_
              refine r_iload dX5_ask_78 rfl ?_
              refine r_icmp_ge (tgt := 97) dX5_ask_80 (by decide) (fun h80 => ?_) (fun h80 => ?_)
              · refine r_iinc dX5_ask_97 rfl rfl ?_
                try rw [zw_id (by omega) (by omega)]
                refine r_goto (tgt := 50) dX5_ask_100 (by decide) ?_
                first | exact ihq _ _ _ _ (by omega) (by omega) (by rw [if_pos (by omega)] at he; exact he) | exact ihq _ _ _ _ (by omega) (by omega) (by rw [if_neg (by omega)] at he; exact he)
              · refine r_iload dX5_ask_83 rfl ?_
                refine r_istore dX5_ask_85 rfl ?_
                refine r_bipush dX5_ask_87 (k := ?_)
                refine r_iload dX5_ask_89 rfl ?_
                refine r_imul dX5_ask_91 ?_
                try rw [zw_id (by omega) (by omega)]
                refine r_iload dX5_ask_92 rfl ?_
                refine r_iadd dX5_ask_94 ?_
                try rw [zw_id (by omega) (by omega)]
                refine r_istore dX5_ask_95 rfl ?_
                refine r_iinc dX5_ask_97 rfl rfl ?_
                try rw [zw_id (by omega) (by omega)]
                refine r_goto (tgt := 50) dX5_ask_100 (by decide) ?_
                first | exact ihq _ _ _ _ (by omega) (by omega) (by rw [if_pos (by omega)] at he; exact he) | exact ihq _ _ _ _ (by omega) (by omega) (by rw [if_neg (by omega)] at he; exact he)
        refine r_iload dX5_ask_40 rfl ?_
        refine r_bipush dX5_ask_42 (k := ?_)
        refine r_icmp_gt (tgt := 109) dX5_ask_44 (by decide) (fun h44 => ?_) (fun h44 => ?_)
        · exact absurd h44 (by omega)
        · refine r_iconst dX5_ask_47 (k := ?_)
          refine r_istore dX5_ask_48 rfl ?_
          exact inner (mem 1 0).toNat 0 _ _ _ (by omega) (by omega) he
    refine r_aload_n dX5_ask_0 rfl ?_
    refine r_iload_n dX5_ask_1 rfl ?_
    refine r_v1 (c_X5_isIsle _) kX5_111 rfl dX5_ask_2 ?_
    refine r_ifd_eq (tgt := 17) dX5_ask_5 (by decide) (fun h5 => ?_) (fun h5 => ?_)
    · exact absurd hc (by omega)
    · refine r_iload_n dX5_ask_8 rfl ?_
      refine r_iconst dX5_ask_9 (k := ?_)
      refine r_iconst dX5_ask_10 (k := ?_)
      refine r_s3 (c_isWithin _ _ _) kX5_156 dX5_ask_11 ?_
      refine r_ifd_ne (tgt := 19) dX5_ask_14 (by decide) (fun h14 => ?_) (fun h14 => ?_)
      · refine r_aload_n dX5_ask_19 rfl ?_
        refine r_iload_n dX5_ask_20 rfl ?_
        refine r_aload_n dX5_ask_21 rfl ?_
        refine r_iload_n dX5_ask_22 rfl ?_
        refine r_vC1 (c_kindsAsSeen hI hs _ hc.1 hc.2.1) kX5_220 rfl dX5_ask_23 (fun m23 hk23 => ?_)
        rw [hf]
        refine r_vL2 (c_layCourses' hk23 hI i f hc.1 hc.2.1) kX5_227 rfl dX5_ask_26 (fun m26 hk26 hC26 => ?_)
        refine r_istore_n dX5_ask_29 rfl ?_
        refine r_iload_n dX5_ask_30 rfl ?_
        refine r_istore dX5_ask_31 rfl ?_
        refine r_bipush dX5_ask_33 (k := ?_)
        refine r_istore dX5_ask_35 rfl ?_
        refine r_iconst dX5_ask_37 (k := ?_)
        refine r_istore dX5_ask_38 rfl ?_
        exact main m26 (hk23.tr hk26) hC26 21 0 _ _ _ _ (by omega) (by omega) (hcan _ hC26)
      · exact absurd hc (by omega)
  · rw [if_neg hc]
    refine CT.of' (own := RX5) (ls0 := [zR 0, zI i, zI w, zU, zU, zU, zU, zU, zU]) rfl (by decide +kernel) (Nat.le_of_ble_eq_true rfl) rfl ?_
    refine r_aload_n dX5_ask_0 rfl ?_
    refine r_iload_n dX5_ask_1 rfl ?_
    refine r_v1 (c_X5_isIsle _) kX5_111 rfl dX5_ask_2 ?_
    refine r_ifd_eq (tgt := 17) dX5_ask_5 (by decide) (fun h5 => ?_) (fun h5 => ?_)
    · refine r_iconst dX5_ask_17 (k := ?_)
      refine r_iret dX5_ask_18 ?_
      exact zPC.i rfl kC.rf
    · refine r_iload_n dX5_ask_8 rfl ?_
      refine r_iconst dX5_ask_9 (k := ?_)
      refine r_iconst dX5_ask_10 (k := ?_)
      refine r_s3 (c_isWithin _ _ _) kX5_156 dX5_ask_11 ?_
      refine r_ifd_ne (tgt := 19) dX5_ask_14 (by decide) (fun h14 => ?_) (fun h14 => ?_)
      · exact absurd (by omega) hc
      · refine r_iconst dX5_ask_17 (k := ?_)
        refine r_iret dX5_ask_18 ?_
        exact zPC.i rfl kC.rf
end
