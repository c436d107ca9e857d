/-! ===== the reference: the rest of advice, days ahead ===== -/
def sSootheM (W : zVw) : Int × Int := zfor (fun i a => zfor (fun j a => if i = j then a else sJ (10 * i + j) (vSpread (vGrudge W i j 0) 30) a) 0 W.1.toNat a) 0 W.1.toNat (-4, vSpread W 30)
def zPRb (B : Int) (m : zM) : Option zV → zM → Prop := fun r m' => r = none ∧ ∃ X : Int → Int, X 56 = B ∧ m' = zr m 67 X
section
variable {l : Launch} {G : zG} {R : Room} {own : String} {cc : ByteArray} {nL : Nat} {ret : Option FieldType} {Z : List Frame → Array Value → State → State → Prop} {kc ks : Nat} {Ex : State → Prop} {pc : Nat} {ls st : List zV} {mem mem' : zM}
variable {y : MethodName} {bytes : ByteArray} {nL' : Nat} {ret' : Option FieldType} {d index b ci : Nat} {a1 : zV} {B : Int}
theorem r_wRb (hM : CT l G y bytes nL' ret' d (zR b :: [a1]) mem (zPRb B mem)) (hk : zCl own index y bytes nL' ret' 1 ci) (hL9 : zL b = (ci, zNf ci)) (hd : decode cc pc = .ok (.invokevirtual index, 3)) (kk : ∀ X : Int → Int, X 56 = B → SW l G R own cc nL ret Z kc ks Ex (pc + 3) ls st (zr mem 67 X)) (hR : d + 1 ≤ R.frames ∧ 8 + (nL' + 11) + 100 * d ≤ R.locals := by exact ⟨Nat.le_of_ble_eq_true rfl, Nat.le_of_ble_eq_true rfl⟩) (hw : zwd st ≤ 8 := by exact Nat.le_of_ble_eq_true rfl) : SW l G R own cc nL ret Z kc ks Ex pc ls (a1 :: zR b :: st) mem := by
  obtain ⟨h1, h2, h3, T, N, h4⟩ := hk
  exact r_callV hM h1 h2 hL9 h3 h4 rfl rfl hR hw hd (fun r m9 h9 => by obtain ⟨rfl, X, h9, rfl⟩ := h9; exact kk X h9)
end
section
variable {l : Launch} {G : zG} {mem : zM}
theorem c_mDays {W : zVw} (hI : mI (mem 65 3) (mem 67)) (hv : VEQ (vM (mem 65 3) (mem 67)) W) (n : Int) (h0 : 0 ≤ n) (h9 : n ≤ 1000) : KX6_daysGo l G 5 [zR 65, zI n] mem (zPRb (vDays W n.toNat).2.1 mem) :=
  (c_daysGo hI n h0 h9).imp (fun r m h => by
    obtain ⟨rfl, rfl⟩ := h
    refine ⟨rfl, _, ?_, rfl⟩
    rw [mR_56, ← (hv.days n.toNat).2.2]
    rfl)
set_option maxRecDepth 100000 in
set_option maxHeartbeats 1000000 in
theorem c_X6_fray (hI : mI (mem 65 3) (mem 66)) (w : Int) : KX6_fray l G 6 [zR 65, zI w] mem (zPM (zI (if 0 ≤ w ∧ w ≤ 1 then sAdv (sFray (vM (mem 65 3) (mem 66))).1 (sFray (vM (mem 65 3) (mem 66))).2 w else -1)) mem) := by
  have hn0 := hI.1
  have hn5 := hI.2.1
  have hr0 := hI.2.2.1
  have hr6 := hI.2.2.2.1
  refine CT.of' (own := RX6) (ls0 := [zR 65, zI w, zU]) rfl (by decide +kernel) (Nat.le_of_ble_eq_true rfl) rfl ?_
  obtain ⟨f1, f2, f3⟩ := mStart hI kM.rf
  by_cases hc : 0 ≤ w ∧ w ≤ 1
  · rw [if_pos hc]
    have loop : ∀ (k : Nat) (x : Int) (m : zM), 0 ≤ x → x + k = mem 66 53 → kM mem m → zfor (fun k a => sJ k (vBumps (vDrop (vM (mem 65 3) (mem 66)) k) 30) a) x k (m 65 17, m 65 18) = sFray (vM (mem 65 3) (mem 66)) → SW l G (zrm 6) RX6 cX6_fray 3 (some .int) (zZ G (zPM (zI (sAdv (sFray (vM (mem 65 3) (mem 66))).1 (sFray (vM (mem 65 3) (mem 66))).2 w)) mem)) 0 0 (fun _ => True) 29 [zR 65, zI w, zI x] [] m := by
      intro k
      induction k with
      | zero =>
        intro x m h0 h1 hk he
        have e66 : m 66 = mem 66 := hk.at (by decide) (by decide) (by decide) (by decide)
        refine r_iload_n dX6_fray_29 rfl ?_
        refine r_aload_n dX6_fray_30 rfl ?_
        refine r_getR (q := 66) fX6_7 rfl rfl dX6_fray_31 ?_
        try simp only [e66]
        refine r_bipush dX6_fray_34 (k := ?_)
        refine r_iald rfl (by omega) (by omega) dX6_fray_36 ?_
        try simp only [e66]
        refine r_icmp_ge (tgt := 70) dX6_fray_37 (by decide) (fun h37 => ?_) (fun h37 => ?_)
        · refine r_aload_n dX6_fray_70 rfl ?_
          refine r_iload_n dX6_fray_71 rfl ?_
          refine r_v1 (c_judged _) kX6_264 rfl dX6_fray_72 ?_
          try simp only [e66]
          refine r_iret dX6_fray_75 ?_
          exact zPM.i (by rw [← he]; rfl) hk
        · exact absurd (by omega) h37
      | succ k ih =>
        intro x m h0 h1 hk he
        have e66 : m 66 = mem 66 := hk.at (by decide) (by decide) (by decide) (by decide)
        have e65 : m 65 3 = mem 65 3 := hk.2 3 (by decide) (by decide) (by decide) (by decide) (by decide)
        obtain ⟨g1, g2, g3⟩ := mStart hI hk
        have e53 : zcp (m 66) (m 67) 0 0 76 53 = mem 66 53 := by rw [zcp_at (by decide) (by decide), e66]
        have g5 : x < zcp (m 66) (m 67) 0 0 76 53 := by rw [e53]; omega
        rw [zfor] at he
        refine r_iload_n dX6_fray_29 rfl ?_
        refine r_aload_n dX6_fray_30 rfl ?_
        refine r_getR (q := 66) fX6_7 rfl rfl dX6_fray_31 ?_
        refine r_bipush dX6_fray_34 (k := ?_)
        refine r_iald rfl (by omega) (by omega) dX6_fray_36 ?_
        rw [e66]
        refine r_icmp_ge (tgt := 70) dX6_fray_37 (by decide) (fun h37 => ?_) (fun h37 => ?_)
        · exact absurd h37 (by omega)
        · refine r_aload_n dX6_fray_40 rfl ?_
          refine r_w0 (c_starts) kX6_194 rfl dX6_fray_41 ?_
          refine r_aload_n dX6_fray_44 rfl ?_
          refine r_iload_n dX6_fray_45 rfl ?_
          refine r_w1 (c_frays _ (by omega) (by omega) (by rw [zr_s, e53]; omega) (by rw [zr_s, e53]; omega)) kX6_267 rfl dX6_fray_46 ?_
          rw [zr_zr, zr_s]
          refine r_aload_n dX6_fray_49 rfl ?_
          refine r_bipush dX6_fray_50 (k := ?_)
          refine r_wRb (c_mDays (by rw [zr_n (by decide), zr_s, e65]; exact (vM_drop g1 h0 g5).1) (by rw [zr_n (by decide), zr_s, e65]; exact (vM_drop g1 h0 g5).2.trans (g2.drop h0 g5)) _ (by decide) (by decide)) kX6_231 rfl dX6_fray_52 (fun X52 hX52 => ?_)
          refine r_aload_n dX6_fray_55 rfl ?_
          refine r_iload_n dX6_fray_56 rfl ?_
          refine r_aload_n dX6_fray_57 rfl ?_
          refine r_v0 (c_bumpsSince) kX6_234 rfl dX6_fray_58 ?_
          rw [zr_zr, zr_s, zr_n (by decide), hX52, e66]
          refine r_w2 (c_judges' _ _) kX6_260 rfl dX6_fray_61 ?_
          refine r_iinc dX6_fray_64 rfl rfl ?_
          try rw [zw_id (by omega) (by omega)]
          refine r_goto (tgt := 29) dX6_fray_67 (by decide) ?_
          exact ih _ _ (by omega) (by omega) (mJ_k (hk.r (Or.inl rfl))) (by rw [mJ_a]; exact he)
    refine r_iload_n dX6_fray_0 rfl ?_
    refine r_s1 (c_isPart _) kX6_251 dX6_fray_1 ?_
    refine r_ifd_ne (tgt := 9) dX6_fray_4 (by decide) (fun h4 => ?_) (fun h4 => ?_)
    · refine r_aload_n dX6_fray_9 rfl ?_
      refine r_w0 (c_starts) kX6_194 rfl dX6_fray_10 ?_
      refine r_aload_n dX6_fray_13 rfl ?_
      refine r_bipush dX6_fray_14 (k := ?_)
      refine r_wRb (c_mDays (by rw [zr_n (by decide), zr_s]; exact f1) (by rw [zr_n (by decide), zr_s]; exact f2) _ (by decide) (by decide)) kX6_231 rfl dX6_fray_16 (fun X16 hX16 => ?_)
      refine r_aload_n dX6_fray_19 rfl ?_
      refine r_aload_n dX6_fray_20 rfl ?_
      refine r_v0 (c_bumpsSince) kX6_234 rfl dX6_fray_21 ?_
      rw [zr_zr, zr_s, zr_n (by decide), hX16]
      refine r_w1 (c_sJudging' _) kX6_257 rfl dX6_fray_24 ?_
      refine r_iconst dX6_fray_27 (k := ?_)
      refine r_istore_n dX6_fray_28 rfl ?_
      exact loop (mem 66 53).toNat 0 _ (by omega) (by omega) (mS_k (kM.rf.r (Or.inl rfl))) (by rw [mS_a]; rfl)
    · exact absurd hc (by omega)
  · rw [if_neg hc]
    refine r_iload_n dX6_fray_0 rfl ?_
    refine r_s1 (c_isPart _) kX6_251 dX6_fray_1 ?_
    refine r_ifd_ne (tgt := 9) dX6_fray_4 (by decide) (fun h4 => ?_) (fun h4 => ?_)
    · exact absurd (by omega) hc
    · refine r_iconst dX6_fray_7 (k := ?_)
      refine r_iret dX6_fray_8 ?_
      exact zPM.i rfl kM.rf
set_option maxRecDepth 100000 in
set_option maxHeartbeats 1000000 in
theorem c_X6_soothe (hI : mI (mem 65 3) (mem 66)) (w : Int) : KX6_soothe l G 7 [zR 65, zI w] mem (zPM (zI (if 0 ≤ w ∧ w ≤ 1 then sAdv (sSootheM (vM (mem 65 3) (mem 66))).1 (sSootheM (vM (mem 65 3) (mem 66))).2 w else -1)) mem) := by
  have hn0 := hI.1
  have hn5 := hI.2.1
  refine CT.of' (own := RX6) (ls0 := [zR 65, zI w, zU, zU]) rfl (by decide +kernel) (Nat.le_of_ble_eq_true rfl) rfl ?_
  obtain ⟨f1, f2, f3⟩ := mStart hI kM.rf
  by_cases hc : 0 ≤ w ∧ w ≤ 1
  · rw [if_pos hc]
    have loop : ∀ (k : Nat) (x : Int) (m : zM) (v3 : zV), 0 ≤ x → x + k = mem 65 3 → kM mem m → zfor (fun i a => zfor (fun j a => if i = j then a else sJ (10 * i + j) (vSpread (vGrudge (vM (mem 65 3) (mem 66)) i j 0) 30) a) 0 (mem 65 3).toNat a) x k (m 65 17, m 65 18) = sSootheM (vM (mem 65 3) (mem 66)) → SW l G (zrm 7) RX6 cX6_soothe 4 (some .int) (zZ G (zPM (zI (sAdv (sSootheM (vM (mem 65 3) (mem 66))).1 (sSootheM (vM (mem 65 3) (mem 66))).2 w)) mem)) 0 0 (fun _ => True) 25 [zR 65, zI w, zI x, v3] [] m := by
      intro k
      induction k with
      | zero =>
        intro x m v3 h0 h1 hk he
        have e65 : m 65 3 = mem 65 3 := hk.2 3 (by decide) (by decide) (by decide) (by decide) (by decide)
        refine r_iload_n dX6_soothe_25 rfl ?_
        refine r_aload_n dX6_soothe_26 rfl ?_
        refine r_gI (q := 3) rfl fX6_64 rfl (by decide) dX6_soothe_27 ?_
        try simp only [e65]
        refine r_icmp_ge (tgt := 94) dX6_soothe_30 (by decide) (fun h30 => ?_) (fun h30 => ?_)
        · refine r_aload_n dX6_soothe_94 rfl ?_
          refine r_iload_n dX6_soothe_95 rfl ?_
          refine r_v1 (c_judged _) kX6_264 rfl dX6_soothe_96 ?_
          try simp only [e65]
          refine r_iret dX6_soothe_99 ?_
          exact zPM.i (by rw [← he]; rfl) hk
        · exact absurd (by omega) h30
      | succ k ih =>
        intro x m v3 h0 h1 hk he
        have e65 : m 65 3 = mem 65 3 := hk.2 3 (by decide) (by decide) (by decide) (by decide) (by decide)
        rw [zfor] at he
        have inner : ∀ (kk : Nat) (y : Int) (m : zM), 0 ≤ y → y + kk = mem 65 3 → kM mem m → zfor (fun i a => zfor (fun j a => if i = j then a else sJ (10 * i + j) (vSpread (vGrudge (vM (mem 65 3) (mem 66)) i j 0) 30) a) 0 (mem 65 3).toNat a) (x + 1) k (zfor (fun j a => if x = j then a else sJ (10 * x + j) (vSpread (vGrudge (vM (mem 65 3) (mem 66)) x j 0) 30) a) y kk (m 65 17, m 65 18)) = sSootheM (vM (mem 65 3) (mem 66)) → SW l G (zrm 7) RX6 cX6_soothe 4 (some .int) (zZ G (zPM (zI (sAdv (sSootheM (vM (mem 65 3) (mem 66))).1 (sSootheM (vM (mem 65 3) (mem 66))).2 w)) mem)) 0 0 (fun _ => True) 35 [zR 65, zI w, zI x, zI y] [] m := by
          intro kk
          induction kk with
          | zero =>
            intro y m g0 g1 hk he
            have e65 : m 65 3 = mem 65 3 := hk.2 3 (by decide) (by decide) (by decide) (by decide) (by decide)
            refine r_iload_n dX6_soothe_35 rfl ?_
            refine r_aload_n dX6_soothe_36 rfl ?_
            refine r_gI (q := 3) rfl fX6_64 rfl (by decide) dX6_soothe_37 ?_
            try simp only [e65]
            refine r_icmp_ge (tgt := 88) dX6_soothe_40 (by decide) (fun h40 => ?_) (fun h40 => ?_)
            · refine r_iinc dX6_soothe_88 rfl rfl ?_
              try rw [zw_id (by omega) (by omega)]
              refine r_goto (tgt := 25) dX6_soothe_91 (by decide) ?_
              exact ih _ _ _ (by omega) (by omega) hk he
            · exact absurd (by omega) h40
          | succ kk ih2 =>
            intro y m q0 q1 hk he
            have e65 : m 65 3 = mem 65 3 := hk.2 3 (by decide) (by decide) (by decide) (by decide) (by decide)
            obtain ⟨g1, g2, g3⟩ := mStart hI hk
            rw [zfor] at he
            refine r_iload_n dX6_soothe_35 rfl ?_
            refine r_aload_n dX6_soothe_36 rfl ?_
            refine r_gI (q := 3) rfl fX6_64 rfl (by decide) dX6_soothe_37 ?_
            try simp only [e65]
            refine r_icmp_ge (tgt := 88) dX6_soothe_40 (by decide) (fun h40 => ?_) (fun h40 => ?_)
            · exact absurd h40 (by omega)
            · refine r_iload_n dX6_soothe_43 rfl ?_
              refine r_iload_n dX6_soothe_44 rfl ?_
              refine r_icmp_eq (tgt := 82) dX6_soothe_45 (by decide) (fun h45 => ?_) (fun h45 => ?_)
              · refine r_iinc dX6_soothe_82 rfl rfl ?_
                try rw [zw_id (by omega) (by omega)]
                refine r_goto (tgt := 35) dX6_soothe_85 (by decide) ?_
                first
                  | exact ih2 _ _ (by omega) (by omega) hk (by rw [if_pos h45] at he; exact he)
                  | (rw [zr_zr]; exact ih2 _ _ (by omega) (by omega) (mJ_k (hk.r (Or.inl rfl))) (by rw [mJ_a]; rw [if_neg h45] at he; exact he))
              · refine r_aload_n dX6_soothe_48 rfl ?_
                refine r_w0 (c_starts) kX6_194 rfl dX6_soothe_49 ?_
                try simp only [e65]
                refine r_aload_n dX6_soothe_52 rfl ?_
                refine r_getR (q := 67) fX6_13 rfl rfl dX6_soothe_53 ?_
                try simp only [e65]
                refine r_bipush dX6_soothe_56 (k := ?_)
                refine r_iconst dX6_soothe_58 (k := ?_)
                refine r_iload_n dX6_soothe_59 rfl ?_
                refine r_imul dX6_soothe_60 ?_
                try rw [zw_id (by omega) (by omega)]
                refine r_iadd dX6_soothe_61 ?_
                try rw [zw_id (by omega) (by omega)]
                refine r_iload_n dX6_soothe_62 rfl ?_
                refine r_iadd dX6_soothe_63 ?_
                try rw [zw_id (by omega) (by omega)]
                refine r_iconst dX6_soothe_64 (k := ?_)
                refine r_iast rfl (by omega) (by omega) dX6_soothe_65 ?_
                rw [zs_zr, show 10 + 5 * x + y = 10 + (5 * x + y) by omega]
                refine r_aload_n dX6_soothe_66 rfl ?_
                refine r_bipush dX6_soothe_67 (k := ?_)
                refine r_iload_n dX6_soothe_69 rfl ?_
                refine r_imul dX6_soothe_70 ?_
                try rw [zw_id (by omega) (by omega)]
                refine r_iload_n dX6_soothe_71 rfl ?_
                refine r_iadd dX6_soothe_72 ?_
                try rw [zw_id (by omega) (by omega)]
                refine r_aload_n dX6_soothe_73 rfl ?_
                refine r_bipush dX6_soothe_74 (k := ?_)
                refine r_vR1 (c_mSpr (by rw [zr_n (by decide), zr_s, e65]; exact (vM_grudge g1 (by decide) (by decide) (by omega) (by omega) (by omega) (by omega)).1) (by rw [zr_n (by decide), zr_s, e65]; exact (vM_grudge g1 (by decide) (by decide) (by omega) (by omega) (by omega) (by omega)).2.trans (g2.grudge x y 0)) _ (by decide) (by decide)) kX6_254 rfl dX6_soothe_76 (fun X76 => ?_)
                try simp only [e65]
                try rw [show Int.toNat 30 = 30 from rfl]
                refine r_w2 (c_judges' _ _) kX6_260 rfl dX6_soothe_79 ?_
                try simp only [e65]
                refine r_iinc dX6_soothe_82 rfl rfl ?_
                try rw [zw_id (by omega) (by omega)]
                refine r_goto (tgt := 35) dX6_soothe_85 (by decide) ?_
                first
                  | exact ih2 _ _ (by omega) (by omega) hk (by rw [if_pos h45] at he; exact he)
                  | (rw [zr_zr]; exact ih2 _ _ (by omega) (by omega) (mJ_k (hk.r (Or.inl rfl))) (by rw [mJ_a]; rw [if_neg h45] at he; exact he))
        refine r_iload_n dX6_soothe_25 rfl ?_
        refine r_aload_n dX6_soothe_26 rfl ?_
        refine r_gI (q := 3) rfl fX6_64 rfl (by decide) dX6_soothe_27 ?_
        try simp only [e65]
        refine r_icmp_ge (tgt := 94) dX6_soothe_30 (by decide) (fun h30 => ?_) (fun h30 => ?_)
        · exact absurd h30 (by omega)
        · refine r_iconst dX6_soothe_33 (k := ?_)
          refine r_istore_n dX6_soothe_34 rfl ?_
          exact inner (mem 65 3).toNat _ _ (by omega) (by omega) hk he
    refine r_iload_n dX6_soothe_0 rfl ?_
    refine r_s1 (c_isPart _) kX6_251 dX6_soothe_1 ?_
    refine r_ifd_ne (tgt := 9) dX6_soothe_4 (by decide) (fun h4 => ?_) (fun h4 => ?_)
    · refine r_aload_n dX6_soothe_9 rfl ?_
      refine r_w0 (c_starts) kX6_194 rfl dX6_soothe_10 ?_
      refine r_aload_n dX6_soothe_13 rfl ?_
      refine r_aload_n dX6_soothe_14 rfl ?_
      refine r_bipush dX6_soothe_15 (k := ?_)
      refine r_vR1 (c_mSpr (by rw [zr_n (by decide), zr_s]; exact f1) (by rw [zr_n (by decide), zr_s]; exact f2) _ (by decide) (by decide)) kX6_254 rfl dX6_soothe_17 (fun X17 => ?_)
      try rw [show Int.toNat 30 = 30 from rfl]
      refine r_w1 (c_sJudging' _) kX6_257 rfl dX6_soothe_20 ?_
      refine r_iconst dX6_soothe_23 (k := ?_)
      refine r_istore_n dX6_soothe_24 rfl ?_
      rw [zr_zr]
      exact loop (mem 65 3).toNat 0 _ _ (by omega) (by omega) (mS_k (kM.rf.r (Or.inl rfl))) (by rw [mS_a]; rfl)
    · exact absurd hc (by omega)
  · rw [if_neg hc]
    refine r_iload_n dX6_soothe_0 rfl ?_
    refine r_s1 (c_isPart _) kX6_251 dX6_soothe_1 ?_
    refine r_ifd_ne (tgt := 9) dX6_soothe_4 (by decide) (fun h4 => ?_) (fun h4 => ?_)
    · exact absurd (by omega) hc
    · refine r_iconst dX6_soothe_7 (k := ?_)
      refine r_iret dX6_soothe_8 ?_
      exact zPM.i rfl kM.rf
set_option maxRecDepth 100000 in
theorem c_X6_ahead (hI : mI (mem 65 3) (mem 66)) (i n : Int) : KX6_ahead l G 6 [zR 65, zI i, zI n] mem (zPM (zI (if 0 ≤ i ∧ i < mem 65 3 ∧ 0 ≤ n ∧ n ≤ 60 then (vDays (vM (mem 65 3) (mem 66)) n.toNat).1 i else -1)) mem) := by
  have hn0 := hI.1
  have hn5 := hI.2.1
  obtain ⟨f1, f2, f3⟩ := mStart hI kM.rf
  have hmo := sDays_out (t := mT (zcp (mem 66) (mem 67) 0 0 76)) (g := mG (zcp (mem 66) (mem 67) 0 0 76)) (r := (zcp (mem 66) (mem 67) 0 0 76) 53) (e1 := m1 (zcp (mem 66) (mem 67) 0 0 76)) (e2 := m2 (zcp (mem 66) (mem 67) 0 0 76)) (ln := m3 (zcp (mem 66) (mem 67) 0 0 76)) (hol := (zcp (mem 66) (mem 67) 0 0 76) 55) (k := n.toNat) (s := (mP (zcp (mem 66) (mem 67) 0 0 76), (zcp (mem 66) (mem 67) 0 0 76) 56, (zcp (mem 66) (mem 67) 0 0 76) 54)) (c := (zcp (mem 66) (mem 67) 0 0 76)) hn0 hn5 mOut.s
  refine CT.of' (own := RX6) (ls0 := [zR 65, zI i, zI n]) rfl (by decide +kernel) (Nat.le_of_ble_eq_true rfl) rfl ?_
  by_cases hc : 0 ≤ i ∧ i < mem 65 3 ∧ 0 ≤ n ∧ n ≤ 60
  · rw [if_pos hc]
    refine r_aload_n dX6_ahead_0 rfl ?_
    refine r_iload_n dX6_ahead_1 rfl ?_
    refine r_v1 (c_isIsle _ hn0 hn5) kX6_151 rfl dX6_ahead_2 ?_
    refine r_ifd_eq (tgt := 15) dX6_ahead_5 (by decide) (fun h5 => ?_) (fun h5 => ?_)
    · exact absurd hc (by omega)
    · refine r_iload_n dX6_ahead_8 rfl ?_
      refine r_s1 (c_isFar _) kX6_239 dX6_ahead_9 ?_
      refine r_ifd_ne (tgt := 17) dX6_ahead_12 (by decide) (fun h12 => ?_) (fun h12 => ?_)
      · refine r_aload_n dX6_ahead_17 rfl ?_
        refine r_w0 (c_starts) kX6_194 rfl dX6_ahead_18 ?_
        refine r_aload_n dX6_ahead_21 rfl ?_
        refine r_iload_n dX6_ahead_22 rfl ?_
        refine r_w1 (c_daysGo (by rw [zr_n (by decide), zr_s]; exact f1) _ (by omega) (by omega)) kX6_231 rfl dX6_ahead_23 ?_
        simp (disch := decide) only [zr_zr, zr_n, zr_s]
        refine r_aload_n dX6_ahead_26 rfl ?_
        refine r_iload_n dX6_ahead_27 rfl ?_
        refine r_v1 (c_place _ (by omega) (by omega)) kX6_156 rfl dX6_ahead_28 ?_
        rw [zr_s, mR_P hmo]
        refine r_iret dX6_ahead_31 ?_
        refine zPM.i ?_ (kM.rf.r (Or.inl rfl))
        exact (f2.days n.toNat).2.1 i hc.1 hc.2.1
      · exact absurd hc (by omega)
  · rw [if_neg hc]
    refine r_aload_n dX6_ahead_0 rfl ?_
    refine r_iload_n dX6_ahead_1 rfl ?_
    refine r_v1 (c_isIsle _ hn0 hn5) kX6_151 rfl dX6_ahead_2 ?_
    refine r_ifd_eq (tgt := 15) dX6_ahead_5 (by decide) (fun h5 => ?_) (fun h5 => ?_)
    · refine r_iconst dX6_ahead_15 (k := ?_)
      refine r_iret dX6_ahead_16 ?_
      exact zPM.i rfl kM.rf
    · refine r_iload_n dX6_ahead_8 rfl ?_
      refine r_s1 (c_isFar _) kX6_239 dX6_ahead_9 ?_
      refine r_ifd_ne (tgt := 17) dX6_ahead_12 (by decide) (fun h12 => ?_) (fun h12 => ?_)
      · exact absurd (by omega) hc
      · refine r_iconst dX6_ahead_15 (k := ?_)
        refine r_iret dX6_ahead_16 ?_
        exact zPM.i rfl kM.rf
set_option maxRecDepth 100000 in
theorem c_X6_within (hI : mI (mem 65 3) (mem 66)) (v : Int) : KX6_within l G 5 [zR 65, zI v] mem (zPM (zI (if 0 ≤ v ∧ v ≤ 99 then sWi (vM (mem 65 3) (mem 66)) v 61 0 (vS0 (vM (mem 65 3) (mem 66))) else -1)) mem) := by
  have hn0 := hI.1
  have hn5 := hI.2.1
  obtain ⟨f1, f2, f3⟩ := mStart hI kM.rf
  rw [← f2.wi v 61 0 (vS0 (vM (mem 65 3) (zcp (mem 66) (mem 67) 0 0 76))) (vS0 (vM (mem 65 3) (mem 66))) f2.s0.2.1 f2.s0.2.2]
  refine CT.of' (own := RX6) (ls0 := [zR 65, zI v, zU]) rfl (by decide +kernel) (Nat.le_of_ble_eq_true rfl) rfl ?_
  by_cases hc : 0 ≤ v ∧ v ≤ 99
  · rw [if_pos hc]
    have loop : ∀ (k : Nat) (x : Int) (s : zS3), 0 ≤ x → x + k = 61 → sPB (mem 65 3) s.1 → mOut (zcp (mem 66) (mem 67) 0 0 76) s.1 → sWi (vM (mem 65 3) (zcp (mem 66) (mem 67) 0 0 76)) v k x s = sWi (vM (mem 65 3) (zcp (mem 66) (mem 67) 0 0 76)) v 61 0 (vS0 (vM (mem 65 3) (zcp (mem 66) (mem 67) 0 0 76))) → SW l G (zrm 5) RX6 cX6_within 3 (some .int) (zZ G (zPM (zI (sWi (vM (mem 65 3) (zcp (mem 66) (mem 67) 0 0 76)) v 61 0 (vS0 (vM (mem 65 3) (zcp (mem 66) (mem 67) 0 0 76))))) mem)) 0 0 (fun _ => True) 15 [zR 65, zI v, zI x] [] (zr mem 67 (mR (zcp (mem 66) (mem 67) 0 0 76) s)) := by
      intro k
      induction k with
      | zero =>
        intro x s h0 h1 hpb hmo he
        refine r_iload_n dX6_within_15 rfl ?_
        refine r_bipush dX6_within_16 (k := ?_)
        refine r_icmp_gt (tgt := 42) dX6_within_18 (by decide) (fun h18 => ?_) (fun h18 => ?_)
        · refine r_bipush dX6_within_42 (k := ?_)
          refine r_iret dX6_within_44 ?_
          exact zPM.i (by rw [← he]; rfl) (kM.rf.r (Or.inl rfl))
        · exact absurd (by omega) h18
      | succ k ih =>
        intro x s h0 h1 hpb hmo he
        have hJ : mI (zr mem 67 (mR (zcp (mem 66) (mem 67) 0 0 76) s) 65 3) (zr mem 67 (mR (zcp (mem 66) (mem 67) 0 0 76) s) 67) := by
          rw [zr_n (by decide), zr_s]; exact f1.r hmo hpb
        have f9 : sSpread (vM (mem 65 3) (zcp (mem 66) (mem 67) 0 0 76)).1 s.1 = sSpread (mem 65 3) s.1 := rfl
        rw [sWi, f9] at he
        refine r_iload_n dX6_within_15 rfl ?_
        refine r_bipush dX6_within_16 (k := ?_)
        refine r_icmp_gt (tgt := 42) dX6_within_18 (by decide) (fun h18 => ?_) (fun h18 => ?_)
        · exact absurd h18 (by omega)
        · refine r_aload_n dX6_within_21 rfl ?_
          refine r_v0 (c_X6_spread hJ) kX6_197 rfl dX6_within_22 ?_
          try simp (disch := decide) only [zr_s, zr_n, mR_P hmo, mR_T, mR_G, mR_1, mR_2, mR_3, mR_53, mR_55, mR_56, mR_54]
          refine r_iload_n dX6_within_25 rfl ?_
          refine r_icmp_gt (tgt := 31) dX6_within_26 (by decide) (fun h26 => ?_) (fun h26 => ?_)
          · refine r_aload_n dX6_within_31 rfl ?_
            refine r_iconst dX6_within_32 (k := ?_)
            refine r_w1 (c_dayGoes hJ false) kX6_190 rfl dX6_within_33 ?_
            try simp (disch := decide) only [zr_s, zr_n, mR_P hmo, mR_T, mR_G, mR_1, mR_2, mR_3, mR_53, mR_55, mR_56, mR_54]
            rw [zr_zr, mR_mR, if_neg (by decide)]
            refine r_iinc dX6_within_36 rfl rfl ?_
            try rw [zw_id (by omega) (by omega)]
            refine r_goto (tgt := 15) dX6_within_39 (by decide) ?_
            exact ih _ _ (by omega) (by omega) (sDay_bd hn0 hpb) (sDay_out hn0 hn5 hmo) (by rw [if_neg (by omega)] at he; exact he)
          · refine r_iload_n dX6_within_29 rfl ?_
            refine r_iret dX6_within_30 ?_
            exact zPM.i (by rw [← he, if_pos (by omega)]) (kM.rf.r (Or.inl rfl))
    have fin := loop 61 0 (vS0 (vM (mem 65 3) (zcp (mem 66) (mem 67) 0 0 76))) (by omega) (by omega) f1.2.2.2.2.1 mOut.s rfl
    have f9 : mR (zcp (mem 66) (mem 67) 0 0 76) (vS0 (vM (mem 65 3) (zcp (mem 66) (mem 67) 0 0 76))) = (zcp (mem 66) (mem 67) 0 0 76) := mR_self
    rw [f9] at fin
    refine r_iload_n dX6_within_0 rfl ?_
    refine r_s1 (c_isFathom _) kX6_171 dX6_within_1 ?_
    refine r_ifd_ne (tgt := 9) dX6_within_4 (by decide) (fun h4 => ?_) (fun h4 => ?_)
    · refine r_aload_n dX6_within_9 rfl ?_
      refine r_w0 (c_starts) kX6_194 rfl dX6_within_10 ?_
      refine r_iconst dX6_within_13 (k := ?_)
      refine r_istore_n dX6_within_14 rfl ?_
      exact fin
    · exact absurd hc (by omega)
  · rw [if_neg hc]
    refine r_iload_n dX6_within_0 rfl ?_
    refine r_s1 (c_isFathom _) kX6_171 dX6_within_1 ?_
    refine r_ifd_ne (tgt := 9) dX6_within_4 (by decide) (fun h4 => ?_) (fun h4 => ?_)
    · exact absurd (by omega) hc
    · refine r_iconst dX6_within_7 (k := ?_)
      refine r_iret dX6_within_8 ?_
      exact zPM.i rfl kM.rf
set_option maxRecDepth 100000 in
set_option maxHeartbeats 1000000 in
theorem c_X6_runs (hI : mI (mem 65 3) (mem 66)) (n w : Int) : KX6_runs l G 5 [zR 65, zI n, zI w] mem (zPM (zI (if 0 ≤ n ∧ n ≤ 60 ∧ 0 ≤ w ∧ w ≤ 3 then sRunsA (vM (mem 65 3) (mem 66)) n w else -1)) mem) := by
  have hn0 := hI.1
  have hn5 := hI.2.1
  obtain ⟨f1, f2, f3⟩ := mStart hI kM.rf
  rw [← f2.runsA n w]
  have e56 : (zcp (mem 66) (mem 67) 0 0 76) 56 = mem 66 56 := zcp_at (by decide) (by decide)
  have em : ∀ p, sMoved (mem 65 3) p (mP (mem 66)) = sMoved (mem 65 3) p (mP (zcp (mem 66) (mem 67) 0 0 76)) := fun p => sMoved_c PE.rf (fun i h0 h1 => (f2.s0.2.1 i h0 h1).symm)
  refine CT.of' (own := RX6) (ls0 := [zR 65, zI n, zI w, zU, zU, zU]) rfl (by decide +kernel) (Nat.le_of_ble_eq_true rfl) rfl ?_
  by_cases hc : 0 ≤ n ∧ n ≤ 60 ∧ 0 ≤ w ∧ w ≤ 3
  · rw [if_pos hc]
    generalize hA : sRunsA (vM (mem 65 3) (zcp (mem 66) (mem 67) 0 0 76)) n w = A
    have fin2 : ∀ (k : Nat) (x a mv : Int) (s : zS3), 0 ≤ x → x + k = mem 65 3 → 0 ≤ mv → mv ≤ x → sPB (mem 65 3) s.1 → mOut (zcp (mem 66) (mem 67) 0 0 76) s.1 → (a, s) = sRuns (vM (mem 65 3) (zcp (mem 66) (mem 67) 0 0 76)) n.toNat → zfor (fun i a => if s.1 i = mP (mem 66) i then a else a + 1) x k mv = sMoved (mem 65 3) s.1 (mP (mem 66)) → SW l G (zrm 5) RX6 cX6_runs 6 (some .int) (zZ G (zPM (zI A) mem)) 0 0 (fun _ => True) 65 [zR 65, zI n, zI w, zI a, zI mv, zI x] [] (zr mem 67 (mR (zcp (mem 66) (mem 67) 0 0 76) s)) := by
      intro k
      induction k with
      | zero =>
        intro x a mv s h0 h1 m0 m1 hpb hmo hr he
        have hJ : mI (zr mem 67 (mR (zcp (mem 66) (mem 67) 0 0 76) s) 65 3) (zr mem 67 (mR (zcp (mem 66) (mem 67) 0 0 76) s) 67) := by
          rw [zr_n (by decide), zr_s]; exact f1.r hmo hpb
        unfold sRunsA at hA
        rw [← hr] at hA
        refine r_iload dX6_runs_65 rfl ?_
        refine r_aload_n dX6_runs_67 rfl ?_
        refine r_gI (q := 3) rfl fX6_64 rfl (by decide) dX6_runs_68 ?_
        try simp (disch := decide) only [zr_s, zr_n, mR_P hmo, mR_T, mR_G, mR_1, mR_2, mR_3, mR_53, mR_55, mR_56, mR_54]
        refine r_icmp_ge (tgt := 113) dX6_runs_71 (by decide) (fun h71 => ?_) (fun h71 => ?_)
        · refine r_iload_n dX6_runs_113 rfl ?_
          refine r_if_ne (tgt := 124) dX6_runs_114 (by decide) (fun h114 => ?_) (fun h114 => ?_)
          · refine r_iload_n dX6_runs_124 rfl ?_
            refine r_iconst dX6_runs_125 (k := ?_)
            refine r_icmp_ne (tgt := 136) dX6_runs_126 (by decide) (fun h126 => ?_) (fun h126 => ?_)
            · refine r_iload_n dX6_runs_136 rfl ?_
              refine r_iconst dX6_runs_137 (k := ?_)
              refine r_icmp_ne (tgt := 145) dX6_runs_138 (by decide) (fun h138 => ?_) (fun h138 => ?_)
              · refine r_iload dX6_runs_145 rfl ?_
                refine r_iret dX6_runs_147 ?_
                refine zPM.i ?_ (kM.rf.r (Or.inl rfl))
                first | (rw [← hA, if_pos (by omega)]; rfl) | (rw [← hA, if_neg (by omega), if_pos (by omega)]; show _ = zw (s.2.1 - (zcp (mem 66) (mem 67) 0 0 76) 56); rw [e56]) | (rw [← hA, if_neg (by omega), if_neg (by omega), if_pos (by omega)]) | (rw [← hA, if_neg (by omega), if_neg (by omega), if_neg (by omega)]; show mv = sMoved (mem 65 3) s.1 (mP (zcp (mem 66) (mem 67) 0 0 76)); rw [← em, ← he]; rfl)
              · refine r_iload_n dX6_runs_141 rfl ?_
                refine r_goto (tgt := 147) dX6_runs_142 (by decide) ?_
                refine r_iret dX6_runs_147 ?_
                refine zPM.i ?_ (kM.rf.r (Or.inl rfl))
                first | (rw [← hA, if_pos (by omega)]; rfl) | (rw [← hA, if_neg (by omega), if_pos (by omega)]; show _ = zw (s.2.1 - (zcp (mem 66) (mem 67) 0 0 76) 56); rw [e56]) | (rw [← hA, if_neg (by omega), if_neg (by omega), if_pos (by omega)]) | (rw [← hA, if_neg (by omega), if_neg (by omega), if_neg (by omega)]; show mv = sMoved (mem 65 3) s.1 (mP (zcp (mem 66) (mem 67) 0 0 76)); rw [← em, ← he]; rfl)
            · refine r_aload_n dX6_runs_129 rfl ?_
              refine r_v0 (c_bumpsSince) kX6_234 rfl dX6_runs_130 ?_
              try simp (disch := decide) only [zr_s, zr_n, mR_P hmo, mR_T, mR_G, mR_1, mR_2, mR_3, mR_53, mR_55, mR_56, mR_54]
              refine r_goto (tgt := 147) dX6_runs_133 (by decide) ?_
              refine r_iret dX6_runs_147 ?_
              refine zPM.i ?_ (kM.rf.r (Or.inl rfl))
              first | (rw [← hA, if_pos (by omega)]; rfl) | (rw [← hA, if_neg (by omega), if_pos (by omega)]; show _ = zw (s.2.1 - (zcp (mem 66) (mem 67) 0 0 76) 56); rw [e56]) | (rw [← hA, if_neg (by omega), if_neg (by omega), if_pos (by omega)]) | (rw [← hA, if_neg (by omega), if_neg (by omega), if_neg (by omega)]; show mv = sMoved (mem 65 3) s.1 (mP (zcp (mem 66) (mem 67) 0 0 76)); rw [← em, ← he]; rfl)
          · refine r_aload_n dX6_runs_117 rfl ?_
            refine r_v0 (c_X6_spread hJ) kX6_197 rfl dX6_runs_118 ?_
            try simp (disch := decide) only [zr_s, zr_n, mR_P hmo, mR_T, mR_G, mR_1, mR_2, mR_3, mR_53, mR_55, mR_56, mR_54]
            refine r_goto (tgt := 147) dX6_runs_121 (by decide) ?_
            refine r_iret dX6_runs_147 ?_
            refine zPM.i ?_ (kM.rf.r (Or.inl rfl))
            first | (rw [← hA, if_pos (by omega)]; rfl) | (rw [← hA, if_neg (by omega), if_pos (by omega)]; show _ = zw (s.2.1 - (zcp (mem 66) (mem 67) 0 0 76) 56); rw [e56]) | (rw [← hA, if_neg (by omega), if_neg (by omega), if_pos (by omega)]) | (rw [← hA, if_neg (by omega), if_neg (by omega), if_neg (by omega)]; show mv = sMoved (mem 65 3) s.1 (mP (zcp (mem 66) (mem 67) 0 0 76)); rw [← em, ← he]; rfl)
        · exact absurd (by omega) h71
      | succ k ih =>
        intro x a mv s h0 h1 m0 m1 hpb hmo hr he
        rw [zfor] at he
        refine r_iload dX6_runs_65 rfl ?_
        refine r_aload_n dX6_runs_67 rfl ?_
        refine r_gI (q := 3) rfl fX6_64 rfl (by decide) dX6_runs_68 ?_
        try simp (disch := decide) only [zr_s, zr_n, mR_P hmo, mR_T, mR_G, mR_1, mR_2, mR_3, mR_53, mR_55, mR_56, mR_54]
        refine r_icmp_ge (tgt := 113) dX6_runs_71 (by decide) (fun h71 => ?_) (fun h71 => ?_)
        · exact absurd h71 (by omega)
        · refine r_iload dX6_runs_74 rfl ?_
          refine r_aload_n dX6_runs_76 rfl ?_
          refine r_iload dX6_runs_77 rfl ?_
          refine r_v1 (c_place _ (by omega) (by omega)) kX6_156 rfl dX6_runs_79 ?_
          try simp (disch := decide) only [zr_s, zr_n, mR_P hmo, mR_T, mR_G, mR_1, mR_2, mR_3, mR_53, mR_55, mR_56, mR_54]
          refine r_aload_n dX6_runs_82 rfl ?_
          refine r_getR (q := 66) fX6_7 rfl rfl dX6_runs_83 ?_
          try simp (disch := decide) only [zr_s, zr_n, mR_P hmo, mR_T, mR_G, mR_1, mR_2, mR_3, mR_53, mR_55, mR_56, mR_54]
          refine r_iconst dX6_runs_86 (k := ?_)
          refine r_iload dX6_runs_87 rfl ?_
          refine r_imul dX6_runs_89 ?_
          try rw [zw_id (by omega) (by omega)]
          refine r_iconst dX6_runs_90 (k := ?_)
          refine r_iadd dX6_runs_91 ?_
          try rw [zw_id (by omega) (by omega)]
          refine r_iald rfl (by omega) (by omega) dX6_runs_92 ?_
          try simp (disch := decide) only [zr_s, zr_n, mR_P hmo, mR_T, mR_G, mR_1, mR_2, mR_3, mR_53, mR_55, mR_56, mR_54]
          rw [show mem 66 (2 * x + 1) = mP (mem 66) x from rfl]
          refine r_icmp_eq (tgt := 100) dX6_runs_93 (by decide) (fun h93 => ?_) (fun h93 => ?_)
          · refine r_iconst dX6_runs_100 (k := ?_)
            refine r_s1 (c_flag _ (by decide)) kX6_200 dX6_runs_101 ?_
            try simp (disch := decide) only [zr_s, zr_n, mR_P hmo, mR_T, mR_G, mR_1, mR_2, mR_3, mR_53, mR_55, mR_56, mR_54]
            refine r_iadd dX6_runs_104 ?_
            try rw [zw_id (by omega) (by omega)]
            refine r_istore dX6_runs_105 rfl ?_
            refine r_iinc dX6_runs_107 rfl rfl ?_
            try rw [zw_id (by omega) (by omega)]
            refine r_goto (tgt := 65) dX6_runs_110 (by decide) ?_
            first | exact ih _ _ _ _ (by omega) (by omega) (by omega) (by omega) hpb hmo hr (by rw [if_neg h93] at he; exact he) | exact ih _ _ _ _ (by omega) (by omega) (by omega) (by omega) hpb hmo hr (by rw [if_pos h93] at he; rw [Int.add_zero]; exact he)
          · refine r_iconst dX6_runs_96 (k := ?_)
            refine r_goto (tgt := 101) dX6_runs_97 (by decide) ?_
            refine r_s1 (c_flag _ (by decide)) kX6_200 dX6_runs_101 ?_
            try simp (disch := decide) only [zr_s, zr_n, mR_P hmo, mR_T, mR_G, mR_1, mR_2, mR_3, mR_53, mR_55, mR_56, mR_54]
            refine r_iadd dX6_runs_104 ?_
            try rw [zw_id (by omega) (by omega)]
            refine r_istore dX6_runs_105 rfl ?_
            refine r_iinc dX6_runs_107 rfl rfl ?_
            try rw [zw_id (by omega) (by omega)]
            refine r_goto (tgt := 65) dX6_runs_110 (by decide) ?_
            first | exact ih _ _ _ _ (by omega) (by omega) (by omega) (by omega) hpb hmo hr (by rw [if_neg h93] at he; exact he) | exact ih _ _ _ _ (by omega) (by omega) (by omega) (by omega) hpb hmo hr (by rw [if_pos h93] at he; rw [Int.add_zero]; exact he)
    have loop : ∀ (k : Nat) (x a : Int) (s : zS3), 0 ≤ x → x + k = n → sPB (mem 65 3) s.1 → mOut (zcp (mem 66) (mem 67) 0 0 76) s.1 → zfor (fun _ (a : Int × zS3) => (min a.1 (sSpread (vM (mem 65 3) (zcp (mem 66) (mem 67) 0 0 76)).1 (vStep (vM (mem 65 3) (zcp (mem 66) (mem 67) 0 0 76)) a.2).1), vStep (vM (mem 65 3) (zcp (mem 66) (mem 67) 0 0 76)) a.2)) x k (a, s) = sRuns (vM (mem 65 3) (zcp (mem 66) (mem 67) 0 0 76)) n.toNat → SW l G (zrm 5) RX6 cX6_runs 6 (some .int) (zZ G (zPM (zI A) mem)) 0 0 (fun _ => True) 36 [zR 65, zI n, zI w, zI a, zI 0, zI x] [] (zr mem 67 (mR (zcp (mem 66) (mem 67) 0 0 76) s)) := by
      intro k
      induction k with
      | zero =>
        intro x a s h0 h1 hpb hmo he
        refine r_iload dX6_runs_36 rfl ?_
        refine r_iload_n dX6_runs_38 rfl ?_
        refine r_icmp_ge (tgt := 62) dX6_runs_39 (by decide) (fun h39 => ?_) (fun h39 => ?_)
        · refine r_iconst dX6_runs_62 (k := ?_)
          refine r_istore dX6_runs_63 rfl ?_
          exact fin2 (mem 65 3).toNat _ _ _ _ (by omega) (by omega) (by omega) (by omega) hpb hmo he rfl
        · exact absurd (by omega) h39
      | succ k ih =>
        intro x a s h0 h1 hpb hmo he
        have hJ : mI (zr mem 67 (mR (zcp (mem 66) (mem 67) 0 0 76) s) 65 3) (zr mem 67 (mR (zcp (mem 66) (mem 67) 0 0 76) s) 67) := by
          rw [zr_n (by decide), zr_s]; exact f1.r hmo hpb
        have hmo1 := hmo
        have hmo2 : mOut (zcp (mem 66) (mem 67) 0 0 76) (vStep (vM (mem 65 3) (zcp (mem 66) (mem 67) 0 0 76)) s).1 := sDay_out hn0 hn5 hmo
        have hpb2 : sPB (mem 65 3) (vStep (vM (mem 65 3) (zcp (mem 66) (mem 67) 0 0 76)) s).1 := sDay_bd hn0 hpb
        have hJ2 : mI (zr mem 67 (mR (zcp (mem 66) (mem 67) 0 0 76) (vStep (vM (mem 65 3) (zcp (mem 66) (mem 67) 0 0 76)) s)) 65 3) (zr mem 67 (mR (zcp (mem 66) (mem 67) 0 0 76) (vStep (vM (mem 65 3) (zcp (mem 66) (mem 67) 0 0 76)) s)) 67) := by
          rw [zr_n (by decide), zr_s]; exact f1.r hmo2 hpb2
        rw [zfor] at he
        refine r_iload dX6_runs_36 rfl ?_
        refine r_iload_n dX6_runs_38 rfl ?_
        refine r_icmp_ge (tgt := 62) dX6_runs_39 (by decide) (fun h39 => absurd h39 (by omega)) (fun h39 => ?_)
        refine r_aload_n dX6_runs_42 rfl ?_
        refine r_iconst dX6_runs_43 (k := ?_)
        refine r_w1 (c_dayGoes hJ false) kX6_190 rfl dX6_runs_44 ?_
        try simp (disch := decide) only [zr_s, zr_n, mR_P hmo, mR_T, mR_G, mR_1, mR_2, mR_3, mR_53, mR_55, mR_56, mR_54]
        rw [zr_zr, mR_mR, if_neg (by decide)]
        rw [show sDay (mem 65 3) (mT (zcp (mem 66) (mem 67) 0 0 76)) (mG (zcp (mem 66) (mem 67) 0 0 76)) ((zcp (mem 66) (mem 67) 0 0 76) 53) (m1 (zcp (mem 66) (mem 67) 0 0 76)) (m2 (zcp (mem 66) (mem 67) 0 0 76)) (m3 (zcp (mem 66) (mem 67) 0 0 76)) ((zcp (mem 66) (mem 67) 0 0 76) 55) (s.1, s.2.1, s.2.2) = vStep (vM (mem 65 3) (zcp (mem 66) (mem 67) 0 0 76)) s from rfl]
        have hmo := hmo2
        refine r_iload_n dX6_runs_47 rfl ?_
        refine r_aload_n dX6_runs_48 rfl ?_
        refine r_v0 (c_X6_spread hJ2) kX6_197 rfl dX6_runs_49 ?_
        try simp (disch := decide) only [zr_s, zr_n, mR_P hmo, mR_T, mR_G, mR_1, mR_2, mR_3, mR_53, mR_55, mR_56, mR_54]
        refine r_s2 (c_lesser _ _) kX6_242 dX6_runs_52 ?_
        try simp (disch := decide) only [zr_s, zr_n, mR_P hmo, mR_T, mR_G, mR_1, mR_2, mR_3, mR_53, mR_55, mR_56, mR_54]
        refine r_istore_n dX6_runs_55 rfl ?_
        refine r_iinc dX6_runs_56 rfl rfl ?_
        try rw [zw_id (by omega) (by omega)]
        refine r_goto (tgt := 36) dX6_runs_59 (by decide) ?_
        exact ih _ _ _ (by omega) (by omega) hpb2 hmo2 he
    have fin := loop n.toNat 0 (sSpread (mem 65 3) (mP (zcp (mem 66) (mem 67) 0 0 76))) (vS0 (vM (mem 65 3) (zcp (mem 66) (mem 67) 0 0 76))) (by omega) (by omega) f1.2.2.2.2.1 mOut.s rfl
    have f9 : mR (zcp (mem 66) (mem 67) 0 0 76) (vS0 (vM (mem 65 3) (zcp (mem 66) (mem 67) 0 0 76))) = (zcp (mem 66) (mem 67) 0 0 76) := mR_self
    rw [f9] at fin
    refine r_iload_n dX6_runs_0 rfl ?_
    refine r_s1 (c_isFar _) kX6_239 dX6_runs_1 ?_
    try simp (disch := decide) only [zr_s, zr_n]
    refine r_ifd_eq (tgt := 19) dX6_runs_4 (by decide) (fun h4 => ?_) (fun h4 => ?_)
    · exact absurd hc (by omega)
    · refine r_iload_n dX6_runs_7 rfl ?_
      refine r_i2l dX6_runs_8 ?_
      refine r_lconst dX6_runs_9 rfl (k := ?_)
      refine r_ldc2 nX6_215 dX6_runs_10 (x := 3) (k := ?_)
      refine r_s3 (c_in _ _ _) kX6_69 dX6_runs_13 ?_
      try simp (disch := decide) only [zr_s, zr_n]
      refine r_ifd_ne (tgt := 21) dX6_runs_16 (by decide) (fun h16 => ?_) (fun h16 => ?_)
      · refine r_aload_n dX6_runs_21 rfl ?_
        refine r_w0 (c_starts) kX6_194 rfl dX6_runs_22 ?_
        try simp (disch := decide) only [zr_s, zr_n]
        refine r_aload_n dX6_runs_25 rfl ?_
        refine r_v0 (c_X6_spread (by rw [zr_n (by decide), zr_s]; exact f1)) kX6_197 rfl dX6_runs_26 ?_
        try simp (disch := decide) only [zr_s, zr_n]
        refine r_istore_n dX6_runs_29 rfl ?_
        refine r_iconst dX6_runs_30 (k := ?_)
        refine r_istore dX6_runs_31 rfl ?_
        refine r_iconst dX6_runs_33 (k := ?_)
        refine r_istore dX6_runs_34 rfl ?_
        exact fin
      · exact absurd hc (by omega)
  · rw [if_neg hc]
    refine r_iload_n dX6_runs_0 rfl ?_
    refine r_s1 (c_isFar _) kX6_239 dX6_runs_1 ?_
    try simp (disch := decide) only [zr_s, zr_n]
    refine r_ifd_eq (tgt := 19) dX6_runs_4 (by decide) (fun h4 => ?_) (fun h4 => ?_)
    · refine r_iconst dX6_runs_19 (k := ?_)
      refine r_iret dX6_runs_20 ?_
      exact zPM.i rfl kM.rf
    · refine r_iload_n dX6_runs_7 rfl ?_
      refine r_i2l dX6_runs_8 ?_
      refine r_lconst dX6_runs_9 rfl (k := ?_)
      refine r_ldc2 nX6_215 dX6_runs_10 (x := 3) (k := ?_)
      refine r_s3 (c_in _ _ _) kX6_69 dX6_runs_13 ?_
      try simp (disch := decide) only [zr_s, zr_n]
      refine r_ifd_ne (tgt := 21) dX6_runs_16 (by decide) (fun h16 => ?_) (fun h16 => ?_)
      · exact absurd (by omega) hc
      · refine r_iconst dX6_runs_19 (k := ?_)
        refine r_iret dX6_runs_20 ?_
        exact zPM.i rfl kM.rf
end
