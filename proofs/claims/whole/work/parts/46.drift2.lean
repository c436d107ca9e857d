/-! ===== by a seed: the reference ===== -/
theorem mG_u {c : Int → Int} {k v : Int} (h0 : 0 ≤ k) (h1 : k < 25) : mG (zu c (10 + k) v) = zu (mG c) k v := by
  funext j
  by_cases e : j = k
  · subst e; rw [zu_s]; unfold mG; rw [if_pos ⟨h0, h1⟩, zu_s]
  · rw [zu_n e]
    unfold mG
    by_cases hj : 0 ≤ j ∧ j < 25
    · rw [if_pos hj, if_pos hj, zu_n (by omega)]
    · rw [if_neg hj, if_neg hj]
theorem mP_u {c : Int → Int} {k v n : Int} (h0 : 0 ≤ k) (h5 : n ≤ 5) : PE n (mP (zu c (10 + k) v)) (mP c) := fun i a b => by
  unfold mP
  rw [zu_n (by omega)]
/-- a row like another but for its sulks, places, bumps and day -/
def mLk (c d : Int → Int) : Prop := mT c = mT d ∧ m1 c = m1 d ∧ m2 c = m2 d ∧ m3 c = m3 d ∧ c 53 = d 53 ∧ c 55 = d 55
theorem mLk.u {c d : Int → Int} {k v : Int} (h : mLk c d) (h0 : 0 ≤ k) (h1 : k < 25) : mLk (zu c (10 + k) v) d := by
  obtain ⟨q1, q2, q3, q4, q5, q6⟩ := h
  refine ⟨?_, ?_, ?_, ?_, ?_, ?_⟩
  · rw [← q1]; funext i; unfold mT; split
    · rw [zu_n (by omega)]
    · rfl
  · rw [← q2]; exact m1_o (fun _ _ _ => by omega)
  · rw [← q3]; exact m2_o (fun _ _ _ => by omega)
  · rw [← q4]; exact m3_o (fun _ _ _ => by omega)
  · rw [← q5, zu_n (by omega)]
  · rw [← q6, zu_n (by omega)]
theorem mLk.r {c d : Int → Int} {s : zS3} (h : mLk c d) : mLk (mR c s) d := by
  obtain ⟨q1, q2, q3, q4, q5, q6⟩ := h
  exact ⟨by rw [mR_T, q1], by rw [mR_1, q2], by rw [mR_2, q3], by rw [mR_3, q4], by rw [mR_53, q5], by rw [mR_55, q6]⟩
section
variable {l : Launch} {G : zG} {mem : zM}
set_option maxRecDepth 100000 in
set_option maxHeartbeats 1000000 in
theorem c_X6_drift (hI : mI (mem 65 3) (mem 66)) (sd n w : Int) (hs : zin32 sd) : KX6_drift l G 5 [zR 65, zI sd, zI n, zI w] mem (zPM (zI (if 1 ≤ n ∧ n ≤ 60 ∧ 0 ≤ w ∧ w ≤ 1 then (if mem 65 3 = 0 then -2 else vDrA (vM (mem 65 3) (mem 66)) sd n w) else -1)) mem) := by
  have hn0 := hI.1
  have hn5 := hI.2.1
  obtain ⟨f1, f2, f3⟩ := mStart hI kM.rf
  rw [← f2.drA sd n w]
  have e56 : (zcp (mem 66) (mem 67) 0 0 76) 56 = mem 66 56 := zcp_at (by decide) (by decide)
  have hre : RE (mem 65 3) ((zcp (mem 66) (mem 67) 0 0 76) 53) (m1 (zcp (mem 66) (mem 67) 0 0 76)) (m2 (zcp (mem 66) (mem 67) 0 0 76)) (m3 (zcp (mem 66) (mem 67) 0 0 76)) (m1 (zcp (mem 66) (mem 67) 0 0 76)) (m2 (zcp (mem 66) (mem 67) 0 0 76)) (m3 (zcp (mem 66) (mem 67) 0 0 76)) := fun k a b => by
    obtain ⟨q1, q2, q3, q4, -⟩ := f1.2.2.2.2.2.2 k a b
    exact ⟨rfl, rfl, rfl, q1, q2, q3, q4⟩
  refine CT.of' (own := RX6) (ls0 := [zR 65, zI sd, zI n, zI w, zU, zU, zU, zU, zU]) rfl (by decide +kernel) (Nat.le_of_ble_eq_true rfl) rfl ?_
  by_cases hc : 1 ≤ n ∧ n ≤ 60 ∧ 0 ≤ w ∧ w ≤ 1
  · rw [if_pos hc]
    by_cases hz : mem 65 3 = 0
    · rw [if_pos hz]
      refine r_iload_n dX6_drift_0 rfl ?_
      refine r_i2l dX6_drift_1 ?_
      refine r_lconst dX6_drift_2 rfl (k := ?_)
      refine r_ldc2 nX6_237 dX6_drift_3 (x := 60) (k := ?_)
      refine r_s3 (c_in _ _ _) kX6_69 dX6_drift_6 ?_
      try simp (disch := decide) only [zr_s, zr_n]
      refine r_ifd_eq (tgt := 19) dX6_drift_9 (by decide) (fun h9 => ?_) (fun h9 => ?_)
      · first
          | exact absurd hc (by omega)
          | (have q : ¬ (1 ≤ n ∧ n ≤ 60) := h9; exact absurd hc (by omega))
      · refine r_iload_n dX6_drift_12 rfl ?_
        refine r_s1 (c_isPart _) kX6_251 dX6_drift_13 ?_
        try simp (disch := decide) only [zr_s, zr_n]
        refine r_ifd_ne (tgt := 21) dX6_drift_16 (by decide) (fun h16 => ?_) (fun h16 => ?_)
        · refine r_aload_n dX6_drift_21 rfl ?_
          refine r_gI (q := 3) rfl fX6_64 rfl (by decide) dX6_drift_22 ?_
          try simp (disch := decide) only [zr_s, zr_n]
          refine r_if_ne (tgt := 31) dX6_drift_25 (by decide) (fun h25 => ?_) (fun h25 => ?_)
          · exact absurd hz h25
          · refine r_bipush dX6_drift_28 (k := ?_)
            refine r_iret dX6_drift_30 ?_
            exact zPM.i rfl kM.rf
        · first
            | exact absurd hc (by omega)
            | (have q : ¬ (1 ≤ n ∧ n ≤ 60) := h9; exact absurd hc (by omega))
    · rw [if_neg hz]
      generalize hA : vDrA (vM (mem 65 3) (zcp (mem 66) (mem 67) 0 0 76)) sd n w = A
      have loop : ∀ (k : Nat) (x s : Int) (R : Int → Int) (q : zS3) (v6 v7 v8 : zV), zin32 s → 0 ≤ x → x + k = n → mI (mem 65 3) R → mLk R (zcp (mem 66) (mem 67) 0 0 76) → PE (mem 65 3) (mP R) q.1 → (R 56, R 54) = q.2 → zfor (fun _ q => vDr1 (vM (mem 65 3) (zcp (mem 66) (mem 67) 0 0 76)) q) x k (s, mG R, q) = vDr (vM (mem 65 3) (zcp (mem 66) (mem 67) 0 0 76)) sd n.toNat → SW l G (zrm 5) RX6 cX6_drift 9 (some .int) (zZ G (zPM (zI A) mem)) 0 0 (fun _ => True) 41 [zR 65, zI sd, zI n, zI w, zI s, zI x, v6, v7, v8] [] (zr mem 67 R) := by
        intro k
        induction k with
        | zero =>
          intro x s R q v6 v7 v8 hs h0 h1 hR hL hP hQ he
          have hJ : mI (zr mem 67 R 65 3) (zr mem 67 R 67) := by rw [zr_n (by decide), zr_s]; exact hR
          rw [zfor] at he
          unfold vDrA at hA
          rw [← he] at hA
          have ev : (vS0 (vM (mem 65 3) (zcp (mem 66) (mem 67) 0 0 76))).2.1 = mem 66 56 := e56
          have ew : ((vM (mem 65 3) (zcp (mem 66) (mem 67) 0 0 76))).1 = mem 65 3 := rfl
          rw [ev, ew] at hA
          have q56 : R 56 = q.2.1 := by rw [← hQ]
          refine r_iload dX6_drift_41 rfl ?_
          refine r_iload_n dX6_drift_43 rfl ?_
          refine r_icmp_ge (tgt := 131) dX6_drift_44 (by decide) (fun h44 => ?_) (fun h44 => ?_)
          · refine r_iload_n dX6_drift_131 rfl ?_
            refine r_if_ne (tgt := 142) dX6_drift_132 (by decide) (fun h132 => ?_) (fun h132 => ?_)
            · refine r_aload_n dX6_drift_142 rfl ?_
              refine r_v0 (c_bumpsSince) kX6_234 rfl dX6_drift_143 ?_
              try simp (disch := decide) only [zr_s, zr_n]
              refine r_iret dX6_drift_146 ?_
              refine zPM.i ?_ (kM.rf.r (Or.inl rfl))
              first
                | (rw [if_pos (by omega)] at hA; rw [← hA]; exact sSpread_c hP)
                | (rw [if_neg (by omega)] at hA; rw [← hA, q56])
            · refine r_aload_n dX6_drift_135 rfl ?_
              refine r_v0 (c_X6_spread hJ) kX6_197 rfl dX6_drift_136 ?_
              try simp (disch := decide) only [zr_s, zr_n]
              refine r_goto (tgt := 146) dX6_drift_139 (by decide) ?_
              refine r_iret dX6_drift_146 ?_
              refine zPM.i ?_ (kM.rf.r (Or.inl rfl))
              first
                | (rw [if_pos (by omega)] at hA; rw [← hA]; exact sSpread_c hP)
                | (rw [if_neg (by omega)] at hA; rw [← hA, q56])
          · exact absurd (by omega) h44
        | succ k ih =>
          intro x s R q v6 v7 v8 hs h0 h1 hR hL hP hQ he
          rw [zfor] at he
          obtain ⟨b0, b1⟩ := sGot_b (sNx s)
          have c0 : 0 < mem 65 3 := by omega
          have d0 := Int.emod_nonneg (sGot (sNx s)) (show mem 65 3 ≠ 0 by omega)
          have d1 := Int.emod_lt_of_pos (sGot (sNx s)) c0
          have d2 := Int.emod_nonneg (sGot (sNx s) / 8) (show mem 65 3 ≠ 0 by omega)
          have d3 := Int.emod_lt_of_pos (sGot (sNx s) / 8) c0
          have hs2 : zin32 (sNx s) := zw_in _
          -- the row with its sulk told
          have go : ∀ (R2 : Int → Int) (v6 v7 v8 : zV), mI (mem 65 3) R2 → mLk R2 (zcp (mem 66) (mem 67) 0 0 76) → PE (mem 65 3) (mP R2) q.1 → (R2 56, R2 54) = q.2 → mG R2 = sSg (mem 65 3) (sGot (sNx s)) (mG R) → SW l G (zrm 5) RX6 cX6_drift 9 (some .int) (zZ G (zPM (zI A) mem)) 0 0 (fun _ => True) 120 [zR 65, zI sd, zI n, zI w, zI (sNx s), zI x, v6, v7, v8] [] (zr mem 67 R2) := by
            intro R2 v6 v7 v8 a1 a2 a3 a4 a5
            have hJ : mI (zr mem 67 R2 65 3) (zr mem 67 R2 67) := by rw [zr_n (by decide), zr_s]; exact a1
            obtain ⟨l1, l2, l3, l4, l5, l6⟩ := id a2
            have ed := sDay_c (s := (mP R2, R2 56, R2 54)) (u := q) (t := mT (zcp (mem 66) (mem 67) 0 0 76)) (t' := mT (zcp (mem 66) (mem 67) 0 0 76)) (g := mG R2) (g' := mG R2) (hol := (zcp (mem 66) (mem 67) 0 0 76) 55) hn0 PE.rf (fun _ _ _ _ _ _ _ => rfl) hre a3 a4
            have hmo : mOut R2 (sDay (mem 65 3) (mT R2) (mG R2) (R2 53) (m1 R2) (m2 R2) (m3 R2) (R2 55) (mP R2, R2 56, R2 54)).1 := sDay_out hn0 hn5 mOut.s
            have e1 : vDr1 (vM (mem 65 3) (zcp (mem 66) (mem 67) 0 0 76)) (s, mG R, q) = (sNx s, mG R2, sDay (mem 65 3) (mT (zcp (mem 66) (mem 67) 0 0 76)) (mG R2) ((zcp (mem 66) (mem 67) 0 0 76) 53) (m1 (zcp (mem 66) (mem 67) 0 0 76)) (m2 (zcp (mem 66) (mem 67) 0 0 76)) (m3 (zcp (mem 66) (mem 67) 0 0 76)) ((zcp (mem 66) (mem 67) 0 0 76) 55) q) := by rw [a5]; rfl
            rw [e1] at he
            have fin := fun v6 v7 v8 => ih (x + 1) (sNx s) (mR R2 (sDay (mem 65 3) (mT R2) (mG R2) (R2 53) (m1 R2) (m2 R2) (m3 R2) (R2 55) (mP R2, R2 56, R2 54))) _ v6 v7 v8 hs2 (by omega) (by omega) (a1.r hmo (sDay_bd hn0 a1.2.2.2.2.1)) a2.r (by rw [mR_P hmo, l1, l2, l3, l4, l5, l6]; exact ed.1) (by rw [mR_56, mR_54, l1, l2, l3, l4, l5, l6]; exact ed.2) (by rw [mR_G]; exact he)
            refine r_aload_n dX6_drift_120 rfl ?_
            refine r_iconst dX6_drift_121 (k := ?_)
            refine r_w1 (c_dayGoes hJ false) kX6_190 rfl dX6_drift_122 ?_
            try simp (disch := decide) only [zr_s, zr_n]
            rw [if_neg (by decide), zr_zr]
            refine r_iinc dX6_drift_125 rfl rfl ?_
            try rw [zw_id (by omega) (by omega)]
            refine r_goto (tgt := 41) dX6_drift_128 (by decide) ?_
            exact fin _ _ _
          refine r_iload dX6_drift_41 rfl ?_
          refine r_iload_n dX6_drift_43 rfl ?_
          refine r_icmp_ge (tgt := 131) dX6_drift_44 (by decide) (fun h44 => ?_) (fun h44 => ?_)
          · exact absurd h44 (by omega)
          · refine r_iload dX6_drift_47 rfl ?_
            refine r_ldcw nX6_306 dX6_drift_49 (x := 1103515245) (k := ?_)
            refine r_imul dX6_drift_52 ?_
            refine r_sipush dX6_drift_53 (k := ?_)
            refine r_iadd dX6_drift_56 ?_
            rw [show zw (zw (s * 1103515245) + 12345) = sNx s from rfl]
            refine r_istore dX6_drift_57 rfl ?_
            refine r_iload dX6_drift_59 rfl ?_
            refine r_bipush dX6_drift_61 (k := ?_)
            refine r_ishr dX6_drift_63 ?_
            refine r_sipush dX6_drift_64 (k := ?_)
            refine r_iand dX6_drift_67 ?_
            rw [sGot_s hs2]
            refine r_istore dX6_drift_68 rfl ?_
            refine r_iload dX6_drift_70 rfl ?_
            refine r_aload_n dX6_drift_72 rfl ?_
            refine r_gI (q := 3) rfl fX6_64 rfl (by decide) dX6_drift_73 ?_
            try simp (disch := decide) only [zr_s, zr_n]
            refine r_irem dX6_drift_76 (by omega) ?_
            rw [z_tmod (by omega) (by omega) (by omega)]
            refine r_istore dX6_drift_77 rfl ?_
            refine r_iload dX6_drift_79 rfl ?_
            refine r_bipush dX6_drift_81 (k := ?_)
            refine r_idiv dX6_drift_83 (by omega) ?_
            rw [z_tdiv (by omega) (by omega) (by omega)]
            refine r_aload_n dX6_drift_84 rfl ?_
            refine r_gI (q := 3) rfl fX6_64 rfl (by decide) dX6_drift_85 ?_
            try simp (disch := decide) only [zr_s, zr_n]
            refine r_irem dX6_drift_88 (by omega) ?_
            rw [z_tmod (by omega) (by omega) (by omega)]
            refine r_istore dX6_drift_89 rfl ?_
            refine r_iload dX6_drift_91 rfl ?_
            refine r_iload dX6_drift_93 rfl ?_
            refine r_icmp_eq (tgt := 120) dX6_drift_95 (by decide) (fun h95 => ?_) (fun h95 => ?_)
            · first
                | exact go R _ _ _ hR hL hP hQ (by unfold sSg; rw [if_pos h95])
                | exact go _ _ _ _ (vM_grudge hR (by omega) (by omega) d0 d1 d2 d3).1 (hL.u (by omega) (by omega)) (fun i a b => (mP_u (by omega) hn5 i a b).trans (hP i a b)) (by rw [zu_n (by omega), zu_n (by omega)]; exact hQ) (by unfold sSg; rw [if_neg h95]; exact mG_u (by omega) (by omega))
            · refine r_aload_n dX6_drift_98 rfl ?_
              refine r_getR (q := 67) fX6_13 rfl rfl dX6_drift_99 ?_
              try simp (disch := decide) only [zr_s, zr_n]
              refine r_bipush dX6_drift_102 (k := ?_)
              refine r_iconst dX6_drift_104 (k := ?_)
              refine r_iload dX6_drift_105 rfl ?_
              refine r_imul dX6_drift_107 ?_
              try rw [zw_id (by omega) (by omega)]
              refine r_iadd dX6_drift_108 ?_
              try rw [zw_id (by omega) (by omega)]
              refine r_iload dX6_drift_109 rfl ?_
              refine r_iadd dX6_drift_111 ?_
              try rw [zw_id (by omega) (by omega)]
              rw [show 10 + 5 * (sGot (sNx s) % mem 65 3) + sGot (sNx s) / 8 % mem 65 3 = 10 + (5 * (sGot (sNx s) % mem 65 3) + sGot (sNx s) / 8 % mem 65 3) by omega]
              refine r_iload dX6_drift_112 rfl ?_
              refine r_bipush dX6_drift_114 (k := ?_)
              refine r_idiv dX6_drift_116 (by omega) ?_
              rw [z_tdiv (by omega) (by omega) (by omega)]
              refine r_iconst dX6_drift_117 (k := ?_)
              refine r_irem dX6_drift_118 (by omega) ?_
              rw [z_tmod (by omega) (by omega) (by omega)]
              refine r_iast rfl (by omega) (by omega) dX6_drift_119 ?_
              rw [zs_zr]
              first
                | exact go R _ _ _ hR hL hP hQ (by unfold sSg; rw [if_pos h95])
                | exact go _ _ _ _ (vM_grudge hR (by omega) (by omega) d0 d1 d2 d3).1 (hL.u (by omega) (by omega)) (fun i a b => (mP_u (by omega) hn5 i a b).trans (hP i a b)) (by rw [zu_n (by omega), zu_n (by omega)]; exact hQ) (by unfold sSg; rw [if_neg h95]; exact mG_u (by omega) (by omega))
      have fin := fun v6 v7 v8 => loop n.toNat 0 sd (zcp (mem 66) (mem 67) 0 0 76) (vS0 (vM (mem 65 3) (zcp (mem 66) (mem 67) 0 0 76))) v6 v7 v8 hs (by omega) (by omega) f1 ⟨rfl, rfl, rfl, rfl, rfl, rfl⟩ PE.rf rfl rfl
      refine r_iload_n dX6_drift_0 rfl ?_
      refine r_i2l dX6_drift_1 ?_
      refine r_lconst dX6_drift_2 rfl (k := ?_)
      refine r_ldc2 nX6_237 dX6_drift_3 (x := 60) (k := ?_)
      refine r_s3 (c_in _ _ _) kX6_69 dX6_drift_6 ?_
      refine r_ifd_eq (tgt := 19) dX6_drift_9 (by decide) (fun h9 => ?_) (fun h9 => ?_)
      · first
          | exact absurd hc (by omega)
          | (have q : ¬ (1 ≤ n ∧ n ≤ 60) := h9; exact absurd hc (by omega))
      · refine r_iload_n dX6_drift_12 rfl ?_
        refine r_s1 (c_isPart _) kX6_251 dX6_drift_13 ?_
        refine r_ifd_ne (tgt := 21) dX6_drift_16 (by decide) (fun h16 => ?_) (fun h16 => ?_)
        · refine r_aload_n dX6_drift_21 rfl ?_
          refine r_gI (q := 3) rfl fX6_64 rfl (by decide) dX6_drift_22 ?_
          refine r_if_ne (tgt := 31) dX6_drift_25 (by decide) (fun h25 => ?_) (fun h25 => ?_)
          · refine r_iload_n dX6_drift_31 rfl ?_
            refine r_istore dX6_drift_32 rfl ?_
            refine r_aload_n dX6_drift_34 rfl ?_
            refine r_w0 (c_starts) kX6_194 rfl dX6_drift_35 ?_
            refine r_iconst dX6_drift_38 (k := ?_)
            refine r_istore dX6_drift_39 rfl ?_
            exact fin _ _ _
          · exact absurd h25 hz
        · first
            | exact absurd hc (by omega)
            | (have q : ¬ (1 ≤ n ∧ n ≤ 60) := h9; exact absurd hc (by omega))
  · rw [if_neg hc]
    refine r_iload_n dX6_drift_0 rfl ?_
    refine r_i2l dX6_drift_1 ?_
    refine r_lconst dX6_drift_2 rfl (k := ?_)
    refine r_ldc2 nX6_237 dX6_drift_3 (x := 60) (k := ?_)
    refine r_s3 (c_in _ _ _) kX6_69 dX6_drift_6 ?_
    refine r_ifd_eq (tgt := 19) dX6_drift_9 (by decide) (fun h9 => ?_) (fun h9 => ?_)
    · refine r_iconst dX6_drift_19 (k := ?_)
      refine r_iret dX6_drift_20 ?_
      exact zPM.i rfl kM.rf
    · refine r_iload_n dX6_drift_12 rfl ?_
      refine r_s1 (c_isPart _) kX6_251 dX6_drift_13 ?_
      refine r_ifd_ne (tgt := 21) dX6_drift_16 (by decide) (fun h16 => ?_) (fun h16 => ?_)
      · exact absurd (by have q : 1 ≤ n ∧ n ≤ 60 := h9; omega) hc
      · refine r_iconst dX6_drift_19 (k := ?_)
        refine r_iret dX6_drift_20 ?_
        exact zPM.i rfl kM.rf
end
