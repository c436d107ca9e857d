/-! ===== the class: days ahead, and the calls that change the firth ===== -/
abbrev zS3 : Type := (Int → Int) × Int × Int
def vStep : zVw → zS3 → zS3 := fun (n, t, g, r, e1, e2, ln, hol, _, _, _) s => sDay n t g r e1 e2 ln hol s
def vS0 : zVw → zS3 := fun (_, _, _, _, _, _, _, _, p, bu, dy) => (p, bu, dy)
def sWi (W : zVw) (v : Int) : Nat → Int → zS3 → Int
  | 0, _, _ => -4
  | k + 1, d, s => if sSpread W.1 s.1 ≤ v then d else sWi W v k (d + 1) (vStep W s)
def sRuns (W : zVw) (n : Nat) : Int × zS3 := zfor (fun _ (a : Int × zS3) => (min a.1 (sSpread W.1 (vStep W a.2).1), vStep W a.2)) 0 n (sSpread W.1 (vS0 W).1, vS0 W)
def sRunsA (W : zVw) (n w : Int) : Int := if w = 0 then sSpread W.1 (sRuns W n.toNat).2.1 else if w = 1 then zw ((sRuns W n.toNat).2.2.1 - (vS0 W).2.1) else if w = 2 then (sRuns W n.toNat).1 else sMoved W.1 (sRuns W n.toNat).2.1 (vS0 W).1
theorem VEQ.s0 {W V : zVw} (h : VEQ W V) : W.1 = V.1 ∧ PE W.1 (vS0 W).1 (vS0 V).1 ∧ (vS0 W).2 = (vS0 V).2 := ⟨h.1, h.2.2.2.2.2.2.1, by
  obtain ⟨n, t, g, r, e1, e2, ln, hol, p, bu, dy⟩ := W
  obtain ⟨n', t', g', r', f1, f2, fl, hol', q, bu', dy'⟩ := V
  obtain ⟨a1, a2, a3, a4, a5, a6, a7, a8, a9, a10, a11⟩ := h
  subst a8 a9
  rfl⟩
theorem VEQ.step {W V : zVw} (h : VEQ W V) {s u : zS3} (h1 : PE W.1 s.1 u.1) (h2 : s.2 = u.2) : PE W.1 (vStep W s).1 (vStep V u).1 ∧ (vStep W s).2 = (vStep V u).2 := by
  obtain ⟨n, t, g, r, e1, e2, ln, hol, p, bu, dy⟩ := W
  obtain ⟨n', t', g', r', f1, f2, fl, hol', q, bu', dy'⟩ := V
  obtain ⟨a1, a2, a3, a4, a5, a6, a7, a8, a9, a10, a11⟩ := h
  subst a1 a4 a6 a8 a9
  exact sDay_c a10 a2 a3 a5 h1 h2
theorem VEQ.wi {W V : zVw} (h : VEQ W V) (v : Int) : ∀ (k : Nat) (d : Int) (s u : zS3), PE W.1 s.1 u.1 → s.2 = u.2 → sWi W v k d s = sWi V v k d u
  | 0, _, _, _, _, _ => rfl
  | k + 1, d, s, u, h1, h2 => by
    rw [sWi, sWi, ← h.s0.1, sSpread_c h1]
    obtain ⟨h3, h4⟩ := h.step h1 h2
    rw [VEQ.wi h v k (d + 1) _ _ h3 h4]
theorem VEQ.runs {W V : zVw} (h : VEQ W V) (n : Nat) : (sRuns W n).1 = (sRuns V n).1 ∧ PE W.1 (sRuns W n).2.1 (sRuns V n).2.1 ∧ (sRuns W n).2.2 = (sRuns V n).2.2 := by
  obtain ⟨h0, h1, h2⟩ := h.s0
  unfold sRuns
  refine zfor_rel (P := fun (a c : Int × zS3) => a.1 = c.1 ∧ PE W.1 a.2.1 c.2.1 ∧ a.2.2 = c.2.2) n 0 _ _ ⟨by rw [← h0]; exact sSpread_c h1, h1, h2⟩ (fun j a c _ _ ⟨a1, a2, a3⟩ => ?_)
  obtain ⟨b1, b2⟩ := h.step a2 a3
  exact ⟨by rw [a1, ← h0, sSpread_c b1], b1, b2⟩
theorem sMoved_c {n : Int} {p q p' q' : Int → Int} (h : PE n p p') (h2 : PE n q q') : sMoved n p q = sMoved n p' q' := by
  unfold sMoved
  exact zfor_congr _ _ _ (fun j a h3 h4 => by rw [h j h3 (by omega), h2 j h3 (by omega)])
theorem VEQ.runsA {W V : zVw} (h : VEQ W V) (n w : Int) : sRunsA W n w = sRunsA V n w := by
  obtain ⟨h0, h1, h2⟩ := h.s0
  obtain ⟨r1, r2, r3⟩ := h.runs n.toNat
  unfold sRunsA
  rw [r1, r3, h2, ← h0, sSpread_c r2, sMoved_c r2 h1]
theorem zFy_10' {m : zM} {s : zS3} : zFy m 8 s 10 = s.1 := zFy_2 (b := 8)
section
variable {l : Launch} {G : zG} {mem : zM}
set_option maxRecDepth 100000 in
theorem c_X5_ahead (hI : zFI mem 1) (i n : Int) : KX5_ahead l G 5 [zR 0, zI i, zI n] mem (zPC (zI (if 0 ≤ i ∧ i < mem 1 0 ∧ 0 ≤ n ∧ n ≤ 60 then (vDays (vC mem 1) n.toNat).1 i else -1)) mem) := by
  obtain ⟨hn0, hn5, hr0, hr6, hp, hg, hr⟩ := zFI1 hI
  refine CT.of' (own := RX5) (ls0 := [zR 0, zI i, zI n, zU]) rfl (by decide +kernel) (Nat.le_of_ble_eq_true rfl) rfl ?_
  obtain ⟨f1, f2, f3⟩ := zBec_t hI kC.rf
  by_cases hc : 0 ≤ i ∧ i < mem 1 0 ∧ 0 ≤ n ∧ n ≤ 60
  · rw [if_pos hc]
    refine r_aload_n dX5_ahead_0 rfl ?_
    refine r_iload_n dX5_ahead_1 rfl ?_
    refine r_v1 (c_X5_isIsle _) kX5_111 rfl dX5_ahead_2 ?_
    refine r_ifd_eq (tgt := 18) dX5_ahead_5 (by decide) (fun h5 => ?_) (fun h5 => ?_)
    · exact absurd hc (by omega)
    · refine r_iload_n dX5_ahead_8 rfl ?_
      refine r_iconst dX5_ahead_9 (k := ?_)
      refine r_bipush dX5_ahead_10 (k := ?_)
      refine r_s3 (c_isWithin _ _ _) kX5_156 dX5_ahead_12 ?_
      refine r_ifd_ne (tgt := 20) dX5_ahead_15 (by decide) (fun h15 => ?_) (fun h15 => ?_)
      · refine r_aload_n dX5_ahead_20 rfl ?_
        refine r_v0 (c_asItIs) kX5_177 rfl dX5_ahead_21 ?_
        refine r_astore_n dX5_ahead_24 rfl ?_
        refine r_aload_n dX5_ahead_25 rfl ?_
        refine r_iload_n dX5_ahead_26 rfl ?_
        refine r_w1 (c_X0_passDays hF8 f1 _ (by omega) (by omega)) kX5_173 rfl dX5_ahead_27 ?_
        refine r_aload_n dX5_ahead_30 rfl ?_
        refine r_getR (q := 10) fX5_118 rfl rfl dX5_ahead_31 ?_
        refine r_iload_n dX5_ahead_34 rfl ?_
        refine r_iald rfl (by omega) (by omega) dX5_ahead_35 ?_
        rw [zFy_10']
        refine r_iret dX5_ahead_36 ?_
        refine zPC.i ?_ f3.y
        have q := (f2.days n.toNat).2.1 i hc.1 (show i < zBec mem 8 1 8 0 by rw [zBec_b, if_pos (by omega)]; exact hc.2.1)
        exact q
      · exact absurd hc (by omega)
  · rw [if_neg hc]
    refine r_aload_n dX5_ahead_0 rfl ?_
    refine r_iload_n dX5_ahead_1 rfl ?_
    refine r_v1 (c_X5_isIsle _) kX5_111 rfl dX5_ahead_2 ?_
    refine r_ifd_eq (tgt := 18) dX5_ahead_5 (by decide) (fun h5 => ?_) (fun h5 => ?_)
    · refine r_iconst dX5_ahead_18 (k := ?_)
      refine r_iret dX5_ahead_19 ?_
      exact zPC.i rfl kC.rf
    · refine r_iload_n dX5_ahead_8 rfl ?_
      refine r_iconst dX5_ahead_9 (k := ?_)
      refine r_bipush dX5_ahead_10 (k := ?_)
      refine r_s3 (c_isWithin _ _ _) kX5_156 dX5_ahead_12 ?_
      refine r_ifd_ne (tgt := 20) dX5_ahead_15 (by decide) (fun h15 => ?_) (fun h15 => ?_)
      · exact absurd (by omega) hc
      · refine r_iconst dX5_ahead_18 (k := ?_)
        refine r_iret dX5_ahead_19 ?_
        exact zPC.i rfl kC.rf
set_option maxRecDepth 100000 in
theorem c_X5_within (hI : zFI mem 1) (v : Int) : KX5_within l G 4 [zR 0, zI v] mem (zPC (zI (if 0 ≤ v ∧ v ≤ 99 then sWi (vC mem 1) v 61 0 (vS0 (vC mem 1)) else -1)) mem) := by
  obtain ⟨hn0, hn5, hr0, hr6, hp, hg, hr⟩ := zFI1 hI
  obtain ⟨f1, f2, f3⟩ := zBec_t hI kC.rf
  rw [← f2.wi v 61 0 (vS0 (vC (zBec mem 8 1) 8)) (vS0 (vC mem 1)) f2.s0.2.1 f2.s0.2.2]
  refine CT.of' (own := RX5) (ls0 := [zR 0, zI v, zU, zU]) rfl (by decide +kernel) (Nat.le_of_ble_eq_true rfl) rfl ?_
  by_cases hc : 0 ≤ v ∧ v ≤ 99
  · rw [if_pos hc]
    have loop : ∀ (k : Nat) (x : Int) (s : zS3), 0 ≤ x → x + k = 61 → sPB (zBec mem 8 1 8 0) s.1 → sWi (vC (zBec mem 8 1) 8) v k x s = sWi (vC (zBec mem 8 1) 8) v 61 0 (vS0 (vC (zBec mem 8 1) 8)) → SW l G (zrm 4) RX5 cX5_within 4 (some .int) (zZ G (zPC (zI (sWi (vC (zBec mem 8 1) 8) v 61 0 (vS0 (vC (zBec mem 8 1) 8)))) mem)) 0 0 (fun _ => True) 19 [zR 0, zI v, zR 8, zI x] [] (zFy (zBec mem 8 1) 8 s) := by
      intro k
      induction k with
      | zero =>
        intro x s h0 h1 hpb he
        refine r_iload_n dX5_within_19 rfl ?_
        refine r_bipush dX5_within_20 (k := ?_)
        refine r_icmp_gt (tgt := 45) dX5_within_22 (by decide) (fun h22 => ?_) (fun h22 => ?_)
        · refine r_bipush dX5_within_45 (k := ?_)
          refine r_iret dX5_within_47 ?_
          exact zPC.i (by rw [← he]; rfl) f3.y
        · exact absurd (by omega) h22
      | succ k ih =>
        intro x s h0 h1 hpb he
        have f9 : sSpread (vC (zBec mem 8 1) 8).1 s.1 = sSpread (zBec mem 8 1 8 0) s.1 := rfl
        rw [sWi, f9] at he
        refine r_iload_n dX5_within_19 rfl ?_
        refine r_bipush dX5_within_20 (k := ?_)
        refine r_icmp_gt (tgt := 45) dX5_within_22 (by decide) (fun h22 => ?_) (fun h22 => ?_)
        · exact absurd h22 (by omega)
        · refine r_aload_n dX5_within_25 rfl ?_
          refine r_v0 (c_X0_spread hF8 (f1.y hpb)) kX5_107 rfl dX5_within_26 ?_
          try simp only [zFy_2, zFy_b0, zFy_b4, zFy_b8, zFy_1, zFy_3, zFy_4, zFy_5, zFy_6, zFy_10, zFy_9, zFy_y, zFy_10']
          refine r_iload_n dX5_within_29 rfl ?_
          refine r_icmp_gt (tgt := 35) dX5_within_30 (by decide) (fun h30 => ?_) (fun h30 => ?_)
          · refine r_aload_n dX5_within_35 rfl ?_
            refine r_w0 (c_X0_passDay' hF8 (f1.y hpb)) kX5_181 rfl dX5_within_36 ?_
            try simp only [zFy_2, zFy_b0, zFy_b4, zFy_b8, zFy_1, zFy_3, zFy_4, zFy_5, zFy_6, zFy_10, zFy_9, zFy_y, zFy_10']
            refine r_iinc dX5_within_39 rfl rfl ?_
            try rw [zw_id (by omega) (by omega)]
            refine r_goto (tgt := 19) dX5_within_42 (by decide) ?_
            exact ih _ _ (by omega) (by omega) (sDay_bd f1.1 hpb) (by rw [if_neg (by omega)] at he; exact he)
          · refine r_iload_n dX5_within_33 rfl ?_
            refine r_iret dX5_within_34 ?_
            exact zPC.i (by rw [← he, if_pos (by omega)]) f3.y
    have fin := loop 61 0 (vS0 (vC (zBec mem 8 1) 8)) (by omega) (by omega) f1.2.2.2.2.1 rfl
    have f9 : zFy (zBec mem 8 1) 8 (vS0 (vC (zBec mem 8 1) 8)) = zBec mem 8 1 := zFy_self
    rw [f9] at fin
    refine r_iload_n dX5_within_0 rfl ?_
    refine r_iconst dX5_within_1 (k := ?_)
    refine r_bipush dX5_within_2 (k := ?_)
    refine r_s3 (c_isWithin _ _ _) kX5_156 dX5_within_4 ?_
    try simp only [zFy_2, zFy_b0, zFy_b4, zFy_b8, zFy_1, zFy_3, zFy_4, zFy_5, zFy_6, zFy_10, zFy_9, zFy_y, zFy_10']
    refine r_ifd_ne (tgt := 12) dX5_within_7 (by decide) (fun h7 => ?_) (fun h7 => ?_)
    · refine r_aload_n dX5_within_12 rfl ?_
      refine r_v0 (c_asItIs) kX5_177 rfl dX5_within_13 ?_
      try simp only [zFy_2, zFy_b0, zFy_b4, zFy_b8, zFy_1, zFy_3, zFy_4, zFy_5, zFy_6, zFy_10, zFy_9, zFy_y, zFy_10']
      refine r_astore_n dX5_within_16 rfl ?_
      refine r_iconst dX5_within_17 (k := ?_)
      refine r_istore_n dX5_within_18 rfl ?_
      exact fin
    · exact absurd hc (by omega)
  · rw [if_neg hc]
    refine r_iload_n dX5_within_0 rfl ?_
    refine r_iconst dX5_within_1 (k := ?_)
    refine r_bipush dX5_within_2 (k := ?_)
    refine r_s3 (c_isWithin _ _ _) kX5_156 dX5_within_4 ?_
    try simp only [zFy_2, zFy_b0, zFy_b4, zFy_b8, zFy_1, zFy_3, zFy_4, zFy_5, zFy_6, zFy_10, zFy_9, zFy_y, zFy_10']
    refine r_ifd_ne (tgt := 12) dX5_within_7 (by decide) (fun h7 => ?_) (fun h7 => ?_)
    · exact absurd (by omega) hc
    · refine r_iconst dX5_within_10 (k := ?_)
      refine r_iret dX5_within_11 ?_
      exact zPC.i rfl kC.rf
set_option maxRecDepth 100000 in
theorem c_X5_runs (hI : zFI mem 1) (n w : Int) : KX5_runs l G 4 [zR 0, zI n, zI w] mem (zPC (zI (if 0 ≤ n ∧ n ≤ 60 ∧ 0 ≤ w ∧ w ≤ 3 then sRunsA (vC mem 1) n w else -1)) mem) := by
  obtain ⟨hn0, hn5, hr0, hr6, hp, hg, hr⟩ := zFI1 hI
  obtain ⟨f1, f2, f3⟩ := zBec_t hI kC.rf
  rw [← f2.runsA n w]
  have e80 : zBec mem 8 1 8 0 = mem 1 0 := by rw [zBec_b, if_pos (by omega)]
  have eb : zBec mem 8 1 8 10 = mem 1 10 := by rw [zBec_b, if_pos (by omega)]
  have em : ∀ p, sMoved (mem 1 0) p (mem 3) = sMoved (mem 1 0) p (zBec mem 8 1 10) := fun p => sMoved_c PE.rf (fun i h0 h1 => by
    have := f2.s0.2.1 i h0 (show i < zBec mem 8 1 8 0 by rw [e80]; exact h1)
    exact this.symm)
  refine CT.of' (own := RX5) (ls0 := [zR 0, zI n, zI w, zU, zU, zU]) rfl (by decide +kernel) (Nat.le_of_ble_eq_true rfl) rfl ?_
  by_cases hc : 0 ≤ n ∧ n ≤ 60 ∧ 0 ≤ w ∧ w ≤ 3
  · rw [if_pos hc]
    generalize hA : sRunsA (vC (zBec mem 8 1) 8) n w = A
    have loop : ∀ (k : Nat) (x a : Int) (s : zS3), 0 ≤ x → x + k = n → sPB (zBec mem 8 1 8 0) s.1 → zfor (fun _ (a : Int × zS3) => (min a.1 (sSpread (vC (zBec mem 8 1) 8).1 (vStep (vC (zBec mem 8 1) 8) a.2).1), vStep (vC (zBec mem 8 1) 8) a.2)) x k (a, s) = sRuns (vC (zBec mem 8 1) 8) n.toNat → SW l G (zrm 4) RX5 cX5_runs 6 (some .int) (zZ G (zPC (zI A) mem)) 0 0 (fun _ => True) 35 [zR 0, zI n, zI w, zR 8, zI a, zI x] [] (zFy (zBec mem 8 1) 8 s) := by
      intro k
      induction k with
      | zero =>
        intro x a s h0 h1 hpb he
        rw [zfor] at he
        unfold sRunsA at hA
        rw [← he] at hA
        refine r_iload dX5_runs_35 rfl ?_
        refine r_iload_n dX5_runs_37 rfl ?_
        refine r_icmp_ge (tgt := 62) dX5_runs_38 (by decide) (fun h38 => ?_) (fun h38 => absurd (by omega) h38)
        refine r_iload_n dX5_runs_62 rfl ?_
        rcases (show w = 0 ∨ w = 1 ∨ w = 2 ∨ w = 3 by omega) with hw | hw | hw | hw
        · subst hw
          refine r_tswIn (tgt := 88) dX5_runs_63 (by decide) (by rfl) (by decide) ?_
          refine r_aload_n dX5_runs_88 rfl ?_
          refine r_v0 (c_X0_spread hF8 (f1.y hpb)) kX5_107 rfl dX5_runs_89 ?_
          try simp only [zFy_2, zFy_b0, zFy_b4, zFy_b8, zFy_1, zFy_3, zFy_4, zFy_5, zFy_6, zFy_10, zFy_9, zFy_y, zFy_10']
          refine r_iret dX5_runs_92 ?_
          exact zPC.i (by rw [← hA]; rfl) f3.y
        · subst hw
          refine r_tswIn (tgt := 93) dX5_runs_63 (by decide) (by rfl) (by decide) ?_
          have e1 : zFy (zBec mem 8 1) 8 s 1 10 = mem 1 10 := by rw [zFy_o (by decide) (by decide), zBec_o (by omega)]
          refine r_aload_n dX5_runs_93 rfl ?_
          refine r_gI (q := 10) rfl fX5_104 rfl (by decide) dX5_runs_94 ?_
          try simp only [zFy_2, zFy_b0, zFy_b4, zFy_b8, zFy_1, zFy_3, zFy_4, zFy_5, zFy_6, zFy_10, zFy_9, zFy_y, zFy_10']
          refine r_aload_n dX5_runs_97 rfl ?_
          refine r_getR (q := 1) fX5_10 rfl rfl dX5_runs_98 ?_
          try simp only [zFy_2, zFy_b0, zFy_b4, zFy_b8, zFy_1, zFy_3, zFy_4, zFy_5, zFy_6, zFy_10, zFy_9, zFy_y, zFy_10']
          refine r_gI (q := 10) rfl fX5_104 rfl (by decide) dX5_runs_101 ?_
          try simp only [zFy_2, zFy_b0, zFy_b4, zFy_b8, zFy_1, zFy_3, zFy_4, zFy_5, zFy_6, zFy_10, zFy_9, zFy_y, zFy_10']
          refine r_isub dX5_runs_104 ?_
          refine r_iret dX5_runs_105 ?_
          exact zPC.i (by rw [← hA, e1, ← eb]; rfl) f3.y
        · subst hw
          refine r_tswIn (tgt := 106) dX5_runs_63 (by decide) (by rfl) (by decide) ?_
          refine r_iload dX5_runs_106 rfl ?_
          refine r_iret dX5_runs_108 ?_
          exact zPC.i (by rw [← hA]; rfl) f3.y
        · subst hw
          refine r_tswOut (tgt := 109) dX5_runs_63 (by decide) (by decide) ?_
          have e3 : zFy (zBec mem 8 1) 8 s 3 = mem 3 := by rw [zFy_o (by decide) (by decide), zBec_o (by omega)]
          refine r_aload_n dX5_runs_109 rfl ?_
          refine r_aload_n dX5_runs_110 rfl ?_
          refine r_getR (q := 1) fX5_10 rfl rfl dX5_runs_111 ?_
          try simp only [zFy_2, zFy_b0, zFy_b4, zFy_b8, zFy_1, zFy_3, zFy_4, zFy_5, zFy_6, zFy_10, zFy_9, zFy_y, zFy_10']
          refine r_v1 (c_X0_movedFrom hF8 hF1 (by rw [zFy_b0]; exact f1.1) (by rw [zFy_b0]; exact f1.2.1)) kX5_187 rfl dX5_runs_114 ?_
          try simp only [zFy_2, zFy_b0, zFy_b4, zFy_b8, zFy_1, zFy_3, zFy_4, zFy_5, zFy_6, zFy_10, zFy_9, zFy_y, zFy_10']
          refine r_iret dX5_runs_117 ?_
          refine zPC.i ?_ f3.y
          rw [← hA, e80]
          show sMoved (mem 1 0) s.1 (zFy (zBec mem 8 1) 8 s 3) = _
          rw [e3, em]
          show _ = sMoved (zBec mem 8 1 8 0) s.1 (zBec mem 8 1 10)
          rw [e80]
      | succ k ih =>
        intro x a s h0 h1 hpb he
        rw [zfor] at he
        refine r_iload dX5_runs_35 rfl ?_
        refine r_iload_n dX5_runs_37 rfl ?_
        refine r_icmp_ge (tgt := 62) dX5_runs_38 (by decide) (fun h38 => ?_) (fun h38 => ?_)
        · exact absurd h38 (by omega)
        · refine r_aload_n dX5_runs_41 rfl ?_
          refine r_w0 (c_X0_passDay' hF8 (f1.y hpb)) kX5_181 rfl dX5_runs_42 ?_
          try simp only [zFy_2, zFy_b0, zFy_b4, zFy_b8, zFy_1, zFy_3, zFy_4, zFy_5, zFy_6, zFy_10, zFy_9, zFy_y, zFy_10']
          refine r_iload dX5_runs_45 rfl ?_
          refine r_aload_n dX5_runs_47 rfl ?_
          refine r_v0 (c_X0_spread hF8 (f1.y (sDay_bd f1.1 hpb))) kX5_107 rfl dX5_runs_48 ?_
          try simp only [zFy_2, zFy_b0, zFy_b4, zFy_b8, zFy_1, zFy_3, zFy_4, zFy_5, zFy_6, zFy_10, zFy_9, zFy_y, zFy_10']
          refine r_mmin kX5_184 dX5_runs_51 ?_
          try simp only [zFy_2, zFy_b0, zFy_b4, zFy_b8, zFy_1, zFy_3, zFy_4, zFy_5, zFy_6, zFy_10, zFy_9, zFy_y, zFy_10']
          refine r_istore dX5_runs_54 rfl ?_
          refine r_iinc dX5_runs_56 rfl rfl ?_
          try rw [zw_id (by omega) (by omega)]
          refine r_goto (tgt := 35) dX5_runs_59 (by decide) ?_
          exact ih _ _ _ (by omega) (by omega) (sDay_bd f1.1 hpb) he
    have fin := loop n.toNat 0 (sSpread (zBec mem 8 1 8 0) (zBec mem 8 1 (8 + 2))) (vS0 (vC (zBec mem 8 1) 8)) (by omega) (by omega) f1.2.2.2.2.1 rfl
    have f9 : zFy (zBec mem 8 1) 8 (vS0 (vC (zBec mem 8 1) 8)) = zBec mem 8 1 := zFy_self
    rw [f9] at fin
    refine r_iload_n dX5_runs_0 rfl ?_
    refine r_iconst dX5_runs_1 (k := ?_)
    refine r_bipush dX5_runs_2 (k := ?_)
    refine r_s3 (c_isWithin _ _ _) kX5_156 dX5_runs_4 ?_
    try simp only [zFy_2, zFy_b0, zFy_b4, zFy_b8, zFy_1, zFy_3, zFy_4, zFy_5, zFy_6, zFy_10, zFy_9, zFy_y, zFy_10']
    refine r_ifd_eq (tgt := 19) dX5_runs_7 (by decide) (fun h7 => ?_) (fun h7 => ?_)
    · exact absurd hc (by omega)
    · refine r_iload_n dX5_runs_10 rfl ?_
      refine r_iconst dX5_runs_11 (k := ?_)
      refine r_iconst dX5_runs_12 (k := ?_)
      refine r_s3 (c_isWithin _ _ _) kX5_156 dX5_runs_13 ?_
      try simp only [zFy_2, zFy_b0, zFy_b4, zFy_b8, zFy_1, zFy_3, zFy_4, zFy_5, zFy_6, zFy_10, zFy_9, zFy_y, zFy_10']
      refine r_ifd_ne (tgt := 21) dX5_runs_16 (by decide) (fun h16 => ?_) (fun h16 => ?_)
      · refine r_aload_n dX5_runs_21 rfl ?_
        refine r_v0 (c_asItIs) kX5_177 rfl dX5_runs_22 ?_
        try simp only [zFy_2, zFy_b0, zFy_b4, zFy_b8, zFy_1, zFy_3, zFy_4, zFy_5, zFy_6, zFy_10, zFy_9, zFy_y, zFy_10']
        refine r_astore_n dX5_runs_25 rfl ?_
        refine r_aload_n dX5_runs_26 rfl ?_
        refine r_v0 (c_X0_spread hF8 f1) kX5_107 rfl dX5_runs_27 ?_
        try simp only [zFy_2, zFy_b0, zFy_b4, zFy_b8, zFy_1, zFy_3, zFy_4, zFy_5, zFy_6, zFy_10, zFy_9, zFy_y, zFy_10']
        refine r_istore dX5_runs_30 rfl ?_
        refine r_iconst dX5_runs_32 (k := ?_)
        refine r_istore dX5_runs_33 rfl ?_
        exact fin
      · exact absurd hc (by omega)
  · rw [if_neg hc]
    refine r_iload_n dX5_runs_0 rfl ?_
    refine r_iconst dX5_runs_1 (k := ?_)
    refine r_bipush dX5_runs_2 (k := ?_)
    refine r_s3 (c_isWithin _ _ _) kX5_156 dX5_runs_4 ?_
    try simp only [zFy_2, zFy_b0, zFy_b4, zFy_b8, zFy_1, zFy_3, zFy_4, zFy_5, zFy_6, zFy_10, zFy_9, zFy_y, zFy_10']
    refine r_ifd_eq (tgt := 19) dX5_runs_7 (by decide) (fun h7 => ?_) (fun h7 => ?_)
    · refine r_iconst dX5_runs_19 (k := ?_)
      refine r_iret dX5_runs_20 ?_
      exact zPC.i rfl kC.rf
    · refine r_iload_n dX5_runs_10 rfl ?_
      refine r_iconst dX5_runs_11 (k := ?_)
      refine r_iconst dX5_runs_12 (k := ?_)
      refine r_s3 (c_isWithin _ _ _) kX5_156 dX5_runs_13 ?_
      try simp only [zFy_2, zFy_b0, zFy_b4, zFy_b8, zFy_1, zFy_3, zFy_4, zFy_5, zFy_6, zFy_10, zFy_9, zFy_y, zFy_10']
      refine r_ifd_ne (tgt := 21) dX5_runs_16 (by decide) (fun h16 => ?_) (fun h16 => ?_)
      · exact absurd (by omega) hc
      · refine r_iconst dX5_runs_19 (k := ?_)
        refine r_iret dX5_runs_20 ?_
        exact zPC.i rfl kC.rf
end
