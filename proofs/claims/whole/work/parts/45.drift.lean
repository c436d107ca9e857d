/-! ===== by a seed ===== -/
theorem z_nat {x : Int} : ((Int32.ofInt x).toBitVec.toNat : Int) = x % 4294967296 := by
  have a1 := zo_toInt x
  generalize Int32.ofInt x = w at a1 ⊢
  have a3 := w.toBitVec.isLt
  have a2 : w.toBitVec.toInt = zw x := a1
  rw [BitVec.toInt_eq_toNat_cond] at a2
  unfold zw at a2
  split at a2 <;> omega
theorem zand_15 (x : Int) : zand x 32767 = x % 32768 := by
  unfold zand
  rw [pk_and (Int32.ofInt x) (m := Int32.ofInt 32767) 15 (by decide)]
  have h := z_nat (x := x)
  generalize (Int32.ofInt x).toBitVec.toNat = w at h ⊢
  show (Int32.ofNat (w % 2 ^ 15)).toInt = _
  rw [Int32.toInt_ofNat_of_lt (by omega)]
  omega
theorem zshr_16 {x : Int} (h : zin32 x) : zshr x 16 = x / 65536 := by
  unfold zshr
  rw [pk_shr (Int32.ofInt x) (Int32.ofInt 16 &&& 31) 16 (by decide), zo_toInt, zw_of h, Int.shiftRight_eq_div_pow]
  rfl
theorem zushr_16 {x : Int} : zushr x 16 = x % 4294967296 / 65536 := by
  unfold zushr
  have h := z_nat (x := x)
  have q := pk_ushr (Int32.ofInt x) (Int32.ofInt 16) 16 (by decide)
  generalize hz : ((Int32.ofInt x).toUInt32 >>> ((Int32.ofInt 16).toUInt32 &&& Int32.toUInt32 31)).toInt32 = z at q ⊢
  have a4 : z.toInt = z.toBitVec.toInt := rfl
  rw [a4, BitVec.toInt_eq_toNat_cond]
  split <;> omega
def sNx (s : Int) : Int := zw (zw (s * 1103515245) + 12345)
def sGot (s : Int) : Int := s % 4294967296 / 65536 % 32768
theorem sGot_u (s : Int) : zand (zushr s 16) 32767 = sGot s := by
  rw [zand_15, zushr_16]; rfl
theorem sGot_s {s : Int} (h : zin32 s) : zand (zshr s 16) 32767 = sGot s := by
  rw [zand_15, zshr_16 h]
  unfold sGot
  omega
theorem sGot_b (s : Int) : 0 ≤ sGot s ∧ sGot s ≤ 32767 := by unfold sGot; omega
abbrev zSd : Type := Int × (Int → Int) × zS3
def sSg (n : Int) (got : Int) (g : Int → Int) : Int → Int := if got % n = got / 8 % n then g else zu g (5 * (got % n) + got / 8 % n) (got / 64 % 4)
def vDr1 : zVw → zSd → zSd := fun (n, t, _, r, e1, e2, ln, hol, _, _, _) q => (sNx q.1, sSg n (sGot (sNx q.1)) q.2.1, sDay n t (sSg n (sGot (sNx q.1)) q.2.1) r e1 e2 ln hol q.2.2)
def vDr0 : zVw → Int → zSd := fun (_, _, g, _, _, _, _, _, p, bu, dy) s => (s, g, p, bu, dy)
def vDr (W : zVw) (s : Int) (k : Nat) : zSd := zfor (fun _ q => vDr1 W q) 0 k (vDr0 W s)
def vDrA (W : zVw) (s n w : Int) : Int := if w = 0 then sSpread W.1 (vDr W s n.toNat).2.2.1 else zw ((vDr W s n.toNat).2.2.2.1 - (vS0 W).2.1)
theorem sSg_c {n got : Int} {g g' : Int → Int} (h : GE n g g') : GE n (sSg n got g) (sSg n got g') := by
  unfold sSg
  split
  · exact h
  · intro i j a b c d e
    by_cases hk : 5 * i + j = 5 * (got % n) + got / 8 % n
    · rw [hk, zu_s, zu_s]
    · rw [zu_n hk, zu_n hk]; exact h i j a b c d e
theorem VEQ.dr {W V : zVw} (h : VEQ W V) (s : Int) (k : Nat) : PE W.1 (vDr W s k).2.2.1 (vDr V s k).2.2.1 ∧ (vDr W s k).2.2.2 = (vDr V s k).2.2.2 := by
  obtain ⟨n, t, g, r, e1, e2, ln, hol, p, bu, dy⟩ := W
  obtain ⟨n', t', g', r', f1, f2, fl, hol', q, bu', dy'⟩ := V
  obtain ⟨a1, a2, a3, a4, a5, a6, a7, a8, a9, a10, a11⟩ := h
  subst a1 a4 a6 a8 a9
  have m := zfor_rel (f := fun _ q => vDr1 (n, t, g, r, e1, e2, ln, hol, p, bu, dy) q) (g := fun _ z => vDr1 (n, t', g', r, f1, f2, fl, hol, q, bu, dy) z) (P := fun (a c : zSd) => a.1 = c.1 ∧ GE n a.2.1 c.2.1 ∧ PE n a.2.2.1 c.2.2.1 ∧ a.2.2.2 = c.2.2.2) k 0 (s, g, p, bu, dy) (s, g', q, bu, dy) ⟨rfl, a3, a7, rfl⟩ (fun j a c _ _ ⟨b1, b2, b3, b4⟩ => by
    have eg := sSg_c (got := sGot (sNx a.1)) b2
    have ed := sDay_c (hol := hol) a10 a2 eg a5 b3 b4
    unfold vDr1
    rw [← b1]
    exact ⟨rfl, eg, ed.1, ed.2⟩)
  exact ⟨m.2.2.1, m.2.2.2⟩
theorem VEQ.drA {W V : zVw} (h : VEQ W V) (s n w : Int) : vDrA W s n w = vDrA V s n w := by
  obtain ⟨h0, h1, h2⟩ := h.s0
  obtain ⟨r1, r2⟩ := h.dr s n.toNat
  unfold vDrA
  rw [r2, h2, ← h0, sSpread_c r1]
theorem zFy_zr {m : zM} {s : zS3} {o : Nat} {Y : Int → Int} (h8 : o ≠ 8) (h10 : o ≠ 10) : zr (zFy m 8 s) o Y = zFy (zr m o Y) 8 s := zFy_ext (fun o' h1 h2 => by
  by_cases e : o' = o
  · subst e; rw [zr_s, zr_s]
  · rw [zr_n e, zr_n e, zFy_o h1 h2]) (by rw [zr_n (Ne.symm h10), zFy_2]) (fun k h1 h2 => by rw [zr_n (Ne.symm h8), zr_n (Ne.symm h8), zFy_b h1 h2]) (by rw [zr_n (Ne.symm h8), zFy_10]) (by rw [zr_n (Ne.symm h8), zFy_9])
theorem zFy_zs {m : zM} {s : zS3} {k v : Int} : zs (zFy m 8 s) 11 k v = zFy (zs m 11 k v) 8 s := by
  unfold zs
  rw [zFy_o (by decide) (by decide), zFy_zr (by decide) (by decide)]
section
variable {l : Launch} {G : zG} {mem : zM}
set_option maxRecDepth 100000 in
set_option maxHeartbeats 1000000 in
theorem c_X5_drift (hI : zFI mem 1) (sd n w : Int) : KX5_drift l G 4 [zR 0, zI sd, zI n, zI w] mem (zPC (zI (if 1 ≤ n ∧ n ≤ 60 ∧ 0 ≤ w ∧ w ≤ 1 then (if mem 1 0 = 0 then -2 else vDrA (vC mem 1) sd n w) else -1)) mem) := by
  obtain ⟨hn0, hn5, hr0, hr6, hp, hg, hr⟩ := zFI1 hI
  obtain ⟨f1, f2, f3⟩ := zBec_t hI kC.rf
  rw [← f2.drA sd n w]
  have e80 : (zBec mem 8 1) 8 0 = mem 1 0 := by rw [zBec_b, if_pos (by omega)]
  have eb : (zBec mem 8 1) 8 10 = mem 1 10 := by rw [zBec_b, if_pos (by omega)]
  have e11 : ∀ (g : Int → Int) (o : Nat), o ≠ 11 → zr (zBec mem 8 1) 11 g o = (zBec mem 8 1) o := fun g o h => zr_n h
  refine CT.of' (own := RX5) (ls0 := [zR 0, zI sd, zI n, zI w, zU, zU, zU, zU, zU, zU]) rfl (by decide +kernel) (Nat.le_of_ble_eq_true rfl) rfl ?_
  by_cases hc : 1 ≤ n ∧ n ≤ 60 ∧ 0 ≤ w ∧ w ≤ 1
  · rw [if_pos hc]
    by_cases hz : mem 1 0 = 0
    · rw [if_pos hz]
      refine r_iload_n dX5_drift_0 rfl ?_
      refine r_iconst dX5_drift_1 (k := ?_)
      refine r_bipush dX5_drift_2 (k := ?_)
      refine r_s3 (c_isWithin _ _ _) kX5_156 dX5_drift_4 ?_
      refine r_ifd_eq (tgt := 19) dX5_drift_7 (by decide) (fun h7 => ?_) (fun h7 => ?_)
      · exact absurd hc (by omega)
      · refine r_iload_n dX5_drift_10 rfl ?_
        refine r_iconst dX5_drift_11 (k := ?_)
        refine r_iconst dX5_drift_12 (k := ?_)
        refine r_s3 (c_isWithin _ _ _) kX5_156 dX5_drift_13 ?_
        refine r_ifd_ne (tgt := 21) dX5_drift_16 (by decide) (fun h16 => ?_) (fun h16 => ?_)
        · refine r_aload_n dX5_drift_21 rfl ?_
          refine r_getR (q := 1) fX5_10 rfl rfl dX5_drift_22 ?_
          refine r_gI (q := 0) rfl fX5_92 rfl (by decide) dX5_drift_25 ?_
          refine r_iconst dX5_drift_28 (k := ?_)
          refine r_icmp_ge (tgt := 35) dX5_drift_29 (by decide) (fun h29 => ?_) (fun h29 => ?_)
          · exact absurd h29 (by omega)
          · refine r_bipush dX5_drift_32 (k := ?_)
            refine r_iret dX5_drift_34 ?_
            exact zPC.i rfl kC.rf
        · exact absurd hc (by omega)
    · rw [if_neg hz]
      generalize hA : vDrA (vC (zBec mem 8 1) 8) sd n w = A
      have loop : ∀ (k : Nat) (x s : Int) (g : Int → Int) (s3 : zS3) (v7 v8 v9 : zV), 0 ≤ x → x + k = n → zFI (zr (zBec mem 8 1) 11 g) 8 → sPB (mem 1 0) s3.1 → zfor (fun _ q => vDr1 (vC (zBec mem 8 1) 8) q) x k (s, g, s3) = vDr (vC (zBec mem 8 1) 8) sd n.toNat → SW l G (zrm 4) RX5 cX5_drift 10 (some .int) (zZ G (zPC (zI A) mem)) 0 0 (fun _ => True) 47 [zR 0, zI sd, zI n, zI w, zR 8, zI s, zI x, v7, v8, v9] [] (zFy (zr (zBec mem 8 1) 11 g) 8 s3) := by
        intro k
        induction k with
        | zero =>
          intro x s g s3 v7 v8 v9 h0 h1 hF hpb he
          have hJ : zFI (zFy (zr (zBec mem 8 1) 11 g) 8 s3) 8 := hF.y (by rw [zr_n (by decide), e80]; exact hpb)
          have q0 : zFy (zr (zBec mem 8 1) 11 g) 8 s3 8 0 = mem 1 0 := by rw [zFy_b0, zr_n (by decide), e80]
          have q1 : zFy (zr (zBec mem 8 1) 11 g) 8 s3 1 10 = mem 1 10 := by rw [zFy_o (by decide) (by decide), zr_n (by decide), zBec_o (by omega)]
          rw [zfor] at he
          unfold vDrA at hA
          rw [← he] at hA
          have ev : (vS0 (vC (zBec mem 8 1) 8)).2.1 = mem 1 10 := eb
          have ew : ((vC (zBec mem 8 1) 8)).1 = mem 1 0 := e80
          rw [ev, ew] at hA
          refine r_iload dX5_drift_47 rfl ?_
          refine r_iload_n dX5_drift_49 rfl ?_
          refine r_icmp_ge (tgt := 136) dX5_drift_50 (by decide) (fun h50 => ?_) (fun h50 => ?_)
          · refine r_iload_n dX5_drift_136 rfl ?_
            refine r_if_ne (tgt := 148) dX5_drift_137 (by decide) (fun h137 => ?_) (fun h137 => ?_)
            · refine r_aload dX5_drift_148 rfl ?_
              refine r_gI (q := 10) rfl fX5_104 rfl (by decide) dX5_drift_150 ?_
              refine r_aload_n dX5_drift_153 rfl ?_
              refine r_getR (q := 1) fX5_10 rfl rfl dX5_drift_154 ?_
              refine r_gI (q := 10) rfl fX5_104 rfl (by decide) dX5_drift_157 ?_
              refine r_isub dX5_drift_160 ?_
              refine r_iret dX5_drift_161 ?_
              refine zPC.i ?_ ((f3.r (by omega)).y)
              first
                | (rw [if_pos (by omega)] at hA; rw [← hA, q0, zFy_2])
                | (rw [if_neg (by omega)] at hA; rw [← hA, q1, zFy_10])
            · refine r_aload dX5_drift_140 rfl ?_
              refine r_v0 (c_X0_spread hF8 hJ) kX5_107 rfl dX5_drift_142 ?_
              refine r_goto (tgt := 161) dX5_drift_145 (by decide) ?_
              refine r_iret dX5_drift_161 ?_
              refine zPC.i ?_ ((f3.r (by omega)).y)
              first
                | (rw [if_pos (by omega)] at hA; rw [← hA, q0, zFy_2])
                | (rw [if_neg (by omega)] at hA; rw [← hA, q1, zFy_10])
          · exact absurd (by omega) h50
        | succ k ih =>
          intro x s g s3 v7 v8 v9 h0 h1 hF hpb he
          rw [zfor] at he
          obtain ⟨b0, b1⟩ := sGot_b (sNx s)
          have c0 : 0 < mem 1 0 := by omega
          have d0 := Int.emod_nonneg (sGot (sNx s)) (show mem 1 0 ≠ 0 by omega)
          have d1 := Int.emod_lt_of_pos (sGot (sNx s)) c0
          have d2 := Int.emod_nonneg (sGot (sNx s) / 8) (show mem 1 0 ≠ 0 by omega)
          have d3 := Int.emod_lt_of_pos (sGot (sNx s) / 8) c0
          have q0 : zFy (zr (zBec mem 8 1) 11 g) 8 s3 1 0 = mem 1 0 := by rw [zFy_o (by decide) (by decide), zr_n (by decide), zBec_o (by omega)]
          have hF2 : zFI (zr (zBec mem 8 1) 11 (sSg (mem 1 0) (sGot (sNx s)) g)) 8 := by
            unfold sSg
            split
            · exact hF
            · have := hF.grudge (k := 5 * (sGot (sNx s) % mem 1 0) + sGot (sNx s) / 8 % mem 1 0) (v := sGot (sNx s) / 64 % 4) (by omega) (by omega)
              rw [show 8 + 3 = 11 from rfl, zs_zr] at this
              exact this
          have hK : zFI (zFy (zr (zBec mem 8 1) 11 (sSg (mem 1 0) (sGot (sNx s)) g)) 8 s3) 8 := hF2.y (by rw [zr_n (by decide), e80]; exact hpb)
          have e1 : vDr1 (vC (zBec mem 8 1) 8) (s, g, s3) = (sNx s, sSg (mem 1 0) (sGot (sNx s)) g, sDay (mem 1 0) ((zBec mem 8 1) 9) (sSg (mem 1 0) (sGot (sNx s)) g) ((zBec mem 8 1) 8 4) ((zBec mem 8 1) 12) ((zBec mem 8 1) 13) ((zBec mem 8 1) 14) ((zBec mem 8 1) 8 8) s3) := by
            rw [← e80]; rfl
          rw [e1] at he
          have fin := fun v7 v8 v9 => ih (x + 1) _ _ _ v7 v8 v9 (by omega) (by omega) hF2 (sDay_bd hn0 hpb) he
          have go : ∀ v7 v8 v9, SW l G (zrm 4) RX5 cX5_drift 10 (some .int) (zZ G (zPC (zI A) mem)) 0 0 (fun _ => True) 125 [zR 0, zI sd, zI n, zI w, zR 8, zI (sNx s), zI x, v7, v8, v9] [] (zFy (zr (zBec mem 8 1) 11 (sSg (mem 1 0) (sGot (sNx s)) g)) 8 s3) := by
            intro v7 v8 v9
            refine r_aload dX5_drift_125 rfl ?_
            refine r_w0 (c_X0_passDay' hF8 hK) kX5_181 rfl dX5_drift_127 ?_
            simp (disch := decide) only [zFy_2, zFy_b0, zFy_b4, zFy_b8, zFy_1, zFy_3, zFy_4, zFy_5, zFy_6, zFy_10, zFy_9, zFy_y, zr_n, zr_s, e80]
            refine r_iinc dX5_drift_130 rfl rfl ?_
            try rw [zw_id (by omega) (by omega)]
            refine r_goto (tgt := 47) dX5_drift_133 (by decide) ?_
            exact fin _ _ _
          refine r_iload dX5_drift_47 rfl ?_
          refine r_iload_n dX5_drift_49 rfl ?_
          refine r_icmp_ge (tgt := 136) dX5_drift_50 (by decide) (fun h50 => ?_) (fun h50 => ?_)
          · exact absurd h50 (by omega)
          · refine r_iload dX5_drift_53 rfl ?_
            refine r_ldc nX5_233 dX5_drift_55 (x := 1103515245) (k := ?_)
            refine r_imul dX5_drift_57 ?_
            refine r_sipush dX5_drift_58 (k := ?_)
            refine r_iadd dX5_drift_61 ?_
            rw [show zw (zw (s * 1103515245) + 12345) = sNx s from rfl]
            refine r_istore dX5_drift_62 rfl ?_
            refine r_iload dX5_drift_64 rfl ?_
            refine r_bipush dX5_drift_66 (k := ?_)
            refine r_iushr dX5_drift_68 ?_
            refine r_sipush dX5_drift_69 (k := ?_)
            refine r_iand dX5_drift_72 ?_
            rw [sGot_u]
            refine r_istore dX5_drift_73 rfl ?_
            refine r_iload dX5_drift_75 rfl ?_
            refine r_aload_n dX5_drift_77 rfl ?_
            refine r_getR (q := 1) fX5_10 rfl rfl dX5_drift_78 ?_
            refine r_gI (q := 0) rfl fX5_92 rfl (by decide) dX5_drift_81 ?_
            rw [q0]
            refine r_irem dX5_drift_84 (by omega) ?_
            rw [z_tmod (by omega) (by omega) (by omega)]
            refine r_istore dX5_drift_85 rfl ?_
            refine r_iload dX5_drift_87 rfl ?_
            refine r_bipush dX5_drift_89 (k := ?_)
            refine r_idiv dX5_drift_91 (by omega) ?_
            rw [z_tdiv (by omega) (by omega) (by omega)]
            refine r_aload_n dX5_drift_92 rfl ?_
            refine r_getR (q := 1) fX5_10 rfl rfl dX5_drift_93 ?_
            refine r_gI (q := 0) rfl fX5_92 rfl (by decide) dX5_drift_96 ?_
            rw [q0]
            refine r_irem dX5_drift_99 (by omega) ?_
            rw [z_tmod (by omega) (by omega) (by omega)]
            refine r_istore dX5_drift_100 rfl ?_
            refine r_iload dX5_drift_102 rfl ?_
            refine r_iload dX5_drift_104 rfl ?_
            refine r_icmp_eq (tgt := 125) dX5_drift_106 (by decide) (fun h106 => ?_) (fun h106 => ?_)
            · first
                | (have e : sSg (mem 1 0) (sGot (sNx s)) g = g := (by unfold sSg; rw [if_pos h106]); rw [e] at go; exact go _ _ _)
                | (have e : sSg (mem 1 0) (sGot (sNx s)) g = zu g (5 * (sGot (sNx s) % mem 1 0) + sGot (sNx s) / 8 % mem 1 0) (sGot (sNx s) / 64 % 4) := (by unfold sSg; rw [if_neg h106]); rw [e] at go; exact go _ _ _)
            · refine r_aload dX5_drift_109 rfl ?_
              refine r_iload dX5_drift_111 rfl ?_
              refine r_iload dX5_drift_113 rfl ?_
              refine r_iload dX5_drift_115 rfl ?_
              refine r_bipush dX5_drift_117 (k := ?_)
              refine r_idiv dX5_drift_119 (by omega) ?_
              rw [z_tdiv (by omega) (by omega) (by omega)]
              refine r_iconst dX5_drift_120 (k := ?_)
              refine r_irem dX5_drift_121 (by omega) ?_
              rw [z_tmod (by omega) (by omega) (by omega)]
              refine r_w3 (c_X0_setGrudge hF8 _ _ _ (by omega) (by omega) (by omega) (by omega)) kX5_166 rfl dX5_drift_122 ?_
              rw [zFy_zs, zs_zr]
              first
                | (have e : sSg (mem 1 0) (sGot (sNx s)) g = g := (by unfold sSg; rw [if_pos h106]); rw [e] at go; exact go _ _ _)
                | (have e : sSg (mem 1 0) (sGot (sNx s)) g = zu g (5 * (sGot (sNx s) % mem 1 0) + sGot (sNx s) / 8 % mem 1 0) (sGot (sNx s) / 64 % 4) := (by unfold sSg; rw [if_neg h106]); rw [e] at go; exact go _ _ _)
      have fin := fun v7 v8 v9 => loop n.toNat 0 sd ((zBec mem 8 1) 11) (vS0 (vC (zBec mem 8 1) 8)) v7 v8 v9 (by omega) (by omega) (by rw [zr_self]; exact f1) (by rw [← e80]; exact f1.2.2.2.2.1) rfl
      rw [zr_self, show zFy (zBec mem 8 1) 8 (vS0 (vC (zBec mem 8 1) 8)) = (zBec mem 8 1) from zFy_self] at fin
      refine r_iload_n dX5_drift_0 rfl ?_
      refine r_iconst dX5_drift_1 (k := ?_)
      refine r_bipush dX5_drift_2 (k := ?_)
      refine r_s3 (c_isWithin _ _ _) kX5_156 dX5_drift_4 ?_
      refine r_ifd_eq (tgt := 19) dX5_drift_7 (by decide) (fun h7 => ?_) (fun h7 => ?_)
      · exact absurd hc (by omega)
      · refine r_iload_n dX5_drift_10 rfl ?_
        refine r_iconst dX5_drift_11 (k := ?_)
        refine r_iconst dX5_drift_12 (k := ?_)
        refine r_s3 (c_isWithin _ _ _) kX5_156 dX5_drift_13 ?_
        refine r_ifd_ne (tgt := 21) dX5_drift_16 (by decide) (fun h16 => ?_) (fun h16 => ?_)
        · refine r_aload_n dX5_drift_21 rfl ?_
          refine r_getR (q := 1) fX5_10 rfl rfl dX5_drift_22 ?_
          refine r_gI (q := 0) rfl fX5_92 rfl (by decide) dX5_drift_25 ?_
          refine r_iconst dX5_drift_28 (k := ?_)
          refine r_icmp_ge (tgt := 35) dX5_drift_29 (by decide) (fun h29 => ?_) (fun h29 => ?_)
          · refine r_aload_n dX5_drift_35 rfl ?_
            refine r_v0 (c_asItIs) kX5_177 rfl dX5_drift_36 ?_
            refine r_astore dX5_drift_39 rfl ?_
            refine r_iload_n dX5_drift_41 rfl ?_
            refine r_istore dX5_drift_42 rfl ?_
            refine r_iconst dX5_drift_44 (k := ?_)
            refine r_istore dX5_drift_45 rfl ?_
            exact fin _ _ _
          · exact absurd (by omega) h29
        · exact absurd hc (by omega)
  · rw [if_neg hc]
    refine r_iload_n dX5_drift_0 rfl ?_
    refine r_iconst dX5_drift_1 (k := ?_)
    refine r_bipush dX5_drift_2 (k := ?_)
    refine r_s3 (c_isWithin _ _ _) kX5_156 dX5_drift_4 ?_
    refine r_ifd_eq (tgt := 19) dX5_drift_7 (by decide) (fun h7 => ?_) (fun h7 => ?_)
    · refine r_iconst dX5_drift_19 (k := ?_)
      refine r_iret dX5_drift_20 ?_
      exact zPC.i rfl kC.rf
    · refine r_iload_n dX5_drift_10 rfl ?_
      refine r_iconst dX5_drift_11 (k := ?_)
      refine r_iconst dX5_drift_12 (k := ?_)
      refine r_s3 (c_isWithin _ _ _) kX5_156 dX5_drift_13 ?_
      refine r_ifd_ne (tgt := 21) dX5_drift_16 (by decide) (fun h16 => ?_) (fun h16 => ?_)
      · exact absurd (by omega) hc
      · refine r_iconst dX5_drift_19 (k := ?_)
        refine r_iret dX5_drift_20 ?_
        exact zPC.i rfl kC.rf
end
