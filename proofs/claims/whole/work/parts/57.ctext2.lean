/-! ===== the class: the text ===== -/
/-- the draft ahead of the first line -/
def dC0 (m : zM) : zDr := ((0, m 56, zfil (m 58) 0 25, 0, m 59, m 60, m 61, 0, m 57, 0, 0), zfil (m 62) 0 25, 0, -1)
theorem dC0_I {m : zM} : DI (dC0 m) := by
  simp only [DI, dC0, dR, dP, vS0]
  have z : ∀ (r : Int → Int) (k : Int), 0 ≤ k → k < 25 → zfil r 0 25 k = 0 := fun r k h0 h1 => by unfold zfil; rw [if_pos ⟨h0, h1⟩]
  refine ⟨by omega, by omega, by omega, by omega, by omega, by omega, fun i h0 h1 => by omega, fun k h0 h1 => by rw [z _ k h0 h1]; omega, fun i j i0 i4 j0 j4 h => absurd (z _ (5 * i + j) (by omega) (by omega)) h, fun k h0 h1 => by omega, Or.inl trivial, fun k h0 h1 => Or.inl (z _ k h0 h1), trivial, by omega, by omega⟩
def zSO (m : zM) : zM := zs (zs (zs (zr (zs (zs (zs (zClr m 55) 53 3 0) 53 4 0) 53 5 0) 62 (zfil (m 62) 0 25)) 53 7 0) 53 8 (-1)) 53 9 0
theorem zClr_o {m : zM} {b o : Nat} (h1 : o ≠ b) (h2 : o ≠ b + 3) : zClr m b o = m o := by unfold zClr; rw [if_neg h1, if_neg h2]
theorem zSO_t {m : zM} : kT m (zSO m) := by
  refine ⟨fun o h1 h2 => ?_, ?_⟩
  · unfold zSO
    rw [zs_n h1, zs_n h1, zs_n h1, zr_n (by omega), zs_n h1, zs_n h1, zs_n h1, zClr_o (by omega) (by omega)]
  · unfold zSO
    rw [zs_k (by decide), zs_k (by decide), zs_k (by decide), zr_n (by decide), zs_k (by decide), zs_k (by decide), zs_k (by decide), zClr_o (by decide) (by decide)]
theorem zSO_D {m : zM} : dC (zSO m) = dC0 m := by
  unfold dC dC0 vC zSO
  simp (disch := omega) only [zs_n, zs_v, zs_k, zr_n, zr_s]
  unfold zClr
  simp only []
  rfl
section
variable {l : Launch} {G : zG} {mem : zM}
set_option maxRecDepth 100000 in
theorem c_startOver : KX2_startOver l G 2 [zR 53] mem (zP0 (zSO mem)) := by
  refine CT.of' (own := RX2) (ls0 := [zR 53, zU]) rfl (by decide +kernel) (Nat.le_of_ble_eq_true rfl) rfl ?_
  have loop : ∀ (q : Nat) (x : Int), 0 ≤ x → x + q = 25 → SW l G (zrm 2) RX2 cX2_startOver 2 none (zZ G (zP0 (zSO mem))) 0 0 (fun _ => True) 24 [zR 53, zI x] [] (zr (zs (zs (zs (zClr mem 55) 53 3 0) 53 4 0) 53 5 0) 62 (zfil (mem 62) 0 x)) := by
    intro q
    induction q with
    | zero =>
      intro x h0 h1
      obtain rfl : x = 25 := by omega
      refine r_iload_n dX2_startOver_24 rfl ?_
      refine r_aload_n dX2_startOver_25 rfl ?_
      refine r_getR (q := 62) fX2_35 rfl rfl dX2_startOver_26 ?_
      refine r_alenZ rfl (by unfold zin32; decide) dX2_startOver_29 ?_
      refine r_icmp_ge (tgt := 46) dX2_startOver_30 (by decide) (fun h30 => ?_) (fun h30 => ?_)
      · refine r_aload_n dX2_startOver_46 rfl ?_
        refine r_iconst dX2_startOver_47 (k := ?_)
        refine r_pZ (q := 7) rfl pX2_39 rfl (by decide) dX2_startOver_48 ?_
        refine r_aload_n dX2_startOver_51 rfl ?_
        refine r_iconst dX2_startOver_52 (k := ?_)
        refine r_pI (q := 8) rfl pX2_43 rfl dX2_startOver_53 ?_
        refine r_aload_n dX2_startOver_56 rfl ?_
        refine r_iconst dX2_startOver_57 (k := ?_)
        refine r_pI (q := 9) rfl pX2_46 rfl dX2_startOver_58 ?_
        refine r_vret dX2_startOver_61 ?_
        exact zP0.i
      · exfalso; omega
    | succ q ih =>
      intro x h0 h1
      refine r_iload_n dX2_startOver_24 rfl ?_
      refine r_aload_n dX2_startOver_25 rfl ?_
      refine r_getR (q := 62) fX2_35 rfl rfl dX2_startOver_26 ?_
      refine r_alenZ rfl (by unfold zin32; decide) dX2_startOver_29 ?_
      refine r_icmp_ge (tgt := 46) dX2_startOver_30 (by decide) (fun h30 => ?_) (fun h30 => ?_)
      · exfalso; omega
      · refine r_aload_n dX2_startOver_33 rfl ?_
        refine r_getR (q := 62) fX2_35 rfl rfl dX2_startOver_34 ?_
        refine r_iload_n dX2_startOver_37 rfl ?_
        refine r_iconst dX2_startOver_38 (k := ?_)
        refine r_zast rfl (by omega) (by omega) (by decide) dX2_startOver_39 ?_
        refine r_iinc dX2_startOver_40 rfl rfl ?_
        try rw [zw_id (by omega) (by omega)]
        refine r_goto (tgt := 24) dX2_startOver_43 (by decide) ?_
        rw [zs_zr, zfil_s h0]
        exact ih _ (by omega) (by omega)
  have fin := loop 25 0 (by omega) (by omega)
  rw [zfil_0, zr_id (by rw [zs_n (by decide), zs_n (by decide), zs_n (by decide), zClr_o (by decide) (by decide)])] at fin
  refine r_aload_n dX2_startOver_0 rfl ?_
  refine r_getR (q := 55) fX2_22 rfl rfl dX2_startOver_1 ?_
  refine r_w0 (c_X0_clear hF55) kX2_85 rfl dX2_startOver_4 ?_
  refine r_aload_n dX2_startOver_7 rfl ?_
  refine r_iconst dX2_startOver_8 (k := ?_)
  refine r_pI (q := 3) rfl pX2_26 rfl dX2_startOver_9 ?_
  refine r_aload_n dX2_startOver_12 rfl ?_
  refine r_iconst dX2_startOver_13 (k := ?_)
  refine r_pI (q := 4) rfl pX2_29 rfl dX2_startOver_14 ?_
  refine r_aload_n dX2_startOver_17 rfl ?_
  refine r_iconst dX2_startOver_18 (k := ?_)
  refine r_pI (q := 5) rfl pX2_32 rfl dX2_startOver_19 ?_
  refine r_iconst dX2_startOver_22 (k := ?_)
  refine r_istore_n dX2_startOver_23 rfl ?_
  exact fin
def qTx (b : zDr × Int) (m' : zM) : Prop := dC m' = b.1 ∧ m' 53 3 = b.2 ∧ m' 53 4 = 0
set_option maxRecDepth 100000 in
theorem c_takeText (h0 : 0 ≤ mem 53 1) (h1 : mem 53 1 ≤ 160) : KX2_takeText l G 6 [zR 53] mem (zPX (sTx (mem 54) (mem 53 1) 161 (dC0 mem) 0 0) qTx mem) := by
  refine CT.of' (own := RX2) (ls0 := [zR 53, zU]) rfl (by decide +kernel) (Nat.le_of_ble_eq_true rfl) rfl ?_
  have loop : ∀ (k : Nat) (x : Int) (m : zM), x + k = 161 → 0 ≤ x → kT mem m → kL m → DI (dC m) → m 53 4 = 0 → m 53 1 - m 53 9 < k → 0 ≤ m 53 3 → m 53 3 ≤ x → sTx (mem 54) (mem 53 1) k (dC m) (m 53 9) (m 53 3) = sTx (mem 54) (mem 53 1) 161 (dC0 mem) 0 0 → SW l G (zrm 6) RX2 cX2_takeText 2 (some .boolean) (zZ G (zPX (sTx (mem 54) (mem 53 1) 161 (dC0 mem) 0 0) qTx mem)) 0 0 (fun _ => True) 6 [zR 53, zI x] [] m := by
    intro k
    induction k with
    | zero => intro x m a1 a2 a3 a4 a5 a6 a7 a8 a9 he; exact absurd a4.2.1 (by omega)
    | succ k ih =>
      intro x m a1 a2 a3 a4 a5 a6 a7 a8 a9 he
      obtain ⟨b0, b1, b2⟩ := id a4
      have e54 : m 54 = mem 54 := a3.1 54 (by decide) (by decide)
      have e1 := a3.2
      rw [sTx] at he
      refine r_iload_n dX2_takeText_6 rfl ?_
      refine r_sipush dX2_takeText_7 (k := ?_)
      refine r_icmp_gt (tgt := 100) dX2_takeText_10 (by decide) (fun h10 => absurd h10 (by omega)) (fun h10 => ?_)
      refine r_aload_n dX2_takeText_13 rfl ?_
      refine r_vX0 (c_tok (t := mem 54) (L := mem 53 1) (p := m 53 9) a4 e54 e1 rfl) kX2_67 rfl dX2_takeText_14 (fun e14 m14 x14 k14 f14 g14 => ?_) (fun a14 m14 x14 k14 q14 => ?_)
      · simp only [x14] at he
        refine r_if_ne (tgt := 22) dX2_takeText_17 (by decide) (fun h17 => absurd h17 (by decide)) (fun h17 => ?_)
        refine r_iconst dX2_takeText_20 (k := ?_)
        refine r_zret dX2_takeText_21 (by decide) ?_
        exact zPX.e he.symm (a3.tr k14) f14 g14
      · obtain ⟨hk, q9, q10, q11, q12⟩ := q14
        have n := sTk_ok (by omega) x14
        simp only [x14] at he
        have o1 : m14 53 1 = mem 53 1 := by rw [k14.2]; exact e1
        have o4 : m14 53 4 = 0 := by rw [hk.2 4 (by decide) (by decide) (by decide) (by decide)]; exact a6
        have o3 : m14 53 3 = m 53 3 := hk.2 3 (by decide) (by decide) (by decide) (by decide)
        have eD := dC_k hk
        by_cases c0 : a14.1 = 0
        · rw [if_pos c0] at he
          have e8 : (dC m).2.2.2 = m14 53 8 := by rw [← eD]; rfl
          have e0 : (dC m).1.1 = m14 55 0 := by rw [← eD]; rfl
          rw [e8, e0] at he
          refine r_if_ne (tgt := 22) dX2_takeText_17 (by decide) (fun h17 => ?_) (fun h17 => absurd h17 (by decide))
          refine r_aload_n dX2_takeText_22 rfl ?_
          refine r_gI (q := 10) rfl fX2_49 rfl (by decide) dX2_takeText_23 ?_
          refine r_if_ne (tgt := 58) dX2_takeText_26 (by decide) (fun h26 => ?_) (fun h26 => ?_)
          · exfalso; omega
          · refine r_aload_n dX2_takeText_29 rfl ?_
            refine r_gI (q := 8) rfl fX2_43 rfl (by decide) dX2_takeText_30 ?_
            refine r_aload_n dX2_takeText_33 rfl ?_
            refine r_getR (q := 55) fX2_22 rfl rfl dX2_takeText_34 ?_
            refine r_gI (q := 0) rfl fX2_71 rfl (by decide) dX2_takeText_37 ?_
            refine r_icmp_lt (tgt := 52) dX2_takeText_40 (by decide) (fun h40 => ?_) (fun h40 => ?_)
            · refine r_iconst dX2_takeText_52 (k := ?_)
              refine r_goto (tgt := 57) dX2_takeText_53 (by decide) ?_
              refine r_zret dX2_takeText_57 (by decide) ?_
              first
                | exact zPX.k (by rw [← he, if_pos (by omega)]) (a3.tr k14) ⟨eD, o3, o4⟩
                | exact zPX.e (by rw [← he, if_neg (by omega)]) (((a3.tr k14).s (by decide)).s (by decide)) (by simp (disch := omega) only [zs_n, zs_v, zs_k]) (by simp (disch := omega) only [zs_n, zs_v, zs_k]; exact q11)
            · refine r_aload_n dX2_takeText_43 rfl ?_
              refine r_bipush dX2_takeText_44 (k := ?_)
              refine r_v1 (c_fail _) kX2_74 rfl dX2_takeText_46 ?_
              refine r_if_eq (tgt := 56) dX2_takeText_49 (by decide) (fun h49 => ?_) (fun h49 => absurd h49 (by decide))
              refine r_iconst dX2_takeText_56 (k := ?_)
              refine r_zret dX2_takeText_57 (by decide) ?_
              first
                | exact zPX.k (by rw [← he, if_pos (by omega)]) (a3.tr k14) ⟨eD, o3, o4⟩
                | exact zPX.e (by rw [← he, if_neg (by omega)]) (((a3.tr k14).s (by decide)).s (by decide)) (by simp (disch := omega) only [zs_n, zs_v, zs_k]) (by simp (disch := omega) only [zs_n, zs_v, zs_k]; exact q11)
        · rw [if_neg c0] at he
          have e54' : m14 54 = mem 54 := by rw [hk.1 54 (by decide)]; exact e54
          have hL14 : kL m14 := a4.of k14.2 (by omega) (by omega)
          have go : ∀ c : Int, (c = -4 ∨ (0 ≤ c ∧ c ≤ 6)) → c = (if a14.1 = 1 then sNm (mem 54) a14.2.1 a14.2.2.1 else -4) → SW l G (zrm 6) RX2 cX2_takeText 2 (some .boolean) (zZ G (zPX (sTx (mem 54) (mem 53 1) 161 (dC0 mem) 0 0) qTx mem)) 0 0 (fun _ => True) 76 [zR 53, zI x] [zI (lcd c), zR 53] m14 := by
            intro c hc hce
            rw [← hce, ← eD, ← q11] at he
            refine r_vX1 (c_takeLine (t := mem 54) (L := mem 53 1) (p := a14.2.2.1) c hc hL14 e54' o1 q9 (by rw [eD]; exact a5)) kX2_82 rfl dX2_takeText_76 (fun e76 m76 x76 k76 f76 g76 => ?_) (fun a76 m76 x76 k76 q76 => ?_)
            · simp only [x76] at he
              refine r_if_ne (tgt := 84) dX2_takeText_79 (by decide) (fun h79 => absurd h79 (by decide)) (fun h79 => ?_)
              refine r_iconst dX2_takeText_82 (k := ?_)
              refine r_zret dX2_takeText_83 (by decide) ?_
              exact zPX.e he.symm ((a3.tr k14).tr k76) f76 g76
            · simp only [x76] at he
              obtain ⟨r1, r9, r3, r4⟩ := q76
              have n2 := sLn_ok (by omega) (by rw [eD]; exact a5) x76
              have p1 := k76.2
              refine r_if_ne (tgt := 84) dX2_takeText_79 (by decide) (fun h79 => ?_) (fun h79 => absurd h79 (by decide))
              refine r_aload_n dX2_takeText_84 rfl ?_
              refine r_dup dX2_takeText_85 rfl ?_
              refine r_gI (q := 3) rfl fX2_26 rfl (by decide) dX2_takeText_86 ?_
              refine r_iconst dX2_takeText_89 (k := ?_)
              refine r_iadd dX2_takeText_90 ?_
              try rw [zw_id (by omega) (by omega)]
              refine r_pI (q := 3) rfl pX2_26 rfl dX2_takeText_91 ?_
              refine r_iinc dX2_takeText_94 rfl rfl ?_
              try rw [zw_id (by omega) (by omega)]
              refine r_goto (tgt := 6) dX2_takeText_97 (by decide) ?_
              have fin := ih (x + 1) (zs m76 53 3 (m76 53 3 + 1)) (by omega) (by omega) (((a3.tr k14).tr k76).s (by decide)) (hL14.of (by simp (disch := omega) only [zs_n, zs_v, zs_k]; exact p1) (by simp (disch := omega) only [zs_n, zs_v, zs_k]; omega) (by simp (disch := omega) only [zs_n, zs_v, zs_k]; omega)) ?_ (by simp (disch := omega) only [zs_n, zs_v, zs_k]; omega) (by simp (disch := omega) only [zs_n, zs_v, zs_k]; omega) (by simp (disch := omega) only [zs_n, zs_v, zs_k]; omega) (by simp (disch := omega) only [zs_n, zs_v, zs_k]; omega) ?_
              · exact fin
              · exact r1 ▸ n2.2.2
              · rw [← he]
                simp (disch := omega) only [zs_n, zs_v, zs_k]
                rw [r9, r3, o3, ← r1]
                rfl
          by_cases c1 : a14.1 = 1
          · have fin := go (sNm (mem 54) a14.2.1 a14.2.2.1) sNm_b (by rw [if_pos c1])
            have e : sNm (mem 54) a14.2.1 a14.2.2.1 = sNm (m14 54) (m14 53 11) (m14 53 9) := by rw [e54', q11, q9]
            rw [e] at fin
            refine r_if_ne (tgt := 22) dX2_takeText_17 (by decide) (fun h17 => ?_) (fun h17 => absurd h17 (by decide))
            refine r_aload_n dX2_takeText_22 rfl ?_
            refine r_gI (q := 10) rfl fX2_49 rfl (by decide) dX2_takeText_23 ?_
            refine r_if_ne (tgt := 58) dX2_takeText_26 (by decide) (fun h26 => ?_) (fun h26 => ?_)
            · refine r_aload_n dX2_takeText_58 rfl ?_
              refine r_aload_n dX2_takeText_59 rfl ?_
              refine r_gI (q := 10) rfl fX2_49 rfl (by decide) dX2_takeText_60 ?_
              refine r_iconst dX2_takeText_63 (k := ?_)
              refine r_icmp_ne (tgt := 74) dX2_takeText_64 (by decide) (fun h64 => ?_) (fun h64 => ?_)
              · exfalso; omega
              · refine r_aload_n dX2_takeText_67 rfl ?_
                refine r_v0 (c_lineNamed (by omega) (by omega) (by omega)) kX2_78 rfl dX2_takeText_68 ?_
                refine r_goto (tgt := 76) dX2_takeText_71 (by decide) ?_
                exact fin
            · exfalso; omega
          · have fin := go (-4) (Or.inl rfl) (by rw [if_neg c1])
            refine r_if_ne (tgt := 22) dX2_takeText_17 (by decide) (fun h17 => ?_) (fun h17 => absurd h17 (by decide))
            refine r_aload_n dX2_takeText_22 rfl ?_
            refine r_gI (q := 10) rfl fX2_49 rfl (by decide) dX2_takeText_23 ?_
            refine r_if_ne (tgt := 58) dX2_takeText_26 (by decide) (fun h26 => ?_) (fun h26 => ?_)
            · refine r_aload_n dX2_takeText_58 rfl ?_
              refine r_aload_n dX2_takeText_59 rfl ?_
              refine r_gI (q := 10) rfl fX2_49 rfl (by decide) dX2_takeText_60 ?_
              refine r_iconst dX2_takeText_63 (k := ?_)
              refine r_icmp_ne (tgt := 74) dX2_takeText_64 (by decide) (fun h64 => ?_) (fun h64 => ?_)
              · refine r_bipush dX2_takeText_74 (k := ?_)
                exact fin
              · exfalso; omega
            · exfalso; omega
  have l1 : zSO mem 53 1 = mem 53 1 := zSO_t.2
  have l9 : zSO mem 53 9 = 0 := by unfold zSO; simp (disch := omega) only [zs_n, zs_v, zs_k]
  have l4 : zSO mem 53 4 = 0 := by unfold zSO; simp (disch := omega) only [zs_n, zs_v, zs_k, zr_n]
  have l3 : zSO mem 53 3 = 0 := by unfold zSO; simp (disch := omega) only [zs_n, zs_v, zs_k, zr_n]
  have fin := loop 161 0 (zSO mem) (by omega) (by omega) zSO_t ⟨by omega, by omega, by omega⟩ (by rw [zSO_D]; exact dC0_I) l4 (by omega) (by omega) (by omega) (by rw [zSO_D, l9, l3])
  refine r_aload_n dX2_takeText_0 rfl ?_
  refine r_w0 (c_startOver) kX2_64 rfl dX2_takeText_1 ?_
  refine r_iconst dX2_takeText_4 (k := ?_)
  refine r_istore_n dX2_takeText_5 rfl ?_
  exact fin
/-- what text() leaves and answers -/
def zPTx (x : Except zEr (zDr × Int)) (m : zM) : Option zV → zM → Prop := fun r m' => ∃ m1, kT m m1 ∧ match x with
  | .error e => m1 53 4 = e.1 ∧ m' = zs m1 53 1 0 ∧ r = some (zI (zw (-10 - e.2)))
  | .ok b => qTx b m1 ∧ m' = zs (zs (zs (zBec (zs m1 53 1 0) 1 55) 15 0 0) 20 0 0) 32 0 0 ∧ r = some (zI b.2)
theorem zPTx.e {x : Except zEr (zDr × Int)} {m m1 : zM} {e : zEr} {v : Int} (h : x = .error e) (hk : kT m m1) (h4 : m1 53 4 = e.1) (hv : v = zw (-10 - e.2)) : zPTx x m (some (zI v)) (zs m1 53 1 0) := by
  subst h hv
  exact ⟨m1, hk, h4, rfl, rfl⟩
theorem zPTx.k {x : Except zEr (zDr × Int)} {m m1 : zM} {b : zDr × Int} {v : Int} (h : x = .ok b) (hk : kT m m1) (hq : qTx b m1) (hv : v = b.2) : zPTx x m (some (zI v)) (zs (zs (zs (zBec (zs m1 53 1 0) 1 55) 15 0 0) 20 0 0) 32 0 0) := by
  subst h hv
  exact ⟨m1, hk, hq, rfl, rfl⟩
set_option maxRecDepth 100000 in
theorem c_X5_text (h0 : 0 ≤ mem 53 1) (h1 : mem 53 1 ≤ 160) : KX5_text l G 7 [zR 0] mem (zPTx (sTx (mem 54) (mem 53 1) 161 (dC0 mem) 0 0) mem) := by
  refine CT.of' (own := RX5) (ls0 := [zR 0, zU, zU]) rfl (by decide +kernel) (Nat.le_of_ble_eq_true rfl) rfl ?_
  refine r_aload_n dX5_text_0 rfl ?_
  refine r_getR (q := 53) fX5_43 rfl rfl dX5_text_1 ?_
  refine r_vX0 (c_takeText h0 h1) kX5_65 rfl dX5_text_4 (fun e4 m4 x4 k4 f4 g4 => ?_) (fun a4 m4 x4 k4 q4 => ?_)
  ·
    refine r_istore_n dX5_text_7 rfl ?_
    refine r_aload_n dX5_text_8 rfl ?_
    refine r_getR (q := 53) fX5_43 rfl rfl dX5_text_9 ?_
    try simp (disch := omega) only [zs_n, zs_v, zs_k]
    refine r_iconst dX5_text_12 (k := ?_)
    refine r_pI (q := 1) rfl pX5_58 rfl dX5_text_13 ?_
    refine r_iload_n dX5_text_16 rfl ?_
    refine r_if_ne (tgt := 31) dX5_text_17 (by decide) (fun h17 => absurd h17 (by decide)) (fun h17 => ?_)
    refine r_bipush dX5_text_20 (k := ?_)
    refine r_aload_n dX5_text_22 rfl ?_
    refine r_getR (q := 53) fX5_43 rfl rfl dX5_text_23 ?_
    try simp (disch := omega) only [zs_n, zs_v, zs_k]
    refine r_gI (q := 5) rfl fX5_69 rfl (by decide) dX5_text_26 ?_
    try simp (disch := omega) only [zs_n, zs_v, zs_k]
    refine r_isub dX5_text_29 ?_
    refine r_iret dX5_text_30 ?_
    exact zPTx.e x4 k4 f4 (by rw [g4])
  ·
    refine r_istore_n dX5_text_7 rfl ?_
    refine r_aload_n dX5_text_8 rfl ?_
    refine r_getR (q := 53) fX5_43 rfl rfl dX5_text_9 ?_
    try simp (disch := omega) only [zs_n, zs_v, zs_k]
    refine r_iconst dX5_text_12 (k := ?_)
    refine r_pI (q := 1) rfl pX5_58 rfl dX5_text_13 ?_
    refine r_iload_n dX5_text_16 rfl ?_
    refine r_if_ne (tgt := 31) dX5_text_17 (by decide) (fun h17 => ?_) (fun h17 => absurd h17 (by decide))
    refine r_aload_n dX5_text_31 rfl ?_
    refine r_getR (q := 1) fX5_10 rfl rfl dX5_text_32 ?_
    try simp (disch := omega) only [zs_n, zs_v, zs_k]
    refine r_aload_n dX5_text_35 rfl ?_
    refine r_getR (q := 53) fX5_43 rfl rfl dX5_text_36 ?_
    try simp (disch := omega) only [zs_n, zs_v, zs_k]
    refine r_getR (q := 55) fX5_72 rfl rfl dX5_text_39 ?_
    try simp (disch := omega) only [zs_n, zs_v, zs_k]
    refine r_w1 (c_X0_become hF1 hF55 (by decide)) kX5_75 rfl dX5_text_42 ?_
    try simp (disch := omega) only [zs_n, zs_v, zs_k]
    refine r_aload_n dX5_text_45 rfl ?_
    refine r_getR (q := 15) fX5_22 rfl rfl dX5_text_46 ?_
    try simp (disch := omega) only [zs_n, zs_v, zs_k]
    refine r_iconst dX5_text_49 (k := ?_)
    refine r_pI (q := 0) rfl pX5_79 rfl dX5_text_50 ?_
    refine r_iconst dX5_text_53 (k := ?_)
    refine r_istore_n dX5_text_54 rfl ?_
    refine r_iload_n dX5_text_55 rfl ?_
    refine r_aload_n dX5_text_56 rfl ?_
    refine r_getR (q := 19) fX5_29 rfl rfl dX5_text_57 ?_
    try simp (disch := omega) only [zs_n, zs_v, zs_k]
    refine r_alenM rfl (by unfold zin32; decide) dX5_text_60 ?_
    refine r_icmp_ge (tgt := 80) dX5_text_61 (by decide) (fun h61 => absurd h61 (by decide)) (fun h61 => ?_)
    refine r_aload_n dX5_text_64 rfl ?_
    refine r_getR (q := 19) fX5_29 rfl rfl dX5_text_65 ?_
    try simp (disch := omega) only [zs_n, zs_v, zs_k]
    refine r_iload_n dX5_text_68 rfl ?_
    refine r_aaldM (q := 20) rfl (by decide) (by decide) rfl dX5_text_69 ?_
    refine r_iconst dX5_text_70 (k := ?_)
    refine r_pZ (q := 0) rfl pX5_82 rfl (by decide) dX5_text_71 ?_
    refine r_iinc dX5_text_74 rfl rfl ?_
    try rw [zw_id (by omega) (by omega)]
    refine r_goto (tgt := 55) dX5_text_77 (by decide) ?_
    refine r_iload_n dX5_text_55 rfl ?_
    refine r_aload_n dX5_text_56 rfl ?_
    refine r_getR (q := 19) fX5_29 rfl rfl dX5_text_57 ?_
    try simp (disch := omega) only [zs_n, zs_v, zs_k]
    refine r_alenM rfl (by unfold zin32; decide) dX5_text_60 ?_
    refine r_icmp_ge (tgt := 80) dX5_text_61 (by decide) (fun h61 => absurd h61 (by decide)) (fun h61 => ?_)
    refine r_aload_n dX5_text_64 rfl ?_
    refine r_getR (q := 19) fX5_29 rfl rfl dX5_text_65 ?_
    try simp (disch := omega) only [zs_n, zs_v, zs_k]
    refine r_iload_n dX5_text_68 rfl ?_
    refine r_aaldM (q := 32) rfl (by decide) (by decide) rfl dX5_text_69 ?_
    refine r_iconst dX5_text_70 (k := ?_)
    refine r_pZ (q := 0) rfl pX5_82 rfl (by decide) dX5_text_71 ?_
    refine r_iinc dX5_text_74 rfl rfl ?_
    try rw [zw_id (by omega) (by omega)]
    refine r_goto (tgt := 55) dX5_text_77 (by decide) ?_
    refine r_iload_n dX5_text_55 rfl ?_
    refine r_aload_n dX5_text_56 rfl ?_
    refine r_getR (q := 19) fX5_29 rfl rfl dX5_text_57 ?_
    try simp (disch := omega) only [zs_n, zs_v, zs_k]
    refine r_alenM rfl (by unfold zin32; decide) dX5_text_60 ?_
    refine r_icmp_ge (tgt := 80) dX5_text_61 (by decide) (fun h61 => ?_) (fun h61 => absurd h61 (by decide))
    refine r_aload_n dX5_text_80 rfl ?_
    refine r_getR (q := 53) fX5_43 rfl rfl dX5_text_81 ?_
    try simp (disch := omega) only [zs_n, zs_v, zs_k]
    refine r_gI (q := 3) rfl fX5_86 rfl (by decide) dX5_text_84 ?_
    try simp (disch := omega) only [zs_n, zs_v, zs_k]
    refine r_iret dX5_text_87 ?_
    refine zPTx.k x4 k4 q4 ?_
    rw [zBec_o (by omega)]
    simp (disch := omega) only [zs_n, zs_v, zs_k]
    exact q4.2.1
end
