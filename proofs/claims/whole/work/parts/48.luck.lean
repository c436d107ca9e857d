/-! ===== lowest terms; luck and mean of the class ===== -/
def sG (x y : Int) : Int := ((Nat.gcd x.toNat y.toNat : Nat) : Int)
theorem sG_0 {x : Int} (h : 0 ≤ x) : sG x 0 = x := by
  unfold sG
  rw [show (0 : Int).toNat = 0 from rfl, Nat.gcd_zero_right]
  omega
theorem sG_s {x y : Int} (hx : 0 ≤ x) (hy : 0 < y) : sG x y = sG y (x % y) := by
  unfold sG
  rw [Int.toNat_emod hx (by omega), Nat.gcd_comm, Nat.gcd_rec, Nat.gcd_comm]
theorem sG_c {x y : Int} : sG x y = sG y x := by unfold sG; rw [Nat.gcd_comm]
theorem sG_1 {x y : Int} (hy : 0 < y) : 1 ≤ sG x y := by
  unfold sG
  have := Nat.gcd_pos_of_pos_right x.toNat (show 0 < y.toNat by omega)
  omega
theorem sG_le {x y : Int} (hy : 0 < y) : sG x y ≤ y := by
  unfold sG
  have := Nat.gcd_le_right x.toNat (show 0 < y.toNat by omega)
  omega
def sE : Nat → Int → Int → Int
  | 0, x, _ => x
  | k + 1, x, y => if y = 0 then x else sE k y (x % y)
theorem sE_0 {x : Int} : ∀ k, sE k x 0 = x
  | 0 => rfl
  | k + 1 => if_pos rfl
theorem zhalf {y b : Int} (hb : 0 < b) (hy : b ≤ y) : 2 * (y % b) < y := by
  have h1 : 1 ≤ y / b := Int.le_ediv_of_mul_le hb (by omega)
  have h2 : b * 1 ≤ b * (y / b) := Int.mul_le_mul_of_nonneg_left h1 (by omega)
  have h3 : y % b + b * (y / b) = y := Int.emod_add_mul_ediv y b
  have h4 := Int.emod_lt_of_pos y hb
  omega
theorem sE_g : ∀ (j k : Nat) (x y : Int), 0 ≤ x → 0 ≤ y → y < 2 ^ j → 2 * j ≤ k → sE k x y = sG x y
  | 0, k, x, y, hx, hy, h, hk => by
    have : y = 0 := by
      have : (2 : Int) ^ 0 = 1 := rfl
      omega
    subst this
    rw [sE_0, sG_0 hx]
  | j + 1, k, x, y, hx, hy, h, hk => by
    by_cases y0 : y = 0
    · subst y0; rw [sE_0, sG_0 hx]
    · obtain ⟨k', rfl⟩ : ∃ k', k = k' + 1 + 1 := ⟨k - 2, by omega⟩
      have b0 := Int.emod_nonneg x y0
      have b1 := Int.emod_lt_of_pos x (show 0 < y by omega)
      rw [sE, if_neg y0, sG_s hx (by omega)]
      by_cases b : x % y = 0
      · rw [b, sE_0, sG_0 hy]
      · rw [sE, if_neg b, sG_s hy (by omega)]
        have q := zhalf (y := y) (b := x % y) (by omega) (by omega)
        have p : (2 : Int) ^ (j + 1) = 2 * 2 ^ j := by rw [Int.pow_succ]; omega
        exact sE_g j k' _ _ b0 (Int.emod_nonneg _ b) (by omega) (by omega)
theorem z_tmod64 {x y : Int} (h0 : 0 ≤ x) (h1 : x < 9223372036854775808) (h2 : 0 < y) : zw64 (x.tmod y) = x % y := by
  rw [Int.tmod_eq_emod_of_nonneg h0]
  have a := Int.emod_nonneg x (show y ≠ 0 by omega)
  have d := Int.ediv_nonneg h0 (show 0 ≤ y by omega)
  have c := Int.mul_nonneg (show 0 ≤ y by omega) d
  have b : x % y + y * (x / y) = x := Int.emod_add_mul_ediv x y
  exact zw64_id (by omega) (by omega)
theorem z_tdiv64 {x y : Int} (h0 : 0 ≤ x) (h1 : x < 9223372036854775808) (h2 : 0 < y) : zw64 (x.tdiv y) = x / y := by
  rw [Int.tdiv_eq_ediv_of_nonneg h0]
  have a := Int.ediv_nonneg h0 (show 0 ≤ y by omega)
  have b : x / y ≤ x := Int.ediv_le_self y h0
  exact zw64_id (by omega) (by omega)
theorem z_10 {x : Nat} (h : x ≤ 8) : 1 ≤ (10 : Int) ^ x ∧ (10 : Int) ^ x ≤ 100000000 := by
  rcases (show x = 0 ∨ x = 1 ∨ x = 2 ∨ x = 3 ∨ x = 4 ∨ x = 5 ∨ x = 6 ∨ x = 7 ∨ x = 8 by omega) with rfl | rfl | rfl | rfl | rfl | rfl | rfl | rfl | rfl <;> decide
/-- a part, in lowest terms -/
def sFr (s n w : Int) : Int := (if w = 0 then s else 10 ^ n.toNat) / sG s (10 ^ n.toNat)
section
variable {l : Launch} {G : zG} {mem : zM}
set_option maxRecDepth 100000 in
theorem c_commonDivisor (a b : Int) (a0 : 0 ≤ a) (a1 : a < 1000000000000) (b0 : 0 ≤ b) (b1 : b < 1000000000000) : KX5_commonDivisor l G 1 [zJ a, zJ b] mem (zP1 (zJ (max 1 (sE 200 a b))) mem) := by
  refine CT.of' (own := RX5) (ls0 := [zJ a, zU, zJ b, zU, zU, zU, zU, zU, zU, zU, zU]) rfl (by decide +kernel) (Nat.le_of_ble_eq_true rfl) rfl ?_
  have loop : ∀ (k : Nat) (x y s : Int) (v9 v10 : zV), 0 ≤ x → x < 1000000000000 → 0 ≤ y → y < 1000000000000 → 0 ≤ s → s + k = 200 → sE k x y = sE 200 a b → SW l G (zrm 1) RX5 cX5_commonDivisor 11 (some .long) (zZ G (zP1 (zJ (max 1 (sE 200 a b))) mem)) 0 0 (fun _ => True) 9 [zJ a, zU, zJ b, zU, zJ x, zU, zJ y, zU, zI s, v9, v10] [] mem := by
    intro k
    induction k with
    | zero =>
      intro x y s v9 v10 x0 x1 y0 y1 s0 s1 he
      refine r_iload dX5_commonDivisor_9 rfl ?_
      refine r_sipush dX5_commonDivisor_11 (k := ?_)
      refine r_icmp_ge (tgt := 45) dX5_commonDivisor_14 (by decide) (fun h14 => ?_) (fun h14 => ?_)
      · refine r_lconst dX5_commonDivisor_45 rfl (k := ?_)
        refine r_lload dX5_commonDivisor_46 rfl ?_
        refine r_mmaxL kX5_284 dX5_commonDivisor_48 ?_
        refine r_lret dX5_commonDivisor_51 ?_
        rw [show x = sE 200 a b from he]
        exact zP1.i
      · exact absurd (by omega) h14
    | succ k ih =>
      intro x y s v9 v10 x0 x1 y0 y1 s0 s1 he
      rw [sE] at he
      by_cases hy : y = 0
      · rw [if_pos hy] at he
        refine r_iload dX5_commonDivisor_9 rfl ?_
        refine r_sipush dX5_commonDivisor_11 (k := ?_)
        refine r_icmp_ge (tgt := 45) dX5_commonDivisor_14 (by decide) (fun h14 => ?_) (fun h14 => ?_)
        · refine r_lconst dX5_commonDivisor_45 rfl (k := ?_)
          refine r_lload dX5_commonDivisor_46 rfl ?_
          refine r_mmaxL kX5_284 dX5_commonDivisor_48 ?_
          refine r_lret dX5_commonDivisor_51 ?_
          rw [he]
          exact zP1.i
        · refine r_lload dX5_commonDivisor_17 rfl ?_
          refine r_lconst dX5_commonDivisor_19 rfl (k := ?_)
          refine r_lcmp dX5_commonDivisor_20 ?_
          refine r_if_eq (tgt := 45) dX5_commonDivisor_21 (by decide) (fun h21 => ?_) (fun h21 => ?_)
          · refine r_lconst dX5_commonDivisor_45 rfl (k := ?_)
            refine r_lload dX5_commonDivisor_46 rfl ?_
            refine r_mmaxL kX5_284 dX5_commonDivisor_48 ?_
            refine r_lret dX5_commonDivisor_51 ?_
            rw [he]
            exact zP1.i
          · exact absurd (zcmp_eq.mpr hy) h21
      · rw [if_neg hy] at he
        have q0 := Int.emod_nonneg x hy
        have q1 := Int.emod_lt_of_pos x (show 0 < y by omega)
        refine r_iload dX5_commonDivisor_9 rfl ?_
        refine r_sipush dX5_commonDivisor_11 (k := ?_)
        refine r_icmp_ge (tgt := 45) dX5_commonDivisor_14 (by decide) (fun h14 => ?_) (fun h14 => ?_)
        · first
            | exact absurd h14 (by omega)
            | exact absurd (zcmp_eq.mp h21) hy
        · refine r_lload dX5_commonDivisor_17 rfl ?_
          refine r_lconst dX5_commonDivisor_19 rfl (k := ?_)
          refine r_lcmp dX5_commonDivisor_20 ?_
          refine r_if_eq (tgt := 45) dX5_commonDivisor_21 (by decide) (fun h21 => ?_) (fun h21 => ?_)
          · first
              | exact absurd h14 (by omega)
              | exact absurd (zcmp_eq.mp h21) hy
          · refine r_lload dX5_commonDivisor_24 rfl ?_
            refine r_lload dX5_commonDivisor_26 rfl ?_
            refine r_lrem dX5_commonDivisor_28 (by omega) ?_
            rw [z_tmod64 (by omega) (by omega) (by omega)]
            refine r_lstore dX5_commonDivisor_29 rfl ?_
            refine r_lload dX5_commonDivisor_31 rfl ?_
            refine r_lstore dX5_commonDivisor_33 rfl ?_
            refine r_lload dX5_commonDivisor_35 rfl ?_
            refine r_lstore dX5_commonDivisor_37 rfl ?_
            refine r_iinc dX5_commonDivisor_39 rfl rfl ?_
            try rw [zw_id (by omega) (by omega)]
            refine r_goto (tgt := 9) dX5_commonDivisor_42 (by decide) ?_
            exact ih _ _ _ _ _ (by omega) (by omega) (by omega) (by omega) (by omega) (by omega) he
  refine r_lload_n dX5_commonDivisor_0 rfl ?_
  refine r_lstore dX5_commonDivisor_1 rfl ?_
  refine r_lload_n dX5_commonDivisor_3 rfl ?_
  refine r_lstore dX5_commonDivisor_4 rfl ?_
  refine r_iconst dX5_commonDivisor_6 (k := ?_)
  refine r_istore dX5_commonDivisor_7 rfl ?_
  exact loop 200 _ _ _ _ _ a0 a1 b0 b1 (by omega) (by omega) rfl
set_option maxRecDepth 100000 in
theorem c_fractionPart (s n w : Int) (s0 : 0 ≤ s) (s1 : s < 1000000000000) (n0 : 0 ≤ n) (n8 : n ≤ 8) : KX5_fractionPart l G 2 [zJ s, zI n, zI w] mem (zP1 (zJ (sFr s n w)) mem) := by
  have hw := z_10 (x := n.toNat) (by omega)
  have h27 : (2 : Int) ^ 27 = 134217728 := by decide
  have hE : max 1 (sE 200 s (10 ^ n.toNat)) = sG s (10 ^ n.toNat) := by
    rw [sE_g 27 200 s _ s0 (by omega) (by omega) (by decide)]
    have := sG_1 (x := s) (y := 10 ^ n.toNat) (by omega)
    omega
  have hG1 := sG_1 (x := s) (y := 10 ^ n.toNat) (by omega)
  refine CT.of' (own := RX5) (ls0 := [zJ s, zU, zI n, zI w, zU, zU, zU, zU]) rfl (by decide +kernel) (Nat.le_of_ble_eq_true rfl) rfl ?_
  have loop : ∀ (k x : Nat), (x : Int) + k = n → SW l G (zrm 2) RX5 cX5_fractionPart 8 (some .long) (zZ G (zP1 (zJ (sFr s n w)) mem)) 0 0 (fun _ => True) 6 [zJ s, zU, zI n, zI w, zJ (10 ^ x), zU, zI x, zU] [] mem := by
    intro k
    induction k with
    | zero =>
      intro x hx
      rw [show x = n.toNat by omega]
      refine r_iload dX5_fractionPart_6 rfl ?_
      refine r_iload_n dX5_fractionPart_8 rfl ?_
      refine r_icmp_ge (tgt := 26) dX5_fractionPart_9 (by decide) (fun h9 => ?_) (fun h9 => ?_)
      · refine r_lload_n dX5_fractionPart_26 rfl ?_
        refine r_lload dX5_fractionPart_27 rfl ?_
        refine r_s2 (c_commonDivisor _ _ s0 s1 (by omega) (by omega)) kX5_280 dX5_fractionPart_29 ?_
        rw [hE]
        refine r_lstore dX5_fractionPart_32 rfl ?_
        refine r_iload_n dX5_fractionPart_34 rfl ?_
        refine r_if_ne (tgt := 42) dX5_fractionPart_35 (by decide) (fun h35 => ?_) (fun h35 => ?_)
        · refine r_lload dX5_fractionPart_42 rfl ?_
          refine r_lload dX5_fractionPart_44 rfl ?_
          refine r_ldiv dX5_fractionPart_46 (by omega) ?_
          rw [z_tdiv64 (by omega) (by omega) (by omega)]
          refine r_lret dX5_fractionPart_47 ?_
          unfold sFr
          first
            | (rw [if_pos (by omega)]; exact zP1.i)
            | (rw [if_neg (by omega)]; exact zP1.i)
        · refine r_lload_n dX5_fractionPart_38 rfl ?_
          refine r_goto (tgt := 44) dX5_fractionPart_39 (by decide) ?_
          refine r_lload dX5_fractionPart_44 rfl ?_
          refine r_ldiv dX5_fractionPart_46 (by omega) ?_
          rw [z_tdiv64 (by omega) (by omega) (by omega)]
          refine r_lret dX5_fractionPart_47 ?_
          unfold sFr
          first
            | (rw [if_pos (by omega)]; exact zP1.i)
            | (rw [if_neg (by omega)]; exact zP1.i)
      · exact absurd (by omega) h9
    | succ k ih =>
      intro x hx
      have hx8 := z_10 (x := x) (by omega)
      have hp : (10 : Int) ^ x * 10 = 10 ^ (x + 1) := (Int.pow_succ 10 x).symm
      refine r_iload dX5_fractionPart_6 rfl ?_
      refine r_iload_n dX5_fractionPart_8 rfl ?_
      refine r_icmp_ge (tgt := 26) dX5_fractionPart_9 (by decide) (fun h9 => ?_) (fun h9 => ?_)
      · exact absurd h9 (by omega)
      · refine r_lload dX5_fractionPart_12 rfl ?_
        refine r_ldc2 nX5_278 dX5_fractionPart_14 (x := 10) (k := ?_)
        refine r_lmul dX5_fractionPart_17 ?_
        try rw [zw64_id (by omega) (by omega)]
        refine r_lstore dX5_fractionPart_18 rfl ?_
        refine r_iinc dX5_fractionPart_20 rfl rfl ?_
        try rw [zw_id (by omega) (by omega)]
        refine r_goto (tgt := 6) dX5_fractionPart_23 (by decide) ?_
        rw [hp]
        exact ih (x + 1) (by omega)
  refine r_lconst dX5_fractionPart_0 rfl (k := ?_)
  refine r_lstore dX5_fractionPart_1 rfl ?_
  refine r_iconst dX5_fractionPart_3 (k := ?_)
  refine r_istore dX5_fractionPart_4 rfl ?_
  exact loop n.toNat 0 (by omega)
theorem c_storm {mem : zM} (hI : zFI mem 8) (n v w : Int) (n0 : 0 ≤ n) (n8 : n ≤ 8) (hv0 : 0 ≤ v) (hv1 : v ≤ 10) (hd0 : 0 ≤ mem 8 9) (hd1 : mem 8 9 ≤ 4000) : ∃ d, d ≤ 12 ∧ KX5_stormSum l G d [zR 8, zR 64, zI n, zI v, zI w] mem (zPG n (zJ (sT (mem 8 0) (mem 9) (mem 11) (mem 8 4) (mem 12) (mem 13) (mem 14) (mem 8 8) (sVal w) v n.toNat (mem 10) (mem 8 9))) mem) := by
  rcases (show n = 0 ∨ n = 1 ∨ n = 2 ∨ n = 3 ∨ n = 4 ∨ n = 5 ∨ n = 6 ∨ n = 7 ∨ n = 8 by omega) with rfl | rfl | rfl | rfl | rfl | rfl | rfl | rfl | rfl
  · exact ⟨4, by decide, c_storm0 hI v w hv0 hv1 hd0 (by omega)⟩
  · exact ⟨4 + 1, by decide, c_storm1 hI v w hv0 hv1 hd0 (by omega)⟩
  · exact ⟨4 + 2, by decide, c_storm2 hI v w hv0 hv1 hd0 (by omega)⟩
  · exact ⟨4 + 3, by decide, c_storm3 hI v w hv0 hv1 hd0 (by omega)⟩
  · exact ⟨4 + 4, by decide, c_storm4 hI v w hv0 hv1 hd0 (by omega)⟩
  · exact ⟨4 + 5, by decide, c_storm5 hI v w hv0 hv1 hd0 (by omega)⟩
  · exact ⟨4 + 6, by decide, c_storm6 hI v w hv0 hv1 hd0 (by omega)⟩
  · exact ⟨4 + 7, by decide, c_storm7 hI v w hv0 hv1 hd0 (by omega)⟩
  · exact ⟨4 + 8, by decide, c_storm8 hI v w hv0 hv1 hd0 (by omega)⟩
/-- the sum of a firth -/
def vT : zVw → (Int → Int) → Int → Nat → Int := fun (n, t, g, r, e1, e2, ln, hol, p, _, dy) val v k => sT n t g r e1 e2 ln hol val v k p dy
theorem VEQ.sums {W V : zVw} (h : VEQ W V) (val : Int → Int) (v : Int) (k : Nat) : vT W val v k = vT V val v k := by
  obtain ⟨n, t, g, r, e1, e2, ln, hol, p, bu, dy⟩ := W
  obtain ⟨n', t', g', r', f1, f2, fl, hol', q, bu', dy'⟩ := V
  obtain ⟨a1, a2, a3, a4, a5, a6, a7, a8, a9, a10, a11⟩ := h
  subst a1 a4 a6 a8 a9
  exact sT_c a10 a2 a3 a5 k p q dy a7
theorem vT_bd {m : zM} {b : Nat} (hI : zFI m b) {v w : Int} (hv0 : 0 ≤ v) (hv1 : v ≤ 10) {k : Nat} (hk : k ≤ 8) : 0 ≤ vT (vC m b) (sVal w) v k ∧ vT (vC m b) (sVal w) v k ≤ 9900000000 := by
  have a := sT_bd (n := m b 0) (t := m (b + 1)) (g := m (b + 3)) (r := m b 4) (e1 := m (b + 4)) (e2 := m (b + 5)) (ln := m (b + 6)) (hol := m b 8) (w := w) hv0 hv1 hI.1 k (dy := m b 9) hI.2.2.2.2.1
  have c := z_10 hk
  have e : vT (vC m b) (sVal w) v k = sT (m b 0) (m (b + 1)) (m (b + 3)) (m b 4) (m (b + 4)) (m (b + 5)) (m (b + 6)) (m b 8) (sVal w) v k (m (b + 2)) (m b 9) := rfl
  omega
set_option maxRecDepth 100000 in
theorem c_X5_luck (hI : zFI mem 1) (hd0 : 0 ≤ mem 1 9) (hd1 : mem 1 9 ≤ 999) (v n w q : Int) : KX5_luck l G 13 [zR 0, zI v, zI n, zI w, zI q] mem (zPC (zJ (if 0 ≤ v ∧ v ≤ 10 ∧ 0 ≤ n ∧ n ≤ 8 ∧ 0 ≤ q ∧ q ≤ 1 ∧ 0 ≤ w ∧ w ≤ 99 then sFr (vT (vC mem 1) (sVal w) v n.toNat) n q else -1)) mem) := by
  obtain ⟨f1, f2, f3⟩ := zBec_t hI kC.rf
  have e89 : zBec mem 8 1 8 9 = mem 1 9 := by rw [zBec_b, if_pos (by omega)]
  by_cases hc : 0 ≤ v ∧ v ≤ 10 ∧ 0 ≤ n ∧ n ≤ 8 ∧ 0 ≤ q ∧ q ≤ 1 ∧ 0 ≤ w ∧ w ≤ 99
  · rw [if_pos hc, ← f2.sums]
    obtain ⟨d, hd, hM⟩ := c_storm (l := l) (G := G) f1 n v w (by omega) (by omega) (by omega) (by omega) (by omega) (by omega)
    have hb := vT_bd f1 (v := v) (w := w) (k := n.toNat) (by omega) (by omega) (by omega)
    refine CT.of' (own := RX5) (ls0 := [zR 0, zI v, zI n, zI w, zI q]) rfl (by decide +kernel) (Nat.le_of_ble_eq_true rfl) rfl ?_
    refine r_iload_n dX5_luck_0 rfl ?_
    refine r_iload_n dX5_luck_1 rfl ?_
    refine r_iload dX5_luck_2 rfl ?_
    refine r_s3 (c_isStorms _ _ _) kX5_204 dX5_luck_4 ?_
    refine r_ifd_eq (tgt := 20) dX5_luck_7 (by decide) (fun h7 => ?_) (fun h7 => ?_)
    · exact absurd hc (by omega)
    · refine r_iload_n dX5_luck_10 rfl ?_
      refine r_iconst dX5_luck_11 (k := ?_)
      refine r_bipush dX5_luck_12 (k := ?_)
      refine r_s3 (c_isWithin _ _ _) kX5_156 dX5_luck_14 ?_
      refine r_ifd_ne (tgt := 24) dX5_luck_17 (by decide) (fun h17 => ?_) (fun h17 => ?_)
      · refine r_aload_n dX5_luck_24 rfl ?_
        refine r_v0 (c_asItIs) kX5_177 rfl dX5_luck_25 ?_
        refine r_aload_n dX5_luck_28 rfl ?_
        refine r_getR (q := 64) fX5_51 rfl rfl dX5_luck_29 ?_
        refine r_iload_n dX5_luck_32 rfl ?_
        refine r_iload_n dX5_luck_33 rfl ?_
        refine r_iload_n dX5_luck_34 rfl ?_
        refine r_g5 hM kX5_209 dX5_luck_35 (fun Y bu hY => ?_) (hR := ⟨by show d + 1 ≤ 13; omega, by show 8 + (8 + 11) + 100 * d ≤ 1300; omega⟩)
        refine r_iload_n dX5_luck_38 rfl ?_
        refine r_iload dX5_luck_39 rfl ?_
        refine r_s3 (c_fractionPart _ _ _ hb.1 (Int.lt_of_le_of_lt hb.2 (by decide)) (by omega) (by omega)) kX5_213 dX5_luck_41 ?_
        refine r_lret dX5_luck_44 ?_
        exact ⟨rfl, (f3.r (by omega)).z (by omega)⟩
      · exact absurd hc (by omega)
  · rw [if_neg hc]
    refine CT.of' (own := RX5) (ls0 := [zR 0, zI v, zI n, zI w, zI q]) rfl (by decide +kernel) (Nat.le_of_ble_eq_true rfl) rfl ?_
    refine r_iload_n dX5_luck_0 rfl ?_
    refine r_iload_n dX5_luck_1 rfl ?_
    refine r_iload dX5_luck_2 rfl ?_
    refine r_s3 (c_isStorms _ _ _) kX5_204 dX5_luck_4 ?_
    refine r_ifd_eq (tgt := 20) dX5_luck_7 (by decide) (fun h7 => ?_) (fun h7 => ?_)
    · refine r_ldc2 nX5_207 dX5_luck_20 (x := -1) (k := ?_)
      refine r_lret dX5_luck_23 ?_
      exact ⟨rfl, kC.rf⟩
    · refine r_iload_n dX5_luck_10 rfl ?_
      refine r_iconst dX5_luck_11 (k := ?_)
      refine r_bipush dX5_luck_12 (k := ?_)
      refine r_s3 (c_isWithin _ _ _) kX5_156 dX5_luck_14 ?_
      refine r_ifd_ne (tgt := 24) dX5_luck_17 (by decide) (fun h17 => ?_) (fun h17 => ?_)
      · exact absurd (by omega) hc
      · refine r_ldc2 nX5_207 dX5_luck_20 (x := -1) (k := ?_)
        refine r_lret dX5_luck_23 ?_
        exact ⟨rfl, kC.rf⟩
set_option maxRecDepth 100000 in
theorem c_X5_mean (hI : zFI mem 1) (hd0 : 0 ≤ mem 1 9) (hd1 : mem 1 9 ≤ 999) (v n q : Int) : KX5_mean l G 13 [zR 0, zI v, zI n, zI q] mem (zPC (zJ (if 0 ≤ v ∧ v ≤ 10 ∧ 0 ≤ n ∧ n ≤ 8 ∧ 0 ≤ q ∧ q ≤ 1 then sFr (vT (vC mem 1) (sVal (-1)) v n.toNat) n q else -1)) mem) := by
  obtain ⟨f1, f2, f3⟩ := zBec_t hI kC.rf
  have e89 : zBec mem 8 1 8 9 = mem 1 9 := by rw [zBec_b, if_pos (by omega)]
  by_cases hc : 0 ≤ v ∧ v ≤ 10 ∧ 0 ≤ n ∧ n ≤ 8 ∧ 0 ≤ q ∧ q ≤ 1
  · rw [if_pos hc, ← f2.sums]
    obtain ⟨d, hd, hM⟩ := c_storm (l := l) (G := G) f1 n v (-1) (by omega) (by omega) (by omega) (by omega) (by omega) (by omega)
    have hb := vT_bd f1 (v := v) (w := -1) (k := n.toNat) (by omega) (by omega) (by omega)
    refine CT.of' (own := RX5) (ls0 := [zR 0, zI v, zI n, zI q]) rfl (by decide +kernel) (Nat.le_of_ble_eq_true rfl) rfl ?_
    refine r_iload_n dX5_mean_0 rfl ?_
    refine r_iload_n dX5_mean_1 rfl ?_
    refine r_iload_n dX5_mean_2 rfl ?_
    refine r_s3 (c_isStorms _ _ _) kX5_204 dX5_mean_3 ?_
    refine r_ifd_ne (tgt := 13) dX5_mean_6 (by decide) (fun h6 => ?_) (fun h6 => ?_)
    · refine r_aload_n dX5_mean_13 rfl ?_
      refine r_v0 (c_asItIs) kX5_177 rfl dX5_mean_14 ?_
      refine r_aload_n dX5_mean_17 rfl ?_
      refine r_getR (q := 64) fX5_51 rfl rfl dX5_mean_18 ?_
      refine r_iload_n dX5_mean_21 rfl ?_
      refine r_iload_n dX5_mean_22 rfl ?_
      refine r_iconst dX5_mean_23 (k := ?_)
      refine r_g5 hM kX5_209 dX5_mean_24 (fun Y bu hY => ?_) (hR := ⟨by show d + 1 ≤ 13; omega, by show 8 + (8 + 11) + 100 * d ≤ 1300; omega⟩)
      refine r_iload_n dX5_mean_27 rfl ?_
      refine r_iload_n dX5_mean_28 rfl ?_
      refine r_s3 (c_fractionPart _ _ _ hb.1 (Int.lt_of_le_of_lt hb.2 (by decide)) (by omega) (by omega)) kX5_213 dX5_mean_29 ?_
      refine r_lret dX5_mean_32 ?_
      exact ⟨rfl, (f3.r (by omega)).z (by omega)⟩
    · exact absurd hc (by omega)
  · rw [if_neg hc]
    refine CT.of' (own := RX5) (ls0 := [zR 0, zI v, zI n, zI q]) rfl (by decide +kernel) (Nat.le_of_ble_eq_true rfl) rfl ?_
    refine r_iload_n dX5_mean_0 rfl ?_
    refine r_iload_n dX5_mean_1 rfl ?_
    refine r_iload_n dX5_mean_2 rfl ?_
    refine r_s3 (c_isStorms _ _ _) kX5_204 dX5_mean_3 ?_
    refine r_ifd_ne (tgt := 13) dX5_mean_6 (by decide) (fun h6 => ?_) (fun h6 => ?_)
    · exact absurd (by omega) hc
    · refine r_ldc2 nX5_207 dX5_mean_9 (x := -1) (k := ?_)
      refine r_lret dX5_mean_12 ?_
      exact ⟨rfl, kC.rf⟩
end
