/-! ===== luck and mean of the reference ===== -/
def sMw (v : Int) : Nat → Int → Int
  | 0, _ => 1
  | k + 1, m => (if m % 2 = 1 then v else 10 - v) * sMw v k (m / 2)
def sMp (n : Int) (t g : Int → Int) (r : Int) (e1 e2 ln : Int → Int) (hol : Int) : Nat → Int → (Int → Int) → Int → (Int → Int)
  | 0, _, p, _ => p
  | k + 1, m, p, dy => if m % 2 = 1 then sMp n t g r e1 e2 ln hol k (m / 2) p (zw (dy + 1)) else sMp n t g r e1 e2 ln hol k (m / 2) (sDay n t g r e1 e2 ln hol (p, 0, dy)).1 (zw (dy + 1))
theorem zsum_l {F : Int → Int} : ∀ (k : Nat) (i a : Int), zfor (fun m a => a + F m) i k a = a + zfor (fun m a => a + F m) i k 0
  | 0, i, a => by rw [zfor, zfor]; omega
  | k + 1, i, a => by rw [zfor, zfor, zsum_l k (i + 1) (a + F i), zsum_l k (i + 1) (0 + F i)]; omega
theorem zsum_2 {F : Int → Int} : ∀ (k : Nat) (i a : Int), zfor (fun m a => a + F m) (2 * i) (2 * k) a = zfor (fun q a => a + (F (2 * q) + F (2 * q + 1))) i k a
  | 0, i, a => rfl
  | k + 1, i, a => by
    rw [show 2 * (k + 1) = 2 * k + 1 + 1 by omega, zfor, zfor, zfor, show 2 * i + 1 + 1 = 2 * (i + 1) by omega, zsum_2 k (i + 1), show a + F (2 * i) + F (2 * i + 1) = a + (F (2 * i) + F (2 * i + 1)) by omega]
theorem zsum_a {F H : Int → Int} {c d : Int} : ∀ (k : Nat) (i : Int), zfor (fun m a => a + (c * F m + d * H m)) i k 0 = c * zfor (fun m a => a + F m) i k 0 + d * zfor (fun m a => a + H m) i k 0
  | 0, i => by rw [zfor, zfor, zfor, Int.mul_zero, Int.mul_zero]; rfl
  | k + 1, i => by
    rw [zfor, zfor, zfor, zsum_l, zsum_l (F := F), zsum_l (F := H), zsum_a k (i + 1)]
    simp only [Int.zero_add, Int.mul_add]
    omega
def sMS (n : Int) (t g : Int → Int) (r : Int) (e1 e2 ln : Int → Int) (hol : Int) (val : Int → Int) (v : Int) (k : Nat) (p : Int → Int) (dy : Int) : Int := zfor (fun m a => a + sMw v k m * val (sSpread n (sMp n t g r e1 e2 ln hol k m p dy))) 0 (2 ^ k) 0
theorem sMS_T {n r hol : Int} {t g e1 e2 ln val : Int → Int} {v : Int} : ∀ (k : Nat) (p : Int → Int) (dy : Int), sMS n t g r e1 e2 ln hol val v k p dy = sT n t g r e1 e2 ln hol val v k p dy
  | 0, p, dy => by
    unfold sMS
    show 0 + 1 * val (sSpread n p) = val (sSpread n p)
    omega
  | k + 1, p, dy => by
    rw [sT, ← sMS_T k p, ← sMS_T k]
    unfold sMS
    have q := zsum_2 (F := fun m => sMw v (k + 1) m * val (sSpread n (sMp n t g r e1 e2 ln hol (k + 1) m p dy))) (2 ^ k) 0 0
    rw [show (2 : Nat) ^ (k + 1) = 2 * 2 ^ k by rw [Nat.pow_succ]; omega]
    rw [show (2 : Int) * 0 = 0 from rfl] at q
    rw [q, ← zsum_a]
    refine zfor_congr _ _ _ (fun m a m0 _ => ?_)
    have e1 : (2 * m) % 2 = 0 := by omega
    have e2 : (2 * m) / 2 = m := by omega
    have e3 : (2 * m + 1) % 2 = 1 := by omega
    have e4 : (2 * m + 1) / 2 = m := by omega
    simp only [sMw, sMp, e1, e2, e3, e4, if_true, show ((0 : Int) = 1) = False from eq_false (by decide), if_false]
    rw [Int.mul_assoc, Int.mul_assoc]
    generalize v * (sMw v k m * val (sSpread n (sMp n t g r _ _ ln hol k m p (zw (dy + 1))))) = x1
    omega
theorem zbit : ∀ (M : Fin 256) (x : Fin 8), zand (zshr (M : Nat) (x : Nat)) 1 = ((M : Nat) / 2 ^ (x : Nat) % 2 : Nat) := by decide +kernel
theorem z_bit {M : Int} {x : Nat} (h0 : 0 ≤ M) (h1 : M < 256) (hx : x < 8) : zand (zshr M x) 1 = M / 2 ^ x % 2 := by
  have q := zbit ⟨M.toNat, by omega⟩ ⟨x, hx⟩
  dsimp only at q
  rw [Int.toNat_of_nonneg h0] at q
  rw [q]
  have e : ((M.toNat / 2 ^ x % 2 : Nat) : Int) = (M.toNat : Int) / (2 ^ x : Int) % 2 := by
    rw [Int.natCast_emod, Int.natCast_ediv, Int.natCast_pow]
    rfl
  rw [e, Int.toNat_of_nonneg h0]
theorem z_shl1 {n : Int} (h0 : 0 ≤ n) (h8 : n ≤ 8) : zshl 1 n = ((2 ^ n.toNat : Nat) : Int) := by
  rcases (show n = 0 ∨ n = 1 ∨ n = 2 ∨ n = 3 ∨ n = 4 ∨ n = 5 ∨ n = 6 ∨ n = 7 ∨ n = 8 by omega) with rfl | rfl | rfl | rfl | rfl | rfl | rfl | rfl | rfl <;> decide
theorem z_2n {n : Nat} (h8 : n ≤ 8) : 1 ≤ 2 ^ n ∧ 2 ^ n ≤ 256 := by
  rcases (show n = 0 ∨ n = 1 ∨ n = 2 ∨ n = 3 ∨ n = 4 ∨ n = 5 ∨ n = 6 ∨ n = 7 ∨ n = 8 by omega) with rfl | rfl | rfl | rfl | rfl | rfl | rfl | rfl | rfl <;> decide
section
variable {l : Launch} {G : zG} {mem : zM}
set_option maxRecDepth 100000 in
theorem c_common (a b : Int) (a0 : 0 ≤ a) (a1 : a < 1000000000000) (b0 : 0 ≤ b) (b1 : b < 1000000000000) : KX6_common l G 0 [zJ a, zJ b] mem (zP1 (zJ (sG a b)) mem) := by
  refine CT.of' (own := RX6) (ls0 := [zJ a, zU, zJ b, zU, zU, zU, zU, zU, zU, zU]) rfl (by decide +kernel) (Nat.le_of_ble_eq_true rfl) rfl ?_
  have loop : ∀ (k : Nat) (x y : Int) (v8 v9 : zV), y < k → 0 ≤ x → x < 1000000000000 → 0 ≤ y → y < 1000000000000 → sG x y = sG a b → SW l G (zrm 0) RX6 cX6_common 10 (some .long) (zZ G (zP1 (zJ (sG a b)) mem)) 0 0 (fun _ => True) 6 [zJ a, zU, zJ b, zU, zJ x, zU, zJ y, zU, v8, v9] [] mem := by
    intro k
    induction k with
    | zero => intro x y v8 v9 hk x0 x1 y0 y1 he; exact absurd hk (by omega)
    | succ k ih =>
      intro x y v8 v9 hk x0 x1 y0 y1 he
      by_cases hy : y = 0
      · subst hy
        rw [sG_0 x0] at he
        refine r_lload dX6_common_6 rfl ?_
        refine r_lconst dX6_common_8 rfl (k := ?_)
        refine r_lcmp dX6_common_9 ?_
        refine r_if_eq (tgt := 31) dX6_common_10 (by decide) (fun h10 => ?_) (fun h10 => ?_)
        · refine r_lload dX6_common_31 rfl ?_
          refine r_lret dX6_common_33 ?_
          rw [he]
          exact zP1.i
        · exact absurd (zcmp_eq.mpr rfl) h10
      · have q0 := Int.emod_nonneg x hy
        have q1 := Int.emod_lt_of_pos x (show 0 < y by omega)
        rw [sG_s x0 (by omega)] at he
        refine r_lload dX6_common_6 rfl ?_
        refine r_lconst dX6_common_8 rfl (k := ?_)
        refine r_lcmp dX6_common_9 ?_
        refine r_if_eq (tgt := 31) dX6_common_10 (by decide) (fun h10 => ?_) (fun h10 => ?_)
        · exact absurd (zcmp_eq.mp h10) hy
        · refine r_lload dX6_common_13 rfl ?_
          refine r_lload dX6_common_15 rfl ?_
          refine r_lrem dX6_common_17 (by omega) ?_
          rw [z_tmod64 (by omega) (by omega) (by omega)]
          refine r_lstore dX6_common_18 rfl ?_
          refine r_lload dX6_common_20 rfl ?_
          refine r_lstore dX6_common_22 rfl ?_
          refine r_lload dX6_common_24 rfl ?_
          refine r_lstore dX6_common_26 rfl ?_
          refine r_goto (tgt := 6) dX6_common_28 (by decide) ?_
          exact ih _ _ _ _ (by omega) (by omega) (by omega) (by omega) (by omega) he
  refine r_lload_n dX6_common_0 rfl ?_
  refine r_lstore dX6_common_1 rfl ?_
  refine r_lload_n dX6_common_3 rfl ?_
  refine r_lstore dX6_common_4 rfl ?_
  exact loop (b.toNat + 1) _ _ _ _ (by omega) a0 a1 b0 b1 rfl
set_option maxRecDepth 100000 in
theorem c_told (s n w : Int) (s0 : 0 ≤ s) (s1 : s < 1000000000000) (n0 : 0 ≤ n) (n8 : n ≤ 8) : KX6_told l G 1 [zJ s, zJ (10 ^ n.toNat), zI w] mem (zP1 (zJ (sFr s n w)) mem) := by
  have hw := z_10 (x := n.toNat) (by omega)
  have hG1 := sG_1 (x := s) (y := 10 ^ n.toNat) (by omega)
  refine CT.of' (own := RX6) (ls0 := [zJ s, zU, zJ (10 ^ n.toNat), zU, zI w, zU, zU]) rfl (by decide +kernel) (Nat.le_of_ble_eq_true rfl) rfl ?_
  refine r_lload_n dX6_told_0 rfl ?_
  refine r_lload_n dX6_told_1 rfl ?_
  refine r_s2 (c_common _ _ (by omega) (by omega) s0 s1) kX6_271 dX6_told_2 ?_
  rw [sG_c]
  refine r_lstore dX6_told_5 rfl ?_
  refine r_iload dX6_told_7 rfl ?_
  refine r_if_ne (tgt := 19) dX6_told_9 (by decide) (fun h9 => ?_) (fun h9 => ?_)
  · refine r_lload_n dX6_told_19 rfl ?_
    refine r_lload dX6_told_20 rfl ?_
    refine r_ldiv dX6_told_22 (by omega) ?_
    rw [z_tdiv64 (by omega) (by omega) (by omega)]
    refine r_lret dX6_told_23 ?_
    unfold sFr
    first
      | (rw [if_pos (by omega)]; exact zP1.i)
      | (rw [if_neg (by omega)]; exact zP1.i)
  · refine r_lload_n dX6_told_12 rfl ?_
    refine r_lload dX6_told_13 rfl ?_
    refine r_ldiv dX6_told_15 (by omega) ?_
    rw [z_tdiv64 (by omega) (by omega) (by omega)]
    refine r_goto (tgt := 23) dX6_told_16 (by decide) ?_
    refine r_lret dX6_told_23 ?_
    unfold sFr
    first
      | (rw [if_pos (by omega)]; exact zP1.i)
      | (rw [if_neg (by omega)]; exact zP1.i)
end
