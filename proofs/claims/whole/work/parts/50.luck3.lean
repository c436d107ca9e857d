/-! ===== the reference's odds ===== -/
def zPO (a b c : Int) (m : zM) : Option zV → zM → Prop := fun r m' => r = none ∧ kM m m' ∧ m' 65 19 = a ∧ m' 65 20 = b ∧ m' 65 21 = c
section
variable {l : Launch} {G : zG} {R : Room} {own : String} {cc : ByteArray} {nL : Nat} {ret : Option FieldType} {Z : List Frame → Array Value → State → State → Prop} {kc ks : Nat} {Ex : State → Prop} {pc : Nat} {ls st : List zV} {mem mem' : zM}
variable {y : MethodName} {bytes : ByteArray} {nL' : Nat} {ret' : Option FieldType} {d index b ci : Nat} {v a1 a2 a3 : zV}
theorem r_wO3 {x1 x2 x3 : Int} (hM : CT l G y bytes nL' ret' d (zR b :: [a1, a2, a3]) mem (zPO x1 x2 x3 mem)) (hk : zCl own index y bytes nL' ret' 3 ci) (hL9 : zL b = (ci, zNf ci)) (hd : decode cc pc = .ok (.invokevirtual index, 3)) (kk : ∀ m9, kM mem m9 → m9 65 19 = x1 → m9 65 20 = x2 → m9 65 21 = x3 → SW l G R own cc nL ret Z kc ks Ex (pc + 3) ls st m9) (hR : d + 1 ≤ R.frames ∧ 8 + (nL' + 11) + 100 * d ≤ R.locals := by exact ⟨Nat.le_of_ble_eq_true rfl, Nat.le_of_ble_eq_true rfl⟩) (hw : zwd st ≤ 8 := by exact Nat.le_of_ble_eq_true rfl) : SW l G R own cc nL ret Z kc ks Ex pc ls (a3 :: a2 :: a1 :: zR b :: st) mem := by
  obtain ⟨h1, h2, h3, T, N, h4⟩ := hk
  exact r_callV hM h1 h2 hL9 h3 h4 rfl rfl hR hw hd (fun r m9 h9 => by obtain ⟨rfl, q1, q2, q3, q4⟩ := h9; exact kk m9 q1 q2 q3 q4)
end
theorem sMw_b {v : Int} (hv0 : 0 ≤ v) (hv1 : v ≤ 10) : ∀ (k : Nat) (m : Int), 0 ≤ sMw v k m ∧ sMw v k m ≤ 10 ^ k
  | 0, m => by rw [sMw]; exact ⟨by decide, by decide⟩
  | k + 1, m => by
    obtain ⟨a, b⟩ := sMw_b hv0 hv1 k (m / 2)
    rw [sMw, Int.pow_succ]
    split
    · have := zmulb hv0 hv1 a b; omega
    · have := zmulb (v := 10 - v) (by omega) (by omega) a b; omega
theorem zhalf2 {M : Int} {x : Nat} : M / 2 ^ (x + 1) = M / 2 ^ x / 2 := by
  rw [Int.pow_succ, Int.ediv_ediv_of_nonneg (Int.le_of_lt (Int.pow_pos (by decide)))]
def sNr (w x : Int) : Int := if x ≤ w then 1 else 0
section
variable {l : Launch} {G : zG} {mem : zM}
set_option maxRecDepth 100000 in
set_option maxHeartbeats 1000000 in
theorem c_findOdds (hI : mI (mem 65 3) (mem 66)) (v n w : Int) (hv0 : 0 ≤ v) (hv1 : v ≤ 10) (n0 : 0 ≤ n) (n8 : n ≤ 8) : KX6_findOdds l G 5 [zR 65, zI v, zI n, zI w] mem (zPO (sMS (mem 65 3) (mT (mem 66)) (mG (mem 66)) (mem 66 53) (m1 (mem 66)) (m2 (mem 66)) (m3 (mem 66)) (mem 66 55) (sNr w) v n.toNat (mP (mem 66)) (mem 66 54)) (sMS (mem 65 3) (mT (mem 66)) (mG (mem 66)) (mem 66 53) (m1 (mem 66)) (m2 (mem 66)) (m3 (mem 66)) (mem 66 55) (fun x => x) v n.toNat (mP (mem 66)) (mem 66 54)) (10 ^ n.toNat) mem) := by
  have hn0 := hI.1
  have hn5 := hI.2.1
  have h2n := z_2n (n := n.toNat) (by omega)
  have hsh := z_shl1 n0 n8
  have hre : RE (mem 65 3) (mem 66 53) (m1 (mem 66)) (m2 (mem 66)) (m3 (mem 66)) (m1 (mem 66)) (m2 (mem 66)) (m3 (mem 66)) := fun k a b => by
    obtain ⟨q1, q2, q3, q4, -⟩ := hI.2.2.2.2.2.2 k a b
    exact ⟨rfl, rfl, rfl, q1, q2, q3, q4⟩
  generalize hS1 : sMS (mem 65 3) (mT (mem 66)) (mG (mem 66)) (mem 66 53) (m1 (mem 66)) (m2 (mem 66)) (m3 (mem 66)) (mem 66 55) (sNr w) v n.toNat (mP (mem 66)) (mem 66 54) = S1
  generalize hS2 : sMS (mem 65 3) (mT (mem 66)) (mG (mem 66)) (mem 66 53) (m1 (mem 66)) (m2 (mem 66)) (m3 (mem 66)) (mem 66 55) (fun x => x) v n.toNat (mP (mem 66)) (mem 66 54) = S2
  refine CT.of' (own := RX6) (ls0 := [zR 65, zI v, zI n, zI w, zU, zU, zU, zU, zU]) rfl (by decide +kernel) (Nat.le_of_ble_eq_true rfl) rfl ?_
  -- the ways of each mask
  have masks : ∀ (k : Nat) (M : Int) (m : zM) (v5 v6 v7 v8 : zV), 0 ≤ M → M + k = ((2 ^ n.toNat : Nat) : Int) → kM mem m → 0 ≤ m 65 19 → m 65 19 ≤ M * 100000000 → 0 ≤ m 65 20 → m 65 20 ≤ M * 9900000000 → m 65 21 = 10 ^ n.toNat → zfor (fun M a => a + sMw v n.toNat M * sNr w (sSpread (mem 65 3) (sMp (mem 65 3) (mT (mem 66)) (mG (mem 66)) (mem 66 53) (m1 (mem 66)) (m2 (mem 66)) (m3 (mem 66)) (mem 66 55) n.toNat M (mP (mem 66)) (mem 66 54)))) M k (m 65 19) = S1 → zfor (fun M a => a + sMw v n.toNat M * sSpread (mem 65 3) (sMp (mem 65 3) (mT (mem 66)) (mG (mem 66)) (mem 66 53) (m1 (mem 66)) (m2 (mem 66)) (m3 (mem 66)) (mem 66 55) n.toNat M (mP (mem 66)) (mem 66 54))) M k (m 65 20) = S2 → SW l G (zrm 5) RX6 cX6_findOdds 9 none (zZ G (zPO S1 S2 (10 ^ n.toNat) mem)) 0 0 (fun _ => True) 45 [zR 65, zI v, zI n, zI w, zI M, v5, v6, v7, v8] [] m := by
    intro k
    induction k with
    | zero =>
      intro M m v5 v6 v7 v8 M0 M1 hk a0 a1 b0 b1 c0 he1 he2
      refine r_iload dX6_findOdds_45 rfl ?_
      refine r_iconst dX6_findOdds_47 (k := ?_)
      refine r_iload_n dX6_findOdds_48 rfl ?_
      refine r_ishl dX6_findOdds_49 ?_
      rw [hsh]
      refine r_icmp_ge (tgt := 165) dX6_findOdds_50 (by decide) (fun h50 => ?_) (fun h50 => ?_)
      · refine r_vret dX6_findOdds_165 ?_
        exact ⟨rfl, hk, he1, he2, c0⟩
      · exact absurd (by omega) h50
    | succ k ih =>
      intro M m v5 v6 v7 v8 M0 M1 hk a0 a1 b0 b1 c0 he1 he2
      rw [zfor] at he1 he2
      have e65 : m 65 3 = mem 65 3 := hk.2 3 (by decide) (by decide) (by decide) (by decide) (by decide)
      have e66 : m 66 = mem 66 := hk.at (by decide) (by decide) (by decide) (by decide)
      have hwb := sMw_b hv0 hv1 n.toNat M
      have h10 := z_10 (x := n.toNat) (by omega)
      generalize hWN : sMw v n.toNat M = WN at he1 he2 hwb
      generalize hPN : sMp (mem 65 3) (mT (mem 66)) (mG (mem 66)) (mem 66 53) (m1 (mem 66)) (m2 (mem 66)) (m3 (mem 66)) (mem 66 55) n.toNat M (mP (mem 66)) (mem 66 54) = PN at he1 he2
      have fin : ∀ (R : Int → Int) (v7 v8 : zV), mI (mem 65 3) R → PE (mem 65 3) (mP R) PN → SW l G (zrm 5) RX6 cX6_findOdds 9 none (zZ G (zPO S1 S2 (10 ^ n.toNat) mem)) 0 0 (fun _ => True) 119 [zR 65, zI v, zI n, zI w, zI M, zJ WN, zU, v7, v8] [] (zr m 67 R) := by
        intro R v7 v8 hR hP
        have hsp := sSpread_bd hn0 hR.2.2.2.2.1
        have hse := sSpread_c hP
        rw [← hse] at he1 he2
        generalize hSp : sSpread (mem 65 3) (mP R) = sp at he1 he2 hsp
        have hJ1 : mI (zr m 67 R 65 3) (zr m 67 R 67) := by rw [zr_n (by decide), zr_s, e65]; exact hR
        have hJ2 : ∀ z, mI (zs (zr m 67 R) 65 19 z 65 3) (zs (zr m 67 R) 65 19 z 67) := fun z => by rw [zs_k (by decide), zs_n (by decide)]; exact hJ1
        have hmul := Int.mul_le_mul_of_nonneg_left hsp.2 hwb.1
        have hmu0 := Int.mul_nonneg hwb.1 hsp.1
        have q1 : zr m 67 R 65 19 = m 65 19 := by rw [zr_n (by decide)]
        have q2 : ∀ z, zs (zr m 67 R) 65 19 z 65 20 = m 65 20 := fun z => by rw [zs_k (by decide), zr_n (by decide)]
        have q3 : ∀ z, sSpread (zs (zr m 67 R) 65 19 z 65 3) (mP (zs (zr m 67 R) 65 19 z 67)) = sp := fun z => by rw [zs_k (by decide), zs_n (by decide), zr_n (by decide), zr_s, e65, hSp]
        have q4 : sSpread (m 65 3) (mP R) = sp := by rw [e65, hSp]
        have nx : ∀ z1 z2 v7 v8, z1 = m 65 19 + WN * sNr w sp → z2 = m 65 20 + WN * sp → 0 ≤ z1 → z1 ≤ m 65 19 + 100000000 → SW l G (zrm 5) RX6 cX6_findOdds 9 none (zZ G (zPO S1 S2 (10 ^ n.toNat) mem)) 0 0 (fun _ => True) 45 [zR 65, zI v, zI n, zI w, zI (M + 1), zJ WN, zU, v7, v8] [] (zs (zs (zr m 67 R) 65 19 z1) 65 20 z2) := by
          intro z1 z2 v7 v8 g1 g2 g3 g4
          refine ih (M + 1) _ _ _ _ _ (by omega) (by omega) (((hk.r (Or.inl rfl)).f (by omega)).f (by omega)) ?_ ?_ ?_ ?_ ?_ ?_ ?_
          · rw [zs_k (by decide), zs_v]; exact g3
          · rw [zs_k (by decide), zs_v]; omega
          · rw [zs_v]; omega
          · rw [zs_v]; omega
          · rw [zs_k (by decide), zs_k (by decide), zr_n (by decide)]; exact c0
          · rw [zs_k (by decide), zs_v, g1]; exact he1
          · rw [zs_v, g2]; exact he2
        refine r_aload_n dX6_findOdds_119 rfl ?_
        refine r_dup dX6_findOdds_120 rfl ?_
        refine r_gJ (q := 19) rfl fX6_275 rfl dX6_findOdds_121 ?_
        rw [q1]
        refine r_aload_n dX6_findOdds_124 rfl ?_
        refine r_v0 (c_X6_spread hJ1) kX6_197 rfl dX6_findOdds_125 ?_
        rw [zr_n (by decide), zr_s, q4]
        refine r_iload_n dX6_findOdds_128 rfl ?_
        refine r_icmp_gt (tgt := 137) dX6_findOdds_129 (by decide) (fun h129 => ?_) (fun h129 => ?_)
        · refine r_lconst dX6_findOdds_137 rfl (k := ?_)
          refine r_ladd dX6_findOdds_138 ?_
          try rw [zw64_id (by omega) (by omega)]
          refine r_pJ (q := 19) rfl pX6_275 rfl dX6_findOdds_139 ?_
          refine r_aload_n dX6_findOdds_142 rfl ?_
          refine r_dup dX6_findOdds_143 rfl ?_
          refine r_gJ (q := 20) rfl fX6_279 rfl dX6_findOdds_144 ?_
          rw [q2]
          refine r_lload dX6_findOdds_147 rfl ?_
          refine r_aload_n dX6_findOdds_149 rfl ?_
          refine r_v0 (c_X6_spread (hJ2 _)) kX6_197 rfl dX6_findOdds_150 ?_
          rw [q3]
          refine r_i2l dX6_findOdds_153 ?_
          refine r_lmul dX6_findOdds_154 ?_
          try rw [zw64_id (by omega) (by omega)]
          refine r_ladd dX6_findOdds_155 ?_
          try rw [zw64_id (by omega) (by omega)]
          refine r_pJ (q := 20) rfl pX6_279 rfl dX6_findOdds_156 ?_
          refine r_iinc dX6_findOdds_159 rfl rfl ?_
          try rw [zw_id (by omega) (by omega)]
          refine r_goto (tgt := 45) dX6_findOdds_162 (by decide) ?_
          first
            | exact nx _ _ _ _ (by unfold sNr; rw [if_neg (by omega), Int.mul_zero]; rfl) rfl (by show 0 ≤ m 65 19 + 0; omega) (by show m 65 19 + 0 ≤ _; omega)
            | exact nx _ _ _ _ (by unfold sNr; rw [if_pos (by omega), Int.mul_one]) rfl (by omega) (by omega)
        · refine r_lload dX6_findOdds_132 rfl ?_
          refine r_goto (tgt := 138) dX6_findOdds_134 (by decide) ?_
          refine r_ladd dX6_findOdds_138 ?_
          try rw [zw64_id (by omega) (by omega)]
          refine r_pJ (q := 19) rfl pX6_275 rfl dX6_findOdds_139 ?_
          refine r_aload_n dX6_findOdds_142 rfl ?_
          refine r_dup dX6_findOdds_143 rfl ?_
          refine r_gJ (q := 20) rfl fX6_279 rfl dX6_findOdds_144 ?_
          rw [q2]
          refine r_lload dX6_findOdds_147 rfl ?_
          refine r_aload_n dX6_findOdds_149 rfl ?_
          refine r_v0 (c_X6_spread (hJ2 _)) kX6_197 rfl dX6_findOdds_150 ?_
          rw [q3]
          refine r_i2l dX6_findOdds_153 ?_
          refine r_lmul dX6_findOdds_154 ?_
          try rw [zw64_id (by omega) (by omega)]
          refine r_ladd dX6_findOdds_155 ?_
          try rw [zw64_id (by omega) (by omega)]
          refine r_pJ (q := 20) rfl pX6_279 rfl dX6_findOdds_156 ?_
          refine r_iinc dX6_findOdds_159 rfl rfl ?_
          try rw [zw_id (by omega) (by omega)]
          refine r_goto (tgt := 45) dX6_findOdds_162 (by decide) ?_
          first
            | exact nx _ _ _ _ (by unfold sNr; rw [if_neg (by omega), Int.mul_zero]; rfl) rfl (by show 0 ≤ m 65 19 + 0; omega) (by show m 65 19 + 0 ≤ _; omega)
            | exact nx _ _ _ _ (by unfold sNr; rw [if_pos (by omega), Int.mul_one]) rfl (by omega) (by omega)
      -- the days of one mask
      have days : ∀ (q x : Nat) (acc dy : Int) (R p : Int → Int) (v8 : zV), (x : Int) + q = n → mI (mem 65 3) R → mLk R (mem 66) → mG R = mG (mem 66) → PE (mem 65 3) (mP R) p → R 54 = dy → 0 ≤ acc → acc ≤ 10 ^ x → acc * sMw v q (M / 2 ^ x) = WN → sMp (mem 65 3) (mT (mem 66)) (mG (mem 66)) (mem 66 53) (m1 (mem 66)) (m2 (mem 66)) (m3 (mem 66)) (mem 66 55) q (M / 2 ^ x) p dy = PN → SW l G (zrm 5) RX6 cX6_findOdds 9 none (zZ G (zPO S1 S2 (10 ^ n.toNat) mem)) 0 0 (fun _ => True) 63 [zR 65, zI v, zI n, zI w, zI M, zJ acc, zU, zI x, v8] [] (zr m 67 R) := by
        intro q
        induction q with
        | zero =>
          intro x acc dy R p v8 hx hR hL hGG hP hdy c0 c1 hw hp
          rw [sMw, Int.mul_one] at hw
          rw [sMp] at hp
          subst hw hp
          refine r_iload dX6_findOdds_63 rfl ?_
          refine r_iload_n dX6_findOdds_65 rfl ?_
          refine r_icmp_ge (tgt := 119) dX6_findOdds_66 (by decide) (fun h66 => ?_) (fun h66 => ?_)
          · exact fin R _ _ hR hP
          · exact absurd (by omega) h66
        | succ q ihq =>
          intro x acc dy R p v8 hx hR hL hGG hP hdy c0 c1 hw hp
          obtain ⟨l1, l2, l3, l4, l5, l6⟩ := id hL
          have hx8 := z_10 (x := x) (by omega)
          have hJ : mI (zr m 67 R 65 3) (zr m 67 R 67) := by rw [zr_n (by decide), zr_s, e65]; exact hR
          rw [sMw, ← zhalf2, ← Int.mul_assoc] at hw
          rw [sMp, ← zhalf2] at hp
          have ed := (sDay_c (s := (mP R, 0, R 54)) (u := (p, 0, dy)) (t := mT (mem 66)) (t' := mT (mem 66)) (g := mG (mem 66)) (g' := mG (mem 66)) (hol := mem 66 55) hn0 PE.rf (fun _ _ _ _ _ _ _ => rfl) hre hP (by rw [hdy])).1
          have hmo : mOut R (sDay (mem 65 3) (mT R) (mG R) (R 53) (m1 R) (m2 R) (m3 R) (R 55) (mP R, R 56, R 54)).1 := sDay_out hn0 hn5 mOut.s
          have day : ∀ b : Bool, b = decide (M / 2 ^ x % 2 = 1) → SW l G (zrm 5) RX6 cX6_findOdds 9 none (zZ G (zPO S1 S2 (10 ^ n.toNat) mem)) 0 0 (fun _ => True) 85 [zR 65, zI v, zI n, zI w, zI M, zJ acc, zU, zI x, v8] [zI (zb b)] (zr m 67 R) := by
            intro b hb
            cases b with
            | true =>
              have hb1 : M / 2 ^ x % 2 = 1 := of_decide_eq_true hb.symm
              rw [if_pos hb1] at hw hp
              have m1 := zmulb hv0 hv1 c0 c1
              rw [Int.mul_comm v acc] at m1
              refine r_istore dX6_findOdds_85 rfl ?_
              refine r_lload dX6_findOdds_87 rfl ?_
              refine r_iload dX6_findOdds_89 rfl ?_
              refine r_ifb_eq (tgt := 99) dX6_findOdds_91 (by decide) (fun h91 => ?_) (fun h91 => ?_)
              · exact absurd h91 (by decide)
              · refine r_iload_n dX6_findOdds_94 rfl ?_
                refine r_i2l dX6_findOdds_95 ?_
                refine r_goto (tgt := 104) dX6_findOdds_96 (by decide) ?_
                refine r_lmul dX6_findOdds_104 ?_
                try rw [zw64_id (by omega) (by omega)]
                refine r_lstore dX6_findOdds_105 rfl ?_
                refine r_aload_n dX6_findOdds_107 rfl ?_
                refine r_iload dX6_findOdds_108 rfl ?_
                refine r_w1 (c_dayGoes hJ true) kX6_190 rfl dX6_findOdds_110 ?_
                try simp (disch := decide) only [zr_s, zr_n]
                rw [if_pos trivial, zr_zr]
                refine r_iinc dX6_findOdds_113 rfl rfl ?_
                try rw [zw_id (by omega) (by omega)]
                refine r_goto (tgt := 63) dX6_findOdds_116 (by decide) ?_
                rw [show ((x : Int) + 1) = ((x + 1 : Nat) : Int) by omega]
                exact ihq (x + 1) _ _ _ p _ (by omega) (hR.r mOut.s hR.2.2.2.2.1) hL.r (by rw [mR_G]; exact hGG) (by rw [mR_P mOut.s]; exact hP) (by rw [mR_54, hdy]) (by omega) (by rw [Int.pow_succ]; omega) hw hp
            | false =>
              have hb1 : ¬ M / 2 ^ x % 2 = 1 := of_decide_eq_false hb.symm
              rw [if_neg hb1] at hw hp
              have m1 := zmulb (v := 10 - v) (by omega) (by omega) c0 c1
              rw [Int.mul_comm (10 - v) acc] at m1
              refine r_istore dX6_findOdds_85 rfl ?_
              refine r_lload dX6_findOdds_87 rfl ?_
              refine r_iload dX6_findOdds_89 rfl ?_
              refine r_ifb_eq (tgt := 99) dX6_findOdds_91 (by decide) (fun h91 => ?_) (fun h91 => ?_)
              · refine r_bipush dX6_findOdds_99 (k := ?_)
                refine r_iload_n dX6_findOdds_101 rfl ?_
                refine r_isub dX6_findOdds_102 ?_
                try rw [zw_id (by omega) (by omega)]
                refine r_i2l dX6_findOdds_103 ?_
                refine r_lmul dX6_findOdds_104 ?_
                try rw [zw64_id (by omega) (by omega)]
                refine r_lstore dX6_findOdds_105 rfl ?_
                refine r_aload_n dX6_findOdds_107 rfl ?_
                refine r_iload dX6_findOdds_108 rfl ?_
                refine r_w1 (c_dayGoes hJ false) kX6_190 rfl dX6_findOdds_110 ?_
                try simp (disch := decide) only [zr_s, zr_n]
                rw [if_neg (by decide), zr_zr, e65]
                refine r_iinc dX6_findOdds_113 rfl rfl ?_
                try rw [zw_id (by omega) (by omega)]
                refine r_goto (tgt := 63) dX6_findOdds_116 (by decide) ?_
                rw [show ((x : Int) + 1) = ((x + 1 : Nat) : Int) by omega]
                exact ihq (x + 1) _ _ _ _ _ (by omega) (hR.r hmo (sDay_bd hn0 hR.2.2.2.2.1)) hL.r (by rw [mR_G]; exact hGG) (by rw [mR_P hmo, l1, l2, l3, l4, l5, l6, hGG]; intro i i0 i1; rw [sDay_p (c := 0)]; exact ed i i0 i1) (by rw [mR_54]; show zw (R 54 + 1) = _; rw [hdy]) (by omega) (by rw [Int.pow_succ]; omega) hw hp
              · exact absurd h91 (by decide)
          refine r_iload dX6_findOdds_63 rfl ?_
          refine r_iload_n dX6_findOdds_65 rfl ?_
          refine r_icmp_ge (tgt := 119) dX6_findOdds_66 (by decide) (fun h66 => ?_) (fun h66 => ?_)
          · exact absurd h66 (by omega)
          · refine r_iload dX6_findOdds_69 rfl ?_
            refine r_iload dX6_findOdds_71 rfl ?_
            refine r_ishr dX6_findOdds_73 ?_
            refine r_iconst dX6_findOdds_74 (k := ?_)
            refine r_iand dX6_findOdds_75 ?_
            rw [z_bit M0 (by omega) (by omega)]
            refine r_iconst dX6_findOdds_76 (k := ?_)
            refine r_icmp_ne (tgt := 84) dX6_findOdds_77 (by decide) (fun h77 => ?_) (fun h77 => ?_)
            · refine r_iconst dX6_findOdds_84 (k := ?_)
              first
                | exact day true (by rw [decide_eq_true (by omega)])
                | exact day false (by rw [decide_eq_false (by omega)])
            · refine r_iconst dX6_findOdds_80 (k := ?_)
              refine r_goto (tgt := 85) dX6_findOdds_81 (by decide) ?_
              first
                | exact day true (by rw [decide_eq_true (by omega)])
                | exact day false (by rw [decide_eq_false (by omega)])
      obtain ⟨ev, -, g1⟩ := vM_cp (d := m 67) hI
      have g3 : mLk (zcp (mem 66) (m 67) 0 0 76) (mem 66) := ⟨congrArg (fun z : zVw => z.2.1) ev, congrArg (fun z : zVw => z.2.2.2.2.1) ev, congrArg (fun z : zVw => z.2.2.2.2.2.1) ev, congrArg (fun z : zVw => z.2.2.2.2.2.2.1) ev, zcp_at (by decide) (by decide), zcp_at (by decide) (by decide)⟩
      have g4 : mG (zcp (mem 66) (m 67) 0 0 76) = mG (mem 66) := congrArg (fun z : zVw => z.2.2.1) ev
      have st := fun v7 => days n.toNat 0 1 (mem 66 54) (zcp (mem 66) (m 67) 0 0 76) (mP (mem 66)) v7 (by omega) g1 g3 g4 (fun i a b => mP_zcp a (by omega)) (zcp_at (by decide) (by decide)) (by decide) (by decide) (by rw [Int.one_mul, Int.pow_zero, Int.ediv_one]; exact hWN) (by rw [Int.pow_zero, Int.ediv_one]; exact hPN)
      refine r_iload dX6_findOdds_45 rfl ?_
      refine r_iconst dX6_findOdds_47 (k := ?_)
      refine r_iload_n dX6_findOdds_48 rfl ?_
      refine r_ishl dX6_findOdds_49 ?_
      rw [hsh]
      refine r_icmp_ge (tgt := 165) dX6_findOdds_50 (by decide) (fun h50 => ?_) (fun h50 => ?_)
      · exact absurd h50 (by omega)
      · refine r_lconst dX6_findOdds_53 rfl (k := ?_)
        refine r_lstore dX6_findOdds_54 rfl ?_
        refine r_aload_n dX6_findOdds_56 rfl ?_
        refine r_w0 (c_starts) kX6_194 rfl dX6_findOdds_57 ?_
        try simp (disch := decide) only [zr_s, zr_n]
        rw [e66]
        refine r_iconst dX6_findOdds_60 (k := ?_)
        refine r_istore dX6_findOdds_61 rfl ?_
        exact st _
  -- all ways
  have loop : ∀ (k x : Nat) (m : zM), (x : Int) + k = n → kM mem m → m 65 19 = 0 → m 65 20 = 0 → m 65 21 = 10 ^ x → SW l G (zrm 5) RX6 cX6_findOdds 9 none (zZ G (zPO S1 S2 (10 ^ n.toNat) mem)) 0 0 (fun _ => True) 18 [zR 65, zI v, zI n, zI w, zI x, zU, zU, zU, zU] [] m := by
    intro k
    induction k with
    | zero =>
      intro x m hx hk a0 b0 c0
      have st := masks (2 ^ n.toNat) 0 m zU zU zU zU (by omega) (by omega) hk (by omega) (by omega) (by omega) (by omega) (by rw [c0, show x = n.toNat by omega]) (by rw [a0]; exact hS1) (by rw [b0]; exact hS2)
      refine r_iload dX6_findOdds_18 rfl ?_
      refine r_iload_n dX6_findOdds_20 rfl ?_
      refine r_icmp_ge (tgt := 42) dX6_findOdds_21 (by decide) (fun h21 => ?_) (fun h21 => ?_)
      · refine r_iconst dX6_findOdds_42 (k := ?_)
        refine r_istore dX6_findOdds_43 rfl ?_
        exact st
      · exact absurd (by omega) h21
    | succ k ih =>
      intro x m hx hk a0 b0 c0
      have hx8 := z_10 (x := x) (by omega)
      have hp : (10 : Int) ^ x * 10 = 10 ^ (x + 1) := (Int.pow_succ 10 x).symm
      refine r_iload dX6_findOdds_18 rfl ?_
      refine r_iload_n dX6_findOdds_20 rfl ?_
      refine r_icmp_ge (tgt := 42) dX6_findOdds_21 (by decide) (fun h21 => ?_) (fun h21 => ?_)
      · exact absurd h21 (by omega)
      · refine r_aload_n dX6_findOdds_24 rfl ?_
        refine r_dup dX6_findOdds_25 rfl ?_
        refine r_gJ (q := 21) rfl fX6_282 rfl dX6_findOdds_26 ?_
        rw [c0]
        refine r_ldc2 nX6_285 dX6_findOdds_29 (x := 10) (k := ?_)
        refine r_lmul dX6_findOdds_32 ?_
        try rw [zw64_id (by omega) (by omega)]
        refine r_pJ (q := 21) rfl pX6_282 rfl dX6_findOdds_33 ?_
        refine r_iinc dX6_findOdds_36 rfl rfl ?_
        try rw [zw_id (by omega) (by omega)]
        refine r_goto (tgt := 18) dX6_findOdds_39 (by decide) ?_
        rw [hp]
        exact ih (x + 1) _ (by omega) (hk.f (by omega)) (by rw [zs_k (by decide)]; exact a0) (by rw [zs_k (by decide)]; exact b0) zs_v
  refine r_aload_n dX6_findOdds_0 rfl ?_
  refine r_lconst dX6_findOdds_1 rfl (k := ?_)
  refine r_pJ (q := 19) rfl pX6_275 rfl dX6_findOdds_2 ?_
  refine r_aload_n dX6_findOdds_5 rfl ?_
  refine r_lconst dX6_findOdds_6 rfl (k := ?_)
  refine r_pJ (q := 20) rfl pX6_279 rfl dX6_findOdds_7 ?_
  refine r_aload_n dX6_findOdds_10 rfl ?_
  refine r_lconst dX6_findOdds_11 rfl (k := ?_)
  refine r_pJ (q := 21) rfl pX6_282 rfl dX6_findOdds_12 ?_
  refine r_iconst dX6_findOdds_15 (k := ?_)
  refine r_istore dX6_findOdds_16 rfl ?_
  exact loop n.toNat 0 _ (by omega) (((kM.rf.f (by omega)).f (by omega)).f (by omega)) (by rw [zs_k (by decide), zs_k (by decide), zs_v]; rfl) (by rw [zs_k (by decide), zs_v]; rfl) zs_v
end
