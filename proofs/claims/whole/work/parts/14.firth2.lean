/-! ===== Firth: the methods that read, by their loops ===== -/
section
variable {l : Launch} {G : zG} {mem : zM} {b : Nat}
set_option maxRecDepth 100000 in
theorem c_X0_lengthOfAll (hb : isF b) (hI : zFI mem b) : KX0_lengthOfAll l G 0 [zR b] mem (zP1 (zI (sLens (mem b 4) (mem (b + 6)))) mem) := by
  obtain ⟨hn0, hn5, hr0, hr6, hp, hg, hr⟩ := hI
  refine CT.of' (own := RX0) (ls0 := [zR b, zU, zU]) rfl (by decide +kernel) (Nat.le_of_ble_eq_true rfl) rfl ?_
  refine r_iconst dX0_lengthOfAll_0 (k := ?_)
  refine r_istore_n dX0_lengthOfAll_1 rfl ?_
  refine r_iconst dX0_lengthOfAll_2 (k := ?_)
  refine r_istore_n dX0_lengthOfAll_3 rfl ?_
  have loop : ∀ (k : Nat) (x a : Int), 0 ≤ x → x + k = mem b 4 → 0 ≤ a → a ≤ 30 * x → zfor (fun k a => a + mem (b + 6) k) x k a = sLens (mem b 4) (mem (b + 6)) → SW l G (zrm 0) RX0 cX0_lengthOfAll 3 (some .int) (zZ G (zP1 (zI (sLens (mem b 4) (mem (b + 6)))) mem)) 0 0 (fun _ => True) 4 [zR b, zI a, zI x] [] mem := by
    intro k
    induction k with
    | zero =>
      intro x a h0 h1 h2 h3 he
      refine r_iload_n dX0_lengthOfAll_4 rfl ?_
      refine r_aload_n dX0_lengthOfAll_5 rfl ?_
      refine r_gI (q := 4) rfl fX0_25 (by exact zlF hb) (by decide) dX0_lengthOfAll_6 ?_
      refine r_icmp_ge (tgt := 27) dX0_lengthOfAll_9 (by decide) (fun h9 => ?_) (fun h9 => ?_)
      · refine r_iload_n dX0_lengthOfAll_27 rfl ?_
        refine r_iret dX0_lengthOfAll_28 ?_
        exact zP1.ofI he
      · exact absurd (by omega) h9
    | succ k ih =>
      intro x a h0 h1 h2 h3 he
      have hx := hr x h0 (by omega)
      refine r_iload_n dX0_lengthOfAll_4 rfl ?_
      refine r_aload_n dX0_lengthOfAll_5 rfl ?_
      refine r_gI (q := 4) rfl fX0_25 (by exact zlF hb) (by decide) dX0_lengthOfAll_6 ?_
      refine r_icmp_ge (tgt := 27) dX0_lengthOfAll_9 (by decide) (fun h9 => ?_) (fun h9 => ?_)
      · exact absurd h9 (by omega)
      · refine r_iload_n dX0_lengthOfAll_12 rfl ?_
        refine r_aload_n dX0_lengthOfAll_13 rfl ?_
        refine r_getR fX0_34 (by exact zlF hb) (zrF7 hb) dX0_lengthOfAll_14 ?_
        refine r_iload_n dX0_lengthOfAll_17 rfl ?_
        refine r_iald (by first | exact zaF1 hb | exact zaF2 hb | exact zaF3 hb | exact zaF4 hb | exact zaF5 hb | exact zaF6 hb) (by omega) (by omega) dX0_lengthOfAll_18 ?_
        refine r_iadd dX0_lengthOfAll_19 ?_
        try rw [zw_id (by omega) (by omega)]
        refine r_istore_n dX0_lengthOfAll_20 rfl ?_
        refine r_iinc dX0_lengthOfAll_21 rfl rfl ?_
        try rw [zw_id (by omega) (by omega)]
        refine r_goto (tgt := 4) dX0_lengthOfAll_24 (by decide) ?_
        exact ih _ _ (by omega) (by omega) (by omega) (by omega) he
  exact loop (mem b 4).toNat 0 0 (by omega) (by omega) (by omega) (by omega) rfl
set_option maxRecDepth 100000 in
theorem c_X0_grudgeOfAll (hb : isF b) (hI : zFI mem b) : KX0_grudgeOfAll l G 1 [zR b] mem (zP1 (zI (sGrudges (mem b 0) (mem (b + 3)))) mem) := by
  obtain ⟨hn0, hn5, hr0, hr6, hp, hg, hr⟩ := hI
  refine CT.of' (own := RX0) (ls0 := [zR b, zU, zU, zU]) rfl (by decide +kernel) (Nat.le_of_ble_eq_true rfl) rfl ?_
  refine r_iconst dX0_grudgeOfAll_0 (k := ?_)
  refine r_istore_n dX0_grudgeOfAll_1 rfl ?_
  refine r_iconst dX0_grudgeOfAll_2 (k := ?_)
  refine r_istore_n dX0_grudgeOfAll_3 rfl ?_
  have loop : ∀ (k : Nat) (x a : Int) (v : zV), 0 ≤ x → x + k = mem b 0 → 0 ≤ a → a ≤ 15 * x → zfor (fun i a => zfor (fun j c => c + if i = j then 0 else mem (b + 3) (5 * i + j)) 0 (mem b 0).toNat a) x k a = sGrudges (mem b 0) (mem (b + 3)) → SW l G (zrm 1) RX0 cX0_grudgeOfAll 4 (some .int) (zZ G (zP1 (zI (sGrudges (mem b 0) (mem (b + 3)))) mem)) 0 0 (fun _ => True) 4 [zR b, zI a, zI x, v] [] mem := by
    intro k
    induction k with
    | zero =>
      intro x a v h0 h1 h2 h3 he
      refine r_iload_n dX0_grudgeOfAll_4 rfl ?_
      refine r_aload_n dX0_grudgeOfAll_5 rfl ?_
      refine r_gI (q := 0) rfl fX0_9 (by exact zlF hb) (by decide) dX0_grudgeOfAll_6 ?_
      refine r_icmp_ge (tgt := 52) dX0_grudgeOfAll_9 (by decide) (fun h9 => ?_) (fun h9 => ?_)
      · refine r_iload_n dX0_grudgeOfAll_52 rfl ?_
        refine r_iret dX0_grudgeOfAll_53 ?_
        exact zP1.ofI he
      · exact absurd (by omega) h9
    | succ k ih =>
      intro x a v h0 h1 h2 h3 he
      rw [zfor] at he
      refine r_iload_n dX0_grudgeOfAll_4 rfl ?_
      refine r_aload_n dX0_grudgeOfAll_5 rfl ?_
      refine r_gI (q := 0) rfl fX0_9 (by exact zlF hb) (by decide) dX0_grudgeOfAll_6 ?_
      refine r_icmp_ge (tgt := 52) dX0_grudgeOfAll_9 (by decide) (fun h9 => ?_) (fun h9 => ?_)
      · exact absurd h9 (by omega)
      · refine r_iconst dX0_grudgeOfAll_12 (k := ?_)
        refine r_istore_n dX0_grudgeOfAll_13 rfl ?_
        skip
        have inner : ∀ (kk : Nat) (y c : Int), 0 ≤ y → y + kk = mem b 0 → 0 ≤ c → c ≤ 15 * x + 3 * y → zfor (fun j c => c + if x = j then 0 else mem (b + 3) (5 * x + j)) y kk c = zfor (fun j c => c + if x = j then 0 else mem (b + 3) (5 * x + j)) 0 (mem b 0).toNat a → SW l G (zrm 1) RX0 cX0_grudgeOfAll 4 (some .int) (zZ G (zP1 (zI (sGrudges (mem b 0) (mem (b + 3)))) mem)) 0 0 (fun _ => True) 14 [zR b, zI c, zI x, zI y] [] mem := by
          intro kk
          induction kk with
          | zero =>
            intro y c g0 g1 g2 g3 ge
            refine r_iload_n dX0_grudgeOfAll_14 rfl ?_
            refine r_aload_n dX0_grudgeOfAll_15 rfl ?_
            refine r_gI (q := 0) rfl fX0_9 (by exact zlF hb) (by decide) dX0_grudgeOfAll_16 ?_
            refine r_icmp_ge (tgt := 46) dX0_grudgeOfAll_19 (by decide) (fun h19 => ?_) (fun h19 => ?_)
            · refine r_iinc dX0_grudgeOfAll_46 rfl rfl ?_
              try rw [zw_id (by omega) (by omega)]
              refine r_goto (tgt := 4) dX0_grudgeOfAll_49 (by decide) ?_
              exact ih _ _ _ (by omega) (by omega) (by omega) (by omega) (by rw [← ge] at he; exact he)
            · exact absurd (by omega) h19
          | succ kk ih2 =>
            intro y c g0 g1 g2 g3 ge
            have hx := hg x y h0 (by omega) g0 (by omega)
            rw [zfor] at ge
            refine r_iload_n dX0_grudgeOfAll_14 rfl ?_
            refine r_aload_n dX0_grudgeOfAll_15 rfl ?_
            refine r_gI (q := 0) rfl fX0_9 (by exact zlF hb) (by decide) dX0_grudgeOfAll_16 ?_
            refine r_icmp_ge (tgt := 46) dX0_grudgeOfAll_19 (by decide) (fun h19 => ?_) (fun h19 => ?_)
            · exact absurd h19 (by omega)
            · refine r_iload_n dX0_grudgeOfAll_22 rfl ?_
              refine r_iload_n dX0_grudgeOfAll_23 rfl ?_
              refine r_iload_n dX0_grudgeOfAll_24 rfl ?_
              refine r_icmp_ne (tgt := 32) dX0_grudgeOfAll_25 (by decide) (fun h25 => ?_) (fun h25 => ?_)
              · refine r_aload_n dX0_grudgeOfAll_32 rfl ?_
                refine r_iload_n dX0_grudgeOfAll_33 rfl ?_
                refine r_iload_n dX0_grudgeOfAll_34 rfl ?_
                refine r_v2 (c_X0_grudge hb _ _ (by omega) (by omega) (by omega) (by omega)) kX0_58 (by exact zlF hb) dX0_grudgeOfAll_35 ?_
                refine r_iadd dX0_grudgeOfAll_38 ?_
                try rw [zw_id (by omega) (by omega)]
                refine r_istore_n dX0_grudgeOfAll_39 rfl ?_
                refine r_iinc dX0_grudgeOfAll_40 rfl rfl ?_
                try rw [zw_id (by omega) (by omega)]
                refine r_goto (tgt := 14) dX0_grudgeOfAll_43 (by decide) ?_
                first
                  | exact ih2 _ _ (by omega) (by omega) (by omega) (by omega) (by simpa [h25] using ge)
              · refine r_iconst dX0_grudgeOfAll_28 (k := ?_)
                refine r_goto (tgt := 38) dX0_grudgeOfAll_29 (by decide) ?_
                refine r_iadd dX0_grudgeOfAll_38 ?_
                try rw [zw_id (by omega) (by omega)]
                refine r_istore_n dX0_grudgeOfAll_39 rfl ?_
                refine r_iinc dX0_grudgeOfAll_40 rfl rfl ?_
                try rw [zw_id (by omega) (by omega)]
                refine r_goto (tgt := 14) dX0_grudgeOfAll_43 (by decide) ?_
                first
                  | exact ih2 _ _ (by omega) (by omega) (by omega) (by omega) (by simpa [h25] using ge)
        exact inner (mem b 0).toNat 0 a (by omega) (by omega) (by omega) (by omega) rfl
  exact loop (mem b 0).toNat 0 0 zU (by omega) (by omega) (by omega) (by omega) rfl
set_option maxRecDepth 100000 in
theorem c_X0_spread (hb : isF b) (hI : zFI mem b) : KX0_spread l G 1 [zR b] mem (zP1 (zI (sSpread (mem b 0) (mem (b + 2)))) mem) := by
  obtain ⟨hn0, hn5, hr0, hr6, hp, hg, hr⟩ := hI
  refine CT.of' (own := RX0) (ls0 := [zR b, zU, zU, zU]) rfl (by decide +kernel) (Nat.le_of_ble_eq_true rfl) rfl ?_
  have loop : ∀ (k : Nat) (x a c : Int), 2 ≤ mem b 0 → 1 ≤ x → x + k = mem b 0 → 0 ≤ a → a ≤ 99 → 0 ≤ c → c ≤ 99 → zfor (fun i a => min a (mem (b + 2) i)) x k a = sMin (mem (b + 2)) (mem b 0 - 1).toNat → zfor (fun i a => max a (mem (b + 2) i)) x k c = sMax (mem (b + 2)) (mem b 0 - 1).toNat → SW l G (zrm 1) RX0 cX0_spread 4 (some .int) (zZ G (zP1 (zI (sSpread (mem b 0) (mem (b + 2)))) mem)) 0 0 (fun _ => True) 26 [zR b, zI a, zI c, zI x] [] mem := by
    intro k
    induction k with
    | zero =>
      intro x a c hn2 h0 h1 a0 a9 c0 c9 ha hc
      refine r_iload_n dX0_spread_26 rfl ?_
      refine r_aload_n dX0_spread_27 rfl ?_
      refine r_gI (q := 0) rfl fX0_9 (by exact zlF hb) (by decide) dX0_spread_28 ?_
      refine r_icmp_ge (tgt := 62) dX0_spread_31 (by decide) (fun h31 => ?_) (fun h31 => ?_)
      · refine r_iload_n dX0_spread_62 rfl ?_
        refine r_iload_n dX0_spread_63 rfl ?_
        refine r_isub dX0_spread_64 ?_
        try rw [zw_id (by omega) (by omega)]
        refine r_iret dX0_spread_65 ?_
        exact zP1.ofI (by unfold sSpread; rw [if_neg (by omega), ← ha, ← hc]; rfl)
      · exact absurd (by omega) h31
    | succ k ih =>
      intro x a c hn2 h0 h1 a0 a9 c0 c9 ha hc
      have hx := hp x (by omega) (by omega)
      refine r_iload_n dX0_spread_26 rfl ?_
      refine r_aload_n dX0_spread_27 rfl ?_
      refine r_gI (q := 0) rfl fX0_9 (by exact zlF hb) (by decide) dX0_spread_28 ?_
      refine r_icmp_ge (tgt := 62) dX0_spread_31 (by decide) (fun h31 => ?_) (fun h31 => ?_)
      · exact absurd h31 (by omega)
      · refine r_iload_n dX0_spread_34 rfl ?_
        refine r_aload_n dX0_spread_35 rfl ?_
        refine r_getR fX0_19 (by exact zlF hb) (zrF2 hb) dX0_spread_36 ?_
        refine r_iload_n dX0_spread_39 rfl ?_
        refine r_iald (by first | exact zaF1 hb | exact zaF2 hb | exact zaF3 hb | exact zaF4 hb | exact zaF5 hb | exact zaF6 hb) (by omega) (by omega) dX0_spread_40 ?_
        refine r_mmin kX0_62 dX0_spread_41 ?_
        refine r_istore_n dX0_spread_44 rfl ?_
        refine r_iload_n dX0_spread_45 rfl ?_
        refine r_aload_n dX0_spread_46 rfl ?_
        refine r_getR fX0_19 (by exact zlF hb) (zrF2 hb) dX0_spread_47 ?_
        refine r_iload_n dX0_spread_50 rfl ?_
        refine r_iald (by first | exact zaF1 hb | exact zaF2 hb | exact zaF3 hb | exact zaF4 hb | exact zaF5 hb | exact zaF6 hb) (by omega) (by omega) dX0_spread_51 ?_
        refine r_mmax kX0_67 dX0_spread_52 ?_
        refine r_istore_n dX0_spread_55 rfl ?_
        refine r_iinc dX0_spread_56 rfl rfl ?_
        try rw [zw_id (by omega) (by omega)]
        refine r_goto (tgt := 26) dX0_spread_59 (by decide) ?_
        exact ih _ _ _ hn2 (by omega) (by omega) (by omega) (by omega) (by omega) (by omega) ha hc
  refine r_aload_n dX0_spread_0 rfl ?_
  refine r_gI (q := 0) rfl fX0_9 (by exact zlF hb) (by decide) dX0_spread_1 ?_
  refine r_iconst dX0_spread_4 (k := ?_)
  refine r_icmp_ge (tgt := 10) dX0_spread_5 (by decide) (fun h5 => ?_) (fun h5 => ?_)
  · refine r_aload_n dX0_spread_10 rfl ?_
    refine r_getR fX0_19 (by exact zlF hb) (zrF2 hb) dX0_spread_11 ?_
    refine r_iconst dX0_spread_14 (k := ?_)
    refine r_iald (by first | exact zaF1 hb | exact zaF2 hb | exact zaF3 hb | exact zaF4 hb | exact zaF5 hb | exact zaF6 hb) (by omega) (by omega) dX0_spread_15 ?_
    refine r_istore_n dX0_spread_16 rfl ?_
    refine r_aload_n dX0_spread_17 rfl ?_
    refine r_getR fX0_19 (by exact zlF hb) (zrF2 hb) dX0_spread_18 ?_
    refine r_iconst dX0_spread_21 (k := ?_)
    refine r_iald (by first | exact zaF1 hb | exact zaF2 hb | exact zaF3 hb | exact zaF4 hb | exact zaF5 hb | exact zaF6 hb) (by omega) (by omega) dX0_spread_22 ?_
    refine r_istore_n dX0_spread_23 rfl ?_
    refine r_iconst dX0_spread_24 (k := ?_)
    refine r_istore_n dX0_spread_25 rfl ?_
    have h0 := hp 0 (by omega) (by omega)
    exact loop (mem b 0 - 1).toNat 1 _ _ (by omega) (by omega) (by omega) h0.1 h0.2 h0.1 h0.2 rfl rfl
  · refine r_iconst dX0_spread_8 (k := ?_)
    refine r_iret dX0_spread_9 ?_
    exact zP1.ofI (by unfold sSpread; rw [if_pos (by omega)])
set_option maxRecDepth 100000 in
theorem c_X0_movedFrom {c : Nat} (hb : isF b) (hc : isF c) (hn0 : 0 ≤ mem b 0) (hn5 : mem b 0 ≤ 5) : KX0_movedFrom l G 0 [zR b, zR c] mem (zP1 (zI (sMoved (mem b 0) (mem (b + 2)) (mem (c + 2)))) mem) := by
  refine CT.of' (own := RX0) (ls0 := [zR b, zR c, zU, zU]) rfl (by decide +kernel) (Nat.le_of_ble_eq_true rfl) rfl ?_
  have loop : ∀ (k : Nat) (x a : Int), 0 ≤ x → x + k = mem b 0 → 0 ≤ a → a ≤ x → zfor (fun i a => if mem (b + 2) i = mem (c + 2) i then a else a + 1) x k a = sMoved (mem b 0) (mem (b + 2)) (mem (c + 2)) → SW l G (zrm 0) RX0 cX0_movedFrom 4 (some .int) (zZ G (zP1 (zI (sMoved (mem b 0) (mem (b + 2)) (mem (c + 2)))) mem)) 0 0 (fun _ => True) 4 [zR b, zR c, zI a, zI x] [] mem := by
    intro k
    induction k with
    | zero =>
      intro x a h0 h1 h2 h3 he
      refine r_iload_n dX0_movedFrom_4 rfl ?_
      refine r_aload_n dX0_movedFrom_5 rfl ?_
      refine r_gI (q := 0) rfl fX0_9 (by first | exact zlF hb | exact zlF hc) (by decide) dX0_movedFrom_6 ?_
      refine r_icmp_ge (tgt := 36) dX0_movedFrom_9 (by decide) (fun h9 => ?_) (fun h9 => ?_)
      · refine r_iload_n dX0_movedFrom_36 rfl ?_
        refine r_iret dX0_movedFrom_37 ?_
        exact zP1.ofI he
      · exact absurd (by omega) h9
    | succ k ih =>
      intro x a h0 h1 h2 h3 he
      rw [zfor] at he
      refine r_iload_n dX0_movedFrom_4 rfl ?_
      refine r_aload_n dX0_movedFrom_5 rfl ?_
      refine r_gI (q := 0) rfl fX0_9 (by first | exact zlF hb | exact zlF hc) (by decide) dX0_movedFrom_6 ?_
      refine r_icmp_ge (tgt := 36) dX0_movedFrom_9 (by decide) (fun h9 => ?_) (fun h9 => ?_)
      · exact absurd h9 (by omega)
      · refine r_aload_n dX0_movedFrom_12 rfl ?_
        refine r_getR fX0_19 (by first | exact zlF hb | exact zlF hc) (zrF2 hb) dX0_movedFrom_13 ?_
        refine r_iload_n dX0_movedFrom_16 rfl ?_
        refine r_iald (by first | exact zaF1 hb | exact zaF2 hb | exact zaF3 hb | exact zaF4 hb | exact zaF5 hb | exact zaF6 hb | exact zaF1 hc | exact zaF2 hc | exact zaF3 hc | exact zaF4 hc | exact zaF5 hc | exact zaF6 hc) (by omega) (by omega) dX0_movedFrom_17 ?_
        refine r_aload_n dX0_movedFrom_18 rfl ?_
        refine r_getR fX0_19 (by first | exact zlF hb | exact zlF hc) (zrF2 hc) dX0_movedFrom_19 ?_
        refine r_iload_n dX0_movedFrom_22 rfl ?_
        refine r_iald (by first | exact zaF1 hb | exact zaF2 hb | exact zaF3 hb | exact zaF4 hb | exact zaF5 hb | exact zaF6 hb | exact zaF1 hc | exact zaF2 hc | exact zaF3 hc | exact zaF4 hc | exact zaF5 hc | exact zaF6 hc) (by omega) (by omega) dX0_movedFrom_23 ?_
        refine r_icmp_eq (tgt := 30) dX0_movedFrom_24 (by decide) (fun h24 => ?_) (fun h24 => ?_)
        · refine r_iinc dX0_movedFrom_30 rfl rfl ?_
          try rw [zw_id (by omega) (by omega)]
          refine r_goto (tgt := 4) dX0_movedFrom_33 (by decide) ?_
          exact ih _ _ (by omega) (by omega) (by omega) (by omega) (by simpa [h24] using he)
        · refine r_iinc dX0_movedFrom_27 rfl rfl ?_
          try rw [zw_id (by omega) (by omega)]
          refine r_iinc dX0_movedFrom_30 rfl rfl ?_
          try rw [zw_id (by omega) (by omega)]
          refine r_goto (tgt := 4) dX0_movedFrom_33 (by decide) ?_
          exact ih _ _ (by omega) (by omega) (by omega) (by omega) (by simpa [h24] using he)
  refine r_iconst dX0_movedFrom_0 (k := ?_)
  refine r_istore_n dX0_movedFrom_1 rfl ?_
  refine r_iconst dX0_movedFrom_2 (k := ?_)
  refine r_istore_n dX0_movedFrom_3 rfl ?_
  exact loop (mem b 0).toNat 0 0 (by omega) (by omega) (by omega) (by omega) rfl
set_option maxRecDepth 100000 in
theorem c_X0_isTaken (hb : isF b) (v but : Int) (hn0 : 0 ≤ mem b 0) (hn5 : mem b 0 ≤ 5) : KX0_isTaken l G 0 [zR b, zI v, zI but] mem (zP1 (zI (zb (sTaken (mem b 0) (mem (b + 2)) v but))) mem) := by
  refine CT.of' (own := RX0) (ls0 := [zR b, zI v, zI but, zU]) rfl (by decide +kernel) (Nat.le_of_ble_eq_true rfl) rfl ?_
  have loop : ∀ (k : Nat) (x : Int), 0 ≤ x → x + k = mem b 0 → zany (fun i => decide (i ≠ but ∧ mem (b + 2) i = v)) x k = sTaken (mem b 0) (mem (b + 2)) v but → SW l G (zrm 0) RX0 cX0_isTaken 4 (some .boolean) (zZ G (zP1 (zI (zb (sTaken (mem b 0) (mem (b + 2)) v but))) mem)) 0 0 (fun _ => True) 2 [zR b, zI v, zI but, zI x] [] mem := by
    intro k
    induction k with
    | zero =>
      intro x h0 h1 he
      refine r_iload_n dX0_isTaken_2 rfl ?_
      refine r_aload_n dX0_isTaken_3 rfl ?_
      refine r_gI (q := 0) rfl fX0_9 (by exact zlF hb) (by decide) dX0_isTaken_4 ?_
      refine r_icmp_ge (tgt := 33) dX0_isTaken_7 (by decide) (fun h7 => ?_) (fun h7 => ?_)
      · refine r_iconst dX0_isTaken_33 (k := ?_)
        refine r_zret dX0_isTaken_34 (by decide) ?_
        exact zP1.ofI (by rw [← he]; rfl)
      · exact absurd (by omega) h7
    | succ k ih =>
      intro x h0 h1 he
      rw [zany] at he
      refine r_iload_n dX0_isTaken_2 rfl ?_
      refine r_aload_n dX0_isTaken_3 rfl ?_
      refine r_gI (q := 0) rfl fX0_9 (by exact zlF hb) (by decide) dX0_isTaken_4 ?_
      refine r_icmp_ge (tgt := 33) dX0_isTaken_7 (by decide) (fun h7 => ?_) (fun h7 => ?_)
      · exact absurd h7 (by omega)
      · refine r_iload_n dX0_isTaken_10 rfl ?_
        refine r_iload_n dX0_isTaken_11 rfl ?_
        refine r_icmp_eq (tgt := 27) dX0_isTaken_12 (by decide) (fun h12 => ?_) (fun h12 => ?_)
        · refine r_iinc dX0_isTaken_27 rfl rfl ?_
          try rw [zw_id (by omega) (by omega)]
          refine r_goto (tgt := 2) dX0_isTaken_30 (by decide) ?_
          exact ih _ (by omega) (by omega) (by simpa [*] using he)
        · refine r_aload_n dX0_isTaken_15 rfl ?_
          refine r_getR fX0_19 (by exact zlF hb) (zrF2 hb) dX0_isTaken_16 ?_
          refine r_iload_n dX0_isTaken_19 rfl ?_
          refine r_iald (by first | exact zaF1 hb | exact zaF2 hb | exact zaF3 hb | exact zaF4 hb | exact zaF5 hb | exact zaF6 hb) (by omega) (by omega) dX0_isTaken_20 ?_
          refine r_iload_n dX0_isTaken_21 rfl ?_
          refine r_icmp_ne (tgt := 27) dX0_isTaken_22 (by decide) (fun h22 => ?_) (fun h22 => ?_)
          · refine r_iinc dX0_isTaken_27 rfl rfl ?_
            try rw [zw_id (by omega) (by omega)]
            refine r_goto (tgt := 2) dX0_isTaken_30 (by decide) ?_
            exact ih _ (by omega) (by omega) (by simpa [*] using he)
          · refine r_iconst dX0_isTaken_25 (k := ?_)
            refine r_zret dX0_isTaken_26 (by decide) ?_
            exact zP1.ofI (by rw [← he]; simp [h12, h22, zb])
  refine r_iconst dX0_isTaken_0 (k := ?_)
  refine r_istore_n dX0_isTaken_1 rfl ?_
  exact loop (mem b 0).toNat 0 (by omega) (by omega) rfl
set_option maxRecDepth 100000 in
theorem c_X0_nearestTo (hb : isF b) (hI : zFI mem b) (i : Int) (hi0 : 0 ≤ i) (hi1 : i < mem b 0) : KX0_nearestTo l G 1 [zR b, zI i] mem (zP1 (zI (sNear (mem b 0) (mem (b + 2)) i)) mem) := by
  obtain ⟨hn0, hn5, hr0, hr6, hp, hg, hr⟩ := hI
  have hpi := hp i hi0 hi1
  refine CT.of' (own := RX0) (ls0 := [zR b, zI i, zU, zU, zU, zU]) rfl (by decide +kernel) (Nat.le_of_ble_eq_true rfl) rfl ?_
  have loop : ∀ (k : Nat) (x a c : Int) (v : zV), 0 ≤ x → x + k = mem b 0 → (zfor (fun j (a : Int × Int) => if j ≠ i ∧ sSz (mem (b + 2) i - mem (b + 2) j) < a.1 then (sSz (mem (b + 2) i - mem (b + 2) j), j) else a) x k (a, c)).2 = sNear (mem b 0) (mem (b + 2)) i → SW l G (zrm 1) RX0 cX0_nearestTo 6 (some .int) (zZ G (zP1 (zI (sNear (mem b 0) (mem (b + 2)) i)) mem)) 0 0 (fun _ => True) 9 [zR b, zI i, zI c, zI a, zI x, v] [] mem := by
    intro k
    induction k with
    | zero =>
      intro x a c v h0 h1 he
      refine r_iload dX0_nearestTo_9 rfl ?_
      refine r_aload_n dX0_nearestTo_11 rfl ?_
      refine r_gI (q := 0) rfl fX0_9 (by exact zlF hb) (by decide) dX0_nearestTo_12 ?_
      refine r_icmp_ge (tgt := 61) dX0_nearestTo_15 (by decide) (fun h15 => ?_) (fun h15 => ?_)
      · refine r_iload_n dX0_nearestTo_61 rfl ?_
        refine r_iret dX0_nearestTo_62 ?_
        exact zP1.ofI he
      · exact absurd (by omega) h15
    | succ k ih =>
      intro x a c v h0 h1 he
      have hx := hp x (by omega) (by omega)
      rw [zfor] at he
      refine r_iload dX0_nearestTo_9 rfl ?_
      refine r_aload_n dX0_nearestTo_11 rfl ?_
      refine r_gI (q := 0) rfl fX0_9 (by exact zlF hb) (by decide) dX0_nearestTo_12 ?_
      refine r_icmp_ge (tgt := 61) dX0_nearestTo_15 (by decide) (fun h15 => absurd h15 (by omega)) (fun h15 => ?_)
      refine r_aload_n dX0_nearestTo_18 rfl ?_
      refine r_getR fX0_19 (by exact zlF hb) (zrF2 hb) dX0_nearestTo_19 ?_
      refine r_iload_n dX0_nearestTo_22 rfl ?_
      refine r_iald (by first | exact zaF1 hb | exact zaF2 hb | exact zaF3 hb | exact zaF4 hb | exact zaF5 hb | exact zaF6 hb) (by omega) (by omega) dX0_nearestTo_23 ?_
      refine r_aload_n dX0_nearestTo_24 rfl ?_
      refine r_getR fX0_19 (by exact zlF hb) (zrF2 hb) dX0_nearestTo_25 ?_
      refine r_iload dX0_nearestTo_28 rfl ?_
      refine r_iald (by first | exact zaF1 hb | exact zaF2 hb | exact zaF3 hb | exact zaF4 hb | exact zaF5 hb | exact zaF6 hb) (by omega) (by omega) dX0_nearestTo_30 ?_
      refine r_isub dX0_nearestTo_31 ?_
      try rw [zw_id (by omega) (by omega)]
      refine r_mabs kX0_70 dX0_nearestTo_32 ?_
      rw [zabs_sz (by omega) (by omega)]
      refine r_istore dX0_nearestTo_35 rfl ?_
      refine r_iload dX0_nearestTo_37 rfl ?_
      refine r_iload_n dX0_nearestTo_39 rfl ?_
      refine r_icmp_eq (tgt := 55) dX0_nearestTo_40 (by decide) (fun h40 => ?_) (fun h40 => ?_)
      · refine r_iinc dX0_nearestTo_55 rfl rfl ?_
        try rw [zw_id (by omega) (by omega)]
        refine r_goto (tgt := 9) dX0_nearestTo_58 (by decide) ?_
        exact ih _ _ _ _ (by omega) (by omega) (by split at he <;> first | exact he | (exfalso; omega))
      · refine r_iload dX0_nearestTo_43 rfl ?_
        refine r_iload_n dX0_nearestTo_45 rfl ?_
        refine r_icmp_ge (tgt := 55) dX0_nearestTo_46 (by decide) (fun h46 => ?_) (fun h46 => ?_)
        · refine r_iinc dX0_nearestTo_55 rfl rfl ?_
          try rw [zw_id (by omega) (by omega)]
          refine r_goto (tgt := 9) dX0_nearestTo_58 (by decide) ?_
          exact ih _ _ _ _ (by omega) (by omega) (by split at he <;> first | exact he | (exfalso; omega))
        · refine r_iload dX0_nearestTo_49 rfl ?_
          refine r_istore_n dX0_nearestTo_51 rfl ?_
          refine r_iload dX0_nearestTo_52 rfl ?_
          refine r_istore_n dX0_nearestTo_54 rfl ?_
          refine r_iinc dX0_nearestTo_55 rfl rfl ?_
          try rw [zw_id (by omega) (by omega)]
          refine r_goto (tgt := 9) dX0_nearestTo_58 (by decide) ?_
          exact ih _ _ _ _ (by omega) (by omega) (by split at he <;> first | exact he | (exfalso; omega))
  refine r_bipush dX0_nearestTo_0 (k := ?_)
  refine r_istore_n dX0_nearestTo_2 rfl ?_
  refine r_bipush dX0_nearestTo_3 (k := ?_)
  refine r_istore_n dX0_nearestTo_5 rfl ?_
  refine r_iconst dX0_nearestTo_6 (k := ?_)
  refine r_istore dX0_nearestTo_7 rfl ?_
  exact loop (mem b 0).toNat 0 100 (-4) zU (by omega) (by omega) rfl
theorem tdiv2_bd {a : Int} (h1 : -15 ≤ a) (h2 : a ≤ 15) : -15 ≤ a.tdiv 2 ∧ a.tdiv 2 ≤ 15 := by
  rcases Int.le_total 0 a with h | h
  · rw [Int.tdiv_eq_ediv_of_nonneg h]; omega
  · obtain ⟨c, rfl⟩ : ∃ c, a = -c := ⟨-a, by omega⟩
    rw [Int.neg_tdiv, Int.tdiv_eq_ediv_of_nonneg (by omega)]; omega
theorem zsg_bd (a : Int) : -1 ≤ zsg a ∧ zsg a ≤ 1 := by unfold zsg; split <;> (try split) <;> omega
set_option maxRecDepth 100000 in
theorem c_X0_driftOf (hb : isF b) (hI : zFI mem b) (i : Int) (hi0 : 0 ≤ i) (hi1 : i < mem b 0) : KX0_driftOf l G 1 [zR b, zI i] mem (zP1 (zI (sDriftOf (mem (b + 1) i) (sPlain (mem b 0) (mem (b + 2)) (mem (b + 3)) i))) mem) := by
  obtain ⟨hn0, hn5, hr0, hr6, hp, hg, hr⟩ := hI
  refine CT.of' (own := RX0) (ls0 := [zR b, zI i, zU, zU, zU]) rfl (by decide +kernel) (Nat.le_of_ble_eq_true rfl) rfl ?_
  have fin : ∀ (a x : Int) (v : zV), -15 ≤ a → a ≤ 15 → a = sPlain (mem b 0) (mem (b + 2)) (mem (b + 3)) i → SW l G (zrm 1) RX0 cX0_driftOf 5 (some .int) (zZ G (zP1 (zI (sDriftOf (mem (b + 1) i) (sPlain (mem b 0) (mem (b + 2)) (mem (b + 3)) i))) mem)) 0 0 (fun _ => True) 61 [zR b, zI i, zI a, zI x, v] [] mem := by
    intro a x v h1 h2 he
    rw [← he]
    refine r_aload_n dX0_driftOf_61 rfl ?_
    refine r_getR fX0_15 (by exact zlF hb) (zrF1 hb) dX0_driftOf_62 ?_
    refine r_iload_n dX0_driftOf_65 rfl ?_
    refine r_iald (by first | exact zaF1 hb | exact zaF2 hb | exact zaF3 hb | exact zaF4 hb | exact zaF5 hb | exact zaF6 hb) (by omega) (by omega) dX0_driftOf_66 ?_
    have ht2 := tdiv2_bd h1 h2
    have hs2 := zsg_bd a
    rcases (show mem (b + 1) i = 1 ∨ mem (b + 1) i = 2 ∨ mem (b + 1) i = 3 ∨ (mem (b + 1) i < 1 ∨ 3 < mem (b + 1) i) by omega) with ht | ht | ht | ht
    · rw [ht]
      refine r_tswIn (tgt := 92) dX0_driftOf_67 (by decide) (by rfl) (by decide) ?_
      refine r_iconst dX0_driftOf_92 (k := ?_)
      refine r_iload_n dX0_driftOf_93 rfl ?_
      refine r_imul dX0_driftOf_94 ?_
      try rw [zw_id (by omega) (by omega)]
      refine r_iret dX0_driftOf_95 ?_
      exact zP1.ofI (by simp [sDriftOf])
    · rw [ht]
      refine r_tswIn (tgt := 96) dX0_driftOf_67 (by decide) (by rfl) (by decide) ?_
      refine r_iload_n dX0_driftOf_96 rfl ?_
      refine r_iconst dX0_driftOf_97 (k := ?_)
      refine r_idiv dX0_driftOf_98 (by omega) ?_
      refine r_iret dX0_driftOf_99 ?_
      exact zP1.ofI (by rw [zw_id (by omega) (by omega)]; simp [sDriftOf])
    · rw [ht]
      refine r_tswIn (tgt := 100) dX0_driftOf_67 (by decide) (by rfl) (by decide) ?_
      refine r_iconst dX0_driftOf_100 (k := ?_)
      refine r_iload_n dX0_driftOf_101 rfl ?_
      refine r_imul dX0_driftOf_102 ?_
      try rw [zw_id (by omega) (by omega)]
      refine r_iload_n dX0_driftOf_103 rfl ?_
      refine r_s1 (c_signum _ ⟨by omega, by omega⟩) kX0_74 dX0_driftOf_104 ?_
      refine r_isub dX0_driftOf_107 ?_
      try rw [zw_id (by omega) (by omega)]
      refine r_iret dX0_driftOf_108 ?_
      exact zP1.ofI (by simp [sDriftOf])
    · refine r_tswOut (tgt := 109) dX0_driftOf_67 ht (by decide) ?_
      refine r_iload_n dX0_driftOf_109 rfl ?_
      refine r_iret dX0_driftOf_110 ?_
      exact zP1.ofI (by unfold sDriftOf; rw [if_neg (by omega), if_neg (by omega), if_neg (by omega)])
  have loop : ∀ (k : Nat) (x a : Int) (v : zV), 0 ≤ x → x + k = mem b 0 → -(3 * x) ≤ a → a ≤ 3 * x → zfor (fun j a => if j = i then a else a + if mem (b + 2) j < mem (b + 2) i then mem (b + 3) (5 * i + j) else -mem (b + 3) (5 * i + j)) x k a = sPlain (mem b 0) (mem (b + 2)) (mem (b + 3)) i → SW l G (zrm 1) RX0 cX0_driftOf 5 (some .int) (zZ G (zP1 (zI (sDriftOf (mem (b + 1) i) (sPlain (mem b 0) (mem (b + 2)) (mem (b + 3)) i))) mem)) 0 0 (fun _ => True) 4 [zR b, zI i, zI a, zI x, v] [] mem := by
    intro k
    induction k with
    | zero =>
      intro x a v h0 h1 h2 h3 he
      refine r_iload_n dX0_driftOf_4 rfl ?_
      refine r_aload_n dX0_driftOf_5 rfl ?_
      refine r_gI (q := 0) rfl fX0_9 (by exact zlF hb) (by decide) dX0_driftOf_6 ?_
      refine r_icmp_ge (tgt := 61) dX0_driftOf_9 (by decide) (fun h9 => ?_) (fun h9 => ?_)
      · exact fin _ _ _ (by omega) (by omega) he
      · exact absurd (by omega) h9
    | succ k ih =>
      intro x a v h0 h1 h2 h3 he
      have hx := hg i x hi0 hi1 h0 (by omega)
      have e5 : i * 5 + x = 5 * i + x := by omega
      rw [zfor] at he
      refine r_iload_n dX0_driftOf_4 rfl ?_
      refine r_aload_n dX0_driftOf_5 rfl ?_
      refine r_gI (q := 0) rfl fX0_9 (by exact zlF hb) (by decide) dX0_driftOf_6 ?_
      refine r_icmp_ge (tgt := 61) dX0_driftOf_9 (by decide) (fun h9 => absurd h9 (by omega)) (fun h9 => ?_)
      refine r_iload_n dX0_driftOf_12 rfl ?_
      refine r_iload_n dX0_driftOf_13 rfl ?_
      refine r_icmp_eq (tgt := 55) dX0_driftOf_14 (by decide) (fun h14 => ?_) (fun h14 => ?_)
      ·
        refine r_iinc dX0_driftOf_55 rfl rfl ?_
        try rw [zw_id (by omega) (by omega)]
        refine r_goto (tgt := 4) dX0_driftOf_58 (by decide) ?_
        exact ih _ _ _ (by omega) (by omega) (by omega) (by omega) (by simpa [h14] using he)
      ·
        refine r_aload_n dX0_driftOf_17 rfl ?_
        refine r_getR fX0_22 (by exact zlF hb) (zrF3 hb) dX0_driftOf_18 ?_
        refine r_iload_n dX0_driftOf_21 rfl ?_
        refine r_iconst dX0_driftOf_22 (k := ?_)
        refine r_imul dX0_driftOf_23 ?_
        try rw [zw_id (by omega) (by omega)]
        refine r_iload_n dX0_driftOf_24 rfl ?_
        refine r_iadd dX0_driftOf_25 ?_
        try rw [zw_id (by omega) (by omega)]
        refine r_iald (by first | exact zaF1 hb | exact zaF2 hb | exact zaF3 hb | exact zaF4 hb | exact zaF5 hb | exact zaF6 hb) (by omega) (by omega) dX0_driftOf_26 ?_
        rw [e5]
        refine r_istore dX0_driftOf_27 rfl ?_
        refine r_iload_n dX0_driftOf_29 rfl ?_
        refine r_aload_n dX0_driftOf_30 rfl ?_
        refine r_getR fX0_19 (by exact zlF hb) (zrF2 hb) dX0_driftOf_31 ?_
        refine r_iload_n dX0_driftOf_34 rfl ?_
        refine r_iald (by first | exact zaF1 hb | exact zaF2 hb | exact zaF3 hb | exact zaF4 hb | exact zaF5 hb | exact zaF6 hb) (by omega) (by omega) dX0_driftOf_35 ?_
        refine r_aload_n dX0_driftOf_36 rfl ?_
        refine r_getR fX0_19 (by exact zlF hb) (zrF2 hb) dX0_driftOf_37 ?_
        refine r_iload_n dX0_driftOf_40 rfl ?_
        refine r_iald (by first | exact zaF1 hb | exact zaF2 hb | exact zaF3 hb | exact zaF4 hb | exact zaF5 hb | exact zaF6 hb) (by omega) (by omega) dX0_driftOf_41 ?_
        refine r_icmp_le (tgt := 50) dX0_driftOf_42 (by decide) (fun h42 => ?_) (fun h42 => ?_)
        · refine r_iload dX0_driftOf_50 rfl ?_
          refine r_ineg dX0_driftOf_52 ?_
          try rw [zw_id (by omega) (by omega)]
          refine r_iadd dX0_driftOf_53 ?_
          try rw [zw_id (by omega) (by omega)]
          refine r_istore_n dX0_driftOf_54 rfl ?_
          refine r_iinc dX0_driftOf_55 rfl rfl ?_
          try rw [zw_id (by omega) (by omega)]
          refine r_goto (tgt := 4) dX0_driftOf_58 (by decide) ?_
          exact ih _ _ _ (by omega) (by omega) (by omega) (by omega) (by simpa [h14, h42, Int.not_lt.mpr, Int.not_le.mp] using he)
        · refine r_iload dX0_driftOf_45 rfl ?_
          refine r_goto (tgt := 53) dX0_driftOf_47 (by decide) ?_
          refine r_iadd dX0_driftOf_53 ?_
          try rw [zw_id (by omega) (by omega)]
          refine r_istore_n dX0_driftOf_54 rfl ?_
          refine r_iinc dX0_driftOf_55 rfl rfl ?_
          try rw [zw_id (by omega) (by omega)]
          refine r_goto (tgt := 4) dX0_driftOf_58 (by decide) ?_
          exact ih _ _ _ (by omega) (by omega) (by omega) (by omega) (by simpa [h14, h42, Int.not_lt.mpr, Int.not_le.mp] using he)
  refine r_iconst dX0_driftOf_0 (k := ?_)
  refine r_istore_n dX0_driftOf_1 rfl ?_
  refine r_iconst dX0_driftOf_2 (k := ?_)
  refine r_istore_n dX0_driftOf_3 rfl ?_
  exact loop (mem b 0).toNat 0 0 zU (by omega) (by omega) (by omega) (by omega) rfl
set_option maxRecDepth 100000 in
theorem c_X0_isHeld (hb : isF b) (hI : zFI mem b) (i to : Int) (hi0 : 0 ≤ i) (hi1 : i < mem b 0) (ht0 : -1 ≤ to) (ht1 : to ≤ 100) : KX0_isHeld l G 1 [zR b, zI i, zI to] mem (zP1 (zI (zb (sHeld (mem b 4) (mem (b + 4)) (mem (b + 5)) (mem (b + 6)) (mem (b + 2)) i to))) mem) := by
  obtain ⟨hn0, hn5, hr0, hr6, hp, hg, hr⟩ := hI
  have hpi := hp i hi0 hi1
  refine CT.of' (own := RX0) (ls0 := [zR b, zI i, zI to, zU, zU, zU]) rfl (by decide +kernel) (Nat.le_of_ble_eq_true rfl) rfl ?_
  have loop : ∀ (k : Nat) (x : Int) (v w : zV), 0 ≤ x → x + k = mem b 4 → zany (fun k => decide ((mem (b + 4) k = i ∨ mem (b + 5) k = i) ∧ mem (b + 6) k < sSz (to - mem (b + 2) (if mem (b + 4) k = i then mem (b + 5) k else mem (b + 4) k)) ∧ sSz (mem (b + 2) i - mem (b + 2) (if mem (b + 4) k = i then mem (b + 5) k else mem (b + 4) k)) < sSz (to - mem (b + 2) (if mem (b + 4) k = i then mem (b + 5) k else mem (b + 4) k)))) x k = sHeld (mem b 4) (mem (b + 4)) (mem (b + 5)) (mem (b + 6)) (mem (b + 2)) i to → SW l G (zrm 1) RX0 cX0_isHeld 6 (some .boolean) (zZ G (zP1 (zI (zb (sHeld (mem b 4) (mem (b + 4)) (mem (b + 5)) (mem (b + 6)) (mem (b + 2)) i to))) mem)) 0 0 (fun _ => True) 2 [zR b, zI i, zI to, zI x, v, w] [] mem := by
    intro k
    induction k with
    | zero =>
      intro x v w h0 h1 he
      refine r_iload_n dX0_isHeld_2 rfl ?_
      refine r_aload_n dX0_isHeld_3 rfl ?_
      refine r_gI (q := 4) rfl fX0_25 (by exact zlF hb) (by decide) dX0_isHeld_4 ?_
      refine r_icmp_ge (tgt := 107) dX0_isHeld_7 (by decide) (fun h7 => ?_) (fun h7 => ?_)
      · refine r_iconst dX0_isHeld_107 (k := ?_)
        refine r_zret dX0_isHeld_108 (by decide) ?_
        exact zP1.ofI (by rw [← he]; rfl)
      · exact absurd (by omega) h7
    | succ k ih =>
      intro x v w h0 h1 he
      obtain ⟨q1, q2, q3, q4, q5, q6⟩ := hr x h0 (by omega)
      have hp1 := hp _ q1 q2
      have hp2 := hp _ q3 q4
      rw [zany] at he
      -- from where the other end is known: o is its place
      have rest : ∀ o : Int, 0 ≤ o → o ≤ 99 → ((decide (mem (b + 6) x < sSz (to - o) ∧ sSz (mem (b + 2) i - o) < sSz (to - o))) || zany (fun k => decide ((mem (b + 4) k = i ∨ mem (b + 5) k = i) ∧ mem (b + 6) k < sSz (to - mem (b + 2) (if mem (b + 4) k = i then mem (b + 5) k else mem (b + 4) k)) ∧ sSz (mem (b + 2) i - mem (b + 2) (if mem (b + 4) k = i then mem (b + 5) k else mem (b + 4) k)) < sSz (to - mem (b + 2) (if mem (b + 4) k = i then mem (b + 5) k else mem (b + 4) k)))) (x + 1) k) = sHeld (mem b 4) (mem (b + 4)) (mem (b + 5)) (mem (b + 6)) (mem (b + 2)) i to → SW l G (zrm 1) RX0 cX0_isHeld 6 (some .boolean) (zZ G (zP1 (zI (zb (sHeld (mem b 4) (mem (b + 4)) (mem (b + 5)) (mem (b + 6)) (mem (b + 2)) i to))) mem)) 0 0 (fun _ => True) 60 [zR b, zI i, zI to, zI x, v, w] [zI o] mem := by
        intro o ho0 ho9 hf
        refine r_istore dX0_isHeld_60 rfl ?_
        refine r_iload_n dX0_isHeld_62 rfl ?_
        refine r_iload dX0_isHeld_63 rfl ?_
        refine r_isub dX0_isHeld_65 ?_
        try rw [zw_id (by omega) (by omega)]
        refine r_mabs kX0_70 dX0_isHeld_66 ?_
        rw [zabs_sz (by omega) (by omega)]
        refine r_istore dX0_isHeld_69 rfl ?_
        refine r_iload dX0_isHeld_71 rfl ?_
        refine r_aload_n dX0_isHeld_73 rfl ?_
        refine r_getR fX0_34 (by exact zlF hb) (zrF7 hb) dX0_isHeld_74 ?_
        refine r_iload_n dX0_isHeld_77 rfl ?_
        refine r_iald (by first | exact zaF1 hb | exact zaF2 hb | exact zaF3 hb | exact zaF4 hb | exact zaF5 hb | exact zaF6 hb) (by omega) (by omega) dX0_isHeld_78 ?_
        refine r_icmp_le (tgt := 101) dX0_isHeld_79 (by decide) (fun h79 => ?_) (fun h79 => ?_)
        ·
          refine r_iinc dX0_isHeld_101 rfl rfl ?_
          try rw [zw_id (by omega) (by omega)]
          refine r_goto (tgt := 2) dX0_isHeld_104 (by decide) ?_
          exact ih _ _ _ (by omega) (by omega) (by rw [← hf]; simp; omega)
        ·
          refine r_iload dX0_isHeld_82 rfl ?_
          refine r_aload_n dX0_isHeld_84 rfl ?_
          refine r_getR fX0_19 (by exact zlF hb) (zrF2 hb) dX0_isHeld_85 ?_
          refine r_iload_n dX0_isHeld_88 rfl ?_
          refine r_iald (by first | exact zaF1 hb | exact zaF2 hb | exact zaF3 hb | exact zaF4 hb | exact zaF5 hb | exact zaF6 hb) (by omega) (by omega) dX0_isHeld_89 ?_
          refine r_iload dX0_isHeld_90 rfl ?_
          refine r_isub dX0_isHeld_92 ?_
          try rw [zw_id (by omega) (by omega)]
          refine r_mabs kX0_70 dX0_isHeld_93 ?_
          rw [zabs_sz (by omega) (by omega)]
          refine r_icmp_le (tgt := 101) dX0_isHeld_96 (by decide) (fun h96 => ?_) (fun h96 => ?_)
          ·
            refine r_iinc dX0_isHeld_101 rfl rfl ?_
            try rw [zw_id (by omega) (by omega)]
            refine r_goto (tgt := 2) dX0_isHeld_104 (by decide) ?_
            exact ih _ _ _ (by omega) (by omega) (by rw [← hf]; simp; omega)
          ·
            refine r_iconst dX0_isHeld_99 (k := ?_)
            refine r_zret dX0_isHeld_100 (by decide) ?_
            exact zP1.ofI (by rw [← hf, decide_eq_true (by omega)]; rfl)
      refine r_iload_n dX0_isHeld_2 rfl ?_
      refine r_aload_n dX0_isHeld_3 rfl ?_
      refine r_gI (q := 4) rfl fX0_25 (by exact zlF hb) (by decide) dX0_isHeld_4 ?_
      refine r_icmp_ge (tgt := 107) dX0_isHeld_7 (by decide) (fun h7 => absurd h7 (by omega)) (fun h7 => ?_)
      refine r_aload_n dX0_isHeld_10 rfl ?_
      refine r_getR fX0_28 (by exact zlF hb) (zrF5 hb) dX0_isHeld_11 ?_
      refine r_iload_n dX0_isHeld_14 rfl ?_
      refine r_iald (by first | exact zaF1 hb | exact zaF2 hb | exact zaF3 hb | exact zaF4 hb | exact zaF5 hb | exact zaF6 hb) (by omega) (by omega) dX0_isHeld_15 ?_
      refine r_iload_n dX0_isHeld_16 rfl ?_
      refine r_icmp_eq (tgt := 30) dX0_isHeld_17 (by decide) (fun h17 => ?_) (fun h17 => ?_)
      · refine r_aload_n dX0_isHeld_30 rfl ?_
        refine r_getR fX0_19 (by exact zlF hb) (zrF2 hb) dX0_isHeld_31 ?_
        refine r_aload_n dX0_isHeld_34 rfl ?_
        refine r_getR fX0_28 (by exact zlF hb) (zrF5 hb) dX0_isHeld_35 ?_
        refine r_iload_n dX0_isHeld_38 rfl ?_
        refine r_iald (by first | exact zaF1 hb | exact zaF2 hb | exact zaF3 hb | exact zaF4 hb | exact zaF5 hb | exact zaF6 hb) (by omega) (by omega) dX0_isHeld_39 ?_
        refine r_iload_n dX0_isHeld_40 rfl ?_
        refine r_icmp_ne (tgt := 53) dX0_isHeld_41 (by decide) (fun h41 => ?_) (fun h41 => ?_)
        · refine r_aload_n dX0_isHeld_53 rfl ?_
          refine r_getR fX0_28 (by exact zlF hb) (zrF5 hb) dX0_isHeld_54 ?_
          refine r_iload_n dX0_isHeld_57 rfl ?_
          refine r_iald (by first | exact zaF1 hb | exact zaF2 hb | exact zaF3 hb | exact zaF4 hb | exact zaF5 hb | exact zaF6 hb) (by omega) (by omega) dX0_isHeld_58 ?_
          refine r_iald (by first | exact zaF1 hb | exact zaF2 hb | exact zaF3 hb | exact zaF4 hb | exact zaF5 hb | exact zaF6 hb) (by omega) (by omega) dX0_isHeld_59 ?_
          first | exact rest _ hp1.1 hp1.2 (by simpa [*] using he) | exact rest _ hp2.1 hp2.2 (by simpa [*] using he) | exact absurd h17 h41 | exact absurd h41 h17
        · refine r_aload_n dX0_isHeld_44 rfl ?_
          refine r_getR fX0_31 (by exact zlF hb) (zrF6 hb) dX0_isHeld_45 ?_
          refine r_iload_n dX0_isHeld_48 rfl ?_
          refine r_iald (by first | exact zaF1 hb | exact zaF2 hb | exact zaF3 hb | exact zaF4 hb | exact zaF5 hb | exact zaF6 hb) (by omega) (by omega) dX0_isHeld_49 ?_
          refine r_goto (tgt := 59) dX0_isHeld_50 (by decide) ?_
          refine r_iald (by first | exact zaF1 hb | exact zaF2 hb | exact zaF3 hb | exact zaF4 hb | exact zaF5 hb | exact zaF6 hb) (by omega) (by omega) dX0_isHeld_59 ?_
          first | exact rest _ hp1.1 hp1.2 (by simpa [*] using he) | exact rest _ hp2.1 hp2.2 (by simpa [*] using he) | exact absurd h17 h41 | exact absurd h41 h17
      · refine r_aload_n dX0_isHeld_20 rfl ?_
        refine r_getR fX0_31 (by exact zlF hb) (zrF6 hb) dX0_isHeld_21 ?_
        refine r_iload_n dX0_isHeld_24 rfl ?_
        refine r_iald (by first | exact zaF1 hb | exact zaF2 hb | exact zaF3 hb | exact zaF4 hb | exact zaF5 hb | exact zaF6 hb) (by omega) (by omega) dX0_isHeld_25 ?_
        refine r_iload_n dX0_isHeld_26 rfl ?_
        refine r_icmp_ne (tgt := 101) dX0_isHeld_27 (by decide) (fun h27 => ?_) (fun h27 => ?_)
        · refine r_iinc dX0_isHeld_101 rfl rfl ?_
          try rw [zw_id (by omega) (by omega)]
          refine r_goto (tgt := 2) dX0_isHeld_104 (by decide) ?_
          exact ih _ _ _ (by omega) (by omega) (by simpa [*] using he)
        · refine r_aload_n dX0_isHeld_30 rfl ?_
          refine r_getR fX0_19 (by exact zlF hb) (zrF2 hb) dX0_isHeld_31 ?_
          refine r_aload_n dX0_isHeld_34 rfl ?_
          refine r_getR fX0_28 (by exact zlF hb) (zrF5 hb) dX0_isHeld_35 ?_
          refine r_iload_n dX0_isHeld_38 rfl ?_
          refine r_iald (by first | exact zaF1 hb | exact zaF2 hb | exact zaF3 hb | exact zaF4 hb | exact zaF5 hb | exact zaF6 hb) (by omega) (by omega) dX0_isHeld_39 ?_
          refine r_iload_n dX0_isHeld_40 rfl ?_
          refine r_icmp_ne (tgt := 53) dX0_isHeld_41 (by decide) (fun h41 => ?_) (fun h41 => ?_)
          · refine r_aload_n dX0_isHeld_53 rfl ?_
            refine r_getR fX0_28 (by exact zlF hb) (zrF5 hb) dX0_isHeld_54 ?_
            refine r_iload_n dX0_isHeld_57 rfl ?_
            refine r_iald (by first | exact zaF1 hb | exact zaF2 hb | exact zaF3 hb | exact zaF4 hb | exact zaF5 hb | exact zaF6 hb) (by omega) (by omega) dX0_isHeld_58 ?_
            refine r_iald (by first | exact zaF1 hb | exact zaF2 hb | exact zaF3 hb | exact zaF4 hb | exact zaF5 hb | exact zaF6 hb) (by omega) (by omega) dX0_isHeld_59 ?_
            first | exact rest _ hp1.1 hp1.2 (by simpa [*] using he) | exact rest _ hp2.1 hp2.2 (by simpa [*] using he) | exact absurd h17 h41 | exact absurd h41 h17
          · refine r_aload_n dX0_isHeld_44 rfl ?_
            refine r_getR fX0_31 (by exact zlF hb) (zrF6 hb) dX0_isHeld_45 ?_
            refine r_iload_n dX0_isHeld_48 rfl ?_
            refine r_iald (by first | exact zaF1 hb | exact zaF2 hb | exact zaF3 hb | exact zaF4 hb | exact zaF5 hb | exact zaF6 hb) (by omega) (by omega) dX0_isHeld_49 ?_
            refine r_goto (tgt := 59) dX0_isHeld_50 (by decide) ?_
            refine r_iald (by first | exact zaF1 hb | exact zaF2 hb | exact zaF3 hb | exact zaF4 hb | exact zaF5 hb | exact zaF6 hb) (by omega) (by omega) dX0_isHeld_59 ?_
            first | exact rest _ hp1.1 hp1.2 (by simpa [*] using he) | exact rest _ hp2.1 hp2.2 (by simpa [*] using he) | exact absurd h17 h41 | exact absurd h41 h17
  refine r_iconst dX0_isHeld_0 (k := ?_)
  refine r_istore_n dX0_isHeld_1 rfl ?_
  exact loop (mem b 4).toNat 0 zU zU (by omega) (by omega) rfl
end
