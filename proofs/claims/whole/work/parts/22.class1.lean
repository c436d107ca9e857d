/-! ===== the class: its small methods, and the calls that do little ===== -/
theorem hF1 : isF 1 := Or.inl rfl
theorem hF8 : isF 8 := Or.inr (Or.inl rfl)
theorem hF21 : isF 21 := Or.inr (Or.inr (Or.inl rfl))
theorem hF33 : isF 33 := Or.inr (Or.inr (Or.inr (Or.inl rfl)))
theorem hF55 : isF 55 := Or.inr (Or.inr (Or.inr (Or.inr rfl)))
theorem zFI1 {mem : zM} (h : zFI mem 1) : 0 ≤ mem 1 0 ∧ mem 1 0 ≤ 5 ∧ 0 ≤ mem 1 4 ∧ mem 1 4 ≤ 6 ∧ (∀ i, 0 ≤ i → i < mem 1 0 → 0 ≤ mem 3 i ∧ mem 3 i ≤ 99) ∧ (∀ i j, 0 ≤ i → i < mem 1 0 → 0 ≤ j → j < mem 1 0 → 0 ≤ mem 4 (5 * i + j) ∧ mem 4 (5 * i + j) ≤ 3) ∧ (∀ k, 0 ≤ k → k < mem 1 4 → 0 ≤ mem 5 k ∧ mem 5 k < mem 1 0 ∧ 0 ≤ mem 6 k ∧ mem 6 k < mem 1 0 ∧ 0 ≤ mem 7 k ∧ mem 7 k ≤ 30) := h
theorem zi2b_id {x : Int} (h0 : -128 ≤ x) (h1 : x ≤ 127) : zi2b x = x := by
  unfold zi2b
  rw [Int8.toInt_toInt32, Int32.toInt_toInt8, zo_toInt, zw_id (by omega) (by omega), Int.bmod_def]
  split <;> omega
section
variable {l : Launch} {G : zG} {mem : zM}
set_option maxRecDepth 100000 in
theorem c_isWithin (v a c : Int) : KX5_isWithin l G 0 [zI v, zI a, zI c] mem (zP1 (zI (zb (decide (a ≤ v ∧ v ≤ c)))) mem) := by
  refine CT.of' (own := RX5) (ls0 := [zI v, zI a, zI c]) rfl (by decide +kernel) (Nat.le_of_ble_eq_true rfl) rfl ?_
  refine r_iload_n dX5_isWithin_0 rfl ?_
  refine r_iload_n dX5_isWithin_1 rfl ?_
  refine r_icmp_lt (tgt := 14) dX5_isWithin_2 (by decide) (fun h2 => ?_) (fun h2 => ?_)
  · refine r_iconst dX5_isWithin_14 (k := ?_)
    refine r_zret dX5_isWithin_15 (by decide) ?_
    first | exact zP1.ofI (zb_1 (by omega)) | exact zP1.ofI (zb_0 (by omega))
  · refine r_iload_n dX5_isWithin_5 rfl ?_
    refine r_iload_n dX5_isWithin_6 rfl ?_
    refine r_icmp_gt (tgt := 14) dX5_isWithin_7 (by decide) (fun h7 => ?_) (fun h7 => ?_)
    · refine r_iconst dX5_isWithin_14 (k := ?_)
      refine r_zret dX5_isWithin_15 (by decide) ?_
      first | exact zP1.ofI (zb_1 (by omega)) | exact zP1.ofI (zb_0 (by omega))
    · refine r_iconst dX5_isWithin_10 (k := ?_)
      refine r_goto (tgt := 15) dX5_isWithin_11 (by decide) ?_
      refine r_zret dX5_isWithin_15 (by decide) ?_
      first | exact zP1.ofI (zb_1 (by omega)) | exact zP1.ofI (zb_0 (by omega))
set_option maxRecDepth 100000 in
theorem c_X5_isIsle (i : Int) : KX5_isIsle l G 0 [zR 0, zI i] mem (zP1 (zI (zb (decide (0 ≤ i ∧ i < mem 1 0)))) mem) := by
  refine CT.of' (own := RX5) (ls0 := [zR 0, zI i]) rfl (by decide +kernel) (Nat.le_of_ble_eq_true rfl) rfl ?_
  refine r_iload_n dX5_isIsle_0 rfl ?_
  refine r_if_lt (tgt := 19) dX5_isIsle_1 (by decide) (fun h1 => ?_) (fun h1 => ?_)
  · refine r_iconst dX5_isIsle_19 (k := ?_)
    refine r_zret dX5_isIsle_20 (by decide) ?_
    first | exact zP1.ofI (zb_1 (by omega)) | exact zP1.ofI (zb_0 (by omega))
  · refine r_iload_n dX5_isIsle_4 rfl ?_
    refine r_aload_n dX5_isIsle_5 rfl ?_
    refine r_getR (q := 1) fX5_10 rfl rfl dX5_isIsle_6 ?_
    refine r_gI (q := 0) rfl fX5_92 rfl (by decide) dX5_isIsle_9 ?_
    refine r_icmp_ge (tgt := 19) dX5_isIsle_12 (by decide) (fun h12 => ?_) (fun h12 => ?_)
    · refine r_iconst dX5_isIsle_19 (k := ?_)
      refine r_zret dX5_isIsle_20 (by decide) ?_
      first | exact zP1.ofI (zb_1 (by omega)) | exact zP1.ofI (zb_0 (by omega))
    · refine r_iconst dX5_isIsle_15 (k := ?_)
      refine r_goto (tgt := 20) dX5_isIsle_16 (by decide) ?_
      refine r_zret dX5_isIsle_20 (by decide) ?_
      first | exact zP1.ofI (zb_1 (by omega)) | exact zP1.ofI (zb_0 (by omega))
set_option maxRecDepth 100000 in
theorem c_X5_isRope (i : Int) : KX5_isRope l G 0 [zR 0, zI i] mem (zP1 (zI (zb (decide (0 ≤ i ∧ i < mem 1 4)))) mem) := by
  refine CT.of' (own := RX5) (ls0 := [zR 0, zI i]) rfl (by decide +kernel) (Nat.le_of_ble_eq_true rfl) rfl ?_
  refine r_iload_n dX5_isRope_0 rfl ?_
  refine r_if_lt (tgt := 19) dX5_isRope_1 (by decide) (fun h1 => ?_) (fun h1 => ?_)
  · refine r_iconst dX5_isRope_19 (k := ?_)
    refine r_zret dX5_isRope_20 (by decide) ?_
    first | exact zP1.ofI (zb_1 (by omega)) | exact zP1.ofI (zb_0 (by omega))
  · refine r_iload_n dX5_isRope_4 rfl ?_
    refine r_aload_n dX5_isRope_5 rfl ?_
    refine r_getR (q := 1) fX5_10 rfl rfl dX5_isRope_6 ?_
    refine r_gI (q := 4) rfl fX5_95 rfl (by decide) dX5_isRope_9 ?_
    refine r_icmp_ge (tgt := 19) dX5_isRope_12 (by decide) (fun h12 => ?_) (fun h12 => ?_)
    · refine r_iconst dX5_isRope_19 (k := ?_)
      refine r_zret dX5_isRope_20 (by decide) ?_
      first | exact zP1.ofI (zb_1 (by omega)) | exact zP1.ofI (zb_0 (by omega))
    · refine r_iconst dX5_isRope_15 (k := ?_)
      refine r_goto (tgt := 20) dX5_isRope_16 (by decide) ?_
      refine r_zret dX5_isRope_20 (by decide) ?_
      first | exact zP1.ofI (zb_1 (by omega)) | exact zP1.ofI (zb_0 (by omega))
set_option maxRecDepth 100000 in
theorem c_isPair (i j : Int) : KX5_isPair l G 1 [zR 0, zI i, zI j] mem (zP1 (zI (zb (decide (0 ≤ i ∧ i < mem 1 0 ∧ 0 ≤ j ∧ j < mem 1 0 ∧ i ≠ j)))) mem) := by
  refine CT.of' (own := RX5) (ls0 := [zR 0, zI i, zI j]) rfl (by decide +kernel) (Nat.le_of_ble_eq_true rfl) rfl ?_
  refine r_aload_n dX5_isPair_0 rfl ?_
  refine r_iload_n dX5_isPair_1 rfl ?_
  refine r_v1 (c_X5_isIsle _) kX5_111 rfl dX5_isPair_2 ?_
  refine r_ifb_eq (tgt := 25) dX5_isPair_5 (by decide) (fun h5 => ?_) (fun h5 => ?_)
  · refine r_iconst dX5_isPair_25 (k := ?_)
    refine r_zret dX5_isPair_26 (by decide) ?_
    first | exact zP1.ofI (zb_1 (by simp only [decide_eq_true_eq] at h5 h13; omega)) | exact zP1.ofI (zb_0 (by simp only [decide_eq_true_eq, decide_eq_false_iff_not] at h5 h13; omega)) | exact zP1.ofI (zb_0 (by simp only [decide_eq_false_iff_not] at h5; omega))
  · refine r_aload_n dX5_isPair_8 rfl ?_
    refine r_iload_n dX5_isPair_9 rfl ?_
    refine r_v1 (c_X5_isIsle _) kX5_111 rfl dX5_isPair_10 ?_
    refine r_ifb_eq (tgt := 25) dX5_isPair_13 (by decide) (fun h13 => ?_) (fun h13 => ?_)
    · refine r_iconst dX5_isPair_25 (k := ?_)
      refine r_zret dX5_isPair_26 (by decide) ?_
      first | exact zP1.ofI (zb_1 (by simp only [decide_eq_true_eq] at h5 h13; omega)) | exact zP1.ofI (zb_0 (by simp only [decide_eq_true_eq, decide_eq_false_iff_not] at h5 h13; omega)) | exact zP1.ofI (zb_0 (by simp only [decide_eq_false_iff_not] at h5; omega))
    · refine r_iload_n dX5_isPair_16 rfl ?_
      refine r_iload_n dX5_isPair_17 rfl ?_
      refine r_icmp_eq (tgt := 25) dX5_isPair_18 (by decide) (fun h18 => ?_) (fun h18 => ?_)
      · refine r_iconst dX5_isPair_25 (k := ?_)
        refine r_zret dX5_isPair_26 (by decide) ?_
        first | exact zP1.ofI (zb_1 (by simp only [decide_eq_true_eq] at h5 h13; omega)) | exact zP1.ofI (zb_0 (by simp only [decide_eq_true_eq, decide_eq_false_iff_not] at h5 h13; omega)) | exact zP1.ofI (zb_0 (by simp only [decide_eq_false_iff_not] at h5; omega))
      · refine r_iconst dX5_isPair_21 (k := ?_)
        refine r_goto (tgt := 26) dX5_isPair_22 (by decide) ?_
        refine r_zret dX5_isPair_26 (by decide) ?_
        first | exact zP1.ofI (zb_1 (by simp only [decide_eq_true_eq] at h5 h13; omega)) | exact zP1.ofI (zb_0 (by simp only [decide_eq_true_eq, decide_eq_false_iff_not] at h5 h13; omega)) | exact zP1.ofI (zb_0 (by simp only [decide_eq_false_iff_not] at h5; omega))
set_option maxRecDepth 100000 in
theorem c_isGrudge (i j v : Int) : KX5_isGrudge l G 2 [zR 0, zI i, zI j, zI v] mem (zP1 (zI (zb (decide (0 ≤ i ∧ i < mem 1 0 ∧ 0 ≤ j ∧ j < mem 1 0 ∧ i ≠ j ∧ 0 ≤ v ∧ v ≤ 3)))) mem) := by
  refine CT.of' (own := RX5) (ls0 := [zR 0, zI i, zI j, zI v]) rfl (by decide +kernel) (Nat.le_of_ble_eq_true rfl) rfl ?_
  refine r_aload_n dX5_isGrudge_0 rfl ?_
  refine r_iload_n dX5_isGrudge_1 rfl ?_
  refine r_iload_n dX5_isGrudge_2 rfl ?_
  refine r_v2 (c_isPair _ _) kX5_136 rfl dX5_isGrudge_3 ?_
  refine r_ifb_eq (tgt := 22) dX5_isGrudge_6 (by decide) (fun h6 => ?_) (fun h6 => ?_)
  · refine r_iconst dX5_isGrudge_22 (k := ?_)
    refine r_zret dX5_isGrudge_23 (by decide) ?_
    first | exact zP1.ofI (zb_1 (by simp only [decide_eq_true_eq] at h6 h15; omega)) | exact zP1.ofI (zb_0 (by simp only [decide_eq_true_eq, decide_eq_false_iff_not] at h6 h15; omega)) | exact zP1.ofI (zb_0 (by simp only [decide_eq_false_iff_not] at h6; omega))
  · refine r_iload_n dX5_isGrudge_9 rfl ?_
    refine r_iconst dX5_isGrudge_10 (k := ?_)
    refine r_iconst dX5_isGrudge_11 (k := ?_)
    refine r_s3 (c_isWithin _ _ _) kX5_156 dX5_isGrudge_12 ?_
    refine r_ifb_eq (tgt := 22) dX5_isGrudge_15 (by decide) (fun h15 => ?_) (fun h15 => ?_)
    · refine r_iconst dX5_isGrudge_22 (k := ?_)
      refine r_zret dX5_isGrudge_23 (by decide) ?_
      first | exact zP1.ofI (zb_1 (by simp only [decide_eq_true_eq] at h6 h15; omega)) | exact zP1.ofI (zb_0 (by simp only [decide_eq_true_eq, decide_eq_false_iff_not] at h6 h15; omega)) | exact zP1.ofI (zb_0 (by simp only [decide_eq_false_iff_not] at h6; omega))
    · refine r_iconst dX5_isGrudge_18 (k := ?_)
      refine r_goto (tgt := 23) dX5_isGrudge_19 (by decide) ?_
      refine r_zret dX5_isGrudge_23 (by decide) ?_
      first | exact zP1.ofI (zb_1 (by simp only [decide_eq_true_eq] at h6 h15; omega)) | exact zP1.ofI (zb_0 (by simp only [decide_eq_true_eq, decide_eq_false_iff_not] at h6 h15; omega)) | exact zP1.ofI (zb_0 (by simp only [decide_eq_false_iff_not] at h6; omega))
set_option maxRecDepth 100000 in
theorem c_isStorms (v n w : Int) : KX5_isStorms l G 1 [zI v, zI n, zI w] mem (zP1 (zI (zb (decide (0 ≤ v ∧ v ≤ 10 ∧ 0 ≤ n ∧ n ≤ 8 ∧ 0 ≤ w ∧ w ≤ 1)))) mem) := by
  refine CT.of' (own := RX5) (ls0 := [zI v, zI n, zI w]) rfl (by decide +kernel) (Nat.le_of_ble_eq_true rfl) rfl ?_
  refine r_iload_n dX5_isStorms_0 rfl ?_
  refine r_iconst dX5_isStorms_1 (k := ?_)
  refine r_bipush dX5_isStorms_2 (k := ?_)
  refine r_s3 (c_isWithin _ _ _) kX5_156 dX5_isStorms_4 ?_
  refine r_ifb_eq (tgt := 33) dX5_isStorms_7 (by decide) (fun h7 => ?_) (fun h7 => ?_)
  · refine r_iconst dX5_isStorms_33 (k := ?_)
    refine r_zret dX5_isStorms_34 (by decide) ?_
    first | exact zP1.ofI (zb_1 (by simp only [decide_eq_true_eq] at h7 h17 h26; omega)) | exact zP1.ofI (zb_0 (by simp only [decide_eq_true_eq, decide_eq_false_iff_not] at h7 h17 h26; omega)) | exact zP1.ofI (zb_0 (by simp only [decide_eq_true_eq, decide_eq_false_iff_not] at h7 h17; omega)) | exact zP1.ofI (zb_0 (by simp only [decide_eq_false_iff_not] at h7; omega))
  · refine r_iload_n dX5_isStorms_10 rfl ?_
    refine r_iconst dX5_isStorms_11 (k := ?_)
    refine r_bipush dX5_isStorms_12 (k := ?_)
    refine r_s3 (c_isWithin _ _ _) kX5_156 dX5_isStorms_14 ?_
    refine r_ifb_eq (tgt := 33) dX5_isStorms_17 (by decide) (fun h17 => ?_) (fun h17 => ?_)
    · refine r_iconst dX5_isStorms_33 (k := ?_)
      refine r_zret dX5_isStorms_34 (by decide) ?_
      first | exact zP1.ofI (zb_1 (by simp only [decide_eq_true_eq] at h7 h17 h26; omega)) | exact zP1.ofI (zb_0 (by simp only [decide_eq_true_eq, decide_eq_false_iff_not] at h7 h17 h26; omega)) | exact zP1.ofI (zb_0 (by simp only [decide_eq_true_eq, decide_eq_false_iff_not] at h7 h17; omega)) | exact zP1.ofI (zb_0 (by simp only [decide_eq_false_iff_not] at h7; omega))
    · refine r_iload_n dX5_isStorms_20 rfl ?_
      refine r_iconst dX5_isStorms_21 (k := ?_)
      refine r_iconst dX5_isStorms_22 (k := ?_)
      refine r_s3 (c_isWithin _ _ _) kX5_156 dX5_isStorms_23 ?_
      refine r_ifb_eq (tgt := 33) dX5_isStorms_26 (by decide) (fun h26 => ?_) (fun h26 => ?_)
      · refine r_iconst dX5_isStorms_33 (k := ?_)
        refine r_zret dX5_isStorms_34 (by decide) ?_
        first | exact zP1.ofI (zb_1 (by simp only [decide_eq_true_eq] at h7 h17 h26; omega)) | exact zP1.ofI (zb_0 (by simp only [decide_eq_true_eq, decide_eq_false_iff_not] at h7 h17 h26; omega)) | exact zP1.ofI (zb_0 (by simp only [decide_eq_true_eq, decide_eq_false_iff_not] at h7 h17; omega)) | exact zP1.ofI (zb_0 (by simp only [decide_eq_false_iff_not] at h7; omega))
      · refine r_iconst dX5_isStorms_29 (k := ?_)
        refine r_goto (tgt := 34) dX5_isStorms_30 (by decide) ?_
        refine r_zret dX5_isStorms_34 (by decide) ?_
        first | exact zP1.ofI (zb_1 (by simp only [decide_eq_true_eq] at h7 h17 h26; omega)) | exact zP1.ofI (zb_0 (by simp only [decide_eq_true_eq, decide_eq_false_iff_not] at h7 h17 h26; omega)) | exact zP1.ofI (zb_0 (by simp only [decide_eq_true_eq, decide_eq_false_iff_not] at h7 h17; omega)) | exact zP1.ofI (zb_0 (by simp only [decide_eq_false_iff_not] at h7; omega))
set_option maxRecDepth 100000 in
theorem c_asItIs : KX5_asItIs l G 2 [zR 0] mem (zP1 (zR 8) (zBec mem 8 1)) := by
  refine CT.of' (own := RX5) (ls0 := [zR 0]) rfl (by decide +kernel) (Nat.le_of_ble_eq_true rfl) rfl ?_
  refine r_aload_n dX5_asItIs_0 rfl ?_
  refine r_getR (q := 8) fX5_16 rfl rfl dX5_asItIs_1 ?_
  refine r_aload_n dX5_asItIs_4 rfl ?_
  refine r_getR (q := 1) fX5_10 rfl rfl dX5_asItIs_5 ?_
  refine r_w1 (c_X0_become hF8 hF1 (by decide)) kX5_75 rfl dX5_asItIs_8 ?_
  refine r_aload_n dX5_asItIs_11 rfl ?_
  refine r_getR (q := 8) fX5_16 rfl rfl dX5_asItIs_12 ?_
  refine r_aret dX5_asItIs_15 ?_
  exact zP1.i
def sAdv (best much what : Int) : Int := if best = -4 then -4 else if what = 0 then best else much
set_option maxRecDepth 100000 in
theorem c_advice (a c w : Int) : KX5_advice l G 0 [zI a, zI c, zI w] mem (zP1 (zI (sAdv a c w)) mem) := by
  refine CT.of' (own := RX5) (ls0 := [zI a, zI c, zI w]) rfl (by decide +kernel) (Nat.le_of_ble_eq_true rfl) rfl ?_
  refine r_iload_n dX5_advice_0 rfl ?_
  refine r_bipush dX5_advice_1 (k := ?_)
  refine r_icmp_ne (tgt := 9) dX5_advice_3 (by decide) (fun h3 => ?_) (fun h3 => ?_)
  · refine r_iload_n dX5_advice_9 rfl ?_
    refine r_if_ne (tgt := 17) dX5_advice_10 (by decide) (fun h10 => ?_) (fun h10 => ?_)
    · refine r_iload_n dX5_advice_17 rfl ?_
      refine r_iret dX5_advice_18 ?_
      exact zP1.ofI (by unfold sAdv; repeat (first | rfl | omega | split))
    · refine r_iload_n dX5_advice_13 rfl ?_
      refine r_goto (tgt := 18) dX5_advice_14 (by decide) ?_
      refine r_iret dX5_advice_18 ?_
      exact zP1.ofI (by unfold sAdv; repeat (first | rfl | omega | split))
  · refine r_bipush dX5_advice_6 (k := ?_)
    refine r_iret dX5_advice_8 ?_
    exact zP1.ofI (by unfold sAdv; repeat (first | rfl | omega | split))
set_option maxRecDepth 100000 in
theorem c_X5_fault : KX5_fault l G 0 [zR 0] mem (zP1 (zI (mem 53 4)) mem) := by
  refine CT.of' (own := RX5) (ls0 := [zR 0]) rfl (by decide +kernel) (Nat.le_of_ble_eq_true rfl) rfl ?_
  refine r_aload_n dX5_fault_0 rfl ?_
  refine r_getR (q := 53) fX5_43 rfl rfl dX5_fault_1 ?_
  refine r_gI (q := 4) rfl fX5_89 rfl (by decide) dX5_fault_4 ?_
  refine r_iret dX5_fault_7 ?_
  exact zP1.i
set_option maxRecDepth 100000 in
theorem c_X5_torn : KX5_torn l G 0 [zR 0] mem (zP1 (zI (mem 0 8)) mem) := by
  refine CT.of' (own := RX5) (ls0 := [zR 0]) rfl (by decide +kernel) (Nat.le_of_ble_eq_true rfl) rfl ?_
  refine r_aload_n dX5_torn_0 rfl ?_
  refine r_gI (q := 8) rfl fX5_54 rfl (by decide) dX5_torn_1 ?_
  refine r_iret dX5_torn_4 ?_
  exact zP1.i
set_option maxRecDepth 100000 in
theorem c_X5_feed (c : Int) (hlo : 0 ≤ mem 53 1) (hhi : mem 53 1 ≤ 160) : KX5_feed l G 0 [zR 0, zI c] mem (zP1 (zI (if c < 0 ∨ 127 < c then -1 else if mem 53 1 = 160 then -3 else mem 53 1 + 1)) (if c < 0 ∨ 127 < c then mem else if mem 53 1 = 160 then mem else zs (zs mem 54 (mem 53 1) c) 53 1 (mem 53 1 + 1))) := by
  refine CT.of' (own := RX5) (ls0 := [zR 0, zI c]) rfl (by decide +kernel) (Nat.le_of_ble_eq_true rfl) rfl ?_
  refine r_iload_n dX5_feed_0 rfl ?_
  refine r_if_lt (tgt := 10) dX5_feed_1 (by decide) (fun h1 => ?_) (fun h1 => ?_)
  · refine r_iconst dX5_feed_10 (k := ?_)
    refine r_iret dX5_feed_11 ?_
    simp only [if_pos (show c < 0 ∨ 127 < c by omega)]
    exact zP1.i
  · refine r_iload_n dX5_feed_4 rfl ?_
    refine r_bipush dX5_feed_5 (k := ?_)
    refine r_icmp_le (tgt := 12) dX5_feed_7 (by decide) (fun h7 => ?_) (fun h7 => ?_)
    · refine r_aload_n dX5_feed_12 rfl ?_
      refine r_getR (q := 53) fX5_43 rfl rfl dX5_feed_13 ?_
      try simp (disch := decide) only [zs_n, zs_s, zu_s]
      refine r_gI (q := 1) rfl fX5_58 rfl (by decide) dX5_feed_16 ?_
      try simp (disch := decide) only [zs_n, zs_s, zu_s]
      refine r_sipush dX5_feed_19 (k := ?_)
      refine r_icmp_lt (tgt := 28) dX5_feed_22 (by decide) (fun h22 => ?_) (fun h22 => ?_)
      · refine r_aload_n dX5_feed_28 rfl ?_
        refine r_getR (q := 53) fX5_43 rfl rfl dX5_feed_29 ?_
        try simp (disch := decide) only [zs_n, zs_s, zu_s]
        refine r_getR (q := 54) fX5_61 rfl rfl dX5_feed_32 ?_
        try simp (disch := decide) only [zs_n, zs_s, zu_s]
        refine r_aload_n dX5_feed_35 rfl ?_
        refine r_getR (q := 53) fX5_43 rfl rfl dX5_feed_36 ?_
        try simp (disch := decide) only [zs_n, zs_s, zu_s]
        refine r_gI (q := 1) rfl fX5_58 rfl (by decide) dX5_feed_39 ?_
        try simp (disch := decide) only [zs_n, zs_s, zu_s]
        refine r_iload_n dX5_feed_42 rfl ?_
        refine r_i2b dX5_feed_43 ?_
        refine r_bast rfl (by omega) (by omega) dX5_feed_44 ?_
        refine r_aload_n dX5_feed_45 rfl ?_
        refine r_getR (q := 53) fX5_43 rfl rfl dX5_feed_46 ?_
        try simp (disch := decide) only [zs_n, zs_s, zu_s]
        refine r_dup dX5_feed_49 rfl ?_
        refine r_gI (q := 1) rfl fX5_58 rfl (by decide) dX5_feed_50 ?_
        try simp (disch := decide) only [zs_n, zs_s, zu_s]
        refine r_iconst dX5_feed_53 (k := ?_)
        refine r_iadd dX5_feed_54 ?_
        try rw [zw_id (by omega) (by omega)]
        refine r_pI (q := 1) rfl pX5_58 rfl dX5_feed_55 ?_
        refine r_aload_n dX5_feed_58 rfl ?_
        refine r_getR (q := 53) fX5_43 rfl rfl dX5_feed_59 ?_
        try simp (disch := decide) only [zs_n, zs_s, zu_s]
        refine r_gI (q := 1) rfl fX5_58 rfl (by decide) dX5_feed_62 ?_
        try simp (disch := decide) only [zs_n, zs_s, zu_s]
        refine r_iret dX5_feed_65 ?_
        simp only [if_neg (show ¬ (c < 0 ∨ 127 < c) by omega), if_neg (show ¬ mem 53 1 = 160 by omega), zi2b_id (show -128 ≤ c by omega) (show c ≤ 127 by omega)]
        exact zP1.i
      · refine r_bipush dX5_feed_25 (k := ?_)
        refine r_iret dX5_feed_27 ?_
        simp only [if_neg (show ¬ (c < 0 ∨ 127 < c) by omega), if_pos (show mem 53 1 = 160 by omega)]
        exact zP1.i
    · refine r_iconst dX5_feed_10 (k := ?_)
      refine r_iret dX5_feed_11 ?_
      simp only [if_pos (show c < 0 ∨ 127 < c by omega)]
      exact zP1.i
set_option maxRecDepth 100000 in
theorem c_X5_end (n : Int) : KX5_end l G 0 [zR 0, zI n] mem (zP1 (zI (if n < 0 ∨ mem 53 1 < n then -1 else mem 53 1)) (if n < 0 ∨ mem 53 1 < n then mem else zs mem 53 1 n)) := by
  refine CT.of' (own := RX5) (ls0 := [zR 0, zI n, zU]) rfl (by decide +kernel) (Nat.le_of_ble_eq_true rfl) rfl ?_
  refine r_iload_n dX5_end_0 rfl ?_
  refine r_if_lt (tgt := 15) dX5_end_1 (by decide) (fun h1 => ?_) (fun h1 => ?_)
  · refine r_iconst dX5_end_15 (k := ?_)
    refine r_iret dX5_end_16 ?_
    first | (rw [if_pos (by omega), if_pos (by omega)]; exact zP1.i) | (rw [if_neg (by omega), if_neg (by omega)]; exact zP1.i)
  · refine r_iload_n dX5_end_4 rfl ?_
    refine r_aload_n dX5_end_5 rfl ?_
    refine r_getR (q := 53) fX5_43 rfl rfl dX5_end_6 ?_
    refine r_gI (q := 1) rfl fX5_58 rfl (by decide) dX5_end_9 ?_
    refine r_icmp_le (tgt := 17) dX5_end_12 (by decide) (fun h12 => ?_) (fun h12 => ?_)
    · refine r_aload_n dX5_end_17 rfl ?_
      refine r_getR (q := 53) fX5_43 rfl rfl dX5_end_18 ?_
      refine r_gI (q := 1) rfl fX5_58 rfl (by decide) dX5_end_21 ?_
      refine r_istore_n dX5_end_24 rfl ?_
      refine r_aload_n dX5_end_25 rfl ?_
      refine r_getR (q := 53) fX5_43 rfl rfl dX5_end_26 ?_
      refine r_iload_n dX5_end_29 rfl ?_
      refine r_pI (q := 1) rfl pX5_58 rfl dX5_end_30 ?_
      refine r_iload_n dX5_end_33 rfl ?_
      refine r_iret dX5_end_34 ?_
      first | (rw [if_pos (by omega), if_pos (by omega)]; exact zP1.i) | (rw [if_neg (by omega), if_neg (by omega)]; exact zP1.i)
    · refine r_iconst dX5_end_15 (k := ?_)
      refine r_iret dX5_end_16 ?_
      first | (rw [if_pos (by omega), if_pos (by omega)]; exact zP1.i) | (rw [if_neg (by omega), if_neg (by omega)]; exact zP1.i)
set_option maxRecDepth 100000 in
theorem c_X5_loose (n : Int) : KX5_loose l G 0 [zR 0, zI n] mem (zP1 (zI (if n < 0 ∨ mem 1 4 < n then -1 else mem 1 4)) (if n < 0 ∨ mem 1 4 < n then mem else zs mem 1 4 n)) := by
  refine CT.of' (own := RX5) (ls0 := [zR 0, zI n, zU]) rfl (by decide +kernel) (Nat.le_of_ble_eq_true rfl) rfl ?_
  refine r_iload_n dX5_loose_0 rfl ?_
  refine r_if_lt (tgt := 15) dX5_loose_1 (by decide) (fun h1 => ?_) (fun h1 => ?_)
  · refine r_iconst dX5_loose_15 (k := ?_)
    refine r_iret dX5_loose_16 ?_
    first | (rw [if_pos (by omega), if_pos (by omega)]; exact zP1.i) | (rw [if_neg (by omega), if_neg (by omega)]; exact zP1.i)
  · refine r_iload_n dX5_loose_4 rfl ?_
    refine r_aload_n dX5_loose_5 rfl ?_
    refine r_getR (q := 1) fX5_10 rfl rfl dX5_loose_6 ?_
    refine r_gI (q := 4) rfl fX5_95 rfl (by decide) dX5_loose_9 ?_
    refine r_icmp_le (tgt := 17) dX5_loose_12 (by decide) (fun h12 => ?_) (fun h12 => ?_)
    · refine r_aload_n dX5_loose_17 rfl ?_
      refine r_getR (q := 1) fX5_10 rfl rfl dX5_loose_18 ?_
      refine r_gI (q := 4) rfl fX5_95 rfl (by decide) dX5_loose_21 ?_
      refine r_istore_n dX5_loose_24 rfl ?_
      refine r_aload_n dX5_loose_25 rfl ?_
      refine r_getR (q := 1) fX5_10 rfl rfl dX5_loose_26 ?_
      refine r_iload_n dX5_loose_29 rfl ?_
      refine r_pI (q := 4) rfl pX5_95 rfl dX5_loose_30 ?_
      refine r_iload_n dX5_loose_33 rfl ?_
      refine r_iret dX5_loose_34 ?_
      first | (rw [if_pos (by omega), if_pos (by omega)]; exact zP1.i) | (rw [if_neg (by omega), if_neg (by omega)]; exact zP1.i)
    · refine r_iconst dX5_loose_15 (k := ?_)
      refine r_iret dX5_loose_16 ?_
      first | (rw [if_pos (by omega), if_pos (by omega)]; exact zP1.i) | (rw [if_neg (by omega), if_neg (by omega)]; exact zP1.i)
set_option maxRecDepth 100000 in
theorem c_X5_forget (n : Int) : KX5_forget l G 0 [zR 0, zI n] mem (zP1 (zI (if n < 0 ∨ mem 15 0 < n then -1 else mem 15 0)) (if n < 0 ∨ mem 15 0 < n then mem else zs mem 15 0 n)) := by
  refine CT.of' (own := RX5) (ls0 := [zR 0, zI n, zU]) rfl (by decide +kernel) (Nat.le_of_ble_eq_true rfl) rfl ?_
  refine r_iload_n dX5_forget_0 rfl ?_
  refine r_if_lt (tgt := 15) dX5_forget_1 (by decide) (fun h1 => ?_) (fun h1 => ?_)
  · refine r_iconst dX5_forget_15 (k := ?_)
    refine r_iret dX5_forget_16 ?_
    first | (rw [if_pos (by omega), if_pos (by omega)]; exact zP1.i) | (rw [if_neg (by omega), if_neg (by omega)]; exact zP1.i)
  · refine r_iload_n dX5_forget_4 rfl ?_
    refine r_aload_n dX5_forget_5 rfl ?_
    refine r_getR (q := 15) fX5_22 rfl rfl dX5_forget_6 ?_
    refine r_gI (q := 0) rfl fX5_79 rfl (by decide) dX5_forget_9 ?_
    refine r_icmp_le (tgt := 17) dX5_forget_12 (by decide) (fun h12 => ?_) (fun h12 => ?_)
    · refine r_aload_n dX5_forget_17 rfl ?_
      refine r_getR (q := 15) fX5_22 rfl rfl dX5_forget_18 ?_
      refine r_gI (q := 0) rfl fX5_79 rfl (by decide) dX5_forget_21 ?_
      refine r_istore_n dX5_forget_24 rfl ?_
      refine r_aload_n dX5_forget_25 rfl ?_
      refine r_getR (q := 15) fX5_22 rfl rfl dX5_forget_26 ?_
      refine r_iload_n dX5_forget_29 rfl ?_
      refine r_pI (q := 0) rfl pX5_79 rfl dX5_forget_30 ?_
      refine r_iload_n dX5_forget_33 rfl ?_
      refine r_iret dX5_forget_34 ?_
      first | (rw [if_pos (by omega), if_pos (by omega)]; exact zP1.i) | (rw [if_neg (by omega), if_neg (by omega)]; exact zP1.i)
    · refine r_iconst dX5_forget_15 (k := ?_)
      refine r_iret dX5_forget_16 ?_
      first | (rw [if_pos (by omega), if_pos (by omega)]; exact zP1.i) | (rw [if_neg (by omega), if_neg (by omega)]; exact zP1.i)
set_option maxRecDepth 100000 in
theorem c_X5_feast (v : Int) : KX5_feast l G 1 [zR 0, zI v] mem (zP1 (zI (if v < 0 ∨ 6 < v then -1 else mem 1 8)) (if v < 0 ∨ 6 < v then mem else zs mem 1 8 v)) := by
  refine CT.of' (own := RX5) (ls0 := [zR 0, zI v, zU]) rfl (by decide +kernel) (Nat.le_of_ble_eq_true rfl) rfl ?_
  refine r_iload_n dX5_feast_0 rfl ?_
  refine r_iconst dX5_feast_1 (k := ?_)
  refine r_bipush dX5_feast_2 (k := ?_)
  refine r_s3 (c_isWithin _ _ _) kX5_156 dX5_feast_4 ?_
  refine r_ifb_ne (tgt := 12) dX5_feast_7 (by decide) (fun h7 => ?_) (fun h7 => ?_)
  · refine r_aload_n dX5_feast_12 rfl ?_
    refine r_getR (q := 1) fX5_10 rfl rfl dX5_feast_13 ?_
    refine r_gI (q := 8) rfl fX5_101 rfl (by decide) dX5_feast_16 ?_
    refine r_istore_n dX5_feast_19 rfl ?_
    refine r_aload_n dX5_feast_20 rfl ?_
    refine r_getR (q := 1) fX5_10 rfl rfl dX5_feast_21 ?_
    refine r_iload_n dX5_feast_24 rfl ?_
    refine r_pI (q := 8) rfl pX5_101 rfl dX5_feast_25 ?_
    refine r_iload_n dX5_feast_28 rfl ?_
    refine r_iret dX5_feast_29 ?_
    simp only [decide_eq_true_eq, decide_eq_false_iff_not] at h7
    first | (rw [if_pos (by omega), if_pos (by omega)]; exact zP1.i) | (rw [if_neg (by omega), if_neg (by omega)]; exact zP1.i)
  · refine r_iconst dX5_feast_10 (k := ?_)
    refine r_iret dX5_feast_11 ?_
    simp only [decide_eq_true_eq, decide_eq_false_iff_not] at h7
    first | (rw [if_pos (by omega), if_pos (by omega)]; exact zP1.i) | (rw [if_neg (by omega), if_neg (by omega)]; exact zP1.i)
set_option maxRecDepth 100000 in
theorem c_X5_cross (hI : zFI mem 1) (i j : Int) : KX5_cross l G 2 [zR 0, zI i, zI j] mem (zP1 (zI (if 0 ≤ i ∧ i < mem 1 0 ∧ 0 ≤ j ∧ j < mem 1 0 ∧ i ≠ j then mem 4 (5 * i + j) else -1)) mem) := by
  obtain ⟨hn0, hn5, hr0, hr6, hp, hg, hr⟩ := zFI1 hI
  refine CT.of' (own := RX5) (ls0 := [zR 0, zI i, zI j]) rfl (by decide +kernel) (Nat.le_of_ble_eq_true rfl) rfl ?_
  refine r_aload_n dX5_cross_0 rfl ?_
  refine r_iload_n dX5_cross_1 rfl ?_
  refine r_iload_n dX5_cross_2 rfl ?_
  refine r_v2 (c_isPair _ _) kX5_136 rfl dX5_cross_3 ?_
  try simp only [decide_eq_true_eq, decide_eq_false_iff_not] at h6
  refine r_ifb_eq (tgt := 21) dX5_cross_6 (by decide) (fun h6 => ?_) (fun h6 => ?_)
  ·
    simp only [decide_eq_false_iff_not] at h6
    refine r_iconst dX5_cross_21 (k := ?_)
    refine r_iret dX5_cross_22 ?_
    rw [if_neg h6]; exact zP1.i
  ·
    simp only [decide_eq_true_eq] at h6
    refine r_aload_n dX5_cross_9 rfl ?_
    refine r_getR (q := 1) fX5_10 rfl rfl dX5_cross_10 ?_
    try simp only [decide_eq_true_eq, decide_eq_false_iff_not] at h6
    refine r_iload_n dX5_cross_13 rfl ?_
    refine r_iload_n dX5_cross_14 rfl ?_
    refine r_v2 (c_X0_grudge hF1 _ _ (by omega) (by omega) (by omega) (by omega)) kX5_140 rfl dX5_cross_15 ?_
    try simp only [decide_eq_true_eq, decide_eq_false_iff_not] at h6
    refine r_goto (tgt := 22) dX5_cross_18 (by decide) ?_
    refine r_iret dX5_cross_22 ?_
    rw [if_pos h6]; exact zP1.i
set_option maxRecDepth 100000 in
theorem c_X5_sulk (hI : zFI mem 1) (i j v : Int) : KX5_sulk l G 3 [zR 0, zI i, zI j, zI v] mem (zP1 (zI (if 0 ≤ i ∧ i < mem 1 0 ∧ 0 ≤ j ∧ j < mem 1 0 ∧ i ≠ j ∧ 0 ≤ v ∧ v ≤ 3 then mem 4 (5 * i + j) else -1)) (if 0 ≤ i ∧ i < mem 1 0 ∧ 0 ≤ j ∧ j < mem 1 0 ∧ i ≠ j ∧ 0 ≤ v ∧ v ≤ 3 then zs mem 4 (5 * i + j) v else mem)) := by
  obtain ⟨hn0, hn5, hr0, hr6, hp, hg, hr⟩ := zFI1 hI
  refine CT.of' (own := RX5) (ls0 := [zR 0, zI i, zI j, zI v, zU]) rfl (by decide +kernel) (Nat.le_of_ble_eq_true rfl) rfl ?_
  refine r_aload_n dX5_sulk_0 rfl ?_
  refine r_iload_n dX5_sulk_1 rfl ?_
  refine r_iload_n dX5_sulk_2 rfl ?_
  refine r_iload_n dX5_sulk_3 rfl ?_
  refine r_v3 (c_isGrudge _ _ _) kX5_163 rfl dX5_sulk_4 ?_
  refine r_ifb_ne (tgt := 12) dX5_sulk_7 (by decide) (fun h7 => ?_) (fun h7 => ?_)
  ·
    simp only [decide_eq_true_eq] at h7
    refine r_aload_n dX5_sulk_12 rfl ?_
    refine r_getR (q := 1) fX5_10 rfl rfl dX5_sulk_13 ?_
    refine r_iload_n dX5_sulk_16 rfl ?_
    refine r_iload_n dX5_sulk_17 rfl ?_
    refine r_v2 (c_X0_grudge hF1 _ _ (by omega) (by omega) (by omega) (by omega)) kX5_140 rfl dX5_sulk_18 ?_
    refine r_istore dX5_sulk_21 rfl ?_
    refine r_aload_n dX5_sulk_23 rfl ?_
    refine r_getR (q := 1) fX5_10 rfl rfl dX5_sulk_24 ?_
    refine r_iload_n dX5_sulk_27 rfl ?_
    refine r_iload_n dX5_sulk_28 rfl ?_
    refine r_iload_n dX5_sulk_29 rfl ?_
    refine r_w3 (c_X0_setGrudge hF1 _ _ _ (by omega) (by omega) (by omega) (by omega)) kX5_166 rfl dX5_sulk_30 ?_
    refine r_iload dX5_sulk_33 rfl ?_
    refine r_iret dX5_sulk_35 ?_
    rw [if_pos h7, if_pos h7]; exact zP1.i
  ·
    simp only [decide_eq_false_iff_not] at h7
    refine r_iconst dX5_sulk_10 (k := ?_)
    refine r_iret dX5_sulk_11 ?_
    rw [if_neg h7, if_neg h7]; exact zP1.i
end
