/-! ===== the class: names, lines, the text ===== -/
theorem zsl_5 {i : Nat} (hi : i < 7) : zSl.getD i 0 ≤ 5 := by
  rcases (show i = 0 ∨ i = 1 ∨ i = 2 ∨ i = 3 ∨ i = 4 ∨ i = 5 ∨ i = 6 by omega) with rfl | rfl | rfl | rfl | rfl | rfl | rfl <;> decide
theorem zSc_b' {i : Nat} {j : Int} (hi : i < 7) (h0 : 0 ≤ j) (h5 : j < 5) : 0 ≤ zSc i j ∧ zSc i j < 128 := by
  have q := zSc_b ⟨i, hi⟩ ⟨j.toNat, by omega⟩
  dsimp only at q
  rw [Int.toNat_of_nonneg h0] at q
  exact q
def sIsN (i : Nat) (t : Int → Int) (f q : Int) : Bool := decide (q - f = ((zSl.getD i 0 : Nat) : Int)) && !zany (fun j => decide (t (f + j) ≠ zSc i j)) 0 (zSl.getD i 0)
theorem sIs5 {t Z : Int → Int} {f q : Int} : (decide (q - f = 5) && !zany (fun j => decide (t (f + j) ≠ Z j)) 0 5) = decide (q - f = 5 ∧ t f = Z 0 ∧ t (f + 1) = Z 1 ∧ t (f + 2) = Z 2 ∧ t (f + 3) = Z 3 ∧ t (f + 4) = Z 4) := by
  have e : zany (fun j => decide (t (f + j) ≠ Z j)) 0 5 = (decide (t (f + 0) ≠ Z 0) || (decide (t (f + 1) ≠ Z 1) || (decide (t (f + 2) ≠ Z 2) || (decide (t (f + 3) ≠ Z 3) || (decide (t (f + 4) ≠ Z 4) || false))))) := rfl
  rw [e, Int.add_zero, Bool.eq_iff_iff]
  simp
theorem sIs4 {t Z : Int → Int} {f q : Int} : (decide (q - f = 4) && !zany (fun j => decide (t (f + j) ≠ Z j)) 0 4) = decide (q - f = 4 ∧ t f = Z 0 ∧ t (f + 1) = Z 1 ∧ t (f + 2) = Z 2 ∧ t (f + 3) = Z 3) := by
  have e : zany (fun j => decide (t (f + j) ≠ Z j)) 0 4 = (decide (t (f + 0) ≠ Z 0) || (decide (t (f + 1) ≠ Z 1) || (decide (t (f + 2) ≠ Z 2) || (decide (t (f + 3) ≠ Z 3) || false)))) := rfl
  rw [e, Int.add_zero, Bool.eq_iff_iff]
  simp
theorem sIsN_0 {t : Int → Int} {f q : Int} : sIsN 0 t f q = decide (q - f = 5 ∧ t f = 112 ∧ t (f + 1) = 108 ∧ t (f + 2) = 97 ∧ t (f + 3) = 105 ∧ t (f + 4) = 110) := sIs5 (Z := zSc 0)
theorem sIsN_1 {t : Int → Int} {f q : Int} : sIsN 1 t f q = decide (q - f = 5 ∧ t f = 112 ∧ t (f + 1) = 114 ∧ t (f + 2) = 111 ∧ t (f + 3) = 117 ∧ t (f + 4) = 100) := sIs5 (Z := zSc 1)
theorem sIsN_2 {t : Int → Int} {f q : Int} : sIsN 2 t f q = decide (q - f = 4 ∧ t f = 102 ∧ t (f + 1) = 111 ∧ t (f + 2) = 110 ∧ t (f + 3) = 100) := sIs4 (Z := zSc 2)
theorem sIsN_3 {t : Int → Int} {f q : Int} : sIsN 3 t f q = decide (q - f = 5 ∧ t f = 119 ∧ t (f + 1) = 105 ∧ t (f + 2) = 100 ∧ t (f + 3) = 111 ∧ t (f + 4) = 119) := sIs5 (Z := zSc 3)
theorem sIsN_4 {t : Int → Int} {f q : Int} : sIsN 4 t f q = decide (q - f = 5 ∧ t f = 99 ∧ t (f + 1) = 114 ∧ t (f + 2) = 111 ∧ t (f + 3) = 115 ∧ t (f + 4) = 115) := sIs5 (Z := zSc 4)
theorem sIsN_5 {t : Int → Int} {f q : Int} : sIsN 5 t f q = decide (q - f = 4 ∧ t f = 114 ∧ t (f + 1) = 111 ∧ t (f + 2) = 112 ∧ t (f + 3) = 101) := sIs4 (Z := zSc 5)
theorem sIsN_6 {t : Int → Int} {f q : Int} : sIsN 6 t f q = decide (q - f = 5 ∧ t f = 102 ∧ t (f + 1) = 101 ∧ t (f + 2) = 97 ∧ t (f + 3) = 115 ∧ t (f + 4) = 116) := sIs5 (Z := zSc 6)
def lcd (c : Int) : Int := if c = 4 then 10 else if c = 5 then 11 else if c = 6 then 12 else c
theorem zfil_s {r : Int → Int} {v x : Int} (h : 0 ≤ x) : zu (zfil r v x) x v = zfil r v (x + 1) := by
  funext j
  unfold zu zfil
  by_cases c : j = x
  · rw [if_pos c, if_pos (by omega)]
  · rw [if_neg c]
    by_cases d : 0 ≤ j ∧ j < x
    · rw [if_pos d, if_pos (by omega)]
    · rw [if_neg d, if_neg (by omega)]
theorem zfil_0 {r : Int → Int} {v : Int} : zfil r v 0 = r := by
  funext j
  unfold zfil
  rw [if_neg (by omega)]
section
variable {l : Launch} {G : zG} {mem : zM} {i : Nat}
set_option maxRecDepth 100000 in
theorem c_isNamed (hi : i < 7) (p0 : 0 ≤ mem 53 11) (p1 : mem 53 11 ≤ mem 53 9) (p2 : mem 53 9 ≤ 160) : KX2_isNamed l G 4 [zR 53, zR (zN + i)] mem (zP1 (zI (zb (sIsN i (mem 54) (mem 53 11) (mem 53 9)))) mem) := by
  have h5 := zsl_5 hi
  refine CT.of' (own := RX2) (ls0 := [zR 53, zR (zN + i), zU]) rfl (by decide +kernel) (Nat.le_of_ble_eq_true rfl) rfl ?_
  by_cases c1 : mem 53 9 - mem 53 11 = ((zSl.getD i 0 : Nat) : Int)
  · have e0 : sIsN i (mem 54) (mem 53 11) (mem 53 9) = !zany (fun j => decide (mem 54 (mem 53 11 + j) ≠ zSc i j)) 0 (zSl.getD i 0) := by unfold sIsN; rw [decide_eq_true c1, Bool.true_and]
    rw [e0]
    have loop : ∀ (q : Nat) (x : Int), 0 ≤ x → x + q = ((zSl.getD i 0 : Nat) : Int) → zany (fun j => decide (mem 54 (mem 53 11 + j) ≠ zSc i j)) x q = zany (fun j => decide (mem 54 (mem 53 11 + j) ≠ zSc i j)) 0 (zSl.getD i 0) → SW l G (zrm 4) RX2 cX2_isNamed 3 (some .boolean) (zZ G (zP1 (zI (zb (!zany (fun j => decide (mem 54 (mem 53 11 + j) ≠ zSc i j)) 0 (zSl.getD i 0)))) mem)) 0 0 (fun _ => True) 20 [zR 53, zR (zN + i), zI x] [] mem := by
      intro q
      induction q with
      | zero =>
        intro x h0 h1 he
        refine r_iload_n dX2_isNamed_20 rfl ?_
        refine r_aload_n dX2_isNamed_21 rfl ?_
        refine r_callT (i := i) (c_strlen hi) YJ0_length_8abf5 (ztb_at 352 (by decide +kernel) (by decide +kernel)) hi rfl rfl rfl ⟨Nat.le_of_ble_eq_true rfl, Nat.le_of_ble_eq_true rfl⟩ (Nat.le_of_ble_eq_true rfl) dX2_isNamed_22 (fun r m9 h9 => ?_)
        rw [h9.1, h9.2]
        refine r_icmp_ge (tgt := 55) dX2_isNamed_25 (by decide) (fun h25 => ?_) (fun h25 => ?_)
        · refine r_iconst dX2_isNamed_55 (k := ?_)
          refine r_zret dX2_isNamed_56 (by decide) ?_
          exact zP1.ofI (by rw [← he]; rfl)
        · exfalso; omega
      | succ q ih =>
        intro x h0 h1 he
        have qb := zSc_b' (j := x) hi h0 (by omega)
        rw [zany] at he
        refine r_iload_n dX2_isNamed_20 rfl ?_
        refine r_aload_n dX2_isNamed_21 rfl ?_
        refine r_callT (i := i) (c_strlen hi) YJ0_length_8abf5 (ztb_at 352 (by decide +kernel) (by decide +kernel)) hi rfl rfl rfl ⟨Nat.le_of_ble_eq_true rfl, Nat.le_of_ble_eq_true rfl⟩ (Nat.le_of_ble_eq_true rfl) dX2_isNamed_22 (fun r m9 h9 => ?_)
        rw [h9.1, h9.2]
        refine r_icmp_ge (tgt := 55) dX2_isNamed_25 (by decide) (fun h25 => ?_) (fun h25 => ?_)
        · exfalso; omega
        · refine r_aload_n dX2_isNamed_28 rfl ?_
          refine r_getR (q := 54) fX2_9 rfl rfl dX2_isNamed_29 ?_
          refine r_aload_n dX2_isNamed_32 rfl ?_
          refine r_gI (q := 11) rfl fX2_52 rfl (by decide) dX2_isNamed_33 ?_
          refine r_iload_n dX2_isNamed_36 rfl ?_
          refine r_iadd dX2_isNamed_37 ?_
          try rw [zw_id (by omega) (by omega)]
          refine r_bald rfl (by omega) (by omega) dX2_isNamed_38 ?_
          refine r_aload_n dX2_isNamed_39 rfl ?_
          refine r_iload_n dX2_isNamed_40 rfl ?_
          refine r_callT (i := i) (c_charAt hi x h0 (by omega) qb.1 qb.2) YJ0_charAt_5068e (ztb_at 362 (by decide +kernel) (by decide +kernel)) hi rfl rfl rfl ⟨Nat.le_of_ble_eq_true rfl, Nat.le_of_ble_eq_true rfl⟩ (Nat.le_of_ble_eq_true rfl) dX2_isNamed_41 (fun r m9 h9 => ?_)
          rw [h9.1, h9.2]
          refine r_icmp_eq (tgt := 49) dX2_isNamed_44 (by decide) (fun h44 => ?_) (fun h44 => ?_)
          · refine r_iinc dX2_isNamed_49 rfl rfl ?_
            try rw [zw_id (by omega) (by omega)]
            refine r_goto (tgt := 20) dX2_isNamed_52 (by decide) ?_
            exact ih _ (by omega) (by omega) (by rw [decide_eq_false (fun z => z h44), Bool.false_or] at he; exact he)
          · refine r_iconst dX2_isNamed_47 (k := ?_)
            refine r_zret dX2_isNamed_48 (by decide) ?_
            exact zP1.ofI (by rw [← he, decide_eq_true h44, Bool.true_or]; rfl)
    refine r_aload_n dX2_isNamed_0 rfl ?_
    refine r_gI (q := 9) rfl fX2_46 rfl (by decide) dX2_isNamed_1 ?_
    refine r_aload_n dX2_isNamed_4 rfl ?_
    refine r_gI (q := 11) rfl fX2_52 rfl (by decide) dX2_isNamed_5 ?_
    refine r_isub dX2_isNamed_8 ?_
    try rw [zw_id (by omega) (by omega)]
    refine r_aload_n dX2_isNamed_9 rfl ?_
    refine r_callT (i := i) (c_strlen hi) YJ0_length_8abf5 (ztb_at 352 (by decide +kernel) (by decide +kernel)) hi rfl rfl rfl ⟨Nat.le_of_ble_eq_true rfl, Nat.le_of_ble_eq_true rfl⟩ (Nat.le_of_ble_eq_true rfl) dX2_isNamed_10 (fun r m9 h9 => ?_)
    rw [h9.1, h9.2]
    refine r_icmp_eq (tgt := 18) dX2_isNamed_13 (by decide) (fun h13 => ?_) (fun h13 => ?_)
    · refine r_iconst dX2_isNamed_18 (k := ?_)
      refine r_istore_n dX2_isNamed_19 rfl ?_
      exact loop _ 0 (by omega) (by omega) rfl
    · exfalso; omega
  · have e0 : sIsN i (mem 54) (mem 53 11) (mem 53 9) = false := by unfold sIsN; rw [decide_eq_false c1, Bool.false_and]
    rw [e0]
    refine r_aload_n dX2_isNamed_0 rfl ?_
    refine r_gI (q := 9) rfl fX2_46 rfl (by decide) dX2_isNamed_1 ?_
    refine r_aload_n dX2_isNamed_4 rfl ?_
    refine r_gI (q := 11) rfl fX2_52 rfl (by decide) dX2_isNamed_5 ?_
    refine r_isub dX2_isNamed_8 ?_
    try rw [zw_id (by omega) (by omega)]
    refine r_aload_n dX2_isNamed_9 rfl ?_
    refine r_callT (i := i) (c_strlen hi) YJ0_length_8abf5 (ztb_at 352 (by decide +kernel) (by decide +kernel)) hi rfl rfl rfl ⟨Nat.le_of_ble_eq_true rfl, Nat.le_of_ble_eq_true rfl⟩ (Nat.le_of_ble_eq_true rfl) dX2_isNamed_10 (fun r m9 h9 => ?_)
    rw [h9.1, h9.2]
    refine r_icmp_eq (tgt := 18) dX2_isNamed_13 (by decide) (fun h13 => ?_) (fun h13 => ?_)
    · exfalso; omega
    · refine r_iconst dX2_isNamed_16 (k := ?_)
      refine r_zret dX2_isNamed_17 (by decide) ?_
      exact zP1.i
end
section
variable {l : Launch} {G : zG} {mem : zM}
set_option maxRecDepth 100000 in
theorem c_lineNamed (p0 : 0 ≤ mem 53 11) (p1 : mem 53 11 ≤ mem 53 9) (p2 : mem 53 9 ≤ 160) : KX2_lineNamed l G 5 [zR 53] mem (zP1 (zI (lcd (sNm (mem 54) (mem 53 11) (mem 53 9)))) mem) := by
  unfold sNm
  refine CT.of' (own := RX2) (ls0 := [zR 53]) rfl (by decide +kernel) (Nat.le_of_ble_eq_true rfl) rfl ?_
  refine r_aload_n dX2_lineNamed_0 rfl ?_
  refine r_sldc (i := 0) (by decide) dX2_lineNamed_1 ?_
  refine r_v1 (c_isNamed (i := 0) (by decide) p0 p1 p2) kX2_90 rfl dX2_lineNamed_3 ?_
  rw [sIsN_0]
  by_cases c0 : mem 53 9 - mem 53 11 = 5 ∧ mem 54 (mem 53 11) = 112 ∧ mem 54 (mem 53 11 + 1) = 108 ∧ mem 54 (mem 53 11 + 2) = 97 ∧ mem 54 (mem 53 11 + 3) = 105 ∧ mem 54 (mem 53 11 + 4) = 110
  · rw [if_pos c0, decide_eq_true c0]
    refine r_ifb_eq (tgt := 11) dX2_lineNamed_6 (by decide) (fun h => absurd h (by decide)) (fun h => ?_)
    refine r_iconst dX2_lineNamed_9 (k := ?_)
    refine r_iret dX2_lineNamed_10 ?_
    exact zP1.ofI rfl
  rw [if_neg c0, decide_eq_false c0]
  refine r_ifb_eq (tgt := 11) dX2_lineNamed_6 (by decide) (fun h => ?_) (fun h => absurd h (by decide))
  refine r_aload_n dX2_lineNamed_11 rfl ?_
  refine r_sldc (i := 1) (by decide) dX2_lineNamed_12 ?_
  refine r_v1 (c_isNamed (i := 1) (by decide) p0 p1 p2) kX2_90 rfl dX2_lineNamed_14 ?_
  rw [sIsN_1]
  by_cases c1 : mem 53 9 - mem 53 11 = 5 ∧ mem 54 (mem 53 11) = 112 ∧ mem 54 (mem 53 11 + 1) = 114 ∧ mem 54 (mem 53 11 + 2) = 111 ∧ mem 54 (mem 53 11 + 3) = 117 ∧ mem 54 (mem 53 11 + 4) = 100
  · rw [if_pos c1, decide_eq_true c1]
    refine r_ifb_eq (tgt := 22) dX2_lineNamed_17 (by decide) (fun h => absurd h (by decide)) (fun h => ?_)
    refine r_iconst dX2_lineNamed_20 (k := ?_)
    refine r_iret dX2_lineNamed_21 ?_
    exact zP1.ofI rfl
  rw [if_neg c1, decide_eq_false c1]
  refine r_ifb_eq (tgt := 22) dX2_lineNamed_17 (by decide) (fun h => ?_) (fun h => absurd h (by decide))
  refine r_aload_n dX2_lineNamed_22 rfl ?_
  refine r_sldc (i := 2) (by decide) dX2_lineNamed_23 ?_
  refine r_v1 (c_isNamed (i := 2) (by decide) p0 p1 p2) kX2_90 rfl dX2_lineNamed_25 ?_
  rw [sIsN_2]
  by_cases c2 : mem 53 9 - mem 53 11 = 4 ∧ mem 54 (mem 53 11) = 102 ∧ mem 54 (mem 53 11 + 1) = 111 ∧ mem 54 (mem 53 11 + 2) = 110 ∧ mem 54 (mem 53 11 + 3) = 100
  · rw [if_pos c2, decide_eq_true c2]
    refine r_ifb_eq (tgt := 33) dX2_lineNamed_28 (by decide) (fun h => absurd h (by decide)) (fun h => ?_)
    refine r_iconst dX2_lineNamed_31 (k := ?_)
    refine r_iret dX2_lineNamed_32 ?_
    exact zP1.ofI rfl
  rw [if_neg c2, decide_eq_false c2]
  refine r_ifb_eq (tgt := 33) dX2_lineNamed_28 (by decide) (fun h => ?_) (fun h => absurd h (by decide))
  refine r_aload_n dX2_lineNamed_33 rfl ?_
  refine r_sldc (i := 3) (by decide) dX2_lineNamed_34 ?_
  refine r_v1 (c_isNamed (i := 3) (by decide) p0 p1 p2) kX2_90 rfl dX2_lineNamed_36 ?_
  rw [sIsN_3]
  by_cases c3 : mem 53 9 - mem 53 11 = 5 ∧ mem 54 (mem 53 11) = 119 ∧ mem 54 (mem 53 11 + 1) = 105 ∧ mem 54 (mem 53 11 + 2) = 100 ∧ mem 54 (mem 53 11 + 3) = 111 ∧ mem 54 (mem 53 11 + 4) = 119
  · rw [if_pos c3, decide_eq_true c3]
    refine r_ifb_eq (tgt := 44) dX2_lineNamed_39 (by decide) (fun h => absurd h (by decide)) (fun h => ?_)
    refine r_iconst dX2_lineNamed_42 (k := ?_)
    refine r_iret dX2_lineNamed_43 ?_
    exact zP1.ofI rfl
  rw [if_neg c3, decide_eq_false c3]
  refine r_ifb_eq (tgt := 44) dX2_lineNamed_39 (by decide) (fun h => ?_) (fun h => absurd h (by decide))
  refine r_aload_n dX2_lineNamed_44 rfl ?_
  refine r_sldc (i := 4) (by decide) dX2_lineNamed_45 ?_
  refine r_v1 (c_isNamed (i := 4) (by decide) p0 p1 p2) kX2_90 rfl dX2_lineNamed_47 ?_
  rw [sIsN_4]
  by_cases c4 : mem 53 9 - mem 53 11 = 5 ∧ mem 54 (mem 53 11) = 99 ∧ mem 54 (mem 53 11 + 1) = 114 ∧ mem 54 (mem 53 11 + 2) = 111 ∧ mem 54 (mem 53 11 + 3) = 115 ∧ mem 54 (mem 53 11 + 4) = 115
  · rw [if_pos c4, decide_eq_true c4]
    refine r_ifb_eq (tgt := 56) dX2_lineNamed_50 (by decide) (fun h => absurd h (by decide)) (fun h => ?_)
    refine r_bipush dX2_lineNamed_53 (k := ?_)
    refine r_iret dX2_lineNamed_55 ?_
    exact zP1.ofI rfl
  rw [if_neg c4, decide_eq_false c4]
  refine r_ifb_eq (tgt := 56) dX2_lineNamed_50 (by decide) (fun h => ?_) (fun h => absurd h (by decide))
  refine r_aload_n dX2_lineNamed_56 rfl ?_
  refine r_sldc (i := 5) (by decide) dX2_lineNamed_57 ?_
  refine r_v1 (c_isNamed (i := 5) (by decide) p0 p1 p2) kX2_90 rfl dX2_lineNamed_59 ?_
  rw [sIsN_5]
  by_cases c5 : mem 53 9 - mem 53 11 = 4 ∧ mem 54 (mem 53 11) = 114 ∧ mem 54 (mem 53 11 + 1) = 111 ∧ mem 54 (mem 53 11 + 2) = 112 ∧ mem 54 (mem 53 11 + 3) = 101
  · rw [if_pos c5, decide_eq_true c5]
    refine r_ifb_eq (tgt := 68) dX2_lineNamed_62 (by decide) (fun h => absurd h (by decide)) (fun h => ?_)
    refine r_bipush dX2_lineNamed_65 (k := ?_)
    refine r_iret dX2_lineNamed_67 ?_
    exact zP1.ofI rfl
  rw [if_neg c5, decide_eq_false c5]
  refine r_ifb_eq (tgt := 68) dX2_lineNamed_62 (by decide) (fun h => ?_) (fun h => absurd h (by decide))
  refine r_aload_n dX2_lineNamed_68 rfl ?_
  refine r_sldc (i := 6) (by decide) dX2_lineNamed_69 ?_
  refine r_v1 (c_isNamed (i := 6) (by decide) p0 p1 p2) kX2_90 rfl dX2_lineNamed_71 ?_
  rw [sIsN_6]
  by_cases c6 : mem 53 9 - mem 53 11 = 5 ∧ mem 54 (mem 53 11) = 102 ∧ mem 54 (mem 53 11 + 1) = 101 ∧ mem 54 (mem 53 11 + 2) = 97 ∧ mem 54 (mem 53 11 + 3) = 115 ∧ mem 54 (mem 53 11 + 4) = 116
  · rw [if_pos c6, decide_eq_true c6]
    refine r_ifb_eq (tgt := 82) dX2_lineNamed_74 (by decide) (fun h => absurd h (by decide)) (fun h => ?_)
    refine r_bipush dX2_lineNamed_77 (k := ?_)
    refine r_goto (tgt := 84) dX2_lineNamed_79 (by decide) ?_
    refine r_iret dX2_lineNamed_84 ?_
    exact zP1.ofI rfl
  rw [if_neg c6, decide_eq_false c6]
  refine r_ifb_eq (tgt := 82) dX2_lineNamed_74 (by decide) (fun h => ?_) (fun h => absurd h (by decide))
  refine r_bipush dX2_lineNamed_82 (k := ?_)
  refine r_iret dX2_lineNamed_84 ?_
  exact zP1.ofI rfl
end
section
variable {l : Launch} {G : zG} {mem : zM} {t : Int → Int} {L p : Int}
theorem qPr_D {a : Int × Int × Int × Int} {m' : zM} (h : qPr mem a m') : dC m' = ((dC mem).1, (dC mem).2.1, (dC mem).2.2.1, max (dC mem).2.2.2 (max a.1 a.2.1)) := by
  obtain ⟨ho, hj, o8, q9, q11, o13, o14⟩ := h
  unfold dC vC
  rw [ho 62 (by decide), ho 55 (by decide), ho (55 + 1) (by decide), ho (55 + 2) (by decide), ho (55 + 3) (by decide), ho (55 + 4) (by decide), ho (55 + 5) (by decide), ho (55 + 6) (by decide), hj 7 (by decide), o8]
theorem qLn.up {m1 m' : zM} {b : zDr × Int} {a : Int × Int × Int × Int} (hq : qPr mem a m1) (h : qLn m1 b m') : qLn mem b m' := ⟨h.1, h.2.1, h.2.2.1.trans (hq.2.1 3 (by decide)), h.2.2.2.trans (hq.2.1 4 (by decide))⟩
set_option maxRecDepth 100000 in
theorem c_takeLine (c : Int) (hc : c = -4 ∨ (0 ≤ c ∧ c ≤ 6)) (hL : kL mem) (ht : mem 54 = t) (hl : mem 53 1 = L) (hp : mem 53 9 = p) (hD : DI (dC mem)) : KX2_takeLine l G 4 [zR 53, zI (lcd c)] mem (zPX (sLn t L (dC mem) c (mem 53 11) p) (qLn mem) mem) := by
  obtain ⟨b0, b1, b2⟩ := id hL
  have n0 : 0 ≤ mem 55 0 := hD.1
  have r0 : 0 ≤ mem 55 4 := hD.2.2.1
  rcases (show c = -4 ∨ c = 4 ∨ c = 5 ∨ c = 6 ∨ (0 ≤ c ∧ c ≤ 3) by omega) with rfl | rfl | rfl | rfl | hc
  · have hs : sLn0 t L (dC mem) (-4) (mem 53 11) p = .error (2, mem 53 11) := by unfold sLn0; rw [if_pos rfl]
    refine CT.of' (own := RX2) (ls0 := [zR 53, zI (lcd (-4))]) rfl (by decide +kernel) (Nat.le_of_ble_eq_true rfl) rfl ?_
    refine r_iload_n dX2_takeLine_0 rfl ?_
    refine r_lsw (tgt := 44) dX2_takeLine_1 (by decide) (by rfl) (by decide) ?_
    refine r_aload_n dX2_takeLine_44 rfl ?_
    refine r_iconst dX2_takeLine_45 (k := ?_)
    refine r_v1 (c_fail _) kX2_74 rfl dX2_takeLine_46 ?_
    refine r_zret dX2_takeLine_49 (by decide) ?_
    exact zPX.e (sRs_e hs) (by repeat first | assumption | exact kT.rf | refine kT.s ?_ (by decide) | refine kT.z ?_ (by decide)) (by simp (disch := omega) only [zs_n, zs_v, zs_k]) (by simp (disch := omega) only [zs_n, zs_v, zs_k])
  ·
    refine CT.of' (own := RX2) (ls0 := [zR 53, zI (lcd 4)]) rfl (by decide +kernel) (Nat.le_of_ble_eq_true rfl) rfl ?_
    refine r_iload_n dX2_takeLine_0 rfl ?_
    refine r_lsw (tgt := 50) dX2_takeLine_1 (by decide) (by rfl) (by decide) ?_
    refine r_aload_n dX2_takeLine_50 rfl ?_
    refine r_vX0 (c_takePair hL ht hl hp) kX2_114 rfl dX2_takeLine_51 (fun e51 m51 x51 k51 f51 g51 => ?_) (fun a51 m51 x51 k51 q51 => ?_)
    · have hs : sLn0 t L (dC mem) 4 (mem 53 11) p = .error e51 := by unfold sLn0; rw [if_neg (by decide), if_pos rfl]; unfold sLc0; simp only [x51]
      refine r_if_eq (tgt := 68) dX2_takeLine_54 (by decide) (fun h54 => ?_) (fun h54 => absurd h54 (by decide))
      refine r_iconst dX2_takeLine_68 (k := ?_)
      refine r_zret dX2_takeLine_69 (by decide) ?_
      exact zPX.e (sRs_e hs) k51 f51 g51
    · obtain ⟨ho, hj, o8, q9, q11, o13, o14⟩ := id q51
      have n := sPr_ok (by omega) x51
      have hL2 : kL m51 := hL.of (hj 1 (by decide)) (by omega) (by omega)
      have hs : sLn t L (dC mem) 4 (mem 53 11) p = sRs t L (sEg t L a51.2.2.1 (dC m51) a51.1 a51.2.1 (m51 53 11)) := by
        rw [qPr_D q51, q11]
        unfold sLn sLn0
        rw [if_neg (by decide), if_pos rfl]
        unfold sLc0
        simp only [x51]
        rfl
      refine r_if_eq (tgt := 68) dX2_takeLine_54 (by decide) (fun h54 => absurd h54 (by decide)) (fun h54 => ?_)
      refine r_aload_n dX2_takeLine_57 rfl ?_
      refine r_vX0 (c_takeGrudge (t := t) (L := L) (p := a51.2.2.1) hL2 (by rw [ho 54 (by decide)]; exact ht) (by rw [hj 1 (by decide)]; exact hl) q9 o13 o14 n.1 n.2.1 n.2.2.1 n.2.2.2.1) kX2_117 rfl dX2_takeLine_58 (fun e58 m58 x58 k58 f58 g58 => ?_) (fun a58 m58 x58 k58 q58 => ?_)
      ·
        refine r_if_eq (tgt := 68) dX2_takeLine_61 (by decide) (fun h61 => ?_) (fun h61 => absurd h61 (by decide))
        refine r_iconst dX2_takeLine_68 (k := ?_)
        refine r_zret dX2_takeLine_69 (by decide) ?_
        exact zPX.e (hs.trans x58) (k51.tr k58) f58 g58
      ·
        refine r_if_eq (tgt := 68) dX2_takeLine_61 (by decide) (fun h61 => absurd h61 (by decide)) (fun h61 => ?_)
        refine r_iconst dX2_takeLine_64 (k := ?_)
        refine r_goto (tgt := 69) dX2_takeLine_65 (by decide) ?_
        refine r_zret dX2_takeLine_69 (by decide) ?_
        exact zPX.k (hs.trans x58) (k51.tr k58) (qLn.up q51 q58)
  · by_cases h6 : mem 55 4 < 6
    ·
      refine CT.of' (own := RX2) (ls0 := [zR 53, zI (lcd 5)]) rfl (by decide +kernel) (Nat.le_of_ble_eq_true rfl) rfl ?_
      refine r_iload_n dX2_takeLine_0 rfl ?_
      refine r_lsw (tgt := 70) dX2_takeLine_1 (by decide) (by rfl) (by decide) ?_
      refine r_aload_n dX2_takeLine_70 rfl ?_
      refine r_getR (q := 55) fX2_22 rfl rfl dX2_takeLine_71 ?_
      refine r_gI (q := 4) rfl fX2_120 rfl (by decide) dX2_takeLine_74 ?_
      refine r_bipush dX2_takeLine_77 (k := ?_)
      refine r_icmp_ge (tgt := 104) dX2_takeLine_79 (by decide) (fun h79 => absurd h79 (by omega)) (fun h79 => ?_)
      refine r_aload_n dX2_takeLine_82 rfl ?_
      refine r_vX0 (c_takePair hL ht hl hp) kX2_114 rfl dX2_takeLine_83 (fun e83 m83 x83 k83 f83 g83 => ?_) (fun a83 m83 x83 k83 q83 => ?_)
      · have hs : sLn0 t L (dC mem) 5 (mem 53 11) p = .error e83 := by unfold sLn0; rw [if_neg (by decide), if_neg (by decide), if_pos rfl]; unfold sLr0; rw [if_pos (show dR (dC mem) < 6 from h6)]; simp only [x83]
        refine r_if_eq (tgt := 100) dX2_takeLine_86 (by decide) (fun h86 => ?_) (fun h86 => absurd h86 (by decide))
        refine r_iconst dX2_takeLine_100 (k := ?_)
        refine r_goto (tgt := 109) dX2_takeLine_101 (by decide) ?_
        refine r_zret dX2_takeLine_109 (by decide) ?_
        exact zPX.e (sRs_e hs) k83 f83 g83
      · obtain ⟨ho, hj, o8, q9, q11, o13, o14⟩ := id q83
        have n := sPr_ok (by omega) x83
        have hL2 : kL m83 := hL.of (hj 1 (by decide)) (by omega) (by omega)
        have hs : sLn t L (dC mem) 5 (mem 53 11) p = sRs t L (sEr t L a83.2.2.1 (dC m83) a83.1 a83.2.1) := by
          rw [qPr_D q83]
          unfold sLn sLn0
          rw [if_neg (by decide), if_neg (by decide), if_pos rfl]
          unfold sLr0
          rw [if_pos (show dR (dC mem) < 6 from h6)]
          simp only [x83]
          rfl
        have o55 : m83 55 4 = mem 55 4 := by rw [ho 55 (by decide)]
        refine r_if_eq (tgt := 100) dX2_takeLine_86 (by decide) (fun h86 => absurd h86 (by decide)) (fun h86 => ?_)
        refine r_aload_n dX2_takeLine_89 rfl ?_
        refine r_vX0 (c_takeRope (t := t) (L := L) (p := a83.2.2.1) hL2 (by rw [ho 54 (by decide)]; exact ht) (by rw [hj 1 (by decide)]; exact hl) q9 o13 o14 (by omega) (by omega)) kX2_123 rfl dX2_takeLine_90 (fun e90 m90 x90 k90 f90 g90 => ?_) (fun a90 m90 x90 k90 q90 => ?_)
        ·
          refine r_if_eq (tgt := 100) dX2_takeLine_93 (by decide) (fun h93 => ?_) (fun h93 => absurd h93 (by decide))
          refine r_iconst dX2_takeLine_100 (k := ?_)
          refine r_goto (tgt := 109) dX2_takeLine_101 (by decide) ?_
          refine r_zret dX2_takeLine_109 (by decide) ?_
          exact zPX.e (hs.trans x90) (k83.tr k90) f90 g90
        ·
          refine r_if_eq (tgt := 100) dX2_takeLine_93 (by decide) (fun h93 => absurd h93 (by decide)) (fun h93 => ?_)
          refine r_iconst dX2_takeLine_96 (k := ?_)
          refine r_goto (tgt := 109) dX2_takeLine_97 (by decide) ?_
          refine r_zret dX2_takeLine_109 (by decide) ?_
          exact zPX.k (hs.trans x90) (k83.tr k90) (qLn.up q83 q90)
    · have hs : sLn0 t L (dC mem) 5 (mem 53 11) p = .error (5, mem 53 11) := by unfold sLn0; rw [if_neg (by decide), if_neg (by decide), if_pos rfl]; unfold sLr0; rw [if_neg (show ¬ dR (dC mem) < 6 from h6)]
      refine CT.of' (own := RX2) (ls0 := [zR 53, zI (lcd 5)]) rfl (by decide +kernel) (Nat.le_of_ble_eq_true rfl) rfl ?_
      refine r_iload_n dX2_takeLine_0 rfl ?_
      refine r_lsw (tgt := 70) dX2_takeLine_1 (by decide) (by rfl) (by decide) ?_
      refine r_aload_n dX2_takeLine_70 rfl ?_
      refine r_getR (q := 55) fX2_22 rfl rfl dX2_takeLine_71 ?_
      refine r_gI (q := 4) rfl fX2_120 rfl (by decide) dX2_takeLine_74 ?_
      refine r_bipush dX2_takeLine_77 (k := ?_)
      refine r_icmp_ge (tgt := 104) dX2_takeLine_79 (by decide) (fun h79 => ?_) (fun h79 => ?_)
      · refine r_aload_n dX2_takeLine_104 rfl ?_
        refine r_iconst dX2_takeLine_105 (k := ?_)
        refine r_v1 (c_fail _) kX2_74 rfl dX2_takeLine_106 ?_
        refine r_zret dX2_takeLine_109 (by decide) ?_
        exact zPX.e (sRs_e hs) (by repeat first | assumption | exact kT.rf | refine kT.s ?_ (by decide) | refine kT.z ?_ (by decide)) (by simp (disch := omega) only [zs_n, zs_v, zs_k]) (by simp (disch := omega) only [zs_n, zs_v, zs_k])
      · exfalso; omega
  ·
    refine CT.of' (own := RX2) (ls0 := [zR 53, zI (lcd 6)]) rfl (by decide +kernel) (Nat.le_of_ble_eq_true rfl) rfl ?_
    refine r_iload_n dX2_takeLine_0 rfl ?_
    refine r_lsw (tgt := 110) dX2_takeLine_1 (by decide) (by rfl) (by decide) ?_
    refine r_aload_n dX2_takeLine_110 rfl ?_
    refine r_gI (q := 7) rfl fX2_39 rfl (by decide) dX2_takeLine_111 ?_
    refine r_if_eq (tgt := 125) dX2_takeLine_114 (by decide) (fun h114 => ?_) (fun h114 => ?_)
    · have h114 : (dC mem).2.2.1 = 0 := h114
      have hs : sLn t L (dC mem) 6 (mem 53 11) p = sRs t L (sEf t L p (dC mem)) := by
        unfold sLn sLn0
        rw [if_neg (by decide), if_neg (by decide), if_neg (by decide), if_pos rfl]
        unfold sLf0
        rw [if_pos h114]
        rfl
      refine r_aload_n dX2_takeLine_125 rfl ?_
      refine r_vX0 (c_takeFeast hL ht hl hp) kX2_126 rfl dX2_takeLine_126 (fun e126 m126 x126 k126 f126 g126 => ?_) (fun a126 m126 x126 k126 q126 => ?_)
      · refine r_zret dX2_takeLine_129 (by decide) ?_
        exact zPX.e (hs.trans x126) k126 f126 g126
      · refine r_zret dX2_takeLine_129 (by decide) ?_
        exact zPX.k (hs.trans x126) k126 q126
    · have h114 : ¬ (dC mem).2.2.1 = 0 := h114
      have hs : sLn0 t L (dC mem) 6 (mem 53 11) p = .error (4, mem 53 11) := by unfold sLn0; rw [if_neg (by decide), if_neg (by decide), if_neg (by decide), if_pos rfl]; unfold sLf0; rw [if_neg h114]
      refine r_aload_n dX2_takeLine_117 rfl ?_
      refine r_iconst dX2_takeLine_118 (k := ?_)
      refine r_v1 (c_fail _) kX2_74 rfl dX2_takeLine_119 ?_
      refine r_goto (tgt := 129) dX2_takeLine_122 (by decide) ?_
      refine r_zret dX2_takeLine_129 (by decide) ?_
      exact zPX.e (sRs_e hs) (by repeat first | assumption | exact kT.rf | refine kT.s ?_ (by decide) | refine kT.z ?_ (by decide)) (by simp (disch := omega) only [zs_n, zs_v, zs_k]) (by simp (disch := omega) only [zs_n, zs_v, zs_k])
  · have hlc : lcd c = c := by unfold lcd; rw [if_neg (by omega), if_neg (by omega), if_neg (by omega)]
    rw [hlc]
    by_cases h5 : mem 55 0 < 5
    · have hs : sLn t L (dC mem) c (mem 53 11) p = sRs t L (sEi t L p (dC mem) c) := by
        unfold sLn sLn0
        rw [if_neg (by omega), if_neg (by omega), if_neg (by omega), if_neg (by omega)]
        unfold sLi0
        rw [if_pos (show (dC mem).1.1 < 5 from h5)]
        rfl
      refine CT.of' (own := RX2) (ls0 := [zR 53, zI c]) rfl (by decide +kernel) (Nat.le_of_ble_eq_true rfl) rfl ?_
      refine r_iload_n dX2_takeLine_0 rfl ?_
      have hsw : Op.lookupswitch.offset [((-4 : Int), (43 : Int)), (10, 49), (11, 69), (12, 109)] 129 c = 129 := by
        rcases (show c = 0 ∨ c = 1 ∨ c = 2 ∨ c = 3 by omega) with rfl | rfl | rfl | rfl <;> rfl
      refine r_lsw (tgt := 130) dX2_takeLine_1 (by decide) hsw (by decide) ?_
      refine r_aload_n dX2_takeLine_130 rfl ?_
      refine r_getR (q := 55) fX2_22 rfl rfl dX2_takeLine_131 ?_
      refine r_gI (q := 0) rfl fX2_71 rfl (by decide) dX2_takeLine_134 ?_
      refine r_iconst dX2_takeLine_137 (k := ?_)
      refine r_icmp_ge (tgt := 149) dX2_takeLine_138 (by decide) (fun h138 => absurd h138 (by omega)) (fun h138 => ?_)
      refine r_aload_n dX2_takeLine_141 rfl ?_
      refine r_iload_n dX2_takeLine_142 rfl ?_
      refine r_vX1 (c_takeIsle c hL ht hl hp n0 h5) kX2_129 rfl dX2_takeLine_143 (fun e143 m143 x143 k143 f143 g143 => ?_) (fun a143 m143 x143 k143 q143 => ?_)
      · refine r_goto (tgt := 154) dX2_takeLine_146 (by decide) ?_
        refine r_zret dX2_takeLine_154 (by decide) ?_
        exact zPX.e (hs.trans x143) k143 f143 g143
      · refine r_goto (tgt := 154) dX2_takeLine_146 (by decide) ?_
        refine r_zret dX2_takeLine_154 (by decide) ?_
        exact zPX.k (hs.trans x143) k143 q143
    · have hs : sLn0 t L (dC mem) c (mem 53 11) p = .error (5, mem 53 11) := by unfold sLn0; rw [if_neg (by omega), if_neg (by omega), if_neg (by omega), if_neg (by omega)]; unfold sLi0; rw [if_neg (show ¬ (dC mem).1.1 < 5 from h5)]
      refine CT.of' (own := RX2) (ls0 := [zR 53, zI c]) rfl (by decide +kernel) (Nat.le_of_ble_eq_true rfl) rfl ?_
      refine r_iload_n dX2_takeLine_0 rfl ?_
      have hsw : Op.lookupswitch.offset [((-4 : Int), (43 : Int)), (10, 49), (11, 69), (12, 109)] 129 c = 129 := by
        rcases (show c = 0 ∨ c = 1 ∨ c = 2 ∨ c = 3 by omega) with rfl | rfl | rfl | rfl <;> rfl
      refine r_lsw (tgt := 130) dX2_takeLine_1 (by decide) hsw (by decide) ?_
      refine r_aload_n dX2_takeLine_130 rfl ?_
      refine r_getR (q := 55) fX2_22 rfl rfl dX2_takeLine_131 ?_
      refine r_gI (q := 0) rfl fX2_71 rfl (by decide) dX2_takeLine_134 ?_
      refine r_iconst dX2_takeLine_137 (k := ?_)
      refine r_icmp_ge (tgt := 149) dX2_takeLine_138 (by decide) (fun h138 => ?_) (fun h138 => ?_)
      · refine r_aload_n dX2_takeLine_149 rfl ?_
        refine r_iconst dX2_takeLine_150 (k := ?_)
        refine r_v1 (c_fail _) kX2_74 rfl dX2_takeLine_151 ?_
        refine r_zret dX2_takeLine_154 (by decide) ?_
        exact zPX.e (sRs_e hs) (by repeat first | assumption | exact kT.rf | refine kT.s ?_ (by decide) | refine kT.z ?_ (by decide)) (by simp (disch := omega) only [zs_n, zs_v, zs_k]) (by simp (disch := omega) only [zs_n, zs_v, zs_k])
      · exfalso; omega
end
