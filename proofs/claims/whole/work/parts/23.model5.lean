/-! ===== the reference: the calls that do little ===== -/
section
variable {l : Launch} {G : zG} {R : Room} {own : String} {cc : ByteArray} {nL : Nat} {ret : Option FieldType} {Z : List Frame → Array Value → State → State → Prop} {kc ks : Nat} {Ex : State → Prop} {pc : Nat} {ls st : List zV} {mem : zM}
theorem r_ifd_eq {P : Prop} [Decidable P] {off : Int} {tgt : Nat} (hd : decode cc pc = .ok (.ifCond .eq off, 3)) (ht : (pc : Int) + off = (tgt : Int)) (kt : ¬ P → SW l G R own cc nL ret Z kc ks Ex tgt ls st mem) (kf : P → SW l G R own cc nL ret Z kc ks Ex (pc + 3) ls st mem) : SW l G R own cc nL ret Z kc ks Ex pc ls (zI (zb (decide P)) :: st) mem :=
  r_ifb_eq hd ht (fun h => kt (of_decide_eq_false h)) (fun h => kf (of_decide_eq_true h))
theorem r_ifd_ne {P : Prop} [Decidable P] {off : Int} {tgt : Nat} (hd : decode cc pc = .ok (.ifCond .ne off, 3)) (ht : (pc : Int) + off = (tgt : Int)) (kt : P → SW l G R own cc nL ret Z kc ks Ex tgt ls st mem) (kf : ¬ P → SW l G R own cc nL ret Z kc ks Ex (pc + 3) ls st mem) : SW l G R own cc nL ret Z kc ks Ex pc ls (zI (zb (decide P)) :: st) mem :=
  r_ifb_ne hd ht (fun h => kt (of_decide_eq_true h)) (fun h => kf (of_decide_eq_false h))
end
theorem sDays_out {n r hol : Int} {t g e1 e2 ln c : Int → Int} {k : Nat} {s : (Int → Int) × Int × Int} (hn0 : 0 ≤ n) (hn : n ≤ 5) (h : mOut c s.1) : mOut c (sDays n t g r e1 e2 ln hol k s).1 :=
  zfor_ind (f := fun _ s => sDay n t g r e1 e2 ln hol s) (P := fun _ s => mOut c s.1) k 0 s h (fun j a h1 h2 h3 => sDay_out hn0 hn h3)
section
variable {l : Launch} {G : zG} {mem : zM}
set_option maxRecDepth 100000 in
theorem c_becomes (k v : Int) (h0 : 0 ≤ k) (h1 : k < 76) : KX6_becomes l G 0 [zR 65, zI k, zI v] mem (zP1 (zI (mem 66 k)) (zs mem 66 k v)) := by
  refine CT.of' (own := RX6) (ls0 := [zR 65, zI k, zI v, zU]) rfl (by decide +kernel) (Nat.le_of_ble_eq_true rfl) rfl ?_
  refine r_aload_n dX6_becomes_0 rfl ?_
  refine r_getR (q := 66) fX6_7 rfl rfl dX6_becomes_1 ?_
  refine r_iload_n dX6_becomes_4 rfl ?_
  refine r_iald rfl (by omega) (by omega) dX6_becomes_5 ?_
  refine r_istore_n dX6_becomes_6 rfl ?_
  refine r_aload_n dX6_becomes_7 rfl ?_
  refine r_getR (q := 66) fX6_7 rfl rfl dX6_becomes_8 ?_
  refine r_iload_n dX6_becomes_11 rfl ?_
  refine r_iload_n dX6_becomes_12 rfl ?_
  refine r_iast rfl (by omega) (by omega) dX6_becomes_13 ?_
  refine r_iload_n dX6_becomes_14 rfl ?_
  refine r_iret dX6_becomes_15 ?_
  exact zP1.i
set_option maxRecDepth 100000 in
theorem c_X6_fault : KX6_fault l G 0 [zR 65] mem (zP1 (zI (mem 65 15)) mem) := by
  refine CT.of' (own := RX6) (ls0 := [zR 65]) rfl (by decide +kernel) (Nat.le_of_ble_eq_true rfl) rfl ?_
  refine r_aload_n dX6_fault_0 rfl ?_
  refine r_gI (q := 15) rfl fX6_76 rfl (by decide) dX6_fault_1 ?_
  refine r_iret dX6_fault_4 ?_
  exact zP1.i
set_option maxRecDepth 100000 in
theorem c_X6_torn : KX6_torn l G 0 [zR 65] mem (zP1 (zI (mem 65 27)) mem) := by
  refine CT.of' (own := RX6) (ls0 := [zR 65]) rfl (by decide +kernel) (Nat.le_of_ble_eq_true rfl) rfl ?_
  refine r_aload_n dX6_torn_0 rfl ?_
  refine r_gI (q := 27) rfl fX6_319 rfl (by decide) dX6_torn_1 ?_
  refine r_iret dX6_torn_4 ?_
  exact zP1.i
set_option maxRecDepth 100000 in
theorem c_X6_feed (c : Int) (hlo : 0 ≤ mem 65 10) (hhi : mem 65 10 ≤ 160) : KX6_feed l G 1 [zR 65, zI c] mem (zP1 (zI (if c < 0 ∨ 127 < c then -1 else if mem 65 10 = 160 then -3 else mem 65 10 + 1)) (if c < 0 ∨ 127 < c then mem else if mem 65 10 = 160 then mem else zs (zs mem 70 (mem 65 10) c) 65 10 (mem 65 10 + 1))) := by
  refine CT.of' (own := RX6) (ls0 := [zR 65, zI c]) rfl (by decide +kernel) (Nat.le_of_ble_eq_true rfl) rfl ?_
  refine r_iload_n dX6_feed_0 rfl ?_
  refine r_i2l dX6_feed_1 ?_
  refine r_lconst dX6_feed_2 rfl (k := ?_)
  refine r_ldc2 nX6_67 dX6_feed_3 (x := 127) (k := ?_)
  refine r_s3 (c_in _ _ _) kX6_69 dX6_feed_6 ?_
  try simp (disch := decide) only [zs_n, zs_s, zu_s]
  refine r_ifd_ne (tgt := 14) dX6_feed_9 (by decide) (fun h9 => ?_) (fun h9 => ?_)
  · refine r_aload_n dX6_feed_14 rfl ?_
    refine r_gI (q := 10) rfl fX6_73 rfl (by decide) dX6_feed_15 ?_
    try simp (disch := decide) only [zs_n, zs_s, zu_s]
    refine r_sipush dX6_feed_18 (k := ?_)
    refine r_icmp_ne (tgt := 27) dX6_feed_21 (by decide) (fun h21 => ?_) (fun h21 => ?_)
    · refine r_aload_n dX6_feed_27 rfl ?_
      refine r_getR (q := 70) fX6_23 rfl rfl dX6_feed_28 ?_
      try simp (disch := decide) only [zs_n, zs_s, zu_s]
      refine r_aload_n dX6_feed_31 rfl ?_
      refine r_gI (q := 10) rfl fX6_73 rfl (by decide) dX6_feed_32 ?_
      try simp (disch := decide) only [zs_n, zs_s, zu_s]
      refine r_iload_n dX6_feed_35 rfl ?_
      refine r_iast rfl (by omega) (by omega) dX6_feed_36 ?_
      refine r_aload_n dX6_feed_37 rfl ?_
      refine r_dup dX6_feed_38 rfl ?_
      refine r_gI (q := 10) rfl fX6_73 rfl (by decide) dX6_feed_39 ?_
      try simp (disch := decide) only [zs_n, zs_s, zu_s]
      refine r_iconst dX6_feed_42 (k := ?_)
      refine r_iadd dX6_feed_43 ?_
      try rw [zw_id (by omega) (by omega)]
      refine r_pI (q := 10) rfl pX6_73 rfl dX6_feed_44 ?_
      refine r_aload_n dX6_feed_47 rfl ?_
      refine r_gI (q := 10) rfl fX6_73 rfl (by decide) dX6_feed_48 ?_
      try simp (disch := decide) only [zs_n, zs_s, zu_s]
      refine r_iret dX6_feed_51 ?_
      first | (simp only [if_pos (show c < 0 ∨ 127 < c by omega)]; exact zP1.i) | (simp only [if_neg (show ¬ (c < 0 ∨ 127 < c) by omega), if_pos (show mem 65 10 = 160 by omega)]; exact zP1.i) | (simp only [if_neg (show ¬ (c < 0 ∨ 127 < c) by omega), if_neg (show ¬ mem 65 10 = 160 by omega)]; exact zP1.i)
    · refine r_bipush dX6_feed_24 (k := ?_)
      refine r_iret dX6_feed_26 ?_
      first | (simp only [if_pos (show c < 0 ∨ 127 < c by omega)]; exact zP1.i) | (simp only [if_neg (show ¬ (c < 0 ∨ 127 < c) by omega), if_pos (show mem 65 10 = 160 by omega)]; exact zP1.i) | (simp only [if_neg (show ¬ (c < 0 ∨ 127 < c) by omega), if_neg (show ¬ mem 65 10 = 160 by omega)]; exact zP1.i)
  · refine r_iconst dX6_feed_12 (k := ?_)
    refine r_iret dX6_feed_13 ?_
    first | (simp only [if_pos (show c < 0 ∨ 127 < c by omega)]; exact zP1.i) | (simp only [if_neg (show ¬ (c < 0 ∨ 127 < c) by omega), if_pos (show mem 65 10 = 160 by omega)]; exact zP1.i) | (simp only [if_neg (show ¬ (c < 0 ∨ 127 < c) by omega), if_neg (show ¬ mem 65 10 = 160 by omega)]; exact zP1.i)
set_option maxRecDepth 100000 in
theorem c_X6_end (n : Int) : KX6_end l G 1 [zR 65, zI n] mem (zP1 (zI (if n < 0 ∨ mem 65 10 < n then -1 else mem 65 10)) (if n < 0 ∨ mem 65 10 < n then mem else zs mem 65 10 n)) := by
  refine CT.of' (own := RX6) (ls0 := [zR 65, zI n, zU]) rfl (by decide +kernel) (Nat.le_of_ble_eq_true rfl) rfl ?_
  refine r_iload_n dX6_end_0 rfl ?_
  refine r_i2l dX6_end_1 ?_
  refine r_lconst dX6_end_2 rfl (k := ?_)
  refine r_aload_n dX6_end_3 rfl ?_
  refine r_gI (q := 10) rfl fX6_73 rfl (by decide) dX6_end_4 ?_
  refine r_i2l dX6_end_7 ?_
  refine r_s3 (c_in _ _ _) kX6_69 dX6_end_8 ?_
  refine r_ifd_ne (tgt := 16) dX6_end_11 (by decide) (fun h11 => ?_) (fun h11 => ?_)
  · refine r_aload_n dX6_end_16 rfl ?_
    refine r_gI (q := 10) rfl fX6_73 rfl (by decide) dX6_end_17 ?_
    refine r_istore_n dX6_end_20 rfl ?_
    refine r_aload_n dX6_end_21 rfl ?_
    refine r_iload_n dX6_end_22 rfl ?_
    refine r_pI (q := 10) rfl pX6_73 rfl dX6_end_23 ?_
    refine r_iload_n dX6_end_26 rfl ?_
    refine r_iret dX6_end_27 ?_
    first | (rw [if_pos (by omega), if_pos (by omega)]; exact zP1.i) | (rw [if_neg (by omega), if_neg (by omega)]; exact zP1.i)
  · refine r_iconst dX6_end_14 (k := ?_)
    refine r_iret dX6_end_15 ?_
    first | (rw [if_pos (by omega), if_pos (by omega)]; exact zP1.i) | (rw [if_neg (by omega), if_neg (by omega)]; exact zP1.i)
set_option maxRecDepth 100000 in
theorem c_X6_loose (n : Int) : KX6_loose l G 1 [zR 65, zI n] mem (zP1 (zI (if n < 0 ∨ mem 66 53 < n then -1 else mem 66 53)) (if n < 0 ∨ mem 66 53 < n then mem else zs mem 66 53 n)) := by
  refine CT.of' (own := RX6) (ls0 := [zR 65, zI n]) rfl (by decide +kernel) (Nat.le_of_ble_eq_true rfl) rfl ?_
  refine r_iload_n dX6_loose_0 rfl ?_
  refine r_i2l dX6_loose_1 ?_
  refine r_lconst dX6_loose_2 rfl (k := ?_)
  refine r_aload_n dX6_loose_3 rfl ?_
  refine r_getR (q := 66) fX6_7 rfl rfl dX6_loose_4 ?_
  refine r_bipush dX6_loose_7 (k := ?_)
  refine r_iald rfl (by omega) (by omega) dX6_loose_9 ?_
  refine r_i2l dX6_loose_10 ?_
  refine r_s3 (c_in _ _ _) kX6_69 dX6_loose_11 ?_
  refine r_ifd_eq (tgt := 27) dX6_loose_14 (by decide) (fun h14 => ?_) (fun h14 => ?_)
  · refine r_iconst dX6_loose_27 (k := ?_)
    refine r_iret dX6_loose_28 ?_
    first | (rw [if_pos (by omega), if_pos (by omega)]; exact zP1.i) | (rw [if_neg (by omega), if_neg (by omega)]; exact zP1.i)
  · refine r_aload_n dX6_loose_17 rfl ?_
    refine r_bipush dX6_loose_18 (k := ?_)
    refine r_iload_n dX6_loose_20 rfl ?_
    refine r_v2 (c_becomes _ _ (by decide) (by decide)) kX6_217 rfl dX6_loose_21 ?_
    refine r_goto (tgt := 28) dX6_loose_24 (by decide) ?_
    refine r_iret dX6_loose_28 ?_
    first | (rw [if_pos (by omega), if_pos (by omega)]; exact zP1.i) | (rw [if_neg (by omega), if_neg (by omega)]; exact zP1.i)
set_option maxRecDepth 100000 in
theorem c_X6_forget (n : Int) : KX6_forget l G 1 [zR 65, zI n] mem (zP1 (zI (if n < 0 ∨ mem 66 57 < n then -1 else mem 66 57)) (if n < 0 ∨ mem 66 57 < n then mem else zs mem 66 57 n)) := by
  refine CT.of' (own := RX6) (ls0 := [zR 65, zI n]) rfl (by decide +kernel) (Nat.le_of_ble_eq_true rfl) rfl ?_
  refine r_iload_n dX6_forget_0 rfl ?_
  refine r_i2l dX6_forget_1 ?_
  refine r_lconst dX6_forget_2 rfl (k := ?_)
  refine r_aload_n dX6_forget_3 rfl ?_
  refine r_getR (q := 66) fX6_7 rfl rfl dX6_forget_4 ?_
  refine r_bipush dX6_forget_7 (k := ?_)
  refine r_iald rfl (by omega) (by omega) dX6_forget_9 ?_
  refine r_i2l dX6_forget_10 ?_
  refine r_s3 (c_in _ _ _) kX6_69 dX6_forget_11 ?_
  refine r_ifd_eq (tgt := 27) dX6_forget_14 (by decide) (fun h14 => ?_) (fun h14 => ?_)
  · refine r_iconst dX6_forget_27 (k := ?_)
    refine r_iret dX6_forget_28 ?_
    first | (rw [if_pos (by omega), if_pos (by omega)]; exact zP1.i) | (rw [if_neg (by omega), if_neg (by omega)]; exact zP1.i)
  · refine r_aload_n dX6_forget_17 rfl ?_
    refine r_bipush dX6_forget_18 (k := ?_)
    refine r_iload_n dX6_forget_20 rfl ?_
    refine r_v2 (c_becomes _ _ (by decide) (by decide)) kX6_217 rfl dX6_forget_21 ?_
    refine r_goto (tgt := 28) dX6_forget_24 (by decide) ?_
    refine r_iret dX6_forget_28 ?_
    first | (rw [if_pos (by omega), if_pos (by omega)]; exact zP1.i) | (rw [if_neg (by omega), if_neg (by omega)]; exact zP1.i)
set_option maxRecDepth 100000 in
theorem c_X6_feast (v : Int) : KX6_feast l G 1 [zR 65, zI v] mem (zP1 (zI (if v < 0 ∨ 6 < v then -1 else mem 66 55)) (if v < 0 ∨ 6 < v then mem else zs mem 66 55 v)) := by
  refine CT.of' (own := RX6) (ls0 := [zR 65, zI v]) rfl (by decide +kernel) (Nat.le_of_ble_eq_true rfl) rfl ?_
  refine r_iload_n dX6_feast_0 rfl ?_
  refine r_i2l dX6_feast_1 ?_
  refine r_lconst dX6_feast_2 rfl (k := ?_)
  refine r_ldc2 nX6_229 dX6_feast_3 (x := 6) (k := ?_)
  refine r_s3 (c_in _ _ _) kX6_69 dX6_feast_6 ?_
  refine r_ifd_eq (tgt := 22) dX6_feast_9 (by decide) (fun h9 => ?_) (fun h9 => ?_)
  · refine r_iconst dX6_feast_22 (k := ?_)
    refine r_iret dX6_feast_23 ?_
    first | (rw [if_pos (by omega), if_pos (by omega)]; exact zP1.i) | (rw [if_neg (by omega), if_neg (by omega)]; exact zP1.i)
  · refine r_aload_n dX6_feast_12 rfl ?_
    refine r_bipush dX6_feast_13 (k := ?_)
    refine r_iload_n dX6_feast_15 rfl ?_
    refine r_v2 (c_becomes _ _ (by decide) (by decide)) kX6_217 rfl dX6_feast_16 ?_
    refine r_goto (tgt := 23) dX6_feast_19 (by decide) ?_
    refine r_iret dX6_feast_23 ?_
    first | (rw [if_pos (by omega), if_pos (by omega)]; exact zP1.i) | (rw [if_neg (by omega), if_neg (by omega)]; exact zP1.i)
set_option maxRecDepth 100000 in
theorem c_X6_cross (h0 : 0 ≤ mem 65 3) (hn5 : mem 65 3 ≤ 5) (i j : Int) : KX6_cross l G 3 [zR 65, zI i, zI j] mem (zP1 (zI (if 0 ≤ i ∧ i < mem 65 3 ∧ 0 ≤ j ∧ j < mem 65 3 ∧ i ≠ j then mem 66 (10 + (5 * i + j)) else -1)) mem) := by
  refine CT.of' (own := RX6) (ls0 := [zR 65, zI i, zI j]) rfl (by decide +kernel) (Nat.le_of_ble_eq_true rfl) rfl ?_
  refine r_aload_n dX6_cross_0 rfl ?_
  refine r_iload_n dX6_cross_1 rfl ?_
  refine r_iload_n dX6_cross_2 rfl ?_
  refine r_v2 (c_areTwo _ _ h0 hn5) kX6_207 rfl dX6_cross_3 ?_
  refine r_ifd_eq (tgt := 25) dX6_cross_6 (by decide) (fun h6 => ?_) (fun h6 => ?_)
  · refine r_iconst dX6_cross_25 (k := ?_)
    refine r_iret dX6_cross_26 ?_
    first | (rw [if_pos h6]; exact zP1.ofI (congrArg (mem 66) (by omega))) | (rw [if_neg h6]; exact zP1.i)
  · refine r_aload_n dX6_cross_9 rfl ?_
    refine r_getR (q := 66) fX6_7 rfl rfl dX6_cross_10 ?_
    refine r_bipush dX6_cross_13 (k := ?_)
    refine r_iconst dX6_cross_15 (k := ?_)
    refine r_iload_n dX6_cross_16 rfl ?_
    refine r_imul dX6_cross_17 ?_
    try rw [zw_id (by omega) (by omega)]
    refine r_iadd dX6_cross_18 ?_
    try rw [zw_id (by omega) (by omega)]
    refine r_iload_n dX6_cross_19 rfl ?_
    refine r_iadd dX6_cross_20 ?_
    try rw [zw_id (by omega) (by omega)]
    refine r_iald rfl (by omega) (by omega) dX6_cross_21 ?_
    refine r_goto (tgt := 26) dX6_cross_22 (by decide) ?_
    refine r_iret dX6_cross_26 ?_
    first | (rw [if_pos h6]; exact zP1.ofI (congrArg (mem 66) (by omega))) | (rw [if_neg h6]; exact zP1.i)
set_option maxRecDepth 100000 in
theorem c_X6_sulk (h0 : 0 ≤ mem 65 3) (hn5 : mem 65 3 ≤ 5) (i j v : Int) : KX6_sulk l G 3 [zR 65, zI i, zI j, zI v] mem (zP1 (zI (if 0 ≤ i ∧ i < mem 65 3 ∧ 0 ≤ j ∧ j < mem 65 3 ∧ i ≠ j ∧ 0 ≤ v ∧ v ≤ 3 then mem 66 (10 + (5 * i + j)) else -1)) (if 0 ≤ i ∧ i < mem 65 3 ∧ 0 ≤ j ∧ j < mem 65 3 ∧ i ≠ j ∧ 0 ≤ v ∧ v ≤ 3 then zs mem 66 (10 + (5 * i + j)) v else mem)) := by
  refine CT.of' (own := RX6) (ls0 := [zR 65, zI i, zI j, zI v]) rfl (by decide +kernel) (Nat.le_of_ble_eq_true rfl) rfl ?_
  refine r_aload_n dX6_sulk_0 rfl ?_
  refine r_iload_n dX6_sulk_1 rfl ?_
  refine r_iload_n dX6_sulk_2 rfl ?_
  refine r_v2 (c_areTwo _ _ h0 hn5) kX6_207 rfl dX6_sulk_3 ?_
  refine r_ifd_eq (tgt := 37) dX6_sulk_6 (by decide) (fun h6 => ?_) (fun h6 => ?_)
  · refine r_iconst dX6_sulk_37 (k := ?_)
    refine r_iret dX6_sulk_38 ?_
    first | (rw [if_pos (by omega), if_pos (by omega), show 10 + (5 * i + j) = 10 + 5 * i + j by omega]; exact zP1.i) | (rw [if_neg (by omega), if_neg (by omega)]; exact zP1.i)
  · refine r_iload_n dX6_sulk_9 rfl ?_
    refine r_i2l dX6_sulk_10 ?_
    refine r_lconst dX6_sulk_11 rfl (k := ?_)
    refine r_ldc2 nX6_215 dX6_sulk_12 (x := 3) (k := ?_)
    refine r_s3 (c_in _ _ _) kX6_69 dX6_sulk_15 ?_
    refine r_ifd_eq (tgt := 37) dX6_sulk_18 (by decide) (fun h18 => ?_) (fun h18 => ?_)
    · refine r_iconst dX6_sulk_37 (k := ?_)
      refine r_iret dX6_sulk_38 ?_
      first | (rw [if_pos (by omega), if_pos (by omega), show 10 + (5 * i + j) = 10 + 5 * i + j by omega]; exact zP1.i) | (rw [if_neg (by omega), if_neg (by omega)]; exact zP1.i)
    · refine r_aload_n dX6_sulk_21 rfl ?_
      refine r_bipush dX6_sulk_22 (k := ?_)
      refine r_iconst dX6_sulk_24 (k := ?_)
      refine r_iload_n dX6_sulk_25 rfl ?_
      refine r_imul dX6_sulk_26 ?_
      try rw [zw_id (by omega) (by omega)]
      refine r_iadd dX6_sulk_27 ?_
      try rw [zw_id (by omega) (by omega)]
      refine r_iload_n dX6_sulk_28 rfl ?_
      refine r_iadd dX6_sulk_29 ?_
      try rw [zw_id (by omega) (by omega)]
      refine r_iload_n dX6_sulk_30 rfl ?_
      refine r_v2 (c_becomes _ _ (by omega) (by omega)) kX6_217 rfl dX6_sulk_31 ?_
      refine r_goto (tgt := 38) dX6_sulk_34 (by decide) ?_
      refine r_iret dX6_sulk_38 ?_
      first | (rw [if_pos (by omega), if_pos (by omega), show 10 + (5 * i + j) = 10 + 5 * i + j by omega]; exact zP1.i) | (rw [if_neg (by omega), if_neg (by omega)]; exact zP1.i)
set_option maxRecDepth 100000 in
theorem c_X6_haul (h0 : 0 ≤ mem 66 53) (h6 : mem 66 53 ≤ 6) (k v : Int) : KX6_haul l G 2 [zR 65, zI k, zI v] mem (zP1 (zI (if 0 ≤ k ∧ k < mem 66 53 ∧ 1 ≤ v ∧ v ≤ 30 then mem 66 (37 + 3 * k) else -1)) (if 0 ≤ k ∧ k < mem 66 53 ∧ 1 ≤ v ∧ v ≤ 30 then zs mem 66 (37 + 3 * k) v else mem)) := by
  refine CT.of' (own := RX6) (ls0 := [zR 65, zI k, zI v]) rfl (by decide +kernel) (Nat.le_of_ble_eq_true rfl) rfl ?_
  refine r_aload_n dX6_haul_0 rfl ?_
  refine r_iload_n dX6_haul_1 rfl ?_
  refine r_v1 (c_isRope _ h0 h6) kX6_210 rfl dX6_haul_2 ?_
  refine r_ifd_eq (tgt := 36) dX6_haul_5 (by decide) (fun h5 => ?_) (fun h5 => ?_)
  · refine r_iconst dX6_haul_36 (k := ?_)
    refine r_iret dX6_haul_37 ?_
    first | (rw [if_pos (by omega), if_pos (by omega), show 37 + 3 * k = 35 + 3 * k + 2 by omega]; exact zP1.i) | (rw [if_neg (by omega), if_neg (by omega)]; exact zP1.i)
  · refine r_iload_n dX6_haul_8 rfl ?_
    refine r_i2l dX6_haul_9 ?_
    refine r_lconst dX6_haul_10 rfl (k := ?_)
    refine r_ldc2 nX6_220 dX6_haul_11 (x := 30) (k := ?_)
    refine r_s3 (c_in _ _ _) kX6_69 dX6_haul_14 ?_
    refine r_ifd_eq (tgt := 36) dX6_haul_17 (by decide) (fun h17 => ?_) (fun h17 => ?_)
    · refine r_iconst dX6_haul_36 (k := ?_)
      refine r_iret dX6_haul_37 ?_
      first | (rw [if_pos (by omega), if_pos (by omega), show 37 + 3 * k = 35 + 3 * k + 2 by omega]; exact zP1.i) | (rw [if_neg (by omega), if_neg (by omega)]; exact zP1.i)
    · refine r_aload_n dX6_haul_20 rfl ?_
      refine r_bipush dX6_haul_21 (k := ?_)
      refine r_iconst dX6_haul_23 (k := ?_)
      refine r_iload_n dX6_haul_24 rfl ?_
      refine r_imul dX6_haul_25 ?_
      try rw [zw_id (by omega) (by omega)]
      refine r_iadd dX6_haul_26 ?_
      try rw [zw_id (by omega) (by omega)]
      refine r_iconst dX6_haul_27 (k := ?_)
      refine r_iadd dX6_haul_28 ?_
      try rw [zw_id (by omega) (by omega)]
      refine r_iload_n dX6_haul_29 rfl ?_
      refine r_v2 (c_becomes _ _ (by omega) (by omega)) kX6_217 rfl dX6_haul_30 ?_
      refine r_goto (tgt := 37) dX6_haul_33 (by decide) ?_
      refine r_iret dX6_haul_37 ?_
      first | (rw [if_pos (by omega), if_pos (by omega), show 37 + 3 * k = 35 + 3 * k + 2 by omega]; exact zP1.i) | (rw [if_neg (by omega), if_neg (by omega)]; exact zP1.i)
set_option maxRecDepth 100000 in
theorem c_X6_rope (h0 : 0 ≤ mem 66 53) (h6 : mem 66 53 ≤ 6) (k w : Int) : KX6_rope l G 2 [zR 65, zI k, zI w] mem (zP1 (zI (if 0 ≤ k ∧ k < mem 66 53 ∧ 0 ≤ w ∧ w ≤ 2 then mem 66 (35 + 3 * k + w) else -1)) mem) := by
  refine CT.of' (own := RX6) (ls0 := [zR 65, zI k, zI w]) rfl (by decide +kernel) (Nat.le_of_ble_eq_true rfl) rfl ?_
  refine r_aload_n dX6_rope_0 rfl ?_
  refine r_iload_n dX6_rope_1 rfl ?_
  refine r_v1 (c_isRope _ h0 h6) kX6_210 rfl dX6_rope_2 ?_
  refine r_ifd_eq (tgt := 36) dX6_rope_5 (by decide) (fun h5 => ?_) (fun h5 => ?_)
  · refine r_iconst dX6_rope_36 (k := ?_)
    refine r_iret dX6_rope_37 ?_
    first | (rw [if_pos (by omega)]; exact zP1.i) | (rw [if_neg (by omega)]; exact zP1.i)
  · refine r_iload_n dX6_rope_8 rfl ?_
    refine r_i2l dX6_rope_9 ?_
    refine r_lconst dX6_rope_10 rfl (k := ?_)
    refine r_ldc2 nX6_213 dX6_rope_11 (x := 2) (k := ?_)
    refine r_s3 (c_in _ _ _) kX6_69 dX6_rope_14 ?_
    refine r_ifd_eq (tgt := 36) dX6_rope_17 (by decide) (fun h17 => ?_) (fun h17 => ?_)
    · refine r_iconst dX6_rope_36 (k := ?_)
      refine r_iret dX6_rope_37 ?_
      first | (rw [if_pos (by omega)]; exact zP1.i) | (rw [if_neg (by omega)]; exact zP1.i)
    · refine r_aload_n dX6_rope_20 rfl ?_
      refine r_getR (q := 66) fX6_7 rfl rfl dX6_rope_21 ?_
      refine r_bipush dX6_rope_24 (k := ?_)
      refine r_iconst dX6_rope_26 (k := ?_)
      refine r_iload_n dX6_rope_27 rfl ?_
      refine r_imul dX6_rope_28 ?_
      try rw [zw_id (by omega) (by omega)]
      refine r_iadd dX6_rope_29 ?_
      try rw [zw_id (by omega) (by omega)]
      refine r_iload_n dX6_rope_30 rfl ?_
      refine r_iadd dX6_rope_31 ?_
      try rw [zw_id (by omega) (by omega)]
      refine r_iald rfl (by omega) (by omega) dX6_rope_32 ?_
      refine r_goto (tgt := 37) dX6_rope_33 (by decide) ?_
      refine r_iret dX6_rope_37 ?_
      first | (rw [if_pos (by omega)]; exact zP1.i) | (rw [if_neg (by omega)]; exact zP1.i)
set_option maxRecDepth 100000 in
theorem c_bumpsSince : KX6_bumpsSince l G 0 [zR 65] mem (zP1 (zI (zw (mem 67 56 - mem 66 56))) mem) := by
  refine CT.of' (own := RX6) (ls0 := [zR 65]) rfl (by decide +kernel) (Nat.le_of_ble_eq_true rfl) rfl ?_
  refine r_aload_n dX6_bumpsSince_0 rfl ?_
  refine r_getR (q := 67) fX6_13 rfl rfl dX6_bumpsSince_1 ?_
  refine r_bipush dX6_bumpsSince_4 (k := ?_)
  refine r_iald rfl (by omega) (by omega) dX6_bumpsSince_6 ?_
  refine r_aload_n dX6_bumpsSince_7 rfl ?_
  refine r_getR (q := 66) fX6_7 rfl rfl dX6_bumpsSince_8 ?_
  refine r_bipush dX6_bumpsSince_11 (k := ?_)
  refine r_iald rfl (by omega) (by omega) dX6_bumpsSince_13 ?_
  refine r_isub dX6_bumpsSince_14 ?_
  refine r_iret dX6_bumpsSince_15 ?_
  exact zP1.i
set_option maxRecDepth 100000 in
theorem c_startsJudging (v : Int) : KX6_startsJudging l G 0 [zR 65, zI v] mem (zP0 (zs (zs mem 65 17 (-4)) 65 18 v)) := by
  refine CT.of' (own := RX6) (ls0 := [zR 65, zI v]) rfl (by decide +kernel) (Nat.le_of_ble_eq_true rfl) rfl ?_
  refine r_aload_n dX6_startsJudging_0 rfl ?_
  refine r_bipush dX6_startsJudging_1 (k := ?_)
  refine r_pI (q := 17) rfl pX6_245 rfl dX6_startsJudging_3 ?_
  refine r_aload_n dX6_startsJudging_6 rfl ?_
  refine r_iload_n dX6_startsJudging_7 rfl ?_
  refine r_pI (q := 18) rfl pX6_248 rfl dX6_startsJudging_8 ?_
  refine r_vret dX6_startsJudging_11 ?_
  exact zP0.i
set_option maxRecDepth 100000 in
theorem c_judges (c v : Int) : KX6_judges l G 1 [zR 65, zI c, zI v] mem (zP0 (zs (zs mem 65 17 (if v < mem 65 18 then c else mem 65 17)) 65 18 (min v (mem 65 18)))) := by
  refine CT.of' (own := RX6) (ls0 := [zR 65, zI c, zI v]) rfl (by decide +kernel) (Nat.le_of_ble_eq_true rfl) rfl ?_
  refine r_aload_n dX6_judges_0 rfl ?_
  refine r_iload_n dX6_judges_1 rfl ?_
  refine r_aload_n dX6_judges_2 rfl ?_
  refine r_gI (q := 18) rfl fX6_248 rfl (by decide) dX6_judges_3 ?_
  try simp (disch := decide) only [zs_k]
  refine r_icmp_ge (tgt := 13) dX6_judges_6 (by decide) (fun h6 => ?_) (fun h6 => ?_)
  · refine r_aload_n dX6_judges_13 rfl ?_
    refine r_gI (q := 17) rfl fX6_245 rfl (by decide) dX6_judges_14 ?_
    try simp (disch := decide) only [zs_k]
    refine r_pI (q := 17) rfl pX6_245 rfl dX6_judges_17 ?_
    refine r_aload_n dX6_judges_20 rfl ?_
    refine r_iload_n dX6_judges_21 rfl ?_
    refine r_aload_n dX6_judges_22 rfl ?_
    refine r_gI (q := 18) rfl fX6_248 rfl (by decide) dX6_judges_23 ?_
    try simp (disch := decide) only [zs_k]
    refine r_s2 (c_lesser _ _) kX6_242 dX6_judges_26 ?_
    try simp (disch := decide) only [zs_k]
    refine r_pI (q := 18) rfl pX6_248 rfl dX6_judges_29 ?_
    refine r_vret dX6_judges_32 ?_
    first | (rw [if_pos (by omega)]; exact zP0.i) | (rw [if_neg (by omega)]; exact zP0.i)
  · refine r_iload_n dX6_judges_9 rfl ?_
    refine r_goto (tgt := 17) dX6_judges_10 (by decide) ?_
    refine r_pI (q := 17) rfl pX6_245 rfl dX6_judges_17 ?_
    refine r_aload_n dX6_judges_20 rfl ?_
    refine r_iload_n dX6_judges_21 rfl ?_
    refine r_aload_n dX6_judges_22 rfl ?_
    refine r_gI (q := 18) rfl fX6_248 rfl (by decide) dX6_judges_23 ?_
    try simp (disch := decide) only [zs_k]
    refine r_s2 (c_lesser _ _) kX6_242 dX6_judges_26 ?_
    try simp (disch := decide) only [zs_k]
    refine r_pI (q := 18) rfl pX6_248 rfl dX6_judges_29 ?_
    refine r_vret dX6_judges_32 ?_
    first | (rw [if_pos (by omega)]; exact zP0.i) | (rw [if_neg (by omega)]; exact zP0.i)
set_option maxRecDepth 100000 in
theorem c_judged (w : Int) : KX6_judged l G 0 [zR 65, zI w] mem (zP1 (zI (sAdv (mem 65 17) (mem 65 18) w)) mem) := by
  refine CT.of' (own := RX6) (ls0 := [zR 65, zI w]) rfl (by decide +kernel) (Nat.le_of_ble_eq_true rfl) rfl ?_
  refine r_aload_n dX6_judged_0 rfl ?_
  refine r_gI (q := 17) rfl fX6_245 rfl (by decide) dX6_judged_1 ?_
  refine r_bipush dX6_judged_4 (k := ?_)
  refine r_icmp_ne (tgt := 14) dX6_judged_6 (by decide) (fun h6 => ?_) (fun h6 => ?_)
  · refine r_iload_n dX6_judged_14 rfl ?_
    refine r_if_ne (tgt := 25) dX6_judged_15 (by decide) (fun h15 => ?_) (fun h15 => ?_)
    · refine r_aload_n dX6_judged_25 rfl ?_
      refine r_gI (q := 18) rfl fX6_248 rfl (by decide) dX6_judged_26 ?_
      refine r_iret dX6_judged_29 ?_
      exact zP1.ofI (by unfold sAdv; repeat (first | rfl | omega | split))
    · refine r_aload_n dX6_judged_18 rfl ?_
      refine r_gI (q := 17) rfl fX6_245 rfl (by decide) dX6_judged_19 ?_
      refine r_goto (tgt := 29) dX6_judged_22 (by decide) ?_
      refine r_iret dX6_judged_29 ?_
      exact zP1.ofI (by unfold sAdv; repeat (first | rfl | omega | split))
  · refine r_bipush dX6_judged_9 (k := ?_)
    refine r_goto (tgt := 29) dX6_judged_11 (by decide) ?_
    refine r_iret dX6_judged_29 ?_
    exact zP1.ofI (by unfold sAdv; repeat (first | rfl | omega | split))
set_option maxRecDepth 100000 in
theorem c_X6_spreadBehind (hI : mI (mem 65 3) (mem 67)) (n : Int) (h0 : 0 ≤ n) (h9 : n ≤ 1000) : KX6_spreadBehind l G 6 [zR 65, zI n] mem (zP1 (zI (sSpread (mem 65 3) (sDays (mem 65 3) (mT (mem 67)) (mG (mem 67)) (mem 67 53) (m1 (mem 67)) (m2 (mem 67)) (m3 (mem 67)) (mem 67 55) n.toNat (mP (mem 67), mem 67 56, mem 67 54)).1)) (zr mem 67 (mR (mem 67) (sDays (mem 65 3) (mT (mem 67)) (mG (mem 67)) (mem 67 53) (m1 (mem 67)) (m2 (mem 67)) (m3 (mem 67)) (mem 67 55) n.toNat (mP (mem 67), mem 67 56, mem 67 54))))) := by
  obtain ⟨hn0, hn5, hr0, hr6, hp, hg, hr⟩ := id hI
  have hpb := sDays_bd (t := mT (mem 67)) (g := mG (mem 67)) (r := mem 67 53) (e1 := m1 (mem 67)) (e2 := m2 (mem 67)) (ln := m3 (mem 67)) (hol := mem 67 55) (k := n.toNat) (s := (mP (mem 67), mem 67 56, mem 67 54)) hn0 hp
  have hmo := sDays_out (t := mT (mem 67)) (g := mG (mem 67)) (r := mem 67 53) (e1 := m1 (mem 67)) (e2 := m2 (mem 67)) (ln := m3 (mem 67)) (hol := mem 67 55) (k := n.toNat) (s := (mP (mem 67), mem 67 56, mem 67 54)) (c := mem 67) hn0 hn5 mOut.s
  refine CT.of' (own := RX6) (ls0 := [zR 65, zI n]) rfl (by decide +kernel) (Nat.le_of_ble_eq_true rfl) rfl ?_
  refine r_aload_n dX6_spreadBehind_0 rfl ?_
  refine r_iload_n dX6_spreadBehind_1 rfl ?_
  refine r_w1 (c_daysGo hI n h0 h9) kX6_231 rfl dX6_spreadBehind_2 ?_
  try simp (disch := decide) only [zr_s, zr_n, mR_P hmo]
  refine r_aload_n dX6_spreadBehind_5 rfl ?_
  refine r_v0 (c_X6_spread (by rw [zr_n (by decide), zr_s]; exact hI.r hmo hpb)) kX6_197 rfl dX6_spreadBehind_6 ?_
  try simp (disch := decide) only [zr_s, zr_n, mR_P hmo]
  refine r_iret dX6_spreadBehind_9 ?_
  exact zP1.i
end
