/-! ===== sightings, images, sheets ===== -/
def isS (b : Nat) : Prop := b = 15 ∨ b = 28 ∨ b = 40
theorem zlS {b : Nat} (h : isS b) : zL b = (4, zNf 4) := by rcases h with rfl | rfl | rfl <;> rfl
theorem zrS1 {b : Nat} (h : isS b) : zRf b 1 = b + 1 := by rcases h with rfl | rfl | rfl <;> rfl
theorem zrS2 {b : Nat} (h : isS b) : zRf b 2 = b + 2 := by rcases h with rfl | rfl | rfl <;> rfl
theorem zrS3 {b : Nat} (h : isS b) : zRf b 3 = b + 3 := by rcases h with rfl | rfl | rfl <;> rfl
theorem zaS1 {b : Nat} (h : isS b) : zL (b + 1) = (10, 6) := by rcases h with rfl | rfl | rfl <;> rfl
theorem zaS2 {b : Nat} (h : isS b) : zL (b + 2) = (10, 6) := by rcases h with rfl | rfl | rfl <;> rfl
theorem zaS3 {b : Nat} (h : isS b) : zL (b + 3) = (10, 6) := by rcases h with rfl | rfl | rfl <;> rfl
def isH (b : Nat) : Prop := b = 45 ∨ b = 47 ∨ b = 49 ∨ b = 51
theorem zlH {b : Nat} (h : isH b) : zL b = (3, zNf 3) := by rcases h with rfl | rfl | rfl | rfl <;> rfl
theorem zrH2 {b : Nat} (h : isH b) : zRf b 2 = b + 1 := by rcases h with rfl | rfl | rfl | rfl <;> rfl
theorem zaH {b : Nat} (h : isH b) : zL (b + 1) = (10, 40) := by rcases h with rfl | rfl | rfl | rfl <;> rfl
theorem hS15 : isS 15 := Or.inl rfl
theorem hS28 : isS 28 := Or.inr (Or.inl rfl)
theorem hS40 : isS 40 := Or.inr (Or.inr rfl)
def zBeS (mem : zM) (b c : Nat) : zM := zr (zr (zr (zs mem b 0 (mem c 0)) (b + 1) (zcp (mem (c + 1)) (mem (b + 1)) 0 0 6)) (b + 2) (zcp (mem (c + 2)) (mem (b + 2)) 0 0 6)) (b + 3) (zcp (mem (c + 3)) (mem (b + 3)) 0 0 6)
section
variable {l : Launch} {G : zG} {mem : zM} {b : Nat}
set_option maxRecDepth 100000 in
theorem c_X4_become {c : Nat} (hb : isS b) (hc : isS c) (hbc : b ≠ c) : KX4_become l G 1 [zR b, zR c] mem (zP0 (zBeS mem b c)) := by
  have hb' := hb
  have hc' := hc
  unfold isS at hb' hc'
  refine CT.of' (own := RX4) (ls0 := [zR b, zR c]) rfl (by decide +kernel) (Nat.le_of_ble_eq_true rfl) rfl ?_
  refine r_aload_n dX4_become_0 rfl ?_
  refine r_aload_n dX4_become_1 rfl ?_
  refine r_gI (q := 0) rfl fX4_9 (by first | exact zlS hb | exact zlS hc) (by decide) dX4_become_2 ?_
  refine r_pI (q := 0) rfl pX4_9 (by first | exact zlS hb | exact zlS hc) dX4_become_5 ?_
  refine r_aload_n dX4_become_8 rfl ?_
  refine r_getR fX4_15 (by first | exact zlS hb | exact zlS hc) (zrS1 hc) dX4_become_9 ?_
  refine r_iconst dX4_become_12 (k := ?_)
  refine r_aload_n dX4_become_13 rfl ?_
  refine r_getR fX4_15 (by first | exact zlS hb | exact zlS hc) (zrS1 hb) dX4_become_14 ?_
  refine r_iconst dX4_become_17 (k := ?_)
  refine r_bipush dX4_become_18 (k := ?_)
  refine r_copy lX4_25 (by first | exact zaS1 hb | exact zaS2 hb | exact zaS3 hb | exact zaS1 hc | exact zaS2 hc | exact zaS3 hc) (by first | exact zaS1 hb | exact zaS2 hb | exact zaS3 hb | exact zaS1 hc | exact zaS2 hc | exact zaS3 hc) (by omega) (by omega) (by omega) (by omega) (by omega) dX4_become_20 ?_
  refine r_aload_n dX4_become_23 rfl ?_
  refine r_getR fX4_19 (by first | exact zlS hb | exact zlS hc) (zrS2 hc) dX4_become_24 ?_
  refine r_iconst dX4_become_27 (k := ?_)
  refine r_aload_n dX4_become_28 rfl ?_
  refine r_getR fX4_19 (by first | exact zlS hb | exact zlS hc) (zrS2 hb) dX4_become_29 ?_
  refine r_iconst dX4_become_32 (k := ?_)
  refine r_bipush dX4_become_33 (k := ?_)
  refine r_copy lX4_25 (by first | exact zaS1 hb | exact zaS2 hb | exact zaS3 hb | exact zaS1 hc | exact zaS2 hc | exact zaS3 hc) (by first | exact zaS1 hb | exact zaS2 hb | exact zaS3 hb | exact zaS1 hc | exact zaS2 hc | exact zaS3 hc) (by omega) (by omega) (by omega) (by omega) (by omega) dX4_become_35 ?_
  refine r_aload_n dX4_become_38 rfl ?_
  refine r_getR fX4_22 (by first | exact zlS hb | exact zlS hc) (zrS3 hc) dX4_become_39 ?_
  refine r_iconst dX4_become_42 (k := ?_)
  refine r_aload_n dX4_become_43 rfl ?_
  refine r_getR fX4_22 (by first | exact zlS hb | exact zlS hc) (zrS3 hb) dX4_become_44 ?_
  refine r_iconst dX4_become_47 (k := ?_)
  refine r_bipush dX4_become_48 (k := ?_)
  refine r_copy lX4_25 (by first | exact zaS1 hb | exact zaS2 hb | exact zaS3 hb | exact zaS1 hc | exact zaS2 hc | exact zaS3 hc) (by first | exact zaS1 hb | exact zaS2 hb | exact zaS3 hb | exact zaS1 hc | exact zaS2 hc | exact zaS3 hc) (by omega) (by omega) (by omega) (by omega) (by omega) dX4_become_50 ?_
  refine r_vret dX4_become_53 ?_
  refine zP0.of ?_
  unfold zBeS
  simp (disch := omega) only [zs_n, zr_n, zr_s]
set_option maxRecDepth 100000 in
theorem c_X4_add (hb : isS b) (n i v : Int) (hlo : 0 ≤ mem b 0) (hhi : mem b 0 < 6) : KX4_add l G 0 [zR b, zI n, zI i, zI v] mem (zP0 (zs (zs (zs (zs mem (b + 1) (mem b 0) n) (b + 2) (mem b 0) i) (b + 3) (mem b 0) v) b 0 (mem b 0 + 1))) := by
  refine CT.of' (own := RX4) (ls0 := [zR b, zI n, zI i, zI v]) rfl (by decide +kernel) (Nat.le_of_ble_eq_true rfl) rfl ?_
  refine r_aload_n dX4_add_0 rfl ?_
  refine r_gI (q := 0) rfl fX4_9 (by exact zlS hb) (by decide) dX4_add_1 ?_
  try simp (disch := omega) only [zs_n, zs_s]
  refine r_bipush dX4_add_4 (k := ?_)
  refine r_icmp_ge (tgt := 49) dX4_add_6 (by decide) (fun h6 => ?_) (fun h6 => ?_)
  · refine r_vret dX4_add_49 ?_
    first | exact absurd hhi (by omega) | exact zP0.of rfl
  · refine r_aload_n dX4_add_9 rfl ?_
    refine r_getR fX4_15 (by exact zlS hb) (zrS1 hb) dX4_add_10 ?_
    try simp (disch := omega) only [zs_n, zs_s]
    refine r_aload_n dX4_add_13 rfl ?_
    refine r_gI (q := 0) rfl fX4_9 (by exact zlS hb) (by decide) dX4_add_14 ?_
    try simp (disch := omega) only [zs_n, zs_s]
    refine r_iload_n dX4_add_17 rfl ?_
    refine r_iast (by first | exact zaS1 hb | exact zaS2 hb | exact zaS3 hb) (by omega) (by omega) dX4_add_18 ?_
    refine r_aload_n dX4_add_19 rfl ?_
    refine r_getR fX4_19 (by exact zlS hb) (zrS2 hb) dX4_add_20 ?_
    try simp (disch := omega) only [zs_n, zs_s]
    refine r_aload_n dX4_add_23 rfl ?_
    refine r_gI (q := 0) rfl fX4_9 (by exact zlS hb) (by decide) dX4_add_24 ?_
    try simp (disch := omega) only [zs_n, zs_s]
    refine r_iload_n dX4_add_27 rfl ?_
    refine r_iast (by first | exact zaS1 hb | exact zaS2 hb | exact zaS3 hb) (by omega) (by omega) dX4_add_28 ?_
    refine r_aload_n dX4_add_29 rfl ?_
    refine r_getR fX4_22 (by exact zlS hb) (zrS3 hb) dX4_add_30 ?_
    try simp (disch := omega) only [zs_n, zs_s]
    refine r_aload_n dX4_add_33 rfl ?_
    refine r_gI (q := 0) rfl fX4_9 (by exact zlS hb) (by decide) dX4_add_34 ?_
    try simp (disch := omega) only [zs_n, zs_s]
    refine r_iload_n dX4_add_37 rfl ?_
    refine r_iast (by first | exact zaS1 hb | exact zaS2 hb | exact zaS3 hb) (by omega) (by omega) dX4_add_38 ?_
    refine r_aload_n dX4_add_39 rfl ?_
    refine r_dup dX4_add_40 rfl ?_
    refine r_gI (q := 0) rfl fX4_9 (by exact zlS hb) (by decide) dX4_add_41 ?_
    try simp (disch := omega) only [zs_n, zs_s]
    refine r_iconst dX4_add_44 (k := ?_)
    refine r_iadd dX4_add_45 ?_
    try rw [zw_id (by omega) (by omega)]
    refine r_pI (q := 0) rfl pX4_9 (by exact zlS hb) dX4_add_46 ?_
    refine r_vret dX4_add_49 ?_
    first | exact absurd hhi (by omega) | exact zP0.of rfl
set_option maxRecDepth 100000 in
theorem c_X3_renew (hb : isH b) (ln n : Int) : KX3_renew l G 1 [zR b, zI ln, zI n] mem (zP0 (zr (zs (zs mem b 0 ln) b 1 n) (b + 1) (zfil (mem (b + 1)) 0 40))) := by
  refine CT.of' (own := RX3) (ls0 := [zR b, zI ln, zI n]) rfl (by decide +kernel) (Nat.le_of_ble_eq_true rfl) rfl ?_
  refine r_aload_n dX3_renew_0 rfl ?_
  refine r_iload_n dX3_renew_1 rfl ?_
  refine r_pI (q := 0) rfl pX3_9 (by exact zlH hb) dX3_renew_2 ?_
  refine r_aload_n dX3_renew_5 rfl ?_
  refine r_iload_n dX3_renew_6 rfl ?_
  refine r_pI (q := 1) rfl pX3_15 (by exact zlH hb) dX3_renew_7 ?_
  refine r_aload_n dX3_renew_10 rfl ?_
  refine r_getR fX3_18 (by exact zlH hb) (zrH2 hb) dX3_renew_11 ?_
  refine r_iconst dX3_renew_14 (k := ?_)
  refine r_t2 (c_fill _ 40 0 (zaH hb) (by decide)) kX3_22 dX3_renew_15 ?_
  refine r_vret dX3_renew_18 ?_
  refine zP0.of ?_
  simp (disch := omega) only [zs_n]
  rfl
/-- what is wrong at a cell of a row: lane, size -/
def sFault (lane size asl i : Int) : Int := if lane = -4 then 1 else if lane = asl then (if i < 0 ∨ size ≤ i then 2 else 0) else 3
set_option maxRecDepth 100000 in
theorem c_X3_faultAt (hb : isH b) (asl i : Int) : KX3_faultAt l G 0 [zR b, zI asl, zI i] mem (zP1 (zI (sFault (mem b 0) (mem b 1) asl i)) mem) := by
  refine CT.of' (own := RX3) (ls0 := [zR b, zI asl, zI i]) rfl (by decide +kernel) (Nat.le_of_ble_eq_true rfl) rfl ?_
  refine r_aload_n dX3_faultAt_0 rfl ?_
  refine r_gI (q := 0) rfl fX3_9 (by exact zlH hb) (by decide) dX3_faultAt_1 ?_
  refine r_bipush dX3_faultAt_4 (k := ?_)
  refine r_icmp_ne (tgt := 11) dX3_faultAt_6 (by decide) (fun h6 => ?_) (fun h6 => ?_)
  · refine r_aload_n dX3_faultAt_11 rfl ?_
    refine r_gI (q := 0) rfl fX3_9 (by exact zlH hb) (by decide) dX3_faultAt_12 ?_
    refine r_iload_n dX3_faultAt_15 rfl ?_
    refine r_icmp_eq (tgt := 21) dX3_faultAt_16 (by decide) (fun h16 => ?_) (fun h16 => ?_)
    · refine r_iload_n dX3_faultAt_21 rfl ?_
      refine r_if_lt (tgt := 33) dX3_faultAt_22 (by decide) (fun h22 => ?_) (fun h22 => ?_)
      · refine r_iconst dX3_faultAt_33 (k := ?_)
        refine r_goto (tgt := 38) dX3_faultAt_34 (by decide) ?_
        refine r_iret dX3_faultAt_38 ?_
        exact zP1.ofI (by unfold sFault; repeat (first | rfl | omega | split))
      · refine r_iload_n dX3_faultAt_25 rfl ?_
        refine r_aload_n dX3_faultAt_26 rfl ?_
        refine r_gI (q := 1) rfl fX3_15 (by exact zlH hb) (by decide) dX3_faultAt_27 ?_
        refine r_icmp_lt (tgt := 37) dX3_faultAt_30 (by decide) (fun h30 => ?_) (fun h30 => ?_)
        · refine r_iconst dX3_faultAt_37 (k := ?_)
          refine r_iret dX3_faultAt_38 ?_
          exact zP1.ofI (by unfold sFault; repeat (first | rfl | omega | split))
        · refine r_iconst dX3_faultAt_33 (k := ?_)
          refine r_goto (tgt := 38) dX3_faultAt_34 (by decide) ?_
          refine r_iret dX3_faultAt_38 ?_
          exact zP1.ofI (by unfold sFault; repeat (first | rfl | omega | split))
    · refine r_iconst dX3_faultAt_19 (k := ?_)
      refine r_iret dX3_faultAt_20 ?_
      exact zP1.ofI (by unfold sFault; repeat (first | rfl | omega | split))
  · refine r_iconst dX3_faultAt_9 (k := ?_)
    refine r_iret dX3_faultAt_10 ?_
    exact zP1.ofI (by unfold sFault; repeat (first | rfl | omega | split))
def sFault3 (lane size asl f : Int) : Int := if sFault lane size asl (zw (f + 0)) ≠ 0 then sFault lane size asl (zw (f + 0)) else if sFault lane size asl (zw (f + 1)) ≠ 0 then sFault lane size asl (zw (f + 1)) else sFault lane size asl (zw (f + 2))
set_option maxRecDepth 100000 in
theorem c_X3_faultInThree (hb : isH b) (asl f : Int) : KX3_faultInThree l G 1 [zR b, zI asl, zI f] mem (zP1 (zI (sFault3 (mem b 0) (mem b 1) asl f)) mem) := by
  refine CT.of' (own := RX3) (ls0 := [zR b, zI asl, zI f, zU, zU]) rfl (by decide +kernel) (Nat.le_of_ble_eq_true rfl) rfl ?_
  have fin : ∀ a x : Int, (x = 3 ∨ a ≠ 0) → a = sFault3 (mem b 0) (mem b 1) asl f → SW l G (zrm 1) RX3 cX3_faultInThree 5 (some .int) (zZ G (zP1 (zI (sFault3 (mem b 0) (mem b 1) asl f)) mem)) 0 0 (fun _ => True) 5 [zR b, zI asl, zI f, zI a, zI x] [] mem := by
    intro a x hx ha
    refine r_iload dX3_faultInThree_5 rfl ?_
    refine r_iconst dX3_faultInThree_7 (k := ?_)
    refine r_icmp_ge (tgt := 31) dX3_faultInThree_8 (by decide) (fun h8 => ?_) (fun h8 => ?_)
    · refine r_iload_n dX3_faultInThree_31 rfl ?_
      refine r_iret dX3_faultInThree_32 ?_
      exact zP1.ofI ha
    · refine r_iload_n dX3_faultInThree_11 rfl ?_
      refine r_if_ne (tgt := 31) dX3_faultInThree_12 (by decide) (fun h12 => ?_) (fun h12 => ?_)
      · refine r_iload_n dX3_faultInThree_31 rfl ?_
        refine r_iret dX3_faultInThree_32 ?_
        exact zP1.ofI ha
      · exact absurd hx (by omega)
  have s2 : sFault (mem b 0) (mem b 1) asl (zw (f + 0)) = 0 → sFault (mem b 0) (mem b 1) asl (zw (f + 1)) = 0 → SW l G (zrm 1) RX3 cX3_faultInThree 5 (some .int) (zZ G (zP1 (zI (sFault3 (mem b 0) (mem b 1) asl f)) mem)) 0 0 (fun _ => True) 5 [zR b, zI asl, zI f, zI 0, zI 2] [] mem := by
    intro a0 a1
    refine r_iload dX3_faultInThree_5 rfl ?_
    refine r_iconst dX3_faultInThree_7 (k := ?_)
    refine r_icmp_ge (tgt := 31) dX3_faultInThree_8 (by decide) (fun h8 => ?_) (fun h8 => ?_)
    · exact absurd (by assumption) (by decide)
    · refine r_iload_n dX3_faultInThree_11 rfl ?_
      refine r_if_ne (tgt := 31) dX3_faultInThree_12 (by decide) (fun h12 => ?_) (fun h12 => ?_)
      · exact absurd (by assumption) (by decide)
      · refine r_aload_n dX3_faultInThree_15 rfl ?_
        refine r_iload_n dX3_faultInThree_16 rfl ?_
        refine r_iload_n dX3_faultInThree_17 rfl ?_
        refine r_iload dX3_faultInThree_18 rfl ?_
        refine r_iadd dX3_faultInThree_20 ?_
        refine r_v2 (c_X3_faultAt hb _ _) kX3_28 (zlH hb) dX3_faultInThree_21 ?_
        refine r_istore_n dX3_faultInThree_24 rfl ?_
        refine r_iinc dX3_faultInThree_25 rfl rfl ?_
        try rw [zw_id (by omega) (by omega)]
        refine r_goto (tgt := 5) dX3_faultInThree_28 (by decide) ?_
        exact fin _ _ (Or.inl rfl) (by unfold sFault3; rw [if_neg (by omega), if_neg (by omega)])
  have s1 : sFault (mem b 0) (mem b 1) asl (zw (f + 0)) = 0 → SW l G (zrm 1) RX3 cX3_faultInThree 5 (some .int) (zZ G (zP1 (zI (sFault3 (mem b 0) (mem b 1) asl f)) mem)) 0 0 (fun _ => True) 5 [zR b, zI asl, zI f, zI 0, zI 1] [] mem := by
    intro a0
    by_cases a1 : sFault (mem b 0) (mem b 1) asl (zw (f + 1)) = 0
    ·
      refine r_iload dX3_faultInThree_5 rfl ?_
      refine r_iconst dX3_faultInThree_7 (k := ?_)
      refine r_icmp_ge (tgt := 31) dX3_faultInThree_8 (by decide) (fun h8 => ?_) (fun h8 => ?_)
      · exact absurd (by assumption) (by decide)
      · refine r_iload_n dX3_faultInThree_11 rfl ?_
        refine r_if_ne (tgt := 31) dX3_faultInThree_12 (by decide) (fun h12 => ?_) (fun h12 => ?_)
        · exact absurd (by assumption) (by decide)
        · refine r_aload_n dX3_faultInThree_15 rfl ?_
          refine r_iload_n dX3_faultInThree_16 rfl ?_
          refine r_iload_n dX3_faultInThree_17 rfl ?_
          refine r_iload dX3_faultInThree_18 rfl ?_
          refine r_iadd dX3_faultInThree_20 ?_
          refine r_v2 (c_X3_faultAt hb _ _) kX3_28 (zlH hb) dX3_faultInThree_21 ?_
          refine r_istore_n dX3_faultInThree_24 rfl ?_
          refine r_iinc dX3_faultInThree_25 rfl rfl ?_
          try rw [zw_id (by omega) (by omega)]
          refine r_goto (tgt := 5) dX3_faultInThree_28 (by decide) ?_
          rw [a1]
          exact s2 a0 a1
    ·
      refine r_iload dX3_faultInThree_5 rfl ?_
      refine r_iconst dX3_faultInThree_7 (k := ?_)
      refine r_icmp_ge (tgt := 31) dX3_faultInThree_8 (by decide) (fun h8 => ?_) (fun h8 => ?_)
      · exact absurd (by assumption) (by decide)
      · refine r_iload_n dX3_faultInThree_11 rfl ?_
        refine r_if_ne (tgt := 31) dX3_faultInThree_12 (by decide) (fun h12 => ?_) (fun h12 => ?_)
        · exact absurd (by assumption) (by decide)
        · refine r_aload_n dX3_faultInThree_15 rfl ?_
          refine r_iload_n dX3_faultInThree_16 rfl ?_
          refine r_iload_n dX3_faultInThree_17 rfl ?_
          refine r_iload dX3_faultInThree_18 rfl ?_
          refine r_iadd dX3_faultInThree_20 ?_
          refine r_v2 (c_X3_faultAt hb _ _) kX3_28 (zlH hb) dX3_faultInThree_21 ?_
          refine r_istore_n dX3_faultInThree_24 rfl ?_
          refine r_iinc dX3_faultInThree_25 rfl rfl ?_
          try rw [zw_id (by omega) (by omega)]
          refine r_goto (tgt := 5) dX3_faultInThree_28 (by decide) ?_
          exact fin _ _ (Or.inr a1) (by unfold sFault3; rw [if_neg (by omega), if_pos a1])
  refine r_iconst dX3_faultInThree_0 (k := ?_)
  refine r_istore_n dX3_faultInThree_1 rfl ?_
  refine r_iconst dX3_faultInThree_2 (k := ?_)
  refine r_istore dX3_faultInThree_3 rfl ?_
  by_cases a0 : sFault (mem b 0) (mem b 1) asl (zw (f + 0)) = 0
  ·
    refine r_iload dX3_faultInThree_5 rfl ?_
    refine r_iconst dX3_faultInThree_7 (k := ?_)
    refine r_icmp_ge (tgt := 31) dX3_faultInThree_8 (by decide) (fun h8 => ?_) (fun h8 => ?_)
    · exact absurd (by assumption) (by decide)
    · refine r_iload_n dX3_faultInThree_11 rfl ?_
      refine r_if_ne (tgt := 31) dX3_faultInThree_12 (by decide) (fun h12 => ?_) (fun h12 => ?_)
      · exact absurd (by assumption) (by decide)
      · refine r_aload_n dX3_faultInThree_15 rfl ?_
        refine r_iload_n dX3_faultInThree_16 rfl ?_
        refine r_iload_n dX3_faultInThree_17 rfl ?_
        refine r_iload dX3_faultInThree_18 rfl ?_
        refine r_iadd dX3_faultInThree_20 ?_
        refine r_v2 (c_X3_faultAt hb _ _) kX3_28 (zlH hb) dX3_faultInThree_21 ?_
        refine r_istore_n dX3_faultInThree_24 rfl ?_
        refine r_iinc dX3_faultInThree_25 rfl rfl ?_
        try rw [zw_id (by omega) (by omega)]
        refine r_goto (tgt := 5) dX3_faultInThree_28 (by decide) ?_
        rw [a0]
        exact s1 a0
  ·
    refine r_iload dX3_faultInThree_5 rfl ?_
    refine r_iconst dX3_faultInThree_7 (k := ?_)
    refine r_icmp_ge (tgt := 31) dX3_faultInThree_8 (by decide) (fun h8 => ?_) (fun h8 => ?_)
    · exact absurd (by assumption) (by decide)
    · refine r_iload_n dX3_faultInThree_11 rfl ?_
      refine r_if_ne (tgt := 31) dX3_faultInThree_12 (by decide) (fun h12 => ?_) (fun h12 => ?_)
      · exact absurd (by assumption) (by decide)
      · refine r_aload_n dX3_faultInThree_15 rfl ?_
        refine r_iload_n dX3_faultInThree_16 rfl ?_
        refine r_iload_n dX3_faultInThree_17 rfl ?_
        refine r_iload dX3_faultInThree_18 rfl ?_
        refine r_iadd dX3_faultInThree_20 ?_
        refine r_v2 (c_X3_faultAt hb _ _) kX3_28 (zlH hb) dX3_faultInThree_21 ?_
        refine r_istore_n dX3_faultInThree_24 rfl ?_
        refine r_iinc dX3_faultInThree_25 rfl rfl ?_
        try rw [zw_id (by omega) (by omega)]
        refine r_goto (tgt := 5) dX3_faultInThree_28 (by decide) ?_
        exact fin _ _ (Or.inr a0) (by unfold sFault3; rw [if_pos a0])
def sLane (lane v : Int) : Int := if lane = 0 then zi2b v else if lane = 1 then zi2s v else v
set_option maxRecDepth 100000 in
theorem c_X3_put (hb : isH b) (i v : Int) (h0 : 0 ≤ i) (h1 : i < 40) : KX3_put l G 0 [zR b, zI i, zI v] mem (zP0 (zs mem (b + 1) i (sLane (mem b 0) v))) := by
  refine CT.of' (own := RX3) (ls0 := [zR b, zI i, zI v]) rfl (by decide +kernel) (Nat.le_of_ble_eq_true rfl) rfl ?_
  refine r_aload_n dX3_put_0 rfl ?_
  refine r_gI (q := 0) rfl fX3_9 (by exact zlH hb) (by decide) dX3_put_1 ?_
  refine r_if_ne (tgt := 18) dX3_put_4 (by decide) (fun h4 => ?_) (fun h4 => ?_)
  · refine r_aload_n dX3_put_18 rfl ?_
    refine r_gI (q := 0) rfl fX3_9 (by exact zlH hb) (by decide) dX3_put_19 ?_
    refine r_iconst dX3_put_22 (k := ?_)
    refine r_icmp_ne (tgt := 37) dX3_put_23 (by decide) (fun h23 => ?_) (fun h23 => ?_)
    · refine r_aload_n dX3_put_37 rfl ?_
      refine r_getR fX3_18 (by exact zlH hb) (zrH2 hb) dX3_put_38 ?_
      refine r_iload_n dX3_put_41 rfl ?_
      refine r_iload_n dX3_put_42 rfl ?_
      refine r_iast (by exact zaH hb) (by omega) (by omega) dX3_put_43 ?_
      refine r_vret dX3_put_44 ?_
      exact zP0.of (by unfold sLane; first | rw [if_pos (by omega)] | rw [if_neg (by omega), if_pos (by omega)] | rw [if_neg (by omega), if_neg (by omega)])
    · refine r_aload_n dX3_put_26 rfl ?_
      refine r_getR fX3_18 (by exact zlH hb) (zrH2 hb) dX3_put_27 ?_
      refine r_iload_n dX3_put_30 rfl ?_
      refine r_iload_n dX3_put_31 rfl ?_
      refine r_i2s dX3_put_32 ?_
      refine r_iast (by exact zaH hb) (by omega) (by omega) dX3_put_33 ?_
      refine r_goto (tgt := 44) dX3_put_34 (by decide) ?_
      refine r_vret dX3_put_44 ?_
      exact zP0.of (by unfold sLane; first | rw [if_pos (by omega)] | rw [if_neg (by omega), if_pos (by omega)] | rw [if_neg (by omega), if_neg (by omega)])
  · refine r_aload_n dX3_put_7 rfl ?_
    refine r_getR fX3_18 (by exact zlH hb) (zrH2 hb) dX3_put_8 ?_
    refine r_iload_n dX3_put_11 rfl ?_
    refine r_iload_n dX3_put_12 rfl ?_
    refine r_i2b dX3_put_13 ?_
    refine r_iast (by exact zaH hb) (by omega) (by omega) dX3_put_14 ?_
    refine r_goto (tgt := 44) dX3_put_15 (by decide) ?_
    refine r_vret dX3_put_44 ?_
    exact zP0.of (by unfold sLane; first | rw [if_pos (by omega)] | rw [if_neg (by omega), if_pos (by omega)] | rw [if_neg (by omega), if_neg (by omega)])
end
section
variable {l : Launch} {G : zG} {mem : zM}
set_option maxRecDepth 100000 in
theorem c_X5_see (hlo : 0 ≤ mem 15 0) (hhi : mem 15 0 ≤ 6) (n i v : Int) : KX5_see l G 1 [zR 0, zI n, zI i, zI v] mem (zP1 (zI (if (0 ≤ n ∧ n ≤ 20) ∧ (0 ≤ i ∧ i < mem 1 0) ∧ 0 ≤ v ∧ v ≤ 99 then (if mem 15 0 = 6 then -3 else mem 15 0 + 1) else -1)) (if ((0 ≤ n ∧ n ≤ 20) ∧ (0 ≤ i ∧ i < mem 1 0) ∧ 0 ≤ v ∧ v ≤ 99) ∧ mem 15 0 ≠ 6 then zs (zs (zs (zs mem 16 (mem 15 0) n) 17 (mem 15 0) i) 18 (mem 15 0) v) 15 0 (mem 15 0 + 1) else mem)) := by
  refine CT.of' (own := RX5) (ls0 := [zR 0, zI n, zI i, zI v]) rfl (by decide +kernel) (Nat.le_of_ble_eq_true rfl) rfl ?_
  refine r_iload_n dX5_see_0 rfl ?_
  refine r_iconst dX5_see_1 (k := ?_)
  refine r_bipush dX5_see_2 (k := ?_)
  refine r_s3 (c_isWithin _ _ _) kX5_156 dX5_see_4 ?_
  refine r_ifd_eq (tgt := 28) dX5_see_7 (by decide) (fun h7 => ?_) (fun h7 => ?_)
  · refine r_iconst dX5_see_28 (k := ?_)
    refine r_iret dX5_see_29 ?_
    first | (rw [if_pos (by omega), if_pos (by omega), if_neg (by omega)]; exact zP1.i) | (rw [if_pos (by omega), if_neg (by omega), if_pos (by omega)]; exact zP1.i) | (rw [if_neg (by omega), if_neg (by omega)]; exact zP1.i)
  · refine r_aload_n dX5_see_10 rfl ?_
    refine r_iload_n dX5_see_11 rfl ?_
    refine r_v1 (c_X5_isIsle _) kX5_111 rfl dX5_see_12 ?_
    refine r_ifd_eq (tgt := 28) dX5_see_15 (by decide) (fun h15 => ?_) (fun h15 => ?_)
    · refine r_iconst dX5_see_28 (k := ?_)
      refine r_iret dX5_see_29 ?_
      first | (rw [if_pos (by omega), if_pos (by omega), if_neg (by omega)]; exact zP1.i) | (rw [if_pos (by omega), if_neg (by omega), if_pos (by omega)]; exact zP1.i) | (rw [if_neg (by omega), if_neg (by omega)]; exact zP1.i)
    · refine r_iload_n dX5_see_18 rfl ?_
      refine r_iconst dX5_see_19 (k := ?_)
      refine r_bipush dX5_see_20 (k := ?_)
      refine r_s3 (c_isWithin _ _ _) kX5_156 dX5_see_22 ?_
      refine r_ifd_ne (tgt := 30) dX5_see_25 (by decide) (fun h25 => ?_) (fun h25 => ?_)
      · refine r_aload_n dX5_see_30 rfl ?_
        refine r_getR (q := 15) fX5_22 rfl rfl dX5_see_31 ?_
        refine r_gI (q := 0) rfl fX5_79 rfl (by decide) dX5_see_34 ?_
        refine r_bipush dX5_see_37 (k := ?_)
        refine r_icmp_lt (tgt := 45) dX5_see_39 (by decide) (fun h39 => ?_) (fun h39 => ?_)
        · refine r_aload_n dX5_see_45 rfl ?_
          refine r_getR (q := 15) fX5_22 rfl rfl dX5_see_46 ?_
          refine r_iload_n dX5_see_49 rfl ?_
          refine r_iload_n dX5_see_50 rfl ?_
          refine r_iload_n dX5_see_51 rfl ?_
          refine r_w3 (c_X4_add hS15 _ _ _ (by omega) (by omega)) kX5_217 rfl dX5_see_52 ?_
          refine r_aload_n dX5_see_55 rfl ?_
          refine r_getR (q := 15) fX5_22 rfl rfl dX5_see_56 ?_
          refine r_gI (q := 0) rfl fX5_79 rfl (by decide) dX5_see_59 ?_
          rw [zs_v]
          refine r_iret dX5_see_62 ?_
          first | (rw [if_pos (by omega), if_pos (by omega), if_neg (by omega)]; exact zP1.i) | (rw [if_pos (by omega), if_neg (by omega), if_pos (by omega)]; exact zP1.i) | (rw [if_neg (by omega), if_neg (by omega)]; exact zP1.i)
        · refine r_bipush dX5_see_42 (k := ?_)
          refine r_iret dX5_see_44 ?_
          first | (rw [if_pos (by omega), if_pos (by omega), if_neg (by omega)]; exact zP1.i) | (rw [if_pos (by omega), if_neg (by omega), if_pos (by omega)]; exact zP1.i) | (rw [if_neg (by omega), if_neg (by omega)]; exact zP1.i)
      · refine r_iconst dX5_see_28 (k := ?_)
        refine r_iret dX5_see_29 ?_
        first | (rw [if_pos (by omega), if_pos (by omega), if_neg (by omega)]; exact zP1.i) | (rw [if_pos (by omega), if_neg (by omega), if_pos (by omega)]; exact zP1.i) | (rw [if_neg (by omega), if_neg (by omega)]; exact zP1.i)
set_option maxRecDepth 100000 in
theorem c_X6_see (h0 : 0 ≤ mem 65 3) (hn5 : mem 65 3 ≤ 5) (hlo : 0 ≤ mem 66 57) (hhi : mem 66 57 ≤ 6) (n i v : Int) : KX6_see l G 2 [zR 65, zI n, zI i, zI v] mem (zP1 (zI (if (0 ≤ n ∧ n ≤ 20) ∧ (0 ≤ i ∧ i < mem 65 3) ∧ 0 ≤ v ∧ v ≤ 99 then (if mem 66 57 = 6 then -3 else mem 66 57 + 1) else -1)) (if ((0 ≤ n ∧ n ≤ 20) ∧ (0 ≤ i ∧ i < mem 65 3) ∧ 0 ≤ v ∧ v ≤ 99) ∧ mem 66 57 ≠ 6 then zr mem 66 (zu (zu (zu (zu (mem 66) (58 + 3 * mem 66 57) n) (58 + 3 * mem 66 57 + 1) i) (58 + 3 * mem 66 57 + 2) v) 57 (mem 66 57 + 1)) else mem)) := by
  refine CT.of' (own := RX6) (ls0 := [zR 65, zI n, zI i, zI v, zU]) rfl (by decide +kernel) (Nat.le_of_ble_eq_true rfl) rfl ?_
  have wr : zs (zs (zs (zs mem 66 (58 + 3 * mem 66 57) n) 66 (58 + 3 * mem 66 57 + 1) i) 66 (58 + 3 * mem 66 57 + 2) v) 66 57 (mem 66 57 + 1) = zr mem 66 (zu (zu (zu (zu (mem 66) (58 + 3 * mem 66 57) n) (58 + 3 * mem 66 57 + 1) i) (58 + 3 * mem 66 57 + 2) v) 57 (mem 66 57 + 1)) := by
    unfold zs
    simp only [zr_s, zr_zr]
  refine r_iload_n dX6_see_0 rfl ?_
  refine r_i2l dX6_see_1 ?_
  refine r_lconst dX6_see_2 rfl (k := ?_)
  refine r_ldc2 nX6_298 dX6_see_3 (x := 20) (k := ?_)
  refine r_s3 (c_in _ _ _) kX6_69 dX6_see_6 ?_
  try simp (disch := omega) only [zs_s, zu_n, zu_s]
  refine r_ifd_eq (tgt := 27) dX6_see_9 (by decide) (fun h9 => ?_) (fun h9 => ?_)
  · refine r_iconst dX6_see_27 (k := ?_)
    refine r_iret dX6_see_28 ?_
    first | (rw [if_pos (by omega), if_pos (by omega), if_neg (by omega)]; exact zP1.i) | (rw [if_pos (by omega), if_neg (by omega), if_pos (by omega), ← wr]; exact zP1.i) | (rw [if_neg (by omega), if_neg (by omega)]; exact zP1.i)
  · refine r_aload_n dX6_see_12 rfl ?_
    refine r_iload_n dX6_see_13 rfl ?_
    refine r_v1 (c_isIsle _ h0 hn5) kX6_151 rfl dX6_see_14 ?_
    try simp (disch := omega) only [zs_s, zu_n, zu_s]
    refine r_ifd_eq (tgt := 27) dX6_see_17 (by decide) (fun h17 => ?_) (fun h17 => ?_)
    · refine r_iconst dX6_see_27 (k := ?_)
      refine r_iret dX6_see_28 ?_
      first | (rw [if_pos (by omega), if_pos (by omega), if_neg (by omega)]; exact zP1.i) | (rw [if_pos (by omega), if_neg (by omega), if_pos (by omega), ← wr]; exact zP1.i) | (rw [if_neg (by omega), if_neg (by omega)]; exact zP1.i)
    · refine r_iload_n dX6_see_20 rfl ?_
      refine r_s1 (c_isFathom _) kX6_171 dX6_see_21 ?_
      try simp (disch := omega) only [zs_s, zu_n, zu_s]
      refine r_ifd_ne (tgt := 29) dX6_see_24 (by decide) (fun h24 => ?_) (fun h24 => ?_)
      · refine r_aload_n dX6_see_29 rfl ?_
        refine r_getR (q := 66) fX6_7 rfl rfl dX6_see_30 ?_
        try simp (disch := omega) only [zs_s, zu_n, zu_s]
        refine r_bipush dX6_see_33 (k := ?_)
        refine r_iald rfl (by omega) (by omega) dX6_see_35 ?_
        try simp (disch := omega) only [zs_s, zu_n, zu_s]
        refine r_bipush dX6_see_36 (k := ?_)
        refine r_icmp_ne (tgt := 44) dX6_see_38 (by decide) (fun h38 => ?_) (fun h38 => ?_)
        · refine r_bipush dX6_see_44 (k := ?_)
          refine r_iconst dX6_see_46 (k := ?_)
          refine r_aload_n dX6_see_47 rfl ?_
          refine r_getR (q := 66) fX6_7 rfl rfl dX6_see_48 ?_
          try simp (disch := omega) only [zs_s, zu_n, zu_s]
          refine r_bipush dX6_see_51 (k := ?_)
          refine r_iald rfl (by omega) (by omega) dX6_see_53 ?_
          try simp (disch := omega) only [zs_s, zu_n, zu_s]
          refine r_imul dX6_see_54 ?_
          try rw [zw_id (by omega) (by omega)]
          refine r_iadd dX6_see_55 ?_
          try rw [zw_id (by omega) (by omega)]
          refine r_istore dX6_see_56 rfl ?_
          refine r_aload_n dX6_see_58 rfl ?_
          refine r_getR (q := 66) fX6_7 rfl rfl dX6_see_59 ?_
          try simp (disch := omega) only [zs_s, zu_n, zu_s]
          refine r_iload dX6_see_62 rfl ?_
          refine r_iload_n dX6_see_64 rfl ?_
          refine r_iast rfl (by omega) (by omega) dX6_see_65 ?_
          refine r_aload_n dX6_see_66 rfl ?_
          refine r_getR (q := 66) fX6_7 rfl rfl dX6_see_67 ?_
          try simp (disch := omega) only [zs_s, zu_n, zu_s]
          refine r_iload dX6_see_70 rfl ?_
          refine r_iconst dX6_see_72 (k := ?_)
          refine r_iadd dX6_see_73 ?_
          try rw [zw_id (by omega) (by omega)]
          refine r_iload_n dX6_see_74 rfl ?_
          refine r_iast rfl (by omega) (by omega) dX6_see_75 ?_
          refine r_aload_n dX6_see_76 rfl ?_
          refine r_getR (q := 66) fX6_7 rfl rfl dX6_see_77 ?_
          try simp (disch := omega) only [zs_s, zu_n, zu_s]
          refine r_iload dX6_see_80 rfl ?_
          refine r_iconst dX6_see_82 (k := ?_)
          refine r_iadd dX6_see_83 ?_
          try rw [zw_id (by omega) (by omega)]
          refine r_iload_n dX6_see_84 rfl ?_
          refine r_iast rfl (by omega) (by omega) dX6_see_85 ?_
          refine r_aload_n dX6_see_86 rfl ?_
          refine r_getR (q := 66) fX6_7 rfl rfl dX6_see_87 ?_
          try simp (disch := omega) only [zs_s, zu_n, zu_s]
          refine r_bipush dX6_see_90 (k := ?_)
          refine r_dup2 dX6_see_92 rfl rfl ?_
          refine r_iald rfl (by omega) (by omega) dX6_see_93 ?_
          try simp (disch := omega) only [zs_s, zu_n, zu_s]
          refine r_iconst dX6_see_94 (k := ?_)
          refine r_iadd dX6_see_95 ?_
          try rw [zw_id (by omega) (by omega)]
          refine r_iast rfl (by omega) (by omega) dX6_see_96 ?_
          refine r_aload_n dX6_see_97 rfl ?_
          refine r_getR (q := 66) fX6_7 rfl rfl dX6_see_98 ?_
          try simp (disch := omega) only [zs_s, zu_n, zu_s]
          refine r_bipush dX6_see_101 (k := ?_)
          refine r_iald rfl (by omega) (by omega) dX6_see_103 ?_
          try simp (disch := omega) only [zs_s, zu_n, zu_s]
          refine r_iret dX6_see_104 ?_
          first | (rw [if_pos (by omega), if_pos (by omega), if_neg (by omega)]; exact zP1.i) | (rw [if_pos (by omega), if_neg (by omega), if_pos (by omega), ← wr]; exact zP1.i) | (rw [if_neg (by omega), if_neg (by omega)]; exact zP1.i)
        · refine r_bipush dX6_see_41 (k := ?_)
          refine r_iret dX6_see_43 ?_
          first | (rw [if_pos (by omega), if_pos (by omega), if_neg (by omega)]; exact zP1.i) | (rw [if_pos (by omega), if_neg (by omega), if_pos (by omega), ← wr]; exact zP1.i) | (rw [if_neg (by omega), if_neg (by omega)]; exact zP1.i)
      · refine r_iconst dX6_see_27 (k := ?_)
        refine r_iret dX6_see_28 ?_
        first | (rw [if_pos (by omega), if_pos (by omega), if_neg (by omega)]; exact zP1.i) | (rw [if_pos (by omega), if_neg (by omega), if_pos (by omega), ← wr]; exact zP1.i) | (rw [if_neg (by omega), if_neg (by omega)]; exact zP1.i)
end
