/-! ===== the reference: its small methods, and those that read ===== -/
theorem zcmp_lt {x y : Int} : zcmp x y < 0 ↔ x < y := by unfold zcmp; split <;> (try split) <;> omega
theorem zcmp_gt {x y : Int} : 0 < zcmp x y ↔ y < x := by unfold zcmp; split <;> (try split) <;> omega
theorem zcmp_eq {x y : Int} : zcmp x y = 0 ↔ x = y := by unfold zcmp; split <;> (try split) <;> omega
theorem zb_1 {P : Prop} [Decidable P] (h : P) : (1 : Int) = zb (decide P) := by rw [decide_eq_true h]; rfl
theorem zb_0 {P : Prop} [Decidable P] (h : ¬ P) : (0 : Int) = zb (decide P) := by rw [decide_eq_false h]; rfl
theorem zb_c {P Q : Prop} [Decidable P] [Decidable Q] (h : P ↔ Q) : zb (decide P) = zb (decide Q) := by rw [decide_eq_decide.mpr h]
def mT (c : Int → Int) : Int → Int := fun i => if 0 ≤ i ∧ i < 5 then c (2 * i) else 0
def mP (c : Int → Int) : Int → Int := fun i => c (2 * i + 1)
def mG (c : Int → Int) : Int → Int := fun k => if 0 ≤ k ∧ k < 25 then c (10 + k) else 0
def m1 (c : Int → Int) : Int → Int := fun k => if 0 ≤ k ∧ k < 6 then c (35 + 3 * k) else 0
def m2 (c : Int → Int) : Int → Int := fun k => if 0 ≤ k ∧ k < 6 then c (36 + 3 * k) else 0
def m3 (c : Int → Int) : Int → Int := fun k => if 0 ≤ k ∧ k < 6 then c (37 + 3 * k) else 0
theorem mT_at {c : Int → Int} {k j : Int} (h : 0 ≤ k ∧ k < 5) (e : j = 2 * k) : c j = mT c k := by unfold mT; rw [if_pos h, e]
theorem mG_at {c : Int → Int} {k j : Int} (h : 0 ≤ k ∧ k < 25) (e : j = 10 + k) : c j = mG c k := by unfold mG; rw [if_pos h, e]
theorem m1_at {c : Int → Int} {k j : Int} (h : 0 ≤ k ∧ k < 6) (e : j = 35 + 3 * k) : c j = m1 c k := by unfold m1; rw [if_pos h, e]
theorem m2_at {c : Int → Int} {k j : Int} (h : 0 ≤ k ∧ k < 6) (e : j = 36 + 3 * k) : c j = m2 c k := by unfold m2; rw [if_pos h, e]
theorem m3_at {c : Int → Int} {k j : Int} (h : 0 ≤ k ∧ k < 6) (e : j = 37 + 3 * k) : c j = m3 c k := by unfold m3; rw [if_pos h, e]
/-- what holds of a row of the reference -/
def mI (n : Int) (c : Int → Int) : Prop := 0 ≤ n ∧ n ≤ 5 ∧ 0 ≤ c 53 ∧ c 53 ≤ 6 ∧ sPB n (mP c) ∧ (∀ i j, 0 ≤ i → i < n → 0 ≤ j → j < n → 0 ≤ mG c (5 * i + j) ∧ mG c (5 * i + j) ≤ 3) ∧ (∀ k, 0 ≤ k → k < c 53 → 0 ≤ m1 c k ∧ m1 c k < n ∧ 0 ≤ m2 c k ∧ m2 c k < n ∧ 0 ≤ m3 c k ∧ m3 c k ≤ 30)
theorem zfor_succ {α : Type} {f : Int → α → α} : ∀ (k : Nat) (i : Int) (a : α), zfor f i (k + 1) a = f (i + k) (zfor f i k a)
  | 0, i, a => by simp [zfor]
  | k + 1, i, a => by
    rw [zfor, zfor_succ k (i + 1) (f i a)]
    conv => rhs; rw [zfor]
    rw [show i + 1 + (k : Int) = i + ((k + 1 : Nat) : Int) by omega]
section
variable {l : Launch} {G : zG} {mem : zM}
set_option maxRecDepth 100000 in
theorem c_in (v a c : Int) : KX6_in l G 0 [zJ v, zJ a, zJ c] mem (zP1 (zI (zb (decide (a ≤ v ∧ v ≤ c)))) mem) := by
  refine CT.of' (own := RX6) (ls0 := [zJ v, zU, zJ a, zU, zJ c, zU]) rfl (by decide +kernel) (Nat.le_of_ble_eq_true rfl) rfl ?_
  refine r_lload_n dX6_in_0 rfl ?_
  refine r_lload_n dX6_in_1 rfl ?_
  refine r_lcmp dX6_in_2 ?_
  refine r_if_lt (tgt := 17) dX6_in_3 (by decide) (fun h3 => ?_) (fun h3 => ?_)
  · refine r_iconst dX6_in_17 (k := ?_)
    refine r_zret dX6_in_18 (by decide) ?_
    first | exact zP1.ofI (zb_1 (by simp only [zcmp_lt, zcmp_gt] at h3 h10; omega)) | exact zP1.ofI (zb_0 (by simp only [zcmp_lt, zcmp_gt] at h3 h10; omega)) | exact zP1.ofI (zb_0 (by simp only [zcmp_lt, zcmp_gt] at h3; omega))
  · refine r_lload_n dX6_in_6 rfl ?_
    refine r_lload dX6_in_7 rfl ?_
    refine r_lcmp dX6_in_9 ?_
    refine r_if_gt (tgt := 17) dX6_in_10 (by decide) (fun h10 => ?_) (fun h10 => ?_)
    · refine r_iconst dX6_in_17 (k := ?_)
      refine r_zret dX6_in_18 (by decide) ?_
      first | exact zP1.ofI (zb_1 (by simp only [zcmp_lt, zcmp_gt] at h3 h10; omega)) | exact zP1.ofI (zb_0 (by simp only [zcmp_lt, zcmp_gt] at h3 h10; omega)) | exact zP1.ofI (zb_0 (by simp only [zcmp_lt, zcmp_gt] at h3; omega))
    · refine r_iconst dX6_in_13 (k := ?_)
      refine r_goto (tgt := 18) dX6_in_14 (by decide) ?_
      refine r_zret dX6_in_18 (by decide) ?_
      first | exact zP1.ofI (zb_1 (by simp only [zcmp_lt, zcmp_gt] at h3 h10; omega)) | exact zP1.ofI (zb_0 (by simp only [zcmp_lt, zcmp_gt] at h3 h10; omega)) | exact zP1.ofI (zb_0 (by simp only [zcmp_lt, zcmp_gt] at h3; omega))
set_option maxRecDepth 100000 in
theorem c_flag (x : Int) (h : x = 0 ∨ x = 1) : KX6_flag l G 0 [zI x] mem (zP1 (zI x) mem) := by
  refine CT.of' (own := RX6) (ls0 := [zI x]) rfl (by decide +kernel) (Nat.le_of_ble_eq_true rfl) rfl ?_
  refine r_iload_n dX6_flag_0 rfl ?_
  refine r_if_eq (tgt := 8) dX6_flag_1 (by decide) (fun h1 => ?_) (fun h1 => ?_)
  · refine r_iconst dX6_flag_8 (k := ?_)
    refine r_iret dX6_flag_9 ?_
    exact zP1.ofI (by omega)
  · refine r_iconst dX6_flag_4 (k := ?_)
    refine r_goto (tgt := 9) dX6_flag_5 (by decide) ?_
    refine r_iret dX6_flag_9 ?_
    exact zP1.ofI (by omega)
set_option maxRecDepth 100000 in
theorem c_lesser (x y : Int) : KX6_lesser l G 0 [zI x, zI y] mem (zP1 (zI (min x y)) mem) := by
  refine CT.of' (own := RX6) (ls0 := [zI x, zI y]) rfl (by decide +kernel) (Nat.le_of_ble_eq_true rfl) rfl ?_
  refine r_iload_n dX6_lesser_0 rfl ?_
  refine r_iload_n dX6_lesser_1 rfl ?_
  refine r_icmp_ge (tgt := 9) dX6_lesser_2 (by decide) (fun h2 => ?_) (fun h2 => ?_)
  · refine r_iload_n dX6_lesser_9 rfl ?_
    refine r_iret dX6_lesser_10 ?_
    exact zP1.ofI (by omega)
  · refine r_iload_n dX6_lesser_5 rfl ?_
    refine r_goto (tgt := 10) dX6_lesser_6 (by decide) ?_
    refine r_iret dX6_lesser_10 ?_
    exact zP1.ofI (by omega)
set_option maxRecDepth 100000 in
theorem c_sizeOf (x : Int) : KX6_sizeOf l G 0 [zI x] mem (zP1 (zI (zabs x)) mem) := by
  refine CT.of' (own := RX6) (ls0 := [zI x]) rfl (by decide +kernel) (Nat.le_of_ble_eq_true rfl) rfl ?_
  refine r_iload_n dX6_sizeOf_0 rfl ?_
  refine r_if_ge (tgt := 9) dX6_sizeOf_1 (by decide) (fun h1 => ?_) (fun h1 => ?_)
  · refine r_iload_n dX6_sizeOf_9 rfl ?_
    refine r_iret dX6_sizeOf_10 ?_
    exact zP1.ofI (by unfold zabs; simp [h1])
  · refine r_iload_n dX6_sizeOf_4 rfl ?_
    refine r_ineg dX6_sizeOf_5 ?_
    refine r_goto (tgt := 10) dX6_sizeOf_6 (by decide) ?_
    refine r_iret dX6_sizeOf_10 ?_
    exact zP1.ofI (by unfold zabs; simp [h1])
set_option maxRecDepth 100000 in
theorem c_isIsle (i : Int) (h0 : 0 ≤ mem 65 3) (h5 : mem 65 3 ≤ 5) : KX6_isIsle l G 1 [zR 65, zI i] mem (zP1 (zI (zb (decide (0 ≤ i ∧ i < mem 65 3)))) mem) := by
  refine CT.of' (own := RX6) (ls0 := [zR 65, zI i]) rfl (by decide +kernel) (Nat.le_of_ble_eq_true rfl) rfl ?_
  refine r_iload_n dX6_isIsle_0 rfl ?_
  refine r_i2l dX6_isIsle_1 ?_
  refine r_lconst dX6_isIsle_2 rfl (k := ?_)
  refine r_aload_n dX6_isIsle_3 rfl ?_
  refine r_gI (q := 3) rfl fX6_64 rfl (by decide) dX6_isIsle_4 ?_
  refine r_iconst dX6_isIsle_7 (k := ?_)
  refine r_isub dX6_isIsle_8 ?_
  try rw [zw_id (by omega) (by omega)]
  refine r_i2l dX6_isIsle_9 ?_
  refine r_s3 (c_in _ _ _) kX6_69 dX6_isIsle_10 ?_
  refine r_zret dX6_isIsle_13 (zb_01 _) ?_
  exact zP1.ofI (zb_c (by omega))
set_option maxRecDepth 100000 in
theorem c_areTwo (i j : Int) (h0 : 0 ≤ mem 65 3) (hn5 : mem 65 3 ≤ 5) : KX6_areTwo l G 2 [zR 65, zI i, zI j] mem (zP1 (zI (zb (decide (0 ≤ i ∧ i < mem 65 3 ∧ 0 ≤ j ∧ j < mem 65 3 ∧ i ≠ j)))) mem) := by
  refine CT.of' (own := RX6) (ls0 := [zR 65, zI i, zI j]) rfl (by decide +kernel) (Nat.le_of_ble_eq_true rfl) rfl ?_
  refine r_aload_n dX6_areTwo_0 rfl ?_
  refine r_iload_n dX6_areTwo_1 rfl ?_
  refine r_v1 (c_isIsle _ h0 hn5) kX6_151 rfl dX6_areTwo_2 ?_
  refine r_ifb_eq (tgt := 25) dX6_areTwo_5 (by decide) (fun h5 => ?_) (fun h5 => ?_)
  · refine r_iconst dX6_areTwo_25 (k := ?_)
    refine r_zret dX6_areTwo_26 (by decide) ?_
    first | exact zP1.ofI (zb_1 (by simp only [decide_eq_true_eq] at h5 h13; omega)) | exact zP1.ofI (zb_0 (by simp only [decide_eq_true_eq, decide_eq_false_iff_not] at h5 h13; omega)) | exact zP1.ofI (zb_0 (by simp only [decide_eq_false_iff_not] at h5; omega))
  · refine r_aload_n dX6_areTwo_8 rfl ?_
    refine r_iload_n dX6_areTwo_9 rfl ?_
    refine r_v1 (c_isIsle _ h0 hn5) kX6_151 rfl dX6_areTwo_10 ?_
    refine r_ifb_eq (tgt := 25) dX6_areTwo_13 (by decide) (fun h13 => ?_) (fun h13 => ?_)
    · refine r_iconst dX6_areTwo_25 (k := ?_)
      refine r_zret dX6_areTwo_26 (by decide) ?_
      first | exact zP1.ofI (zb_1 (by simp only [decide_eq_true_eq] at h5 h13; omega)) | exact zP1.ofI (zb_0 (by simp only [decide_eq_true_eq, decide_eq_false_iff_not] at h5 h13; omega)) | exact zP1.ofI (zb_0 (by simp only [decide_eq_false_iff_not] at h5; omega))
    · refine r_iload_n dX6_areTwo_16 rfl ?_
      refine r_iload_n dX6_areTwo_17 rfl ?_
      refine r_icmp_eq (tgt := 25) dX6_areTwo_18 (by decide) (fun h18 => ?_) (fun h18 => ?_)
      · refine r_iconst dX6_areTwo_25 (k := ?_)
        refine r_zret dX6_areTwo_26 (by decide) ?_
        first | exact zP1.ofI (zb_1 (by simp only [decide_eq_true_eq] at h5 h13; omega)) | exact zP1.ofI (zb_0 (by simp only [decide_eq_true_eq, decide_eq_false_iff_not] at h5 h13; omega)) | exact zP1.ofI (zb_0 (by simp only [decide_eq_false_iff_not] at h5; omega))
      · refine r_iconst dX6_areTwo_21 (k := ?_)
        refine r_goto (tgt := 26) dX6_areTwo_22 (by decide) ?_
        refine r_zret dX6_areTwo_26 (by decide) ?_
        first | exact zP1.ofI (zb_1 (by simp only [decide_eq_true_eq] at h5 h13; omega)) | exact zP1.ofI (zb_0 (by simp only [decide_eq_true_eq, decide_eq_false_iff_not] at h5 h13; omega)) | exact zP1.ofI (zb_0 (by simp only [decide_eq_false_iff_not] at h5; omega))
set_option maxRecDepth 100000 in
theorem c_isRope (k : Int) (h0 : 0 ≤ mem 66 53) (h6 : mem 66 53 ≤ 6) : KX6_isRope l G 1 [zR 65, zI k] mem (zP1 (zI (zb (decide (0 ≤ k ∧ k < mem 66 53)))) mem) := by
  refine CT.of' (own := RX6) (ls0 := [zR 65, zI k]) rfl (by decide +kernel) (Nat.le_of_ble_eq_true rfl) rfl ?_
  refine r_iload_n dX6_isRope_0 rfl ?_
  refine r_i2l dX6_isRope_1 ?_
  refine r_lconst dX6_isRope_2 rfl (k := ?_)
  refine r_aload_n dX6_isRope_3 rfl ?_
  refine r_getR (q := 66) fX6_7 rfl rfl dX6_isRope_4 ?_
  refine r_bipush dX6_isRope_7 (k := ?_)
  refine r_iald rfl (by omega) (by omega) dX6_isRope_9 ?_
  refine r_iconst dX6_isRope_10 (k := ?_)
  refine r_isub dX6_isRope_11 ?_
  try rw [zw_id (by omega) (by omega)]
  refine r_i2l dX6_isRope_12 ?_
  refine r_s3 (c_in _ _ _) kX6_69 dX6_isRope_13 ?_
  refine r_zret dX6_isRope_16 (zb_01 _) ?_
  exact zP1.ofI (zb_c (by omega))
set_option maxRecDepth 100000 in
theorem c_isFathom (v : Int) : KX6_isFathom l G 1 [zI v] mem (zP1 (zI (zb (decide (0 ≤ v ∧ v ≤ 99)))) mem) := by
  refine CT.of' (own := RX6) (ls0 := [zI v]) rfl (by decide +kernel) (Nat.le_of_ble_eq_true rfl) rfl ?_
  refine r_iload_n dX6_isFathom_0 rfl ?_
  refine r_i2l dX6_isFathom_1 ?_
  refine r_lconst dX6_isFathom_2 rfl (k := ?_)
  refine r_ldc2 nX6_154 dX6_isFathom_3 (x := 99) (k := ?_)
  refine r_s3 (c_in _ _ _) kX6_69 dX6_isFathom_6 ?_
  refine r_zret dX6_isFathom_9 (zb_01 _) ?_
  exact zP1.i
set_option maxRecDepth 100000 in
theorem c_isPart (v : Int) : KX6_isPart l G 1 [zI v] mem (zP1 (zI (zb (decide (0 ≤ v ∧ v ≤ 1)))) mem) := by
  refine CT.of' (own := RX6) (ls0 := [zI v]) rfl (by decide +kernel) (Nat.le_of_ble_eq_true rfl) rfl ?_
  refine r_iload_n dX6_isPart_0 rfl ?_
  refine r_i2l dX6_isPart_1 ?_
  refine r_lconst dX6_isPart_2 rfl (k := ?_)
  refine r_lconst dX6_isPart_3 rfl (k := ?_)
  refine r_s3 (c_in _ _ _) kX6_69 dX6_isPart_4 ?_
  refine r_zret dX6_isPart_7 (zb_01 _) ?_
  exact zP1.i
set_option maxRecDepth 100000 in
theorem c_isFar (v : Int) : KX6_isFar l G 1 [zI v] mem (zP1 (zI (zb (decide (0 ≤ v ∧ v ≤ 60)))) mem) := by
  refine CT.of' (own := RX6) (ls0 := [zI v]) rfl (by decide +kernel) (Nat.le_of_ble_eq_true rfl) rfl ?_
  refine r_iload_n dX6_isFar_0 rfl ?_
  refine r_i2l dX6_isFar_1 ?_
  refine r_lconst dX6_isFar_2 rfl (k := ?_)
  refine r_ldc2 nX6_237 dX6_isFar_3 (x := 60) (k := ?_)
  refine r_s3 (c_in _ _ _) kX6_69 dX6_isFar_6 ?_
  refine r_zret dX6_isFar_9 (zb_01 _) ?_
  exact zP1.i
theorem zcp_0 {f g : Int → Int} : zcp f g 0 0 0 = g := by
  funext j
  unfold zcp
  rw [if_neg (by omega)]
theorem zcp_s {f g : Int → Int} {x : Int} (h : 0 ≤ x) : zu (zcp f g 0 0 x) x (f x) = zcp f g 0 0 (x + 1) := by
  funext j
  unfold zu zcp
  by_cases hj : j = x
  · rw [if_pos hj, if_pos (by omega), hj, show (0 : Int) + (x - 0) = x by omega]
  · rw [if_neg hj]
    by_cases h2 : (0 : Int) ≤ j ∧ j < 0 + x
    · rw [if_pos h2, if_pos (by omega)]
    · rw [if_neg h2, if_neg (by omega)]
theorem zr_self {mem : zM} {o : Nat} : zr mem o (mem o) = mem := by
  funext o'
  by_cases h : o' = o
  · subst h; exact zr_s
  · exact zr_n h
theorem zr_zr {mem : zM} {o : Nat} {r q : Int → Int} : zr (zr mem o r) o q = zr mem o q := by
  funext o'
  by_cases h : o' = o
  · subst h; rw [zr_s, zr_s]
  · rw [zr_n h, zr_n h, zr_n h]
theorem zs_zr {mem : zM} {o : Nat} {r : Int → Int} {k v : Int} : zs (zr mem o r) o k v = zr mem o (zu r k v) := by
  unfold zs
  rw [zr_s, zr_zr]
set_option maxRecDepth 100000 in
theorem c_starts : KX6_starts l G 0 [zR 65] mem (zP0 (zr mem 67 (zcp (mem 66) (mem 67) 0 0 76))) := by
  refine CT.of' (own := RX6) (ls0 := [zR 65, zU]) rfl (by decide +kernel) (Nat.le_of_ble_eq_true rfl) rfl ?_
  have loop : ∀ (k : Nat) (x : Int), 0 ≤ x → x + k = 76 → SW l G (zrm 0) RX6 cX6_starts 2 none (zZ G (zP0 (zr mem 67 (zcp (mem 66) (mem 67) 0 0 76)))) 0 0 (fun _ => True) 2 [zR 65, zI x] [] (zr mem 67 (zcp (mem 66) (mem 67) 0 0 x)) := by
    intro k
    induction k with
    | zero =>
      intro x h0 h1
      refine r_iload_n dX6_starts_2 rfl ?_
      refine r_bipush dX6_starts_3 (k := ?_)
      refine r_icmp_ge (tgt := 26) dX6_starts_5 (by decide) (fun h5 => ?_) (fun h5 => ?_)
      · refine r_vret dX6_starts_26 ?_
        exact zP0.of (by rw [show x = 76 by omega])
      · exact absurd (by omega) h5
    | succ k ih =>
      intro x h0 h1
      refine r_iload_n dX6_starts_2 rfl ?_
      refine r_bipush dX6_starts_3 (k := ?_)
      refine r_icmp_ge (tgt := 26) dX6_starts_5 (by decide) (fun h5 => ?_) (fun h5 => ?_)
      · exact absurd h5 (by omega)
      · refine r_aload_n dX6_starts_8 rfl ?_
        refine r_getR (q := 67) fX6_13 rfl rfl dX6_starts_9 ?_
        try simp (disch := decide) only [zr_n]
        refine r_iload_n dX6_starts_12 rfl ?_
        refine r_aload_n dX6_starts_13 rfl ?_
        refine r_getR (q := 66) fX6_7 rfl rfl dX6_starts_14 ?_
        try simp (disch := decide) only [zr_n]
        refine r_iload_n dX6_starts_17 rfl ?_
        refine r_iald rfl (by omega) (by omega) dX6_starts_18 ?_
        try simp (disch := decide) only [zr_n]
        refine r_iast rfl (by omega) (by omega) dX6_starts_19 ?_
        refine r_iinc dX6_starts_20 rfl rfl ?_
        try rw [zw_id (by omega) (by omega)]
        refine r_goto (tgt := 2) dX6_starts_23 (by decide) ?_
        rw [zs_zr, zcp_s h0]
        exact ih _ (by omega) (by omega)
  refine r_iconst dX6_starts_0 (k := ?_)
  refine r_istore_n dX6_starts_1 rfl ?_
  have fin := loop 76 0 (by omega) (by omega)
  rw [zcp_0, zr_self] at fin
  exact fin
set_option maxRecDepth 100000 in
theorem c_settles : KX6_settles l G 0 [zR 65] mem (zP0 (zr mem 66 (zcp (mem 67) (mem 66) 0 0 76))) := by
  refine CT.of' (own := RX6) (ls0 := [zR 65, zU]) rfl (by decide +kernel) (Nat.le_of_ble_eq_true rfl) rfl ?_
  have loop : ∀ (k : Nat) (x : Int), 0 ≤ x → x + k = 76 → SW l G (zrm 0) RX6 cX6_settles 2 none (zZ G (zP0 (zr mem 66 (zcp (mem 67) (mem 66) 0 0 76)))) 0 0 (fun _ => True) 2 [zR 65, zI x] [] (zr mem 66 (zcp (mem 67) (mem 66) 0 0 x)) := by
    intro k
    induction k with
    | zero =>
      intro x h0 h1
      refine r_iload_n dX6_settles_2 rfl ?_
      refine r_bipush dX6_settles_3 (k := ?_)
      refine r_icmp_ge (tgt := 26) dX6_settles_5 (by decide) (fun h5 => ?_) (fun h5 => ?_)
      · refine r_vret dX6_settles_26 ?_
        exact zP0.of (by rw [show x = 76 by omega])
      · exact absurd (by omega) h5
    | succ k ih =>
      intro x h0 h1
      refine r_iload_n dX6_settles_2 rfl ?_
      refine r_bipush dX6_settles_3 (k := ?_)
      refine r_icmp_ge (tgt := 26) dX6_settles_5 (by decide) (fun h5 => ?_) (fun h5 => ?_)
      · exact absurd h5 (by omega)
      · refine r_aload_n dX6_settles_8 rfl ?_
        refine r_getR (q := 66) fX6_7 rfl rfl dX6_settles_9 ?_
        try simp (disch := decide) only [zr_n]
        refine r_iload_n dX6_settles_12 rfl ?_
        refine r_aload_n dX6_settles_13 rfl ?_
        refine r_getR (q := 67) fX6_13 rfl rfl dX6_settles_14 ?_
        try simp (disch := decide) only [zr_n]
        refine r_iload_n dX6_settles_17 rfl ?_
        refine r_iald rfl (by omega) (by omega) dX6_settles_18 ?_
        try simp (disch := decide) only [zr_n]
        refine r_iast rfl (by omega) (by omega) dX6_settles_19 ?_
        refine r_iinc dX6_settles_20 rfl rfl ?_
        try rw [zw_id (by omega) (by omega)]
        refine r_goto (tgt := 2) dX6_settles_23 (by decide) ?_
        rw [zs_zr, zcp_s h0]
        exact ih _ (by omega) (by omega)
  refine r_iconst dX6_settles_0 (k := ?_)
  refine r_istore_n dX6_settles_1 rfl ?_
  have fin := loop 76 0 (by omega) (by omega)
  rw [zcp_0, zr_self] at fin
  exact fin
set_option maxRecDepth 100000 in
theorem c_place (i : Int) (h0 : 0 ≤ i) (h1 : i < 30) : KX6_place l G 0 [zR 65, zI i] mem (zP1 (zI (mP (mem 67) i)) mem) := by
  refine CT.of' (own := RX6) (ls0 := [zR 65, zI i]) rfl (by decide +kernel) (Nat.le_of_ble_eq_true rfl) rfl ?_
  refine r_aload_n dX6_place_0 rfl ?_
  refine r_getR (q := 67) fX6_13 rfl rfl dX6_place_1 ?_
  refine r_iconst dX6_place_4 (k := ?_)
  refine r_iload_n dX6_place_5 rfl ?_
  refine r_imul dX6_place_6 ?_
  try rw [zw_id (by omega) (by omega)]
  refine r_iconst dX6_place_7 (k := ?_)
  refine r_iadd dX6_place_8 ?_
  try rw [zw_id (by omega) (by omega)]
  refine r_iald rfl (by omega) (by omega) dX6_place_9 ?_
  refine r_iret dX6_place_10 ?_
  exact zP1.ofI rfl
set_option maxRecDepth 100000 in
theorem c_apart (i j : Int) (h0 : 0 ≤ i) (h1 : i < mem 65 3) (h2 : 0 ≤ j) (h3 : j < mem 65 3) (hI : mI (mem 65 3) (mem 67)) : KX6_apart l G 1 [zR 65, zI i, zI j] mem (zP1 (zI (sSz (mP (mem 67) i - mP (mem 67) j))) mem) := by
  have a1 := hI.2.2.2.2.1 i h0 h1
  have a2 := hI.2.2.2.2.1 j h2 h3
  have hn := hI.2.1
  refine CT.of' (own := RX6) (ls0 := [zR 65, zI i, zI j]) rfl (by decide +kernel) (Nat.le_of_ble_eq_true rfl) rfl ?_
  refine r_aload_n dX6_apart_0 rfl ?_
  refine r_iload_n dX6_apart_1 rfl ?_
  refine r_v1 (c_place _ h0 (by omega)) kX6_156 rfl dX6_apart_2 ?_
  refine r_aload_n dX6_apart_5 rfl ?_
  refine r_iload_n dX6_apart_6 rfl ?_
  refine r_v1 (c_place _ h2 (by omega)) kX6_156 rfl dX6_apart_7 ?_
  refine r_isub dX6_apart_10 ?_
  try rw [zw_id (by omega) (by omega)]
  refine r_s1 (c_sizeOf _) kX6_159 dX6_apart_11 ?_
  refine r_iret dX6_apart_14 ?_
  exact zP1.ofI (zabs_sz (by omega) (by omega))
theorem sMax_s {p : Int → Int} {k : Nat} : sMax p (k + 1) = max (sMax p k) (p (1 + k)) := zfor_succ k 1 (p 0)
theorem sMin_s {p : Int → Int} {k : Nat} : sMin p (k + 1) = min (sMin p k) (p (1 + k)) := zfor_succ k 1 (p 0)
theorem sMm {p : Int → Int} : ∀ k : Nat, sMin p k ≤ sMax p k
  | 0 => by unfold sMin sMax; simp [zfor]
  | k + 1 => by have := sMm (p := p) k; rw [sMin_s, sMax_s]; omega
set_option maxRecDepth 100000 in
set_option maxHeartbeats 1000000 in
theorem c_X6_spread (hI : mI (mem 65 3) (mem 67)) : KX6_spread l G 2 [zR 65] mem (zP1 (zI (sSpread (mem 65 3) (mP (mem 67)))) mem) := by
  have hn0 := hI.1
  have hn5 := hI.2.1
  have hp := hI.2.2.2.2.1
  refine CT.of' (own := RX6) (ls0 := [zR 65, zU, zU, zU]) rfl (by decide +kernel) (Nat.le_of_ble_eq_true rfl) rfl ?_
  have loop : ∀ (k : Nat) (x a : Int) (v : zV), 0 ≤ x → x + k = mem 65 3 → a = sMax (mP (mem 67)) (x - 1).toNat - sMin (mP (mem 67)) (x - 1).toNat → SW l G (zrm 2) RX6 cX6_spread 4 (some .int) (zZ G (zP1 (zI (sSpread (mem 65 3) (mP (mem 67)))) mem)) 0 0 (fun _ => True) 4 [zR 65, zI a, zI x, v] [] mem := by
    intro k
    induction k with
    | zero =>
      intro x a v h0 h1 he
      refine r_iload_n dX6_spread_4 rfl ?_
      refine r_aload_n dX6_spread_5 rfl ?_
      refine r_gI (q := 3) rfl fX6_64 rfl (by decide) dX6_spread_6 ?_
      refine r_icmp_ge (tgt := 52) dX6_spread_9 (by decide) (fun h9 => ?_) (fun h9 => ?_)
      · refine r_iload_n dX6_spread_52 rfl ?_
        refine r_iret dX6_spread_53 ?_
        refine zP1.ofI ?_
        unfold sSpread
        by_cases h2 : mem 65 3 < 2
        · rw [if_pos h2, he, show (x - 1).toNat = 0 by omega]; unfold sMax sMin zfor; omega
        · rw [if_neg h2, he, show x = mem 65 3 by omega]
      · exact absurd (by omega) h9
    | succ k ih =>
      intro x a v h0 h1 he
      have inner : ∀ (kk : Nat) (y c : Int), 0 ≤ y → y + kk = x → (y = 0 → c = a) → (1 ≤ y → c = max a (max (mP (mem 67) x - sMin (mP (mem 67)) (y - 1).toNat) (sMax (mP (mem 67)) (y - 1).toNat - mP (mem 67) x))) → SW l G (zrm 2) RX6 cX6_spread 4 (some .int) (zZ G (zP1 (zI (sSpread (mem 65 3) (mP (mem 67)))) mem)) 0 0 (fun _ => True) 14 [zR 65, zI c, zI x, zI y] [] mem := by
        intro kk
        induction kk with
        | zero =>
          intro y c g0 g1 ga gb
          have fin : c = sMax (mP (mem 67)) (x + 1 - 1).toNat - sMin (mP (mem 67)) (x + 1 - 1).toNat := by
            by_cases hx : x = 0
            · have := ga (by omega)
              rw [this, he, hx]
              rfl
            · have q := gb (by omega)
              have hy : y = x := by omega
              rw [hy] at q
              obtain ⟨z, hz⟩ : ∃ z : Nat, x = z + 1 := ⟨(x - 1).toNat, by omega⟩
              rw [show (x + 1 - 1).toNat = z + 1 by omega, sMax_s, sMin_s, q, he, show (x - 1).toNat = z by omega, show (1 : Int) + z = x by omega]
              have := sMm (p := mP (mem 67)) z
              rw [show (x - 1).toNat = z by omega] at he
              omega
          refine r_iload_n dX6_spread_14 rfl ?_
          refine r_iload_n dX6_spread_15 rfl ?_
          refine r_icmp_ge (tgt := 46) dX6_spread_16 (by decide) (fun h16 => ?_) (fun h16 => ?_)
          · refine r_iinc dX6_spread_46 rfl rfl ?_
            try rw [zw_id (by omega) (by omega)]
            refine r_goto (tgt := 4) dX6_spread_49 (by decide) ?_
            exact ih _ _ _ (by omega) (by omega) fin
          · exact absurd (by omega) h16
        | succ kk ih2 =>
          intro y c g0 g1 ga gb
          have b1 := hp x (by omega) (by omega)
          have b2 := hp y (by omega) (by omega)
          have step : ∀ c2 : Int, c2 = max c (sSz (mP (mem 67) x - mP (mem 67) y)) → SW l G (zrm 2) RX6 cX6_spread 4 (some .int) (zZ G (zP1 (zI (sSpread (mem 65 3) (mP (mem 67)))) mem)) 0 0 (fun _ => True) 14 [zR 65, zI c2, zI x, zI (y + 1)] [] mem := by
            intro c2 hc2
            refine ih2 _ _ (by omega) (by omega) (fun q => by omega) (fun _ => ?_)
            have hs : sSz (mP (mem 67) x - mP (mem 67) y) = max (mP (mem 67) x - mP (mem 67) y) (mP (mem 67) y - mP (mem 67) x) := by unfold sSz; split <;> omega
            rw [hs] at hc2
            by_cases hy : y = 0
            · have := ga hy
              rw [hc2, this, hy]
              show _ = max a (max (mP (mem 67) x - mP (mem 67) 0) (mP (mem 67) 0 - mP (mem 67) x))
              rfl
            · have q := gb (by omega)
              obtain ⟨z, hz⟩ : ∃ z : Nat, y = z + 1 := ⟨(y - 1).toNat, by omega⟩
              rw [show (y + 1 - 1).toNat = z + 1 by omega, sMax_s, sMin_s, show (1 : Int) + z = y by omega]
              rw [show (y - 1).toNat = z by omega] at q
              rw [hc2, q]
              omega
          refine r_iload_n dX6_spread_14 rfl ?_
          refine r_iload_n dX6_spread_15 rfl ?_
          refine r_icmp_ge (tgt := 46) dX6_spread_16 (by decide) (fun h16 => ?_) (fun h16 => ?_)
          · exact absurd h16 (by omega)
          · refine r_aload_n dX6_spread_19 rfl ?_
            refine r_iload_n dX6_spread_20 rfl ?_
            refine r_iload_n dX6_spread_21 rfl ?_
            refine r_v2 (c_apart _ _ (by omega) (by omega) (by omega) (by omega) hI) kX6_162 rfl dX6_spread_22 ?_
            refine r_iload_n dX6_spread_25 rfl ?_
            refine r_icmp_le (tgt := 38) dX6_spread_26 (by decide) (fun h26 => ?_) (fun h26 => ?_)
            · refine r_iload_n dX6_spread_38 rfl ?_
              refine r_istore_n dX6_spread_39 rfl ?_
              refine r_iinc dX6_spread_40 rfl rfl ?_
              try rw [zw_id (by omega) (by omega)]
              refine r_goto (tgt := 14) dX6_spread_43 (by decide) ?_
              exact step _ (by omega)
            · refine r_aload_n dX6_spread_29 rfl ?_
              refine r_iload_n dX6_spread_30 rfl ?_
              refine r_iload_n dX6_spread_31 rfl ?_
              refine r_v2 (c_apart _ _ (by omega) (by omega) (by omega) (by omega) hI) kX6_162 rfl dX6_spread_32 ?_
              refine r_goto (tgt := 39) dX6_spread_35 (by decide) ?_
              refine r_istore_n dX6_spread_39 rfl ?_
              refine r_iinc dX6_spread_40 rfl rfl ?_
              try rw [zw_id (by omega) (by omega)]
              refine r_goto (tgt := 14) dX6_spread_43 (by decide) ?_
              exact step _ (by omega)
      refine r_iload_n dX6_spread_4 rfl ?_
      refine r_aload_n dX6_spread_5 rfl ?_
      refine r_gI (q := 3) rfl fX6_64 rfl (by decide) dX6_spread_6 ?_
      refine r_icmp_ge (tgt := 52) dX6_spread_9 (by decide) (fun h9 => ?_) (fun h9 => ?_)
      · exact absurd h9 (by omega)
      · refine r_iconst dX6_spread_12 (k := ?_)
        refine r_istore_n dX6_spread_13 rfl ?_
        exact inner x.toNat 0 a (by omega) (by omega) (fun _ => rfl) (fun q => absurd q (by omega))
  refine r_iconst dX6_spread_0 (k := ?_)
  refine r_istore_n dX6_spread_1 rfl ?_
  refine r_iconst dX6_spread_2 (k := ?_)
  refine r_istore_n dX6_spread_3 rfl ?_
  exact loop (mem 65 3).toNat 0 0 zU (by omega) (by omega) (by unfold sMax sMin; simp [zfor])
end
