/-! ===== a firth as a value: isles, kinds, sulks, ropes (number, ends, lengths), the feast, places, bumps, day ===== -/
abbrev zVw : Type := Int × (Int → Int) × (Int → Int) × Int × (Int → Int) × (Int → Int) × (Int → Int) × Int × (Int → Int) × Int × Int
def vC (m : zM) (b : Nat) : zVw := (m b 0, m (b + 1), m (b + 3), m b 4, m (b + 4), m (b + 5), m (b + 6), m b 8, m (b + 2), m b 10, m b 9)
def vM (n : Int) (c : Int → Int) : zVw := (n, mT c, mG c, c 53, m1 c, m2 c, m3 c, c 55, mP c, c 56, c 54)
def VEQ : zVw → zVw → Prop := fun (n, t, g, r, e1, e2, ln, hol, p, bu, dy) (n', t', g', r', f1, f2, fl, hol', q, bu', dy') => n = n' ∧ PE n t t' ∧ GE n g g' ∧ r = r' ∧ RE n r e1 e2 ln f1 f2 fl ∧ hol = hol' ∧ PE n p q ∧ bu = bu' ∧ dy = dy' ∧ 0 ≤ n ∧ 0 ≤ r
def vDays : zVw → Nat → (Int → Int) × Int × Int := fun (n, t, g, r, e1, e2, ln, hol, p, bu, dy) k => sDays n t g r e1 e2 ln hol k (p, bu, dy)
def vSpread (W : zVw) (k : Nat) : Int := sSpread W.1 (vDays W k).1
def vBumps (W : zVw) (k : Nat) : Int := zw ((vDays W k).2.1 - W.2.2.2.2.2.2.2.2.2.1)
def vRope : zVw → Int → Int → Int → zVw := fun (n, t, g, r, e1, e2, ln, hol, p, bu, dy) i j v => (n, t, g, r + 1, zu e1 r i, zu e2 r j, zu ln r v, hol, p, bu, dy)
def vGrudge : zVw → Int → Int → Int → zVw := fun (n, t, g, r, e1, e2, ln, hol, p, bu, dy) i j v => (n, t, zu g (5 * i + j) v, r, e1, e2, ln, hol, p, bu, dy)
def vKind : zVw → Int → Int → zVw := fun (n, t, g, r, e1, e2, ln, hol, p, bu, dy) i v => (n, zu t i v, g, r, e1, e2, ln, hol, p, bu, dy)
def vHol : zVw → Int → zVw := fun (n, t, g, r, e1, e2, ln, _, p, bu, dy) v => (n, t, g, r, e1, e2, ln, v, p, bu, dy)
def vLen : zVw → Int → Int → zVw := fun (n, t, g, r, e1, e2, ln, hol, p, bu, dy) k v => (n, t, g, r, e1, e2, zu ln k v, hol, p, bu, dy)
def vDrop : zVw → Int → zVw := fun (n, t, g, r, e1, e2, ln, hol, p, bu, dy) k => (n, t, g, r - 1, zsh e1 k (r - 1), zsh e2 k (r - 1), zsh ln k (r - 1), hol, p, bu, dy)
theorem VEQ.days {W V : zVw} (h : VEQ W V) (k : Nat) : W.1 = V.1 ∧ PE W.1 (vDays W k).1 (vDays V k).1 ∧ (vDays W k).2 = (vDays V k).2 := by
  obtain ⟨n, t, g, r, e1, e2, ln, hol, p, bu, dy⟩ := W
  obtain ⟨n', t', g', r', f1, f2, fl, hol', q, bu', dy'⟩ := V
  obtain ⟨a1, a2, a3, a4, a5, a6, a7, a8, a9, a10, a11⟩ := h
  subst a1 a4 a6 a8 a9
  exact ⟨rfl, sDays_c a10 a2 a3 a5 a7 rfl⟩
theorem VEQ.spread {W V : zVw} (h : VEQ W V) (k : Nat) : vSpread W k = vSpread V k := by
  obtain ⟨h1, h2, h3⟩ := h.days k
  unfold vSpread
  rw [← h1]
  exact sSpread_c h2
theorem VEQ.bu {W V : zVw} (h : VEQ W V) : W.2.2.2.2.2.2.2.2.2.1 = V.2.2.2.2.2.2.2.2.2.1 := h.2.2.2.2.2.2.2.1
theorem VEQ.bumps {W V : zVw} (h : VEQ W V) (k : Nat) : vBumps W k = vBumps V k := by
  obtain ⟨h1, h2, h3⟩ := h.days k
  unfold vBumps
  rw [h3, h.bu]
theorem VEQ.symm {W V : zVw} (h : VEQ W V) : VEQ V W := by
  obtain ⟨n, t, g, r, e1, e2, ln, hol, p, bu, dy⟩ := W
  obtain ⟨n', t', g', r', f1, f2, fl, hol', q, bu', dy'⟩ := V
  obtain ⟨a1, a2, a3, a4, a5, a6, a7, a8, a9, a10, a11⟩ := h
  subst a1 a4 a6 a8 a9
  exact ⟨rfl, fun i h0 h1 => (a2 i h0 h1).symm, fun i j h0 h1 h2 h3 h4 => (a3 i j h0 h1 h2 h3 h4).symm, rfl, fun k h0 h1 => by
    obtain ⟨b1, b2, b3, b4, b5, b6, b7⟩ := a5 k h0 h1
    exact ⟨b1.symm, b2.symm, b3.symm, b1 ▸ b4, b1 ▸ b5, b2 ▸ b6, b2 ▸ b7⟩, rfl, fun i h0 h1 => (a7 i h0 h1).symm, rfl, rfl, a10, a11⟩
theorem VEQ.trans {W V U : zVw} (h : VEQ W V) (h2 : VEQ V U) : VEQ W U := by
  obtain ⟨n, t, g, r, e1, e2, ln, hol, p, bu, dy⟩ := W
  obtain ⟨n', t', g', r', f1, f2, fl, hol', q, bu', dy'⟩ := V
  obtain ⟨n9, t9, g9, r9, f19, f29, fl9, hol9, q9, bu9, dy9⟩ := U
  obtain ⟨a1, a2, a3, a4, a5, a6, a7, a8, a9, a10, a11⟩ := h
  obtain ⟨b1, b2, b3, b4, b5, b6, b7, b8, b9, b10, b11⟩ := h2
  subst a1 a4 a6 a8 a9 b1 b4 b6 b8 b9
  exact ⟨rfl, fun i h0 h1 => (a2 i h0 h1).trans (b2 i h0 h1), fun i j h0 h1 h2 h3 h4 => (a3 i j h0 h1 h2 h3 h4).trans (b3 i j h0 h1 h2 h3 h4), rfl, fun k h0 h1 => by
    obtain ⟨c1, c2, c3, c4, c5, c6, c7⟩ := a5 k h0 h1
    obtain ⟨d1, d2, d3, -, -, -, -⟩ := b5 k h0 h1
    exact ⟨c1.trans d1, c2.trans d2, c3.trans d3, c4, c5, c6, c7⟩, rfl, fun i h0 h1 => (a7 i h0 h1).trans (b7 i h0 h1), rfl, rfl, a10, a11⟩
theorem VEQ.rope {W V : zVw} (h : VEQ W V) {i j : Int} (v : Int) (hi0 : 0 ≤ i) (hi1 : i < W.1) (hj0 : 0 ≤ j) (hj1 : j < W.1) : VEQ (vRope W i j v) (vRope V i j v) := by
  obtain ⟨n, t, g, r, e1, e2, ln, hol, p, bu, dy⟩ := W
  obtain ⟨n', t', g', r', f1, f2, fl, hol', q, bu', dy'⟩ := V
  obtain ⟨a1, a2, a3, a4, a5, a6, a7, a8, a9, a10, a11⟩ := h
  subst a1 a4 a6 a8 a9
  refine ⟨rfl, a2, a3, rfl, fun k h0 h1 => ?_, rfl, a7, rfl, rfl, a10, by omega⟩
  by_cases hk : k = r
  · subst hk
    simp only [zu_s]
    exact ⟨trivial, trivial, trivial, hi0, hi1, hj0, hj1⟩
  · simp only [zu_n hk]
    exact a5 k h0 (by omega)
theorem VEQ.grudge {W V : zVw} (h : VEQ W V) (i j v : Int) : VEQ (vGrudge W i j v) (vGrudge V i j v) := by
  obtain ⟨n, t, g, r, e1, e2, ln, hol, p, bu, dy⟩ := W
  obtain ⟨n', t', g', r', f1, f2, fl, hol', q, bu', dy'⟩ := V
  obtain ⟨a1, a2, a3, a4, a5, a6, a7, a8, a9, a10, a11⟩ := h
  subst a1 a4 a6 a8 a9
  refine ⟨rfl, a2, fun x y h0 h1 h2 h3 h4 => ?_, rfl, a5, rfl, a7, rfl, rfl, a10, a11⟩
  by_cases hk : 5 * x + y = 5 * i + j
  · rw [hk, zu_s, zu_s]
  · rw [zu_n hk, zu_n hk]
    exact a3 x y h0 h1 h2 h3 h4
theorem VEQ.kind {W V : zVw} (h : VEQ W V) (i v : Int) : VEQ (vKind W i v) (vKind V i v) := by
  obtain ⟨n, t, g, r, e1, e2, ln, hol, p, bu, dy⟩ := W
  obtain ⟨n', t', g', r', f1, f2, fl, hol', q, bu', dy'⟩ := V
  obtain ⟨a1, a2, a3, a4, a5, a6, a7, a8, a9, a10, a11⟩ := h
  subst a1 a4 a6 a8 a9
  exact ⟨rfl, a2.u rfl, a3, rfl, a5, rfl, a7, rfl, rfl, a10, a11⟩
theorem VEQ.hol {W V : zVw} (h : VEQ W V) (v : Int) : VEQ (vHol W v) (vHol V v) := by
  obtain ⟨n, t, g, r, e1, e2, ln, hol, p, bu, dy⟩ := W
  obtain ⟨n', t', g', r', f1, f2, fl, hol', q, bu', dy'⟩ := V
  obtain ⟨a1, a2, a3, a4, a5, a6, a7, a8, a9, a10, a11⟩ := h
  exact ⟨a1, a2, a3, a4, a5, rfl, a7, a8, a9, a10, a11⟩
theorem VEQ.len {W V : zVw} (h : VEQ W V) (k v : Int) : VEQ (vLen W k v) (vLen V k v) := by
  obtain ⟨n, t, g, r, e1, e2, ln, hol, p, bu, dy⟩ := W
  obtain ⟨n', t', g', r', f1, f2, fl, hol', q, bu', dy'⟩ := V
  obtain ⟨a1, a2, a3, a4, a5, a6, a7, a8, a9, a10, a11⟩ := h
  refine ⟨a1, a2, a3, a4, fun x h0 h1 => ?_, a6, a7, a8, a9, a10, a11⟩
  obtain ⟨b1, b2, b3, b4, b5, b6, b7⟩ := a5 x h0 h1
  by_cases hk : x = k
  · subst hk
    simp only [zu_s]
    exact ⟨b1, b2, trivial, b4, b5, b6, b7⟩
  · simp only [zu_n hk]
    exact ⟨b1, b2, b3, b4, b5, b6, b7⟩
theorem VEQ.drop {W V : zVw} (h : VEQ W V) {k : Int} (hk0 : 0 ≤ k) (hk1 : k < W.2.2.2.1) : VEQ (vDrop W k) (vDrop V k) := by
  obtain ⟨n, t, g, r, e1, e2, ln, hol, p, bu, dy⟩ := W
  obtain ⟨n', t', g', r', f1, f2, fl, hol', q, bu', dy'⟩ := V
  obtain ⟨a1, a2, a3, a4, a5, a6, a7, a8, a9, a10, a11⟩ := h
  subst a1 a4 a6 a8 a9
  dsimp only at hk1
  refine ⟨rfl, a2, a3, rfl, fun x h0 h1 => ?_, rfl, a7, rfl, rfl, a10, by omega⟩
  unfold zsh
  by_cases hx : k ≤ x ∧ x < r - 1
  · simp only [if_pos hx]
    exact a5 (x + 1) (by omega) (by omega)
  · simp only [if_neg hx]
    exact a5 x h0 (by omega)
/-- what the class alone may change in a call that only asks -/
def kC (m m' : zM) : Prop := ∀ o, ¬ (8 ≤ o ∧ o ≤ 14) → o ≠ 63 → o ≠ 64 → m' o = m o
def kM (m m' : zM) : Prop := (∀ o, o ≠ 65 → o ≠ 67 → o ≠ 71 → o ≠ 72 → m' o = m o) ∧ ∀ k, k ≠ 17 → k ≠ 18 → k ≠ 19 → k ≠ 20 → k ≠ 21 → m' 65 k = m 65 k
theorem kC.rf {m : zM} : kC m m := fun _ _ _ _ => rfl
theorem kM.rf {m : zM} : kM m m := ⟨fun _ _ _ _ _ => rfl, fun _ _ _ _ _ _ => rfl⟩
theorem kC.tr {a b c : zM} (h1 : kC a b) (h2 : kC b c) : kC a c := fun o x y z => (h2 o x y z).trans (h1 o x y z)
theorem kM.tr {a b c : zM} (h1 : kM a b) (h2 : kM b c) : kM a c := ⟨fun o x y z w => (h2.1 o x y z w).trans (h1.1 o x y z w), fun k a b c d e => (h2.2 k a b c d e).trans (h1.2 k a b c d e)⟩
theorem kC.z {m m2 : zM} {o : Nat} {k v : Int} (h : kC m m2) (ho : (8 ≤ o ∧ o ≤ 14) ∨ o = 63 ∨ o = 64) : kC m (zs m2 o k v) := fun o' x y z => by rw [zs_n (by omega)]; exact h o' x y z
theorem kC.r {m m2 : zM} {o : Nat} {r : Int → Int} (h : kC m m2) (ho : (8 ≤ o ∧ o ≤ 14) ∨ o = 63 ∨ o = 64) : kC m (zr m2 o r) := fun o' x y z => by rw [zr_n (by omega)]; exact h o' x y z
theorem kC.b {m m2 : zM} (h : kC m m2) : kC m (zBec m2 8 1) := fun o' x y z => by rw [zBec_o (by omega)]; exact h o' x y z
theorem kC.y {m m2 : zM} {s : (Int → Int) × Int × Int} (h : kC m m2) : kC m (zFy m2 8 s) := fun o' x y z => by rw [zFy_o (by omega) (by omega)]; exact h o' x y z
theorem kM.r {m m2 : zM} {o : Nat} {r : Int → Int} (h : kM m m2) (ho : o = 67 ∨ o = 71 ∨ o = 72) : kM m (zr m2 o r) := ⟨fun o' x y z w => by rw [zr_n (by omega)]; exact h.1 o' x y z w, fun k a b c d e => by rw [zr_n (by omega)]; exact h.2 k a b c d e⟩
theorem kM.z {m m2 : zM} {o : Nat} {k v : Int} (h : kM m m2) (ho : o = 67 ∨ o = 71 ∨ o = 72) : kM m (zs m2 o k v) := h.r ho
theorem kM.f {m m2 : zM} {k v : Int} (h : kM m m2) (hk : k = 17 ∨ k = 18 ∨ k = 19 ∨ k = 20 ∨ k = 21) : kM m (zs m2 65 k v) := ⟨fun o' x y z w => by rw [zs_n x]; exact h.1 o' x y z w, fun j a b c d e => by rw [zs_s, zu_n (by omega)]; exact h.2 j a b c d e⟩
theorem kC.at {m m' : zM} (h : kC m m') {o : Nat} (h1 : ¬ (8 ≤ o ∧ o ≤ 14)) (h2 : o ≠ 63) (h3 : o ≠ 64) : m' o = m o := h o h1 h2 h3
theorem zcp_at {f g : Int → Int} {n j : Int} (h0 : 0 ≤ j) (h1 : j < n) : zcp f g 0 0 n j = f j := by
  unfold zcp
  rw [if_pos (by omega), show (0 : Int) + (j - 0) = j by omega]
/-- the trial as the firth is -/
theorem vC_bec {m : zM} {b c : Nat} (h : zFI m c) : VEQ (vC (zBec m b c) b) (vC m c) := by
  obtain ⟨hn0, hn5, hr0, hr6, hp, hg, hr⟩ := h
  unfold vC
  rw [zBec_1, zBec_2, zBec_3, zBec_4, zBec_5, zBec_6]
  simp only [zBec_b]
  refine ⟨rfl, fun i h0 h1 => zcp_at h0 (show i < 5 from Int.lt_of_lt_of_le h1 hn5), fun i j h0 h1 h2 h3 _ => zcp_at (by omega) ?_, rfl, fun k h0 h1 => ?_, rfl, fun i h0 h1 => zcp_at h0 (show i < 5 from Int.lt_of_lt_of_le h1 hn5), rfl, rfl, hn0, hr0⟩
  · have : i < m c 0 := h1
    have : j < m c 0 := h3
    omega
  · have hk : k < m c 4 := h1
    obtain ⟨a1, a2, a3, a4, a5, a6⟩ := hr k h0 hk
    rw [zcp_at h0 (by omega), zcp_at h0 (by omega), zcp_at h0 (by omega)]
    exact ⟨rfl, rfl, rfl, a1, a2, a3, a4⟩
theorem mP_zcp {c d : Int → Int} {i : Int} (h0 : 0 ≤ i) (h1 : i < 5) : mP (zcp c d 0 0 76) i = mP c i := zcp_at (by omega) (by omega)
theorem vM_cp {n : Int} {c d : Int → Int} (h : mI n c) : vM n (zcp c d 0 0 76) = (n, mT c, mG c, c 53, m1 c, m2 c, m3 c, c 55, mP (zcp c d 0 0 76), c 56, c 54) ∧ VEQ (vM n (zcp c d 0 0 76)) (vM n c) ∧ mI n (zcp c d 0 0 76) := by
  have e1 : mT (zcp c d 0 0 76) = mT c := by
    funext i; unfold mT; split
    · exact zcp_at (by omega) (by omega)
    · rfl
  have e2 : mG (zcp c d 0 0 76) = mG c := by
    funext i; unfold mG; split
    · exact zcp_at (by omega) (by omega)
    · rfl
  have e3 : m1 (zcp c d 0 0 76) = m1 c := by
    funext i; unfold m1; split
    · exact zcp_at (by omega) (by omega)
    · rfl
  have e4 : m2 (zcp c d 0 0 76) = m2 c := by
    funext i; unfold m2; split
    · exact zcp_at (by omega) (by omega)
    · rfl
  have e5 : m3 (zcp c d 0 0 76) = m3 c := by
    funext i; unfold m3; split
    · exact zcp_at (by omega) (by omega)
    · rfl
  have e6 : zcp c d 0 0 76 53 = c 53 := zcp_at (by decide) (by decide)
  have e7 : zcp c d 0 0 76 55 = c 55 := zcp_at (by decide) (by decide)
  have e8 : zcp c d 0 0 76 56 = c 56 := zcp_at (by decide) (by decide)
  have e9 : zcp c d 0 0 76 54 = c 54 := zcp_at (by decide) (by decide)
  obtain ⟨hn0, hn5, hr0, hr6, hp, hg, hr⟩ := h
  have ev : vM n (zcp c d 0 0 76) = (n, mT c, mG c, c 53, m1 c, m2 c, m3 c, c 55, mP (zcp c d 0 0 76), c 56, c 54) := by
    unfold vM
    rw [e1, e2, e3, e4, e5, e6, e7, e8, e9]
  refine ⟨ev, ?_, ?_⟩
  · rw [ev]
    exact ⟨rfl, PE.rf, fun _ _ _ _ _ _ _ => rfl, rfl, fun k h0 h1 => ⟨rfl, rfl, rfl, (hr k h0 h1).1, (hr k h0 h1).2.1, (hr k h0 h1).2.2.1, (hr k h0 h1).2.2.2.1⟩, rfl, fun i h0 h1 => mP_zcp h0 (by omega), rfl, rfl, hn0, hr0⟩
  · unfold mI
    rw [e2, e3, e4, e5, e6]
    exact ⟨hn0, hn5, hr0, hr6, fun i h0 h1 => by rw [mP_zcp h0 (by omega)]; exact hp i h0 h1, hg, hr⟩
