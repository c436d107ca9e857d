/-! ===== one firth seen twice: what depends on the told numbers alone ===== -/
def PE (n : Int) (p q : Int → Int) : Prop := ∀ i, 0 ≤ i → i < n → p i = q i
def GE (n : Int) (g h : Int → Int) : Prop := ∀ i j, 0 ≤ i → i < n → 0 ≤ j → j < n → i ≠ j → g (5 * i + j) = h (5 * i + j)
/-- ropes: ends among the isles, and the same in both -/
def RE (n r : Int) (e1 e2 ln f1 f2 fl : Int → Int) : Prop := ∀ k, 0 ≤ k → k < r → e1 k = f1 k ∧ e2 k = f2 k ∧ ln k = fl k ∧ 0 ≤ e1 k ∧ e1 k < n ∧ 0 ≤ e2 k ∧ e2 k < n
theorem PE.rf {n : Int} {p : Int → Int} : PE n p p := fun _ _ _ => rfl
theorem PE.u {n : Int} {p q : Int → Int} {i v w : Int} (h : PE n p q) (hv : v = w) : PE n (zu p i v) (zu q i w) := by
  intro j h0 h1
  by_cases hj : j = i
  · rw [hj, zu_s, zu_s, hv]
  · rw [zu_n hj, zu_n hj]; exact h j h0 h1
theorem sMax_c {p q : Int → Int} {k : Nat} (h : ∀ i : Int, 0 ≤ i → i ≤ k → p i = q i) : sMax p k = sMax q k := by
  unfold sMax
  rw [h 0 (by omega) (by omega)]
  exact zfor_congr _ _ _ (fun j a h1 h2 => by rw [h j (by omega) (by omega)])
theorem sMin_c {p q : Int → Int} {k : Nat} (h : ∀ i : Int, 0 ≤ i → i ≤ k → p i = q i) : sMin p k = sMin q k := by
  unfold sMin
  rw [h 0 (by omega) (by omega)]
  exact zfor_congr _ _ _ (fun j a h1 h2 => by rw [h j (by omega) (by omega)])
theorem sSpread_c {n : Int} {p q : Int → Int} (h : PE n p q) : sSpread n p = sSpread n q := by
  unfold sSpread
  by_cases h2 : n < 2
  · rw [if_pos h2, if_pos h2]
  · rw [if_neg h2, if_neg h2, sMax_c (fun i h0 h1 => h i h0 (by omega)), sMin_c (fun i h0 h1 => h i h0 (by omega))]
theorem sTaken_c {n : Int} {p q : Int → Int} {v b : Int} (h : PE n p q) : sTaken n p v b = sTaken n q v b := by
  unfold sTaken
  exact zany_congr _ _ (fun j h1 h2 => by rw [h j (by omega) (by omega)])
theorem sNear_c {n : Int} {p q : Int → Int} {i : Int} (h : PE n p q) (h0 : 0 ≤ i) (h1 : i < n) : sNear n p i = sNear n q i := by
  unfold sNear
  rw [zfor_congr _ _ _ (fun j a q1 q2 => by rw [h j (by omega) (by omega), h i h0 h1])]
theorem sPlain_c {n : Int} {p q g k : Int → Int} {i : Int} (h : PE n p q) (hg : GE n g k) (h0 : 0 ≤ i) (h1 : i < n) : sPlain n p g i = sPlain n q k i := by
  unfold sPlain
  refine zfor_congr _ _ _ (fun j a q1 q2 => ?_)
  by_cases hj : j = i
  · rw [if_pos hj, if_pos hj]
  · rw [if_neg hj, if_neg hj, h j (by omega) (by omega), h i h0 h1, hg i j h0 h1 (by omega) (by omega) (fun e => hj e.symm)]
theorem sHeld_c {n r : Int} {e1 e2 ln f1 f2 fl p q : Int → Int} {i to : Int} (h : PE n p q) (hr : RE n r e1 e2 ln f1 f2 fl) (h0 : 0 ≤ i) (h1 : i < n) : sHeld r e1 e2 ln p i to = sHeld r f1 f2 fl q i to := by
  unfold sHeld
  refine zany_congr _ _ (fun k q1 q2 => ?_)
  obtain ⟨a1, a2, a3, a4, a5, a6, a7⟩ := hr k (by omega) (by omega)
  have ep : p (if e1 k = i then e2 k else e1 k) = q (if e1 k = i then e2 k else e1 k) := by
    split
    · exact h _ a6 a7
    · exact h _ a4 a5
  rw [ep, ← a1, ← a2, ← a3, h i h0 h1]
theorem sCome_c {n r : Int} {e1 e2 ln f1 f2 fl p q : Int → Int} {i : Int} (hn : 0 ≤ n) (h : PE n p q) (hr : RE n r e1 e2 ln f1 f2 fl) (h0 : 0 ≤ i) (h1 : i < n) : PE n (sCome n r e1 e2 ln i p) (sCome n r f1 f2 fl i q) := by
  unfold sCome
  have hrg := sNear_rng (p := p) (i := i) hn
  rw [← sNear_c h h0 h1]
  by_cases hz : sNear n p i < 0
  · rw [if_pos hz, if_pos hz]; exact h
  · rw [if_neg hz, if_neg hz]
    have e1' := h (sNear n p i) (by omega) (by omega)
    rw [← e1', ← h i h0 h1, ← sHeld_c h hr h0 h1]
    split
    · exact h.u rfl
    · exact h
theorem sOff_c {n r : Int} {e1 e2 ln f1 f2 fl : Int → Int} {i w : Int} (hr : RE n r e1 e2 ln f1 f2 fl) (h0 : 0 ≤ i) (h1 : i < n) : ∀ (k : Nat) (p q : Int → Int) (bu : Int), PE n p q → PE n (sOff n r e1 e2 ln i w k (p, bu)).1 (sOff n r f1 f2 fl i w k (q, bu)).1 ∧ (sOff n r e1 e2 ln i w k (p, bu)).2 = (sOff n r f1 f2 fl i w k (q, bu)).2
  | 0, p, q, bu, h => ⟨h, rfl⟩
  | k + 1, p, q, bu, h => by
    rw [sOff, sOff]
    dsimp only
    have e1' := h i h0 h1
    have e2' := sHeld_c (to := p i + w) h hr h0 h1
    have e3' := sTaken_c (v := p i + w) (b := i) h
    by_cases c1 : p i + w < 0 ∨ 99 < p i + w ∨ sHeld r e1 e2 ln p i (p i + w) = true
    · rw [if_pos c1, if_pos (show q i + w < 0 ∨ 99 < q i + w ∨ sHeld r f1 f2 fl q i (q i + w) = true from by rw [← e1', ← e2']; exact c1)]
      exact ⟨h, rfl⟩
    · rw [if_neg c1, if_neg (show ¬ (q i + w < 0 ∨ 99 < q i + w ∨ sHeld r f1 f2 fl q i (q i + w) = true) from by rw [← e1', ← e2']; exact c1)]
      by_cases c2 : sTaken n p (p i + w) i = true
      · rw [if_pos c2, if_pos (show sTaken n q (q i + w) i = true from by rw [← e1', ← e3']; exact c2)]
        exact ⟨h, rfl⟩
      · rw [if_neg c2, if_neg (show ¬ sTaken n q (q i + w) i = true from by rw [← e1', ← e3']; exact c2)]
        exact sOff_c hr h0 h1 k _ _ bu (h.u (by rw [e1']))
theorem sOne_c {n r : Int} {t t' g g' e1 e2 ln f1 f2 fl : Int → Int} {fest : Bool} {i : Int} {p q : Int → Int} {bu : Int} (hn : 0 ≤ n) (ht : PE n t t') (hg : GE n g g') (hr : RE n r e1 e2 ln f1 f2 fl) (h0 : 0 ≤ i) (h1 : i < n) (h : PE n p q) : PE n (sOne n t g r e1 e2 ln fest i (p, bu)).1 (sOne n t' g' r f1 f2 fl fest i (q, bu)).1 ∧ (sOne n t g r e1 e2 ln fest i (p, bu)).2 = (sOne n t' g' r f1 f2 fl fest i (q, bu)).2 := by
  unfold sOne
  by_cases hf : fest = true
  · rw [if_pos hf, if_pos hf]
    exact ⟨sCome_c hn h hr h0 h1, rfl⟩
  · rw [if_neg hf, if_neg hf]
    dsimp only
    rw [← ht i h0 h1, ← sPlain_c h hg h0 h1]
    exact sOff_c hr h0 h1 _ _ _ bu h
theorem sAll_c {n r : Int} {t t' g g' e1 e2 ln f1 f2 fl : Int → Int} {fest : Bool} {p q : Int → Int} {bu : Int} (hn : 0 ≤ n) (ht : PE n t t') (hg : GE n g g') (hr : RE n r e1 e2 ln f1 f2 fl) (h : PE n p q) : PE n (sAll n t g r e1 e2 ln fest (p, bu)).1 (sAll n t' g' r f1 f2 fl fest (q, bu)).1 ∧ (sAll n t g r e1 e2 ln fest (p, bu)).2 = (sAll n t' g' r f1 f2 fl fest (q, bu)).2 :=
  zfor_rel (f := fun i s => sOne n t g r e1 e2 ln fest i s) (g := fun i s => sOne n t' g' r f1 f2 fl fest i s) (P := fun a c => PE n a.1 c.1 ∧ a.2 = c.2) n.toNat 0 (p, bu) (q, bu) ⟨h, rfl⟩ (fun j a c h1 h2 h3 => by
    obtain ⟨pa, ba⟩ := a
    obtain ⟨pc, bc⟩ := c
    obtain ⟨h4, h5⟩ := h3
    dsimp only at h4 h5
    subst h5
    exact sOne_c hn ht hg hr (by omega) (by omega) h4)
theorem sDay_c {n r hol : Int} {t t' g g' e1 e2 ln f1 f2 fl : Int → Int} {s u : (Int → Int) × Int × Int} (hn : 0 ≤ n) (ht : PE n t t') (hg : GE n g g') (hr : RE n r e1 e2 ln f1 f2 fl) (h : PE n s.1 u.1) (h2 : s.2 = u.2) : PE n (sDay n t g r e1 e2 ln hol s).1 (sDay n t' g' r f1 f2 fl hol u).1 ∧ (sDay n t g r e1 e2 ln hol s).2 = (sDay n t' g' r f1 f2 fl hol u).2 := by
  obtain ⟨p, bu, dy⟩ := s
  obtain ⟨q, bv, dz⟩ := u
  cases h2
  have := sAll_c (fest := sFest hol dy) (bu := bu) hn ht hg hr h
  unfold sDay
  dsimp only at this ⊢
  exact ⟨this.1, by rw [this.2]⟩
theorem sDays_c {n r hol : Int} {t t' g g' e1 e2 ln f1 f2 fl : Int → Int} {k : Nat} {s u : (Int → Int) × Int × Int} (hn : 0 ≤ n) (ht : PE n t t') (hg : GE n g g') (hr : RE n r e1 e2 ln f1 f2 fl) (h : PE n s.1 u.1) (h2 : s.2 = u.2) : PE n (sDays n t g r e1 e2 ln hol k s).1 (sDays n t' g' r f1 f2 fl hol k u).1 ∧ (sDays n t g r e1 e2 ln hol k s).2 = (sDays n t' g' r f1 f2 fl hol k u).2 :=
  zfor_rel (f := fun _ s => sDay n t g r e1 e2 ln hol s) (g := fun _ s => sDay n t' g' r f1 f2 fl hol s) (P := fun a c => PE n a.1 c.1 ∧ a.2 = c.2) k 0 s u ⟨h, h2⟩ (fun j a c h1 h2 h3 => sDay_c hn ht hg hr h3.1 h3.2)
