/-! ===== the reference: a day ===== -/
theorem zfor_congr {α : Type} {f g : Int → α → α} : ∀ (k : Nat) (i : Int) (a : α), (∀ (j : Int) (a : α), i ≤ j → j < i + k → f j a = g j a) → zfor f i k a = zfor g i k a
  | 0, _, _, _ => rfl
  | k + 1, i, a, h => by
    rw [zfor, zfor, h i a (by omega) (by omega)]
    exact zfor_congr k (i + 1) (g i a) (fun j a h1 h2 => h j a (by omega) (by omega))
theorem zany_congr {f g : Int → Bool} : ∀ (k : Nat) (i : Int), (∀ j : Int, i ≤ j → j < i + k → f j = g j) → zany f i k = zany g i k
  | 0, _, _ => rfl
  | k + 1, i, h => by
    rw [zany, zany, h i (by omega) (by omega), zany_congr k (i + 1) (fun j h1 h2 => h j (by omega) (by omega))]
theorem zfor_rel {α β : Type} {f : Int → α → α} {g : Int → β → β} (P : α → β → Prop) : ∀ (k : Nat) (i : Int) (a : α) (c : β), P a c → (∀ (j : Int) (a : α) (c : β), i ≤ j → j < i + k → P a c → P (f j a) (g j c)) → P (zfor f i k a) (zfor g i k c)
  | 0, _, _, _, h, _ => h
  | k + 1, i, a, c, h, hs => by
    rw [zfor, zfor]
    exact zfor_rel P k (i + 1) _ _ (hs i a c (by omega) (by omega) h) (fun j a c h1 h2 h3 => hs j a c (by omega) (by omega) h3)
theorem mNear_eq {n : Int} {p : Int → Int} {i : Int} (hn : 0 ≤ n) (hp : sPB n p) (hi0 : 0 ≤ i) (hi1 : i < n) : mNear n p i = sNear n p i := by
  unfold mNear sNear
  have hpi := hp i hi0 hi1
  have := zfor_rel (f := fun j f => if j ≠ i ∧ (f = -4 ∨ sSz (p i - p j) < sSz (p i - p f)) then j else f) (g := fun j (a : Int × Int) => if j ≠ i ∧ sSz (p i - p j) < a.1 then (sSz (p i - p j), j) else a) (P := fun f a => f = a.2 ∧ (f = -4 → a.1 = 100) ∧ (f ≠ -4 → a.1 = sSz (p i - p f))) n.toNat 0 (-4) (100, -4) ⟨rfl, fun _ => rfl, fun h => absurd rfl h⟩ (by
    intro j f a h1 h2 ⟨e1, e2, e3⟩
    have hpj := hp j h1 (by omega)
    have hs := sSz_le (x := p i - p j) (m := 99) (by omega) (by omega)
    by_cases hf : f = -4
    · have a1 := e2 hf
      by_cases hj : j = i
      · rw [if_neg (fun q => q.1 hj), if_neg (fun q => q.1 hj)]
        exact ⟨e1, e2, e3⟩
      · rw [if_pos ⟨hj, Or.inl hf⟩, if_pos ⟨hj, by omega⟩]
        exact ⟨rfl, fun q => by omega, fun _ => rfl⟩
    · have a1 := e3 hf
      by_cases hj : j ≠ i ∧ sSz (p i - p j) < a.1
      · rw [if_pos hj, if_pos ⟨hj.1, Or.inr (by rw [← a1]; exact hj.2)⟩]
        exact ⟨rfl, fun q => by omega, fun _ => rfl⟩
      · rw [if_neg hj, if_neg (fun q => hj ⟨q.1, by rw [a1]; exact q.2.resolve_left hf⟩)]
        exact ⟨e1, e2, e3⟩)
  exact this.1
theorem mTaken_eq {n : Int} {p : Int → Int} {v i : Int} (h : p i ≠ v) : mTaken n p v = sTaken n p v i := by
  unfold mTaken sTaken
  refine zany_congr _ _ (fun j h1 h2 => ?_)
  rw [decide_eq_decide]
  constructor
  · intro q
    refine ⟨fun e => h ?_, q⟩
    rw [← e]; exact q
  · exact fun q => q.2
/-- a row of the reference with other places, bumps, day -/
def mR (c : Int → Int) (s : (Int → Int) × Int × Int) : Int → Int := fun k => if k = 56 then s.2.1 else if k = 54 then s.2.2 else if 0 ≤ k ∧ k < 10 ∧ k % 2 = 1 then s.1 ((k - 1) / 2) else c k
/-- places that differ from a row's in its five alone -/
def mOut (c p : Int → Int) : Prop := ∀ i, ¬ (0 ≤ i ∧ i < 5) → p i = mP c i
theorem mR_P {c : Int → Int} {s : (Int → Int) × Int × Int} (h : mOut c s.1) : mP (mR c s) = s.1 := by
  funext i
  unfold mP mR
  rw [if_neg (by omega), if_neg (by omega)]
  by_cases hi : 0 ≤ i ∧ i < 5
  · rw [if_pos (by omega), show (2 * i + 1 - 1) / 2 = i by omega]
  · rw [if_neg (by omega), h i hi]; rfl
theorem mR_T {c : Int → Int} {s : (Int → Int) × Int × Int} : mT (mR c s) = mT c := by
  funext i
  unfold mT mR
  split
  · rw [if_neg (by omega), if_neg (by omega), if_neg (by omega)]
  · rfl
theorem mR_G {c : Int → Int} {s : (Int → Int) × Int × Int} : mG (mR c s) = mG c := by
  funext i
  unfold mG mR
  split
  · rw [if_neg (by omega), if_neg (by omega), if_neg (by omega)]
  · rfl
theorem mR_1 {c : Int → Int} {s : (Int → Int) × Int × Int} : m1 (mR c s) = m1 c := by
  funext i
  unfold m1 mR
  split
  · rw [if_neg (by omega), if_neg (by omega), if_neg (by omega)]
  · rfl
theorem mR_2 {c : Int → Int} {s : (Int → Int) × Int × Int} : m2 (mR c s) = m2 c := by
  funext i
  unfold m2 mR
  split
  · rw [if_neg (by omega), if_neg (by omega), if_neg (by omega)]
  · rfl
theorem mR_3 {c : Int → Int} {s : (Int → Int) × Int × Int} : m3 (mR c s) = m3 c := by
  funext i
  unfold m3 mR
  split
  · rw [if_neg (by omega), if_neg (by omega), if_neg (by omega)]
  · rfl
theorem mR_56 {c : Int → Int} {s : (Int → Int) × Int × Int} : mR c s 56 = s.2.1 := by unfold mR; rw [if_pos rfl]
theorem mR_54 {c : Int → Int} {s : (Int → Int) × Int × Int} : mR c s 54 = s.2.2 := by unfold mR; rw [if_neg (by decide), if_pos rfl]
theorem mR_k {c : Int → Int} {s : (Int → Int) × Int × Int} {k : Int} (h1 : k ≠ 56) (h2 : k ≠ 54) (h3 : 10 ≤ k) : mR c s k = c k := by unfold mR; rw [if_neg h1, if_neg h2, if_neg (by omega)]
theorem mR_53 {c : Int → Int} {s : (Int → Int) × Int × Int} : mR c s 53 = c 53 := mR_k (by decide) (by decide) (by decide)
theorem mR_55 {c : Int → Int} {s : (Int → Int) × Int × Int} : mR c s 55 = c 55 := mR_k (by decide) (by decide) (by decide)
theorem mR_self {c : Int → Int} : mR c (mP c, c 56, c 54) = c := by
  funext k
  unfold mR mP
  split
  · rename_i h; rw [h]
  · split
    · rename_i h; rw [h]
    · split
      · exact congrArg c (by omega)
      · rfl
theorem mR_p {c : Int → Int} {p : Int → Int} {bu dy i v : Int} (h0 : 0 ≤ i) (h1 : i < 5) : zu (mR c (p, bu, dy)) (2 * i + 1) v = mR c (zu p i v, bu, dy) := by
  funext k
  unfold zu mR
  by_cases hk : k = 2 * i + 1
  · rw [if_pos hk, if_neg (by omega), if_neg (by omega), if_pos (by omega)]
    dsimp only
    rw [if_pos (by omega)]
  · rw [if_neg hk]
    dsimp only
    by_cases h56 : k = 56
    · rw [if_pos h56, if_pos h56]
    · rw [if_neg h56, if_neg h56]
      by_cases h54 : k = 54
      · rw [if_pos h54, if_pos h54]
      · rw [if_neg h54, if_neg h54]
        by_cases hp : 0 ≤ k ∧ k < 10 ∧ k % 2 = 1
        · rw [if_pos hp, if_pos hp, if_neg (by omega)]
        · rw [if_neg hp, if_neg hp]
theorem mR_b {c : Int → Int} {p : Int → Int} {bu dy v : Int} : zu (mR c (p, bu, dy)) 56 v = mR c (p, v, dy) := by
  funext k
  unfold zu mR
  dsimp only
  by_cases h56 : k = 56
  · rw [if_pos h56, if_pos h56]
  · rw [if_neg h56, if_neg h56, if_neg h56]
theorem mR_d {c : Int → Int} {p : Int → Int} {bu dy v : Int} : zu (mR c (p, bu, dy)) 54 v = mR c (p, bu, v) := by
  funext k
  unfold zu mR
  dsimp only
  by_cases h54 : k = 54
  · rw [if_pos h54, if_neg (by omega), if_pos h54]
  · rw [if_neg h54]
    by_cases h56 : k = 56
    · rw [if_pos h56, if_pos h56]
    · rw [if_neg h56, if_neg h56, if_neg h54, if_neg h54]
theorem mOut.u {c p : Int → Int} {i v : Int} (h : mOut c p) (h0 : 0 ≤ i) (h1 : i < 5) : mOut c (zu p i v) := by
  intro j hj
  rw [zu_n (by omega)]
  exact h j hj
theorem mOut.s {c : Int → Int} : mOut c (mP c) := fun _ _ => rfl
theorem mI.r {n : Int} {c : Int → Int} {s : (Int → Int) × Int × Int} (h : mI n c) (ho : mOut c s.1) (hp : sPB n s.1) : mI n (mR c s) := by
  obtain ⟨h1, h2, h3, h4, h5, h6, h7⟩ := h
  unfold mI
  rw [mR_P ho, mR_G, mR_1, mR_2, mR_3, mR_53]
  exact ⟨h1, h2, h3, h4, hp, h6, h7⟩
theorem sCome_out {n r : Int} {e1 e2 ln c : Int → Int} {i : Int} {p : Int → Int} (hi0 : 0 ≤ i) (hi1 : i < 5) (h : mOut c p) : mOut c (sCome n r e1 e2 ln i p) := by
  unfold sCome
  split
  · exact h
  · split
    · exact h.u hi0 hi1
    · exact h
theorem sOff_out {n r : Int} {e1 e2 ln c : Int → Int} {i way : Int} (hi0 : 0 ≤ i) (hi1 : i < 5) : ∀ (k : Nat) (s : (Int → Int) × Int), mOut c s.1 → mOut c (sOff n r e1 e2 ln i way k s).1
  | 0, s, h => h
  | k + 1, s, h => by
    rw [sOff]
    split
    · exact h
    · split
      · exact h
      · exact sOff_out hi0 hi1 k _ (h.u hi0 hi1)
theorem sOne_out {n r : Int} {t g e1 e2 ln c : Int → Int} {fest : Bool} {i : Int} {s : (Int → Int) × Int} (hi0 : 0 ≤ i) (hi1 : i < 5) (h : mOut c s.1) : mOut c (sOne n t g r e1 e2 ln fest i s).1 := by
  unfold sOne
  split
  · exact sCome_out hi0 hi1 h
  · exact sOff_out hi0 hi1 _ _ h
theorem sAll_out {n r : Int} {t g e1 e2 ln c : Int → Int} {fest : Bool} {s : (Int → Int) × Int} (hn0 : 0 ≤ n) (hn : n ≤ 5) (h : mOut c s.1) : mOut c (sAll n t g r e1 e2 ln fest s).1 :=
  zfor_ind (f := fun i s => sOne n t g r e1 e2 ln fest i s) (P := fun _ s => mOut c s.1) n.toNat 0 s h (fun j a h1 h2 h3 => sOne_out (by omega) (by omega) h3)
theorem sDay_out {n r hol : Int} {t g e1 e2 ln c : Int → Int} {s : (Int → Int) × Int × Int} (hn0 : 0 ≤ n) (hn : n ≤ 5) (h : mOut c s.1) : mOut c (sDay n t g r e1 e2 ln hol s).1 := sAll_out hn0 hn h
