/-! ===== the text, told: tokens and lines ===== -/
def zps (t : Int → Int) (L lo hi : Int) : Nat → Int → Int
  | 0, p => p
  | k + 1, p => if p < L ∧ lo ≤ t p ∧ t p ≤ hi then zps t L lo hi k (p + 1) else p
theorem zps_b {t : Int → Int} {L lo hi : Int} : ∀ (k : Nat) (p : Int), p ≤ zps t L lo hi k p ∧ zps t L lo hi k p ≤ p + k
  | 0, p => by rw [zps]; omega
  | k + 1, p => by
    rw [zps]
    have := zps_b (t := t) (L := L) (lo := lo) (hi := hi) k (p + 1)
    split <;> omega
theorem zps_at {t : Int → Int} {L lo hi : Int} : ∀ (k : Nat) (p j : Int), p ≤ j → j < zps t L lo hi k p → j < L ∧ lo ≤ t j ∧ t j ≤ hi
  | 0, p, j, h1, h2 => by rw [zps] at h2; omega
  | k + 1, p, j, h1, h2 => by
    rw [zps] at h2
    split at h2
    · rename_i h
      by_cases e : j = p
      · rw [e]; exact h
      · exact zps_at k (p + 1) j (by omega) h2
    · omega
/-- the first place from p on whose byte isn't of those -/
def ze (t : Int → Int) (L lo hi p : Int) : Int := zps t L lo hi (L - p).toNat p
theorem ze_in {t : Int → Int} {L lo hi p : Int} (h : p < L ∧ lo ≤ t p ∧ t p ≤ hi) : ze t L lo hi p = ze t L lo hi (p + 1) := by
  unfold ze
  obtain ⟨k, hk⟩ : ∃ k, (L - p).toNat = k + 1 := ⟨(L - p).toNat - 1, by omega⟩
  rw [hk, zps, if_pos h, show (L - (p + 1)).toNat = k by omega]
theorem ze_out {t : Int → Int} {L lo hi p : Int} (h : ¬ (p < L ∧ lo ≤ t p ∧ t p ≤ hi)) : ze t L lo hi p = p := by
  unfold ze
  cases (L - p).toNat with
  | zero => rfl
  | succ k => rw [zps, if_neg h]
theorem ze_ge {t : Int → Int} {L lo hi p : Int} : p ≤ ze t L lo hi p := (zps_b _ _).1
theorem ze_le {t : Int → Int} {L lo hi p : Int} (h : p ≤ L) : ze t L lo hi p ≤ L := by
  have := (zps_b (t := t) (L := L) (lo := lo) (hi := hi) (L - p).toNat p).2
  unfold ze
  omega
theorem ze_at {t : Int → Int} {L lo hi p j : Int} (h1 : p ≤ j) (h2 : j < ze t L lo hi p) : j < L ∧ lo ≤ t j ∧ t j ≤ hi := zps_at _ p j h1 h2
abbrev zEr : Type := Int × Int
abbrev zTk : Type := Int × Int × Int × Int
/-- the token from p on: what it is, its first place, the place behind it, its value -/
def sTk (t : Int → Int) (L p : Int) : Except zEr zTk :=
  if L ≤ ze t L 32 32 p then .ok (0, ze t L 32 32 p, ze t L 32 32 p, 0)
  else if t (ze t L 32 32 p) = 59 then .ok (3, ze t L 32 32 p, ze t L 32 32 p + 1, 0)
  else if 97 ≤ t (ze t L 32 32 p) ∧ t (ze t L 32 32 p) ≤ 122 then .ok (1, ze t L 32 32 p, ze t L 97 122 (ze t L 32 32 p), 0)
  else if ze t L 48 57 (ze t L 32 32 p) - ze t L 32 32 p = 1 then .ok (2, ze t L 32 32 p, ze t L 32 32 p + 1, t (ze t L 32 32 p) - 48)
  else if ze t L 48 57 (ze t L 32 32 p) - ze t L 32 32 p = 2 then .ok (2, ze t L 32 32 p, ze t L 32 32 p + 2, 10 * (t (ze t L 32 32 p) - 48) + (t (ze t L 32 32 p + 1) - 48))
  else .error (1, ze t L 32 32 p)
theorem sTk_ok {t : Int → Int} {L p : Int} {k : zTk} (hp : p ≤ L) (h : sTk t L p = .ok k) : (k.1 = 0 ∨ k.1 = 1 ∨ k.1 = 2 ∨ k.1 = 3) ∧ p ≤ k.2.1 ∧ k.2.1 ≤ k.2.2.1 ∧ k.2.2.1 ≤ L ∧ (k.1 ≠ 0 → k.2.1 < k.2.2.1) ∧ (k.1 = 2 → 0 ≤ k.2.2.2 ∧ k.2.2.2 ≤ 99) := by
  have f1 := ze_ge (t := t) (L := L) (lo := 32) (hi := 32) (p := p)
  have f2 := ze_le (t := t) (L := L) (lo := 32) (hi := 32) hp
  unfold sTk at h
  generalize ze t L 32 32 p = f at h f1 f2
  have g1 := ze_ge (t := t) (L := L) (lo := 97) (hi := 122) (p := f)
  have g2 := ze_le (t := t) (L := L) (lo := 97) (hi := 122) f2
  have g3 := fun j a b => ze_at (t := t) (L := L) (lo := 48) (hi := 57) (p := f) (j := j) a b
  by_cases c1 : L ≤ f
  · rw [if_pos c1] at h; cases h; dsimp only; omega
  · rw [if_neg c1] at h
    by_cases c2 : t f = 59
    · rw [if_pos c2] at h; cases h; dsimp only; omega
    · rw [if_neg c2] at h
      by_cases c3 : 97 ≤ t f ∧ t f ≤ 122
      · rw [if_pos c3] at h
        have g4 := ze_in (t := t) (L := L) (lo := 97) (hi := 122) (p := f) ⟨by omega, c3.1, c3.2⟩
        have g5 := ze_ge (t := t) (L := L) (lo := 97) (hi := 122) (p := f + 1)
        cases h; dsimp only; omega
      · rw [if_neg c3] at h
        by_cases c4 : ze t L 48 57 f - f = 1
        · rw [if_pos c4] at h
          have a := g3 f (by omega) (by omega)
          cases h; dsimp only; omega
        · rw [if_neg c4] at h
          by_cases c5 : ze t L 48 57 f - f = 2
          · rw [if_pos c5] at h
            have a := g3 f (by omega) (by omega)
            have b := g3 (f + 1) (by omega) (by omega)
            cases h; dsimp only; omega
          · rw [if_neg c5] at h; cases h
/-- a number within bounds: its value, the place behind it, its first place -/
def sNum (t : Int → Int) (L p lo hi : Int) : Except zEr (Int × Int × Int) := match sTk t L p with
  | .error e => .error e
  | .ok k => if k.1 = 2 then (if lo ≤ k.2.2.2 ∧ k.2.2.2 ≤ hi then .ok (k.2.2.2, k.2.2.1, k.2.1) else .error (3, k.2.1)) else .error (2, k.2.1)
def sStp (t : Int → Int) (L p : Int) : Except zEr Int := match sTk t L p with
  | .error e => .error e
  | .ok k => if k.1 = 3 then .ok k.2.2.1 else .error (2, k.2.1)
theorem sNum_ok {t : Int → Int} {L p lo hi : Int} {a : Int × Int × Int} (hp : p ≤ L) (h : sNum t L p lo hi = .ok a) : lo ≤ a.1 ∧ a.1 ≤ hi ∧ p < a.2.1 ∧ a.2.1 ≤ L := by
  unfold sNum at h
  split at h
  · cases h
  · rename_i k hk
    have q := sTk_ok hp hk
    split at h
    · rename_i h2
      split at h
      · cases h; dsimp only; omega
      · cases h
    · cases h
theorem sStp_ok {t : Int → Int} {L p q : Int} (hp : p ≤ L) (h : sStp t L p = .ok q) : p < q ∧ q ≤ L := by
  unfold sStp at h
  split at h
  · cases h
  · rename_i k hk
    have q := sTk_ok hp hk
    split at h
    · cases h; omega
    · cases h
/-- two isles: both, the place behind, the second's first place -/
def sPr (t : Int → Int) (L p : Int) : Except zEr (Int × Int × Int × Int) := match sNum t L p 0 4 with
  | .error e => .error e
  | .ok a => match sNum t L a.2.1 0 4 with
    | .error e => .error e
    | .ok b => if a.1 = b.1 then .error (3, b.2.2) else .ok (a.1, b.1, b.2.1, b.2.2)
theorem sPr_ok {t : Int → Int} {L p : Int} {a : Int × Int × Int × Int} (hp : p ≤ L) (h : sPr t L p = .ok a) : 0 ≤ a.1 ∧ a.1 ≤ 4 ∧ 0 ≤ a.2.1 ∧ a.2.1 ≤ 4 ∧ a.1 ≠ a.2.1 ∧ p < a.2.2.1 ∧ a.2.2.1 ≤ L := by
  unfold sPr at h
  split at h
  · cases h
  · rename_i x hx
    have q := sNum_ok hp hx
    split at h
    · cases h
    · rename_i y hy
      have q2 := sNum_ok (by omega) hy
      split at h
      · cases h
      · cases h; dsimp only; omega
/-- a draft: a firth, which sulks were told, whether a feast, the highest isle named -/
abbrev zDr : Type := zVw × (Int → Int) × Int × Int
def dIsle : zDr → Int → Int → zDr := fun ((n, t, g, r, e1, e2, ln, hol, p, bu, dy), td, fe, hi) kd v => ((n + 1, zu t n kd, g, r, e1, e2, ln, hol, zu p n v, bu, dy), td, fe, hi)
def dGr (D : zDr) (i j v : Int) : zDr := (vGrudge D.1 i j v, zu D.2.1 (5 * i + j) 1, D.2.2.1, max D.2.2.2 (max i j))
def dRope (D : zDr) (i j v : Int) : zDr := (vRope D.1 i j v, D.2.1, D.2.2.1, max D.2.2.2 (max i j))
def dFeast (D : zDr) (v : Int) : zDr := (vHol D.1 v, D.2.1, 1, D.2.2.2)
def dP (D : zDr) : Int → Int := (vS0 D.1).1
def dR (D : zDr) : Int := D.1.2.2.2.1
/-- a line but for its end: the draft behind it and the place -/
def sLi0 (t : Int → Int) (L : Int) (D : zDr) (kd fn p : Int) : Except zEr (zDr × Int) := if D.1.1 < 5 then (match sNum t L p 0 99 with
  | .error e => .error e
  | .ok a => if sTaken D.1.1 (dP D) a.1 (-4) = true then .error (4, a.2.2) else .ok (dIsle D kd a.1, a.2.1)) else .error (5, fn)
def sLc0 (t : Int → Int) (L : Int) (D : zDr) (p : Int) : Except zEr (zDr × Int) := match sPr t L p with
  | .error e => .error e
  | .ok a => if D.2.1 (5 * a.1 + a.2.1) = 0 then (match sNum t L a.2.2.1 0 3 with
    | .error e => .error e
    | .ok b => .ok (dGr D a.1 a.2.1 b.1, b.2.1)) else .error (4, a.2.2.2)
def sLr0 (t : Int → Int) (L : Int) (D : zDr) (fn p : Int) : Except zEr (zDr × Int) := if dR D < 6 then (match sPr t L p with
  | .error e => .error e
  | .ok a => match sNum t L a.2.2.1 1 30 with
    | .error e => .error e
    | .ok b => .ok (dRope D a.1 a.2.1 b.1, b.2.1)) else .error (5, fn)
def sLf0 (t : Int → Int) (L : Int) (D : zDr) (fn p : Int) : Except zEr (zDr × Int) := if D.2.2.1 = 0 then (match sNum t L p 0 6 with
  | .error e => .error e
  | .ok b => .ok (dFeast D b.1, b.2.1)) else .error (4, fn)
def sLn0 (t : Int → Int) (L : Int) (D : zDr) (c fn p : Int) : Except zEr (zDr × Int) := if c = -4 then .error (2, fn) else if c = 4 then sLc0 t L D p else if c = 5 then sLr0 t L D fn p else if c = 6 then sLf0 t L D fn p else sLi0 t L D c fn p
/-- the end of a line -/
def sRs (t : Int → Int) (L : Int) (x : Except zEr (zDr × Int)) : Except zEr (zDr × Int) := match x with
  | .error e => .error e
  | .ok b => match sStp t L b.2 with
    | .error e => .error e
    | .ok q => .ok (b.1, q)
def sLn (t : Int → Int) (L : Int) (D : zDr) (c fn p : Int) : Except zEr (zDr × Int) := sRs t L (sLn0 t L D c fn p)
/-- which line a name begins -/
def sNm (t : Int → Int) (f q : Int) : Int :=
  if q - f = 5 ∧ t f = 112 ∧ t (f + 1) = 108 ∧ t (f + 2) = 97 ∧ t (f + 3) = 105 ∧ t (f + 4) = 110 then 0
  else if q - f = 5 ∧ t f = 112 ∧ t (f + 1) = 114 ∧ t (f + 2) = 111 ∧ t (f + 3) = 117 ∧ t (f + 4) = 100 then 1
  else if q - f = 4 ∧ t f = 102 ∧ t (f + 1) = 111 ∧ t (f + 2) = 110 ∧ t (f + 3) = 100 then 2
  else if q - f = 5 ∧ t f = 119 ∧ t (f + 1) = 105 ∧ t (f + 2) = 100 ∧ t (f + 3) = 111 ∧ t (f + 4) = 119 then 3
  else if q - f = 5 ∧ t f = 99 ∧ t (f + 1) = 114 ∧ t (f + 2) = 111 ∧ t (f + 3) = 115 ∧ t (f + 4) = 115 then 4
  else if q - f = 4 ∧ t f = 114 ∧ t (f + 1) = 111 ∧ t (f + 2) = 112 ∧ t (f + 3) = 101 then 5
  else if q - f = 5 ∧ t f = 102 ∧ t (f + 1) = 101 ∧ t (f + 2) = 97 ∧ t (f + 3) = 115 ∧ t (f + 4) = 116 then 6
  else -4
theorem sNm_b {t : Int → Int} {f q : Int} : sNm t f q = -4 ∨ (0 ≤ sNm t f q ∧ sNm t f q ≤ 6) := by
  unfold sNm
  split
  · omega
  · split
    · omega
    · split
      · omega
      · split
        · omega
        · split
          · omega
          · split
            · omega
            · split <;> omega
/-- the text from p on, with ln lines behind: the draft and how many lines -/
def sTx (t : Int → Int) (L : Int) : Nat → zDr → Int → Int → Except zEr (zDr × Int)
  | 0, _, _, _ => .error (2, 0)
  | k + 1, D, p, ln => match sTk t L p with
    | .error e => .error e
    | .ok a => if a.1 = 0 then (if D.2.2.2 < D.1.1 then .ok (D, ln) else .error (6, a.2.1)) else match sLn t L D (if a.1 = 1 then sNm t a.2.1 a.2.2.1 else -4) a.2.1 a.2.2.1 with
      | .error e => .error e
      | .ok b => sTx t L k b.1 b.2 (ln + 1)
/-- what every draft keeps to -/
def DI (D : zDr) : Prop := 0 ≤ D.1.1 ∧ D.1.1 ≤ 5 ∧ 0 ≤ dR D ∧ dR D ≤ 6 ∧ -1 ≤ D.2.2.2 ∧ D.2.2.2 ≤ 4 ∧ (∀ i, 0 ≤ i → i < D.1.1 → 0 ≤ dP D i ∧ dP D i ≤ 99) ∧ (∀ k, 0 ≤ k → k < 25 → 0 ≤ D.1.2.2.1 k ∧ D.1.2.2.1 k ≤ 3) ∧ (∀ i j, 0 ≤ i → i ≤ 4 → 0 ≤ j → j ≤ 4 → D.1.2.2.1 (5 * i + j) ≠ 0 → i ≤ D.2.2.2 ∧ j ≤ D.2.2.2 ∧ i ≠ j) ∧ (∀ k, 0 ≤ k → k < dR D → 0 ≤ D.1.2.2.2.2.1 k ∧ D.1.2.2.2.2.1 k ≤ D.2.2.2 ∧ 0 ≤ D.1.2.2.2.2.2.1 k ∧ D.1.2.2.2.2.2.1 k ≤ D.2.2.2 ∧ 1 ≤ D.1.2.2.2.2.2.2.1 k ∧ D.1.2.2.2.2.2.2.1 k ≤ 30) ∧ (D.2.2.1 = 0 ∨ D.2.2.1 = 1) ∧ (∀ k, 0 ≤ k → k < 25 → D.2.1 k = 0 ∨ D.2.1 k = 1) ∧ D.1.2.2.2.2.2.2.2.2.2 = (0, 0) ∧ 0 ≤ D.1.2.2.2.2.2.2.2.1 ∧ D.1.2.2.2.2.2.2.2.1 ≤ 6
theorem DI.isle {D : zDr} {kd v : Int} (h : DI D) (h5 : D.1.1 < 5) (h0 : 0 ≤ v) (h9 : v ≤ 99) : DI (dIsle D kd v) := by
  obtain ⟨⟨n, t, g, r, e1, e2, ln, hol, p, bu, dy⟩, td, fe, hi⟩ := D
  obtain ⟨a1, a2, a3, a4, a5, a6, a7, a8, a9, a10, a11, a12, a13, a14, a15⟩ := h
  simp only [dR, dP, vS0] at a1 a2 a3 a4 a5 a6 a7 a8 a9 a10 a11 a12 a13 a14 a15 h5
  simp only [DI, dIsle, dR, dP, vS0]
  refine ⟨by omega, by omega, a3, a4, a5, a6, fun i b0 b1 => ?_, a8, a9, a10, a11, a12, a13, a14, a15⟩
  by_cases c : i = n
  · subst c; rw [zu_s]; omega
  · rw [zu_n c]; exact a7 i b0 (by omega)
theorem DI.gr {D : zDr} {i j v : Int} (h : DI D) (i0 : 0 ≤ i) (i4 : i ≤ 4) (j0 : 0 ≤ j) (j4 : j ≤ 4) (hij : i ≠ j) (h0 : 0 ≤ v) (h3 : v ≤ 3) : DI (dGr D i j v) := by
  obtain ⟨⟨n, t, g, r, e1, e2, ln, hol, p, bu, dy⟩, td, fe, hi⟩ := D
  obtain ⟨a1, a2, a3, a4, a5, a6, a7, a8, a9, a10, a11, a12, a13, a14, a15⟩ := h
  simp only [dR, dP, vS0] at a1 a2 a3 a4 a5 a6 a7 a8 a9 a10 a11 a12 a13 a14 a15
  simp only [DI, dGr, vGrudge, dR, dP, vS0]
  refine ⟨a1, a2, a3, a4, by omega, by omega, a7, fun k b0 b1 => ?_, fun x y x0 x4 y0 y4 hz => ?_, fun k b0 b1 => ?_, a11, fun k b0 b1 => ?_, a13, a14, a15⟩
  · by_cases c : k = 5 * i + j
    · subst c; rw [zu_s]; omega
    · rw [zu_n c]; exact a8 k b0 b1
  · by_cases c : 5 * x + y = 5 * i + j
    · have : x = i ∧ y = j := by omega
      omega
    · rw [zu_n c] at hz
      have := a9 x y x0 x4 y0 y4 hz
      omega
  · have := a10 k b0 b1
    omega
  · by_cases c : k = 5 * i + j
    · subst c; rw [zu_s]; exact Or.inr rfl
    · rw [zu_n c]; exact a12 k b0 b1
theorem DI.rope {D : zDr} {i j v : Int} (h : DI D) (h6 : dR D < 6) (i0 : 0 ≤ i) (i4 : i ≤ 4) (j0 : 0 ≤ j) (j4 : j ≤ 4) (h0 : 1 ≤ v) (h3 : v ≤ 30) : DI (dRope D i j v) := by
  obtain ⟨⟨n, t, g, r, e1, e2, ln, hol, p, bu, dy⟩, td, fe, hi⟩ := D
  obtain ⟨a1, a2, a3, a4, a5, a6, a7, a8, a9, a10, a11, a12, a13, a14, a15⟩ := h
  simp only [dR, dP, vS0] at a1 a2 a3 a4 a5 a6 a7 a8 a9 a10 a11 a12 a13 a14 a15 h6
  simp only [DI, dRope, vRope, dR, dP, vS0]
  refine ⟨a1, a2, by omega, by omega, by omega, by omega, a7, a8, fun x y x0 x4 y0 y4 hz => ?_, fun k b0 b1 => ?_, a11, a12, a13, a14, a15⟩
  · have := a9 x y x0 x4 y0 y4 hz
    omega
  · by_cases c : k = r
    · subst c; rw [zu_s, zu_s, zu_s]; omega
    · rw [zu_n c, zu_n c, zu_n c]
      have := a10 k b0 (by omega)
      omega
theorem DI.feast {D : zDr} {v : Int} (h : DI D) (h0 : 0 ≤ v) (h6 : v ≤ 6) : DI (dFeast D v) := by
  obtain ⟨⟨n, t, g, r, e1, e2, ln, hol, p, bu, dy⟩, td, fe, hi⟩ := D
  obtain ⟨a1, a2, a3, a4, a5, a6, a7, a8, a9, a10, a11, a12, a13, a14, a15⟩ := h
  exact ⟨a1, a2, a3, a4, a5, a6, a7, a8, a9, a10, Or.inr rfl, a12, a13, h0, h6⟩
theorem sLn0_ok {t : Int → Int} {L : Int} {D : zDr} {c fn p : Int} {b : zDr × Int} (hp : p ≤ L) (hD : DI D) (h : sLn0 t L D c fn p = .ok b) : p < b.2 ∧ b.2 ≤ L ∧ DI b.1 := by
  unfold sLn0 at h
  split at h
  · cases h
  · split at h
    · unfold sLc0 at h
      split at h
      · cases h
      · rename_i a ha
        have q1 := sPr_ok hp ha
        split at h
        · split at h
          · cases h
          · rename_i x hx
            have q2 := sNum_ok (by omega) hx
            cases h
            exact ⟨by dsimp only; omega, by dsimp only; omega, hD.gr q1.1 q1.2.1 q1.2.2.1 q1.2.2.2.1 q1.2.2.2.2.1 q2.1 q2.2.1⟩
        · cases h
    · split at h
      · unfold sLr0 at h
        split at h
        · rename_i h6
          split at h
          · cases h
          · rename_i a ha
            have q1 := sPr_ok hp ha
            split at h
            · cases h
            · rename_i x hx
              have q2 := sNum_ok (by omega) hx
              cases h
              exact ⟨by dsimp only; omega, by dsimp only; omega, hD.rope h6 q1.1 q1.2.1 q1.2.2.1 q1.2.2.2.1 q2.1 q2.2.1⟩
        · cases h
      · split at h
        · unfold sLf0 at h
          split at h
          · split at h
            · cases h
            · rename_i x hx
              have q2 := sNum_ok hp hx
              cases h
              exact ⟨by dsimp only; omega, by dsimp only; omega, hD.feast q2.1 q2.2.1⟩
          · cases h
        · unfold sLi0 at h
          split at h
          · rename_i h5
            split at h
            · cases h
            · rename_i x hx
              have q2 := sNum_ok hp hx
              split at h
              · cases h
              · cases h
                exact ⟨by dsimp only; omega, by dsimp only; omega, hD.isle h5 q2.1 q2.2.1⟩
          · cases h
theorem sRs_ok {t : Int → Int} {L : Int} {x : Except zEr (zDr × Int)} {b : zDr × Int} (h : sRs t L x = .ok b) : ∃ p, x = .ok (b.1, p) ∧ sStp t L p = .ok b.2 := by
  unfold sRs at h
  split at h
  · cases h
  · rename_i y
    split at h
    · cases h
    · rename_i q hq
      cases h
      exact ⟨y.2, rfl, hq⟩
theorem sLn_ok {t : Int → Int} {L : Int} {D : zDr} {c fn p : Int} {b : zDr × Int} (hp : p ≤ L) (hD : DI D) (h : sLn t L D c fn p = .ok b) : p < b.2 ∧ b.2 ≤ L ∧ DI b.1 := by
  obtain ⟨q, h1, h2⟩ := sRs_ok h
  have a := sLn0_ok hp hD h1
  have c := sStp_ok (p := q) (by have := a.2.1; exact this) h2
  have a1 : p < q := a.1
  exact ⟨by omega, c.2, a.2.2⟩
