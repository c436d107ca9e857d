/-! ===== the text, told: tokens and lines ===== -/
def zps (t : Int → Int) (L lo hi : Int) : Nat → Int → Int
  | 0, p => p
  | k + 1, p => if p < L ∧ lo ≤ t p ∧ t p ≤ hi then zps t L lo hi k (p + 1) else p
theorem zps_b {t : Int → Int} {L lo hi : Int} : ∀ (k : Nat) (p : Int), p ≤ zps t L lo hi k p ∧ zps t L lo hi k p ≤ p + k
  | 0, p => by rw [zps]; omega
  | k + 1, p => by
    rw [zps]
    have := zps_b (t := t) (L := L) (lo := lo) (hi := hi) k (p + 1)
    split <;> omega
theorem zps_at {t : Int → Int} {L lo hi : Int} : ∀ (k : Nat) (p j : Int), p ≤ j → j < zps t L lo hi k p → j < L ∧ lo ≤ t j ∧ t j ≤ hi
  | 0, p, j, h1, h2 => by rw [zps] at h2; omega
  | k + 1, p, j, h1, h2 => by
    rw [zps] at h2
    split at h2
    · rename_i h
      by_cases e : j = p
      · rw [e]; exact h
      · exact zps_at k (p + 1) j (by omega) h2
    · omega
/-- the first place from p on whose byte isn't of those -/
def ze (t : Int → Int) (L lo hi p : Int) : Int := zps t L lo hi (L - p).toNat p
theorem ze_in {t : Int → Int} {L lo hi p : Int} (h : p < L ∧ lo ≤ t p ∧ t p ≤ hi) : ze t L lo hi p = ze t L lo hi (p + 1) := by
  unfold ze
  obtain ⟨k, hk⟩ : ∃ k, (L - p).toNat = k + 1 := ⟨(L - p).toNat - 1, by omega⟩
  rw [hk, zps, if_pos h, show (L - (p + 1)).toNat = k by omega]
theorem ze_out {t : Int → Int} {L lo hi p : Int} (h : ¬ (p < L ∧ lo ≤ t p ∧ t p ≤ hi)) : ze t L lo hi p = p := by
  unfold ze
  cases (L - p).toNat with
  | zero => rfl
  | succ k => rw [zps, if_neg h]
theorem ze_ge {t : Int → Int} {L lo hi p : Int} : p ≤ ze t L lo hi p := (zps_b _ _).1
theorem ze_le {t : Int → Int} {L lo hi p : Int} (h : p ≤ L) : ze t L lo hi p ≤ L := by
  have := (zps_b (t := t) (L := L) (lo := lo) (hi := hi) (L - p).toNat p).2
  unfold ze
  omega
theorem ze_at {t : Int → Int} {L lo hi p j : Int} (h1 : p ≤ j) (h2 : j < ze t L lo hi p) : j < L ∧ lo ≤ t j ∧ t j ≤ hi := zps_at _ p j h1 h2
abbrev zEr : Type := Int × Int
abbrev zTk : Type := Int × Int × Int × Int
/-- the token from p on: what it is, its first place, the place behind it, its value -/
def sTk (t : Int → Int) (L p : Int) : Except zEr zTk :=
  if L ≤ ze t L 32 32 p then .ok (0, ze t L 32 32 p, ze t L 32 32 p, 0)
  else if t (ze t L 32 32 p) = 59 then .ok (3, ze t L 32 32 p, ze t L 32 32 p + 1, 0)
  else if 97 ≤ t (ze t L 32 32 p) ∧ t (ze t L 32 32 p) ≤ 122 then .ok (1, ze t L 32 32 p, ze t L 97 122 (ze t L 32 32 p), 0)
  else if ze t L 48 57 (ze t L 32 32 p) - ze t L 32 32 p = 1 then .ok (2, ze t L 32 32 p, ze t L 32 32 p + 1, t (ze t L 32 32 p) - 48)
  else if ze t L 48 57 (ze t L 32 32 p) - ze t L 32 32 p = 2 then .ok (2, ze t L 32 32 p, ze t L 32 32 p + 2, 10 * (t (ze t L 32 32 p) - 48) + (t (ze t L 32 32 p + 1) - 48))
  else .error (1, ze t L 32 32 p)
theorem sTk_ok {t : Int → Int} {L p : Int} {k : zTk} (hp : p ≤ L) (h : sTk t L p = .ok k) : (k.1 = 0 ∨ k.1 = 1 ∨ k.1 = 2 ∨ k.1 = 3) ∧ p ≤ k.2.1 ∧ k.2.1 ≤ k.2.2.1 ∧ k.2.2.1 ≤ L ∧ (k.1 ≠ 0 → k.2.1 < k.2.2.1) ∧ (k.1 = 2 → 0 ≤ k.2.2.2 ∧ k.2.2.2 ≤ 99) := by
  have f1 := ze_ge (t := t) (L := L) (lo := 32) (hi := 32) (p := p)
  have f2 := ze_le (t := t) (L := L) (lo := 32) (hi := 32) hp
  unfold sTk at h
  generalize ze t L 32 32 p = f at h f1 f2
  have g1 := ze_ge (t := t) (L := L) (lo := 97) (hi := 122) (p := f)
  have g2 := ze_le (t := t) (L := L) (lo := 97) (hi := 122) f2
  have g3 := fun j a b => ze_at (t := t) (L := L) (lo := 48) (hi := 57) (p := f) (j := j) a b
  by_cases c1 : L ≤ f
  · rw [if_pos c1] at h; cases h; dsimp only; omega
  · rw [if_neg c1] at h
    by_cases c2 : t f = 59
    · rw [if_pos c2] at h; cases h; dsimp only; omega
    · rw [if_neg c2] at h
      by_cases c3 : 97 ≤ t f ∧ t f ≤ 122
      · rw [if_pos c3] at h
        have g4 := ze_in (t := t) (L := L) (lo := 97) (hi := 122) (p := f) ⟨by omega, c3.1, c3.2⟩
        have g5 := ze_ge (t := t) (L := L) (lo := 97) (hi := 122) (p := f + 1)
        cases h; dsimp only; omega
      · rw [if_neg c3] at h
        by_cases c4 : ze t L 48 57 f - f = 1
        · rw [if_pos c4] at h
          have a := g3 f (by omega) (by omega)
          cases h; dsimp only; omega
        · rw [if_neg c4] at h
          by_cases c5 : ze t L 48 57 f - f = 2
          · rw [if_pos c5] at h
            have a := g3 f (by omega) (by omega)
            have b := g3 (f + 1) (by omega) (by omega)
            cases h; dsimp only; omega
          · rw [if_neg c5] at h; cases h
/-- a number within bounds: its value, the place behind it, its first place -/
def sNum (t : Int → Int) (L p lo hi : Int) : Except zEr (Int × Int × Int) := match sTk t L p with
  | .error e => .error e
  | .ok k => if k.1 = 2 then (if lo ≤ k.2.2.2 ∧ k.2.2.2 ≤ hi then .ok (k.2.2.2, k.2.2.1, k.2.1) else .error (3, k.2.1)) else .error (2, k.2.1)
def sStp (t : Int → Int) (L p : Int) : Except zEr Int := match sTk t L p with
  | .error e => .error e
  | .ok k => if k.1 = 3 then .ok k.2.2.1 else .error (2, k.2.1)
theorem sNum_ok {t : Int → Int} {L p lo hi : Int} {a : Int × Int × Int} (hp : p ≤ L) (h : sNum t L p lo hi = .ok a) : lo ≤ a.1 ∧ a.1 ≤ hi ∧ p < a.2.1 ∧ a.2.1 ≤ L := by
  unfold sNum at h
  split at h
  · cases h
  · rename_i k hk
    have q := sTk_ok hp hk
    split at h
    · rename_i h2
      split at h
      · cases h; dsimp only; omega
      · cases h
    · cases h
theorem sStp_ok {t : Int → Int} {L p q : Int} (hp : p ≤ L) (h : sStp t L p = .ok q) : p < q ∧ q ≤ L := by
  unfold sStp at h
  split at h
  · cases h
  · rename_i k hk
    have q := sTk_ok hp hk
    split at h
    · cases h; omega
    · cases h
/-- two isles: both, the place behind, the second's first place -/
def sPr (t : Int → Int) (L p : Int) : Except zEr (Int × Int × Int × Int) := match sNum t L p 0 4 with
  | .error e => .error e
  | .ok a => match sNum t L a.2.1 0 4 with
    | .error e => .error e
    | .ok b => if a.1 = b.1 then .error (3, b.2.2) else .ok (a.1, b.1, b.2.1, b.2.2)
theorem sPr_ok {t : Int → Int} {L p : Int} {a : Int × Int × Int × Int} (hp : p ≤ L) (h : sPr t L p = .ok a) : 0 ≤ a.1 ∧ a.1 ≤ 4 ∧ 0 ≤ a.2.1 ∧ a.2.1 ≤ 4 ∧ a.1 ≠ a.2.1 ∧ p < a.2.2.1 ∧ a.2.2.1 ≤ L := by
  unfold sPr at h
  split at h
  · cases h
  · rename_i x hx
    have q := sNum_ok hp hx
    split at h
    · cases h
    · rename_i y hy
      have q2 := sNum_ok (by omega) hy
      split at h
      · cases h
      · cases h; dsimp only; omega
/-- a draft: a firth, which sulks were told, whether a feast, the highest isle named -/
abbrev zDr : Type := zVw × (Int → Int) × Int × Int
def dIsle : zDr → Int → Int → zDr := fun ((n, t, g, r, e1, e2, ln, hol, p, bu, dy), td, fe, hi) kd v => ((n + 1, zu t n kd, g, r, e1, e2, ln, hol, zu p n v, bu, dy), td, fe, hi)
def dGr (D : zDr) (i j v : Int) : zDr := (vGrudge D.1 i j v, zu D.2.1 (5 * i + j) 1, D.2.2.1, max D.2.2.2 (max i j))
def dRope (D : zDr) (i j v : Int) : zDr := (vRope D.1 i j v, D.2.1, D.2.2.1, max D.2.2.2 (max i j))
def dFeast (D : zDr) (v : Int) : zDr := (vHol D.1 v, D.2.1, 1, D.2.2.2)
def dP (D : zDr) : Int → Int := (vS0 D.1).1
def dR (D : zDr) : Int := D.1.2.2.2.1
def sLi (t : Int → Int) (L : Int) (D : zDr) (kd fn p : Int) : Except zEr (zDr × Int) := if D.1.1 < 5 then (match sNum t L p 0 99 with
  | .error e => .error e
  | .ok a => if sTaken D.1.1 (dP D) a.1 (-4) = true then .error (4, a.2.2) else match sStp t L a.2.1 with
    | .error e => .error e
    | .ok q => .ok (dIsle D kd a.1, q)) else .error (5, fn)
def sLc (t : Int → Int) (L : Int) (D : zDr) (p : Int) : Except zEr (zDr × Int) := match sPr t L p with
  | .error e => .error e
  | .ok a => if D.2.1 (5 * a.1 + a.2.1) = 0 then (match sNum t L a.2.2.1 0 3 with
    | .error e => .error e
    | .ok b => match sStp t L b.2.1 with
      | .error e => .error e
      | .ok q => .ok (dGr D a.1 a.2.1 b.1, q)) else .error (4, a.2.2.2)
def sLr (t : Int → Int) (L : Int) (D : zDr) (fn p : Int) : Except zEr (zDr × Int) := if dR D < 6 then (match sPr t L p with
  | .error e => .error e
  | .ok a => match sNum t L a.2.2.1 1 30 with
    | .error e => .error e
    | .ok b => match sStp t L b.2.1 with
      | .error e => .error e
      | .ok q => .ok (dRope D a.1 a.2.1 b.1, q)) else .error (5, fn)
def sLf (t : Int → Int) (L : Int) (D : zDr) (fn p : Int) : Except zEr (zDr × Int) := if D.2.2.1 = 0 then (match sNum t L p 0 6 with
  | .error e => .error e
  | .ok b => match sStp t L b.2.1 with
    | .error e => .error e
    | .ok q => .ok (dFeast D b.1, q)) else .error (4, fn)
def sLn (t : Int → Int) (L : Int) (D : zDr) (c fn p : Int) : Except zEr (zDr × Int) := if c = -4 then .error (2, fn) else if c = 4 then sLc t L D p else if c = 5 then sLr t L D fn p else if c = 6 then sLf t L D fn p else sLi t L D c fn p
/-- which line a name begins -/
def sNm (t : Int → Int) (f q : Int) : Int :=
  if q - f = 5 ∧ t f = 112 ∧ t (f + 1) = 108 ∧ t (f + 2) = 97 ∧ t (f + 3) = 105 ∧ t (f + 4) = 110 then 0
  else if q - f = 5 ∧ t f = 112 ∧ t (f + 1) = 114 ∧ t (f + 2) = 111 ∧ t (f + 3) = 117 ∧ t (f + 4) = 100 then 1
  else if q - f = 4 ∧ t f = 102 ∧ t (f + 1) = 111 ∧ t (f + 2) = 110 ∧ t (f + 3) = 100 then 2
  else if q - f = 5 ∧ t f = 119 ∧ t (f + 1) = 105 ∧ t (f + 2) = 100 ∧ t (f + 3) = 111 ∧ t (f + 4) = 119 then 3
  else if q - f = 5 ∧ t f = 99 ∧ t (f + 1) = 114 ∧ t (f + 2) = 111 ∧ t (f + 3) = 115 ∧ t (f + 4) = 115 then 4
  else if q - f = 4 ∧ t f = 114 ∧ t (f + 1) = 111 ∧ t (f + 2) = 112 ∧ t (f + 3) = 101 then 5
  else if q - f = 5 ∧ t f = 102 ∧ t (f + 1) = 101 ∧ t (f + 2) = 97 ∧ t (f + 3) = 115 ∧ t (f + 4) = 116 then 6
  else -4
theorem sNm_b {t : Int → Int} {f q : Int} : sNm t f q = -4 ∨ (0 ≤ sNm t f q ∧ sNm t f q ≤ 6) := by
  unfold sNm
  split
  · omega
  · split
    · omega
    · split
      · omega
      · split
        · omega
        · split
          · omega
          · split
            · omega
            · split <;> omega
/-- the text from p on, with ln lines behind: the draft and how many lines -/
def sTx (t : Int → Int) (L : Int) : Nat → zDr → Int → Int → Except zEr (zDr × Int)
  | 0, _, _, _ => .error (2, 0)
  | k + 1, D, p, ln => match sTk t L p with
    | .error e => .error e
    | .ok a => if a.1 = 0 then (if D.2.2.2 < D.1.1 then .ok (D, ln) else .error (6, a.2.1)) else match sLn t L D (if a.1 = 1 then sNm t a.2.1 a.2.2.1 else -4) a.2.1 a.2.2.1 with
      | .error e => .error e
      | .ok b => sTx t L k b.1 b.2 (ln + 1)
theorem sLn_ok {t : Int → Int} {L : Int} {D : zDr} {c fn p : Int} {b : zDr × Int} (hp : p ≤ L) (h : sLn t L D c fn p = .ok b) : p < b.2 ∧ b.2 ≤ L := by
  unfold sLn at h
  split at h
  · cases h
  · split at h
    · unfold sLc at h
      split at h
      · cases h
      · rename_i a ha
        have q1 := sPr_ok hp ha
        split at h
        · split at h
          · cases h
          · rename_i x hx
            have q2 := sNum_ok (by omega) hx
            split at h
            · cases h
            · rename_i y hy
              have q3 := sStp_ok (by omega) hy
              cases h; dsimp only; omega
        · cases h
    · split at h
      · unfold sLr at h
        split at h
        · split at h
          · cases h
          · rename_i a ha
            have q1 := sPr_ok hp ha
            split at h
            · cases h
            · rename_i x hx
              have q2 := sNum_ok (by omega) hx
              split at h
              · cases h
              · rename_i y hy
                have q3 := sStp_ok (by omega) hy
                cases h; dsimp only; omega
        · cases h
      · split at h
        · unfold sLf at h
          split at h
          · split at h
            · cases h
            · rename_i x hx
              have q2 := sNum_ok hp hx
              split at h
              · cases h
              · rename_i y hy
                have q3 := sStp_ok (by omega) hy
                cases h; dsimp only; omega
          · cases h
        · unfold sLi at h
          split at h
          · split at h
            · cases h
            · rename_i x hx
              have q2 := sNum_ok hp hx
              split at h
              · cases h
              · split at h
                · cases h
                · rename_i y hy
                  have q3 := sStp_ok (by omega) hy
                  cases h; dsimp only; omega
          · cases h
