/-! ===== both sides: alike firths are advised alike ===== -/
theorem VEQ.holyA {W V : zVw} (h : VEQ W V) (n a : Int) : sHoly W n a = sHoly V n a := by
  unfold sHoly
  exact zfor_congr _ _ _ (fun v a _ _ => by rw [(h.hol v).spread])
theorem VEQ.kindA {W V : zVw} (h : VEQ W V) (i n a : Int) : sKind W i n a = sKind V i n a := by
  unfold sKind
  exact zfor_congr _ _ _ (fun v a _ _ => by rw [(h.kind i v).spread])
theorem VEQ.slackA {W V : zVw} (h : VEQ W V) (k n v : Int) : ∀ L : Nat, sSlack W k n v L = sSlack V k n v L
  | 0 => rfl
  | L + 1 => by rw [sSlack, sSlack, (h.len k (L + 1)).spread, VEQ.slackA h k n v L]
theorem VEQ.matchA {W V : zVw} (h : VEQ W V) (len : Int) : sMatch W len = sMatch V len := by
  unfold sMatch
  have h1 : W.1 = V.1 := h.1
  rw [← h1, h.spread 30]
  refine zfor_congr _ _ _ (fun i a i0 i1 => zfor_congr _ _ _ (fun j a j0 j1 => ?_))
  rw [(h.rope len (by omega) (show i < W.1 by omega) (by omega) (show j < W.1 by omega)).spread]
theorem VEQ.frayA {W V : zVw} (h : VEQ W V) : sFray W = sFray V := by
  unfold sFray
  have h4 : W.2.2.2.1 = V.2.2.2.1 := h.2.2.2.1
  rw [← h4, h.bumps 30]
  refine zfor_congr _ _ _ (fun k a k0 k1 => ?_)
  rw [(h.drop k0 (by omega)).bumps]
theorem VEQ.sootheA {W V : zVw} (h : VEQ W V) : sSootheM W = sSootheM V := by
  unfold sSootheM
  have h1 : W.1 = V.1 := h.1
  rw [← h1, h.spread 30]
  refine zfor_congr _ _ _ (fun i a i0 i1 => zfor_congr _ _ _ (fun j a j0 j1 => ?_))
  rw [(h.grudge i j 0).spread]
theorem vGrudge_0 {W : zVw} {i j : Int} (h : W.2.2.1 (5 * i + j) = 0) : vGrudge W i j 0 = W := by
  obtain ⟨n, t, g, r, e1, e2, ln, hol, p, bu, dy⟩ := W
  have h : g (5 * i + j) = 0 := h
  have q := zu_id (f := g) (k := 5 * i + j)
  rw [h] at q
  show (n, t, zu g (5 * i + j) 0, r, e1, e2, ln, hol, p, bu, dy) = _
  rw [q]
theorem sSoothe_e {W : zVw} : sSootheC W = sSootheM W := by
  unfold sSootheC sSootheM
  refine (zfor_rel (fun (a c : Int × Int) => a = c ∧ a.2 ≤ vSpread W 30) _ _ _ _ ⟨rfl, Int.le_refl _⟩ (fun i a c i0 i1 h => ?_)).1
  refine zfor_rel (fun (a c : Int × Int) => a = c ∧ a.2 ≤ vSpread W 30) _ _ _ _ h (fun j a c j0 j1 h => ?_)
  obtain ⟨rfl, h2⟩ := h
  by_cases e : i = j
  · rw [if_pos (Or.inl e), if_pos e]; exact ⟨rfl, h2⟩
  · by_cases g0 : W.2.2.1 (5 * i + j) = 0
    · rw [if_pos (Or.inr g0), if_neg e, vGrudge_0 g0]
      unfold sJ
      rw [if_neg (by omega)]
      exact ⟨rfl, h2⟩
    · rw [if_neg (by intro z; exact z.elim e g0), if_neg e]
      refine ⟨rfl, ?_⟩
      unfold sJ
      split
      · dsimp only; omega
      · exact h2
theorem vSp_b {W : zVw} (h0 : 0 ≤ W.1) (h : sPB W.1 (vS0 W).1) (k : Nat) : 0 ≤ vSpread W k ∧ vSpread W k ≤ 99 := sSpread_bd h0 (vDays_bd h0 h)
theorem zfor_1 {α : Type} {f : Int → α → α} {i : Int} {k : Nat} {a : α} : zfor f i (k + 1) a = zfor f (i + 1) k (f i a) := rfl
theorem sHoly_b {W : zVw} (h0 : 0 ≤ W.1) (h : sPB W.1 (vS0 W).1) (n : Int) : sHoly W n 100 = sHoly W n 1000000 := by
  have b := vSp_b (W := vHol W 0) h0 h n.toNat
  have e : sJ 0 (vSpread (vHol W 0) n.toNat) (-4, 100) = sJ 0 (vSpread (vHol W 0) n.toNat) (-4, 1000000) := by
    unfold sJ
    rw [if_pos (by dsimp only; omega), if_pos (by dsimp only; omega)]
  unfold sHoly
  exact (zfor_1 (k := 6)).trans ((congrArg (zfor _ (0 + 1) 6) e).trans (zfor_1 (k := 6)).symm)
theorem sKind_b {W : zVw} (h0 : 0 ≤ W.1) (h : sPB W.1 (vS0 W).1) (i n : Int) : sKind W i n 100 = sKind W i n 1000000 := by
  have b := vSp_b (W := vKind W i 0) h0 h n.toNat
  have e : sJ 0 (vSpread (vKind W i 0) n.toNat) (-4, 100) = sJ 0 (vSpread (vKind W i 0) n.toNat) (-4, 1000000) := by
    unfold sJ
    rw [if_pos (by dsimp only; omega), if_pos (by dsimp only; omega)]
  unfold sKind
  exact (zfor_1 (k := 3)).trans ((congrArg (zfor _ (0 + 1) 3) e).trans (zfor_1 (k := 3)).symm)
theorem sSo_c {W : zVw} {num num' : Int} {sb sw sp sb' sw' sp' : Int → Int} (hn : num = num') (h : ∀ k, 0 ≤ k → k < num → sb k = sb' k ∧ sw k = sw' k ∧ sp k = sp' k) : sSo W num sb sw sp = sSo W num' sb' sw' sp' := by
  subst hn
  unfold sSo
  rw [zany_congr _ _ (fun j a b => by
    obtain ⟨q1, q2, q3⟩ := h j a (by omega)
    rw [q1, q2, q3])]
theorem sBits_c {f g : Int → Bool} (h : ∀ v, 0 ≤ v → v ≤ 3 → f v = g v) : sBits f 4 = sBits g 4 := by
  unfold sBits
  exact zfor_congr _ _ _ (fun v a v0 v1 => by rw [h v v0 (by omega)])
theorem sCn_c {f g : Int → Bool} (h : ∀ v, 0 ≤ v → v ≤ 3 → f v = g v) (u : Nat) (hu : u ≤ 4) : sCn f u = sCn g u := by
  unfold sCn
  exact zfor_congr _ _ _ (fun v a v0 v1 => by rw [h v v0 (by omega)])
theorem sCrs_c {W : zVw} {i : Int} {f g : Int → Bool} {C : Int → Int} (h : ∀ v, 0 ≤ v → v ≤ 3 → f v = g v) (hc : sCrs W i f 4 C) : sCrs W i g 4 C := by
  intro u u1 u2 n j n0 n1 j0 j1
  rw [← sCn_c h u (by omega)]
  exact hc u u1 (by rw [h u (by omega) (by omega)]; exact u2) n j n0 n1 j0 j1
theorem sAsk_c {W V : zVw} {i : Int} {f g : Int → Bool} (h : VEQ W V) (hf : ∀ v, 0 ≤ v → v ≤ 3 → f v = g v) (h5 : W.1 ≤ 5) : sAskS W.1 (sCn f 4) (sCan W i f) = sAskS V.1 (sCn g 4) (sCan V i g) := by
  have h1 : W.1 = V.1 := h.1
  rw [sCn_c hf 4 (by omega)]
  exact sAskS_c h (sCrs_c hf (sCan_ok h5)) (sCan_ok (by omega))
/-! ===== no two isles at one fathom ===== -/
def sPD (n : Int) (p : Int → Int) : Prop := ∀ i j, 0 ≤ i → i < n → 0 ≤ j → j < n → i ≠ j → p i ≠ p j
theorem sPD.u {n : Int} {p : Int → Int} {i v : Int} (h : sPD n p) (hv : ∀ j, 0 ≤ j → j < n → j ≠ i → p j ≠ v) : sPD n (zu p i v) := by
  intro x y x0 x1 y0 y1 hxy
  by_cases cx : x = i
  · subst cx
    rw [zu_s, zu_n (fun e => hxy e.symm)]
    exact fun e => hv y y0 y1 (fun z => hxy z.symm) e.symm
  · rw [zu_n cx]
    by_cases cy : y = i
    · subst cy
      rw [zu_s]
      exact hv x x0 x1 cx
    · rw [zu_n cy]
      exact h x y x0 x1 y0 y1 hxy
theorem zany_f {f : Int → Bool} : ∀ (k : Nat) (i : Int), zany f i k = false → ∀ j : Int, i ≤ j → j < i + k → f j = false
  | 0, i, _, j, h1, h2 => by omega
  | k + 1, i, h, j, h1, h2 => by
    rw [zany, Bool.or_eq_false_iff] at h
    by_cases c : j = i
    · rw [c]; exact h.1
    · exact zany_f k (i + 1) h.2 j (by omega) (by omega)
theorem sTaken_f {n : Int} {p : Int → Int} {v but : Int} (h : sTaken n p v but = false) : ∀ j, 0 ≤ j → j < n → j ≠ but → p j ≠ v := by
  intro j j0 j1 hj e
  have q := zany_f _ _ h j j0 (by omega)
  simp only [decide_eq_false_iff_not] at q
  exact q ⟨hj, e⟩
theorem zany_t {f : Int → Bool} : ∀ (k : Nat) (i : Int), (∀ j : Int, i ≤ j → j < i + k → f j = false) → zany f i k = false
  | 0, i, _ => rfl
  | k + 1, i, h => by
    rw [zany, h i (by omega) (by omega), zany_t k (i + 1) (fun j a b => h j (by omega) (by omega))]
    rfl
theorem sOff_pd {n r : Int} {e1 e2 ln : Int → Int} {i way : Int} : ∀ (k : Nat) (s : (Int → Int) × Int), sPD n s.1 → sPD n (sOff n r e1 e2 ln i way k s).1
  | 0, s, h => h
  | k + 1, s, h => by
    rw [sOff]
    split
    · exact h
    · split
      · exact h
      · rename_i hq
        exact sOff_pd k _ (h.u (sTaken_f (by simpa using hq)))
theorem sNear_min {n : Int} {p : Int → Int} {i : Int} (h : 0 ≤ sNear n p i) : ∀ j, 0 ≤ j → j < n → j ≠ i → sSz (p i - p (sNear n p i)) ≤ sSz (p i - p j) := by
  have q := zfor_ind (f := fun j (a : Int × Int) => if j ≠ i ∧ sSz (p i - p j) < a.1 then (sSz (p i - p j), j) else a) (P := fun x a => (a.2 = -4 ∨ a.1 = sSz (p i - p a.2)) ∧ ∀ j, 0 ≤ j → j < x → j ≠ i → a.1 ≤ sSz (p i - p j)) n.toNat 0 (100, -4) ⟨Or.inl rfl, fun j a b c => by omega⟩ (fun x a x0 x1 ih => by
    obtain ⟨h1, h2⟩ := ih
    split
    · rename_i hc
      refine ⟨Or.inr rfl, fun j j0 j1 hj => ?_⟩
      dsimp only
      by_cases e : j = x
      · rw [e]; exact Int.le_refl _
      · have := h2 j j0 (by omega) hj
        omega
    · rename_i hc
      refine ⟨h1, fun j j0 j1 hj => ?_⟩
      by_cases e : j = x
      · subst e
        exact Int.not_lt.mp (fun w => hc ⟨hj, w⟩)
      · exact h2 j j0 (by omega) hj)
  intro j j0 j1 hj
  have e : sNear n p i = (zfor (fun j (a : Int × Int) => if j ≠ i ∧ sSz (p i - p j) < a.1 then (sSz (p i - p j), j) else a) 0 n.toNat (100, -4)).2 := rfl
  rw [e] at h ⊢
  generalize zfor (fun j (a : Int × Int) => if j ≠ i ∧ sSz (p i - p j) < a.1 then (sSz (p i - p j), j) else a) 0 n.toNat (100, -4) = a at q h ⊢
  obtain ⟨q1, q2⟩ := q
  rcases q1 with w | w
  · omega
  · rw [← w]
    exact q2 j j0 (by omega) hj
theorem sCome_pd {n r : Int} {e1 e2 ln : Int → Int} {i : Int} {p : Int → Int} (h : sPD n p) : sPD n (sCome n r e1 e2 ln i p) := by
  unfold sCome
  split
  · exact h
  · rename_i hnn
    have hm := sNear_min (n := n) (p := p) (i := i) (by omega)
    split
    · rename_i hc
      refine h.u (fun j j0 j1 hj e => ?_)
      have q := hm j j0 j1 hj
      rw [e] at q
      have hc := hc.1
      generalize p (sNear n p i) = y at q hc
      generalize p i = x at q hc
      unfold zsg sSz at q
      unfold sSz at hc
      repeat' split at q
      all_goals (split at hc <;> omega)
    · exact h
theorem sAll_pd {n r : Int} {t g e1 e2 ln : Int → Int} {fest : Bool} {s : (Int → Int) × Int} (h : sPD n s.1) : sPD n (sAll n t g r e1 e2 ln fest s).1 :=
  zfor_ind (f := fun i s => sOne n t g r e1 e2 ln fest i s) (P := fun _ s => sPD n s.1) n.toNat 0 s h (fun j a _ _ h3 => by
    unfold sOne
    split
    · exact sCome_pd h3
    · exact sOff_pd _ _ h3)
theorem vDays_pd {W : zVw} {k : Nat} (h : sPD W.1 (vS0 W).1) : sPD W.1 (vDays W k).1 := by
  obtain ⟨n, t, g, r, e1, e2, ln, hol, p, bu, dy⟩ := W
  exact zfor_ind (f := fun _ s => sDay n t g r e1 e2 ln hol s) (P := fun _ s => sPD n s.1) k 0 (p, bu, dy) h (fun j a _ _ h3 => sAll_pd h3)
/-- whether a fathom is free for an isle, told by each side -/
theorem sTaken_e {n : Int} {p q : Int → Int} {v i : Int} (h : sPD n p) (he : PE n p q) (i0 : 0 ≤ i) (i1 : i < n) : (sTaken n p v i = false) ↔ (q i = v ∨ mTaken n q v = false) := by
  constructor
  · intro hf
    have w := sTaken_f hf
    by_cases c : q i = v
    · exact Or.inl c
    · refine Or.inr (zany_t _ _ (fun j j0 j1 => decide_eq_false (fun e => ?_)))
      by_cases d : j = i
      · rw [d] at e; exact c e
      · exact w j j0 (by omega) d (by rw [he j j0 (by omega)]; exact e)
  · intro hf
    refine zany_t _ _ (fun j j0 j1 => decide_eq_false (fun e => ?_))
    rcases hf with c | c
    · exact h j i j0 (by omega) i0 i1 e.1 (by rw [e.2, he i i0 i1, c])
    · have w := zany_f _ _ c j j0 (by omega)
      simp only [decide_eq_false_iff_not] at w
      exact w (by rw [← he j j0 (by omega)]; exact e.2)
/-! ===== a text that is taken ===== -/
theorem DI.pd {t : Int → Int} {L : Int} {D : zDr} {c fn p : Int} {b : zDr × Int} (hD : sPD D.1.1 (dP D)) (h : sLn0 t L D c fn p = .ok b) : sPD b.1.1.1 (dP b.1) := by
  obtain ⟨⟨n, tt, g, r, e1, e2, ln, hol, pp, bu, dy⟩, td, fe, hi⟩ := D
  unfold sLn0 at h
  split at h
  · cases h
  · split at h
    · unfold sLc0 at h
      split at h
      · cases h
      · split at h
        · split at h
          · cases h
          · cases h; exact hD
        · cases h
    · split at h
      · unfold sLr0 at h
        split at h
        · split at h
          · cases h
          · split at h
            · cases h
            · cases h; exact hD
        · cases h
      · split at h
        · unfold sLf0 at h
          split at h
          · split at h
            · cases h
            · cases h; exact hD
          · cases h
        · unfold sLi0 at h
          split at h
          · split at h
            · cases h
            · rename_i a ha
              split at h
              · cases h
              · rename_i hq
                cases h
                have w := sTaken_f (Bool.eq_false_iff.mpr hq)
                have hD : sPD n pp := hD
                show sPD (n + 1) (zu pp n a.1)
                intro x y x0 x1 y0 y1 hxy
                have w : ∀ j, 0 ≤ j → j < n → j ≠ -4 → pp j ≠ a.1 := w
                by_cases cx : x = n
                · subst cx
                  rw [zu_s, zu_n (fun e => hxy e.symm)]
                  exact fun e => w y y0 (by omega) (by omega) e.symm
                · rw [zu_n cx]
                  by_cases cy : y = n
                  · subst cy
                    rw [zu_s]
                    exact w x x0 (by omega) (by omega)
                  · rw [zu_n cy]
                    exact hD x y x0 (by omega) y0 (by omega) hxy
          · cases h
theorem sTx_ok {t : Int → Int} {L : Int} : ∀ (k : Nat) (D : zDr) (p x : Int) (b : zDr × Int), p ≤ L → DI D → sPD D.1.1 (dP D) → sTx t L k D p x = .ok b → DI b.1 ∧ sPD b.1.1.1 (dP b.1) ∧ b.1.2.2.2 < b.1.1.1
  | 0, D, p, x, b, _, _, _, h => by rw [sTx] at h; cases h
  | k + 1, D, p, x, b, hp, hD, hq, h => by
    rw [sTx] at h
    split at h
    · cases h
    · rename_i a ha
      have n := sTk_ok hp ha
      split at h
      · split at h
        · rename_i c
          cases h
          exact ⟨hD, hq, c⟩
        · cases h
      · split at h
        · cases h
        · rename_i y hy
          have n2 := sLn_ok n.2.2.2.1 hD hy
          obtain ⟨q, w1, w2⟩ := sRs_ok hy
          exact sTx_ok k y.1 y.2 (x + 1) b n2.2.1 n2.2.2 (DI.pd (b := (y.1, q)) hq w1) h
