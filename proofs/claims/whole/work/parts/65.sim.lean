/-! ===== class and reference alike ===== -/
/-- what holds of a row of the reference, told number by number -/
def CI (n : Int) (c : Int → Int) : Prop := (0 ≤ n ∧ n ≤ 5) ∧ (0 ≤ c 53 ∧ c 53 ≤ 6) ∧ (0 ≤ c 54 ∧ c 54 ≤ 999) ∧ (∀ i, 0 ≤ i → i < n → 0 ≤ c (2 * i + 1) ∧ c (2 * i + 1) ≤ 99) ∧ (∀ i j, 0 ≤ i → i < n → 0 ≤ j → j < n → i ≠ j → c (2 * i + 1) ≠ c (2 * j + 1)) ∧ (∀ k, 0 ≤ k → k < 25 → 0 ≤ c (10 + k) ∧ c (10 + k) ≤ 3) ∧ (∀ i j, 0 ≤ i → i ≤ 4 → 0 ≤ j → j ≤ 4 → c (10 + (5 * i + j)) ≠ 0 → i < n ∧ j < n ∧ i ≠ j) ∧ (∀ k, 0 ≤ k → k < c 53 → 0 ≤ c (35 + 3 * k) ∧ c (35 + 3 * k) < n ∧ 0 ≤ c (36 + 3 * k) ∧ c (36 + 3 * k) < n ∧ 0 ≤ c (37 + 3 * k) ∧ c (37 + 3 * k) ≤ 30) ∧ (0 ≤ c 57 ∧ c 57 ≤ 6) ∧ (∀ k, 0 ≤ k → k < c 57 → 0 ≤ c (58 + 3 * k) ∧ c (58 + 3 * k) ≤ 20 ∧ 0 ≤ c (59 + 3 * k) ∧ c (59 + 3 * k) < n)
/-- a firth and what was seen of it are as that row tells -/
def CA (n : Int) (c : Int → Int) (m : zM) (b s : Nat) : Prop := m b 0 = n ∧ m b 4 = c 53 ∧ m b 8 = c 55 ∧ m b 9 = c 54 ∧ m b 10 = c 56 ∧ (∀ i, 0 ≤ i → i < n → m (b + 1) i = c (2 * i) ∧ m (b + 2) i = c (2 * i + 1)) ∧ (∀ k, 0 ≤ k → k < 25 → m (b + 3) k = c (10 + k)) ∧ (∀ k, 0 ≤ k → k < c 53 → m (b + 4) k = c (35 + 3 * k) ∧ m (b + 5) k = c (36 + 3 * k) ∧ m (b + 6) k = c (37 + 3 * k)) ∧ m s 0 = c 57 ∧ (∀ k, 0 ≤ k → k < c 57 → m (s + 1) k = c (58 + 3 * k) ∧ m (s + 2) k = c (59 + 3 * k) ∧ m (s + 3) k = c (60 + 3 * k))
theorem CI.c {n : Int} {c c' : Int → Int} (h : CI n c) (e : ∀ k, 0 ≤ k → k < 76 → ¬ (k < 10 ∧ k % 2 = 0) → k ≠ 55 → k ≠ 56 → c' k = c k) : CI n c' := by
  obtain ⟨a, b, d, p, q, g, z, r, s, w⟩ := h
  have e53 : c' 53 = c 53 := e 53 (by decide) (by decide) (by decide) (by decide) (by decide)
  have e54 : c' 54 = c 54 := e 54 (by decide) (by decide) (by decide) (by decide) (by decide)
  have e57 : c' 57 = c 57 := e 57 (by decide) (by decide) (by decide) (by decide) (by decide)
  refine ⟨a, by rw [e53]; exact b, by rw [e54]; exact d, fun i i0 i1 => ?_, fun i j i0 i1 j0 j1 hij => ?_, fun k k0 k1 => ?_, fun i j i0 i1 j0 j1 hz => ?_, fun k k0 k1 => ?_, by rw [e57]; exact s, fun k k0 k1 => ?_⟩
  · rw [e (2 * i + 1) (by omega) (by omega) (by omega) (by omega) (by omega)]; exact p i i0 i1
  · rw [e (2 * i + 1) (by omega) (by omega) (by omega) (by omega) (by omega), e (2 * j + 1) (by omega) (by omega) (by omega) (by omega) (by omega)]; exact q i j i0 i1 j0 j1 hij
  · rw [e (10 + k) (by omega) (by omega) (by omega) (by omega) (by omega)]; exact g k k0 k1
  · rw [e (10 + (5 * i + j)) (by omega) (by omega) (by omega) (by omega) (by omega)] at hz; exact z i j i0 i1 j0 j1 hz
  · rw [e53] at k1
    rw [e (35 + 3 * k) (by omega) (by omega) (by omega) (by omega) (by omega), e (36 + 3 * k) (by omega) (by omega) (by omega) (by omega) (by omega), e (37 + 3 * k) (by omega) (by omega) (by omega) (by omega) (by omega)]; exact r k k0 k1
  · rw [e57] at k1
    rw [e (58 + 3 * k) (by omega) (by omega) (by omega) (by omega) (by omega), e (59 + 3 * k) (by omega) (by omega) (by omega) (by omega) (by omega)]; exact w k k0 k1
theorem CA.c {n : Int} {c c' : Int → Int} {m : zM} {b s : Nat} (h : CA n c m b s) (hI : CI n c) (e : ∀ k, 0 ≤ k → k < 76 → c' k = c k) : CA n c' m b s := by
  obtain ⟨a0, a4, a8, a9, a10, p, g, r, s0, w⟩ := h
  have n5 := hI.1.2
  have r6 := hI.2.1.2
  have q6 := hI.2.2.2.2.2.2.2.2.1.2
  have e53 : c' 53 = c 53 := e 53 (by decide) (by decide)
  have e57 : c' 57 = c 57 := e 57 (by decide) (by decide)
  refine ⟨a0, by rw [e53]; exact a4, by rw [e 55 (by decide) (by decide)]; exact a8, by rw [e 54 (by decide) (by decide)]; exact a9, by rw [e 56 (by decide) (by decide)]; exact a10, fun i i0 i1 => ?_, fun k k0 k1 => ?_, fun k k0 k1 => ?_, by rw [e57]; exact s0, fun k k0 k1 => ?_⟩
  · rw [e (2 * i) (by omega) (by omega), e (2 * i + 1) (by omega) (by omega)]; exact p i i0 i1
  · rw [e (10 + k) (by omega) (by omega)]; exact g k k0 k1
  · rw [e53] at k1
    rw [e (35 + 3 * k) (by omega) (by omega), e (36 + 3 * k) (by omega) (by omega), e (37 + 3 * k) (by omega) (by omega)]; exact r k k0 k1
  · rw [e57] at k1
    rw [e (58 + 3 * k) (by omega) (by omega), e (59 + 3 * k) (by omega) (by omega), e (60 + 3 * k) (by omega) (by omega)]; exact w k k0 k1
theorem CA.m {n : Int} {c : Int → Int} {m m' : zM} {b s : Nat} (h : CA n c m b s) (e : ∀ o, (b ≤ o ∧ o ≤ b + 6) ∨ (s ≤ o ∧ o ≤ s + 3) → m' o = m o) : CA n c m' b s := by
  unfold CA at *
  rw [e b (by omega), e (b + 1) (by omega), e (b + 2) (by omega), e (b + 3) (by omega), e (b + 4) (by omega), e (b + 5) (by omega), e (b + 6) (by omega), e s (by omega), e (s + 1) (by omega), e (s + 2) (by omega), e (s + 3) (by omega)]
  exact h
theorem CI.mI {n : Int} {c : Int → Int} (h : CI n c) : mI n c := by
  obtain ⟨a, b, d, p, q, g, z, r, s, w⟩ := h
  refine ⟨a.1, a.2, b.1, b.2, fun i i0 i1 => p i i0 i1, fun i j i0 i1 j0 j1 => ?_, fun k k0 k1 => ?_⟩
  · rw [← mG_at (c := c) (k := 5 * i + j) (j := 10 + (5 * i + j)) (by omega) rfl]; exact g _ (by omega) (by omega)
  · have q6 : k < 6 := by omega
    rw [← m1_at (c := c) (k := k) ⟨k0, q6⟩ rfl, ← m2_at (c := c) (k := k) ⟨k0, q6⟩ rfl, ← m3_at (c := c) (k := k) ⟨k0, q6⟩ rfl]; exact r k k0 k1
theorem CI.sb {n : Int} {c : Int → Int} (h : CI n c) : sSB n (c 57) (sb3 c) (sw3 c) := by
  obtain ⟨a, b, d, p, q, g, z, r, s, w⟩ := h
  exact ⟨s.1, s.2, fun k k0 k1 => w k k0 k1⟩
section
variable {n : Int} {c : Int → Int} {m : zM} {b s : Nat}
theorem CA.fi (h : CA n c m b s) (hI : CI n c) : zFI m b := by
  obtain ⟨a0, a4, a8, a9, a10, p, g, r, s0, w⟩ := h
  obtain ⟨ha, hb, hd, hp, hq, hg, hz, hr, hs, hw⟩ := hI
  unfold zFI
  rw [a0, a4]
  refine ⟨ha.1, ha.2, hb.1, hb.2, fun i i0 i1 => ?_, fun i j i0 i1 j0 j1 => ?_, fun k k0 k1 => ?_⟩
  · rw [(p i i0 i1).2]; exact hp i i0 i1
  · rw [g (5 * i + j) (by omega) (by omega)]; exact hg _ (by omega) (by omega)
  · rw [(r k k0 k1).1, (r k k0 k1).2.1, (r k k0 k1).2.2]; exact hr k k0 k1
theorem CA.veq (h : CA n c m b s) (hI : CI n c) : VEQ (vC m b) (vM n c) := by
  obtain ⟨a0, a4, a8, a9, a10, p, g, r, s0, w⟩ := h
  obtain ⟨ha, hb, hd, hp, hq, hg, hz, hr, hs, hw⟩ := hI
  refine ⟨a0, ?_, ?_, a4, ?_, a8, ?_, a10, a9, by rw [a0]; exact ha.1, by rw [a4]; exact hb.1⟩
  · intro i i0 i1
    rw [a0] at i1
    rw [(p i i0 i1).1]; exact mT_at ⟨i0, by omega⟩ rfl
  · intro i j i0 i1 j0 j1 hij
    rw [a0] at i1 j1
    rw [g (5 * i + j) (by omega) (by omega)]; exact mG_at ⟨by omega, by omega⟩ rfl
  · intro k k0 k1
    rw [a4] at k1
    have q6 : k < 6 := by omega
    have q := hr k k0 k1
    rw [(r k k0 k1).1, (r k k0 k1).2.1, (r k k0 k1).2.2, a0]
    exact ⟨m1_at ⟨k0, q6⟩ rfl, m2_at ⟨k0, q6⟩ rfl, m3_at ⟨k0, q6⟩ rfl, q.1, q.2.1, q.2.2.1, q.2.2.2.1⟩
  · intro i i0 i1
    rw [a0] at i1
    exact (p i i0 i1).2
theorem CA.pd (h : CA n c m b s) (hI : CI n c) : sPD (m b 0) (m (b + 2)) := by
  obtain ⟨a0, a4, a8, a9, a10, p, g, r, s0, w⟩ := h
  intro i j i0 i1 j0 j1 hij
  rw [a0] at i1 j1
  rw [(p i i0 i1).2, (p j j0 j1).2]
  exact hI.2.2.2.2.1 i j i0 i1 j0 j1 hij
theorem CA.sb (h : CA n c m b s) (hI : CI n c) : sSB (m b 0) (m s 0) (m (s + 1)) (m (s + 2)) := by
  obtain ⟨a0, a4, a8, a9, a10, p, g, r, s0, w⟩ := h
  have q := hI.sb
  refine ⟨by rw [s0]; exact q.1, by rw [s0]; exact q.2.1, fun k k0 k1 => ?_⟩
  rw [s0] at k1
  rw [(w k k0 k1).1, (w k k0 k1).2.1, a0]
  exact q.2.2 k k0 k1
end
/-- class and reference stand alike -/
def SIM (m : zM) : Prop := (CI (m 65 3) (m 66) ∧ CA (m 65 3) (m 66) m 1 15) ∧ (m 20 0 = m 68 0 ∧ (m 68 0 = 0 ∨ m 68 0 = 1) ∧ (m 68 0 = 1 → CI (m 65 3) (fun k => m 66 (76 + k)) ∧ CA (m 65 3) (fun k => m 66 (76 + k)) m 21 28)) ∧ (m 32 0 = m 68 1 ∧ (m 68 1 = 0 ∨ m 68 1 = 1) ∧ (m 68 1 = 1 → CI (m 65 3) (fun k => m 66 (152 + k)) ∧ CA (m 65 3) (fun k => m 66 (152 + k)) m 33 40)) ∧ (m 54 = m 70 ∧ m 53 1 = m 65 10 ∧ 0 ≤ m 65 10 ∧ m 65 10 ≤ 160 ∧ ∀ j, 0 ≤ m 70 j ∧ m 70 j ≤ 127) ∧ m 53 4 = m 65 15 ∧ m 0 8 = m 65 27 ∧ ∀ k, 0 ≤ k → k ≤ 3 → m (shp k) 0 = m 73 k ∧ m (shp k) 1 = m 74 k ∧ 0 ≤ m 74 k ∧ m 74 k ≤ 40 ∧ ∀ i, 0 ≤ i → i < 40 → m (shp k + 1) i = m 75 (40 * k + i)
/-- all that stays when the firth that stands is changed -/
def kU (m m' : zM) : Prop := (∀ o, ((19 ≤ o ∧ o ≤ 52) ∨ o = 54 ∨ o = 68 ∨ o = 70 ∨ (73 ≤ o ∧ o ≤ 75)) → m' o = m o) ∧ (m' 0 8 = m 0 8 ∧ m' 53 1 = m 53 1 ∧ m' 53 4 = m 53 4 ∧ m' 65 3 = m 65 3 ∧ m' 65 10 = m 65 10 ∧ m' 65 15 = m 65 15 ∧ m' 65 27 = m 65 27) ∧ ∀ k, 76 ≤ k → k < 228 → m' 66 k = m 66 k
theorem shp_b {k : Int} (h0 : 0 ≤ k) (h1 : k ≤ 3) : 45 ≤ shp k ∧ shp k ≤ 51 := by unfold shp; omega
/-- but for whether a reading was torn -/
theorem SIM.u' {m m' : zM} (h : SIM m) (h1 : ∀ o, ((19 ≤ o ∧ o ≤ 52) ∨ o = 54 ∨ o = 68 ∨ o = 70 ∨ (73 ≤ o ∧ o ≤ 75)) → m' o = m o) (h2 : m' 0 8 = m' 65 27 ∧ m' 53 1 = m 53 1 ∧ m' 53 4 = m 53 4 ∧ m' 65 3 = m 65 3 ∧ m' 65 10 = m 65 10 ∧ m' 65 15 = m 65 15) (h3 : ∀ k, 76 ≤ k → k < 228 → m' 66 k = m 66 k) (hs : CI (m 65 3) (m' 66) ∧ CA (m 65 3) (m' 66) m' 1 15) : SIM m' := by
  obtain ⟨-, i1, i2, tp, ft, tn, sh⟩ := h
  obtain ⟨u0, u1, u4, u3, u10, u15⟩ := h2
  have e68 := h1 68 (by omega)
  have e70 := h1 70 (by omega)
  refine ⟨by rw [u3]; exact hs, ?_, ?_, ?_, by rw [u4, u15]; exact ft, u0, fun k k0 k1 => ?_⟩
  · rw [h1 20 (by omega), e68, u3]
    refine ⟨i1.1, i1.2.1, fun q => ?_⟩
    obtain ⟨w1, w2⟩ := i1.2.2 q
    exact ⟨w1.c (fun k k0 k1 _ _ _ => h3 (76 + k) (by omega) (by omega)), (w2.c w1 (fun k k0 k1 => h3 (76 + k) (by omega) (by omega))).m (fun o ho => h1 o (by omega))⟩
  · rw [h1 32 (by omega), e68, u3]
    refine ⟨i2.1, i2.2.1, fun q => ?_⟩
    obtain ⟨w1, w2⟩ := i2.2.2 q
    exact ⟨w1.c (fun k k0 k1 _ _ _ => h3 (152 + k) (by omega) (by omega)), (w2.c w1 (fun k k0 k1 => h3 (152 + k) (by omega) (by omega))).m (fun o ho => h1 o (by omega))⟩
  · rw [h1 54 (by omega), e70, u1, u10]; exact tp
  · have b := shp_b k0 k1
    rw [h1 (shp k) (by omega), h1 (shp k + 1) (by omega), h1 73 (by omega), h1 74 (by omega), h1 75 (by omega)]
    exact sh k k0 k1
theorem SIM.u {m m' : zM} (h : SIM m) (hk : kU m m') (hs : CI (m 65 3) (m' 66) ∧ CA (m 65 3) (m' 66) m' 1 15) : SIM m' := by
  obtain ⟨h1, ⟨a, b, c, d, e, f, g⟩, h3⟩ := hk
  exact h.u' h1 ⟨by rw [a, g]; exact h.2.2.2.2.2.1, b, c, d, e, f⟩ h3 hs
theorem SIM.kC {m m' : zM} (h : SIM m) (hk : kC m m') : SIM m' := by
  have e : ∀ o, ¬ (8 ≤ o ∧ o ≤ 14) → o ≠ 63 → o ≠ 64 → m' o = m o := hk
  refine h.u ⟨fun o ho => e o (by omega) (by omega) (by omega), ?_, fun k _ _ => by rw [e 66 (by omega) (by omega) (by omega)]⟩ ?_
  · rw [e 0 (by omega) (by omega) (by omega), e 53 (by omega) (by omega) (by omega), e 65 (by omega) (by omega) (by omega)]
    exact ⟨rfl, rfl, rfl, rfl, rfl, rfl, rfl⟩
  · rw [e 66 (by omega) (by omega) (by omega)]
    exact ⟨h.1.1, h.1.2.m (fun o ho => e o (by omega) (by omega) (by omega))⟩
theorem SIM.kM {m m' : zM} (h : SIM m) (hk : kM m m') : SIM m' := by
  have e := hk.1
  have f := hk.2
  refine h.u ⟨fun o ho => e o (by omega) (by omega) (by omega) (by omega), ?_, fun k _ _ => by rw [e 66 (by omega) (by omega) (by omega) (by omega)]⟩ ?_
  · rw [e 0 (by omega) (by omega) (by omega) (by omega), e 53 (by omega) (by omega) (by omega) (by omega)]
    exact ⟨rfl, rfl, rfl, f 3 (by omega) (by omega) (by omega) (by omega) (by omega), f 10 (by omega) (by omega) (by omega) (by omega) (by omega), f 15 (by omega) (by omega) (by omega) (by omega) (by omega), f 27 (by omega) (by omega) (by omega) (by omega) (by omega)⟩
  · rw [e 66 (by omega) (by omega) (by omega) (by omega)]
    exact ⟨h.1.1, h.1.2.m (fun o ho => e o (by omega) (by omega) (by omega) (by omega))⟩
/-- the answer, and what the reference then answers and leaves -/
def simQ (K : zM → (Option zV → zM → Prop) → Prop) : Option zV → zM → Prop := fun r m1 => ∃ v : Int, r = some (zI v) ∧ K m1 (fun r2 m2 => r2 = some (zI v) ∧ SIM m2)
def simJ (K : zM → (Option zV → zM → Prop) → Prop) : Option zV → zM → Prop := fun r m1 => ∃ v : Int, r = some (zJ v) ∧ K m1 (fun r2 m2 => r2 = some (zJ v) ∧ SIM m2)
