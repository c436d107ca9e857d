/-! ===== the calls that change, both sides ===== -/
theorem kU.rf {m : zM} : kU m m := ⟨fun _ _ => rfl, ⟨rfl, rfl, rfl, rfl, rfl, rfl, rfl⟩, fun _ _ _ => rfl⟩
theorem kU.z {m m' : zM} {o : Nat} {X : Int → Int} (h : kU m m') (ho : (1 ≤ o ∧ o ≤ 7) ∨ (15 ≤ o ∧ o ≤ 18) ∨ o = 67 ∨ o = 76) : kU m (zr m' o X) := by
  obtain ⟨h1, h2, h3⟩ := h
  refine ⟨fun o' ho' => by rw [zr_n (by omega)]; exact h1 o' ho', ?_, fun k k0 k1 => by rw [zr_n (by omega)]; exact h3 k k0 k1⟩
  rw [zr_n (show 0 ≠ o by omega), zr_n (show 53 ≠ o by omega), zr_n (show 65 ≠ o by omega)]
  exact h2
theorem kU.s {m m' : zM} {S : Int → Int} (h : kU m m') (hS : ∀ k, 76 ≤ k → k < 228 → S k = m' 66 k) : kU m (zr m' 66 S) := by
  obtain ⟨h1, h2, h3⟩ := h
  refine ⟨fun o' ho' => by rw [zr_n (by omega)]; exact h1 o' ho', ?_, fun k k0 k1 => by rw [zr_s, hS k k0 k1]; exact h3 k k0 k1⟩
  rw [zr_n (show 0 ≠ 66 by decide), zr_n (show 53 ≠ 66 by decide), zr_n (show 65 ≠ 66 by decide)]
  exact h2
theorem kU.c {m m' : zM} {k v : Int} (h : kU m m') (hk : k < 76) : kU m (zs m' 66 k v) := h.s (fun j j0 j1 => zu_n (by omega))
section
variable {l : Launch} {G : zG} {mem : zM}
theorem sim_loose (h : SIM mem) (v : Int) : KX5_loose l G 0 [zR 0, zI v] mem (simQ (fun m p => KX6_loose l G 1 [zR 65, zI v] m p)) := by
  refine (c_X5_loose v).imp (fun r m1 e => ?_)
  obtain ⟨rfl, rfl⟩ := e
  refine ⟨_, rfl, (c_X6_loose v).imp (fun r m2 e2 => ?_)⟩
  obtain ⟨rfl, rfl⟩ := e2
  by_cases c : v < 0 ∨ mem 1 4 < v
  · have c' : v < 0 ∨ mem 66 53 < v := by rw [← h.e4]; exact c
    simp only [if_pos c, if_pos c']
    exact ⟨trivial, h⟩
  · have c' : ¬ (v < 0 ∨ mem 66 53 < v) := by rw [← h.e4]; exact c
    simp only [if_neg c]
    simp (disch := decide) only [zs_s, zs_n, zr_s, zr_n]
    simp only [if_neg c']
    refine ⟨by rw [h.e4], h.u (by repeat first | exact kU.rf | refine kU.z ?_ (by decide) | refine kU.c ?_ (by omega)) ⟨?_, ?_⟩⟩
    · simp (disch := decide) only [zs_s, zs_n, zr_s, zr_n]; exact h.1.1.loose (by omega) (by omega)
    · simp (disch := decide) only [zs_s, zs_n, zr_s, zr_n]; exact ((h.1.2.l.loose h.1.1 (by omega) (by omega)).o (by decide)).r
theorem sim_forget (h : SIM mem) (v : Int) : KX5_forget l G 0 [zR 0, zI v] mem (simQ (fun m p => KX6_forget l G 1 [zR 65, zI v] m p)) := by
  have e57 : mem 15 0 = mem 66 57 := h.1.2.2.2.2.2.2.2.2.2.1
  refine (c_X5_forget v).imp (fun r m1 e => ?_)
  obtain ⟨rfl, rfl⟩ := e
  refine ⟨_, rfl, (c_X6_forget v).imp (fun r m2 e2 => ?_)⟩
  obtain ⟨rfl, rfl⟩ := e2
  by_cases c : v < 0 ∨ mem 15 0 < v
  · have c' : v < 0 ∨ mem 66 57 < v := by rw [← e57]; exact c
    simp only [if_pos c, if_pos c']
    exact ⟨trivial, h⟩
  · have c' : ¬ (v < 0 ∨ mem 66 57 < v) := by rw [← e57]; exact c
    simp only [if_neg c]
    simp (disch := decide) only [zs_s, zs_n, zr_s, zr_n]
    simp only [if_neg c']
    refine ⟨by rw [e57], h.u (by repeat first | exact kU.rf | refine kU.z ?_ (by decide) | refine kU.c ?_ (by omega)) ⟨?_, ?_⟩⟩
    · simp (disch := decide) only [zs_s, zs_n, zr_s, zr_n]; exact h.1.1.forget (by omega) (by omega)
    · simp (disch := decide) only [zs_s, zs_n, zr_s, zr_n]; exact ((h.1.2.l.forget h.1.1 (by omega) (by omega)).o (by decide)).r
theorem sim_feast (h : SIM mem) (v : Int) : KX5_feast l G 1 [zR 0, zI v] mem (simQ (fun m p => KX6_feast l G 1 [zR 65, zI v] m p)) := by
  have e55 : mem 1 8 = mem 66 55 := h.1.2.2.2.1
  refine (c_X5_feast v).imp (fun r m1 e => ?_)
  obtain ⟨rfl, rfl⟩ := e
  refine ⟨_, rfl, (c_X6_feast v).imp (fun r m2 e2 => ?_)⟩
  obtain ⟨rfl, rfl⟩ := e2
  by_cases c : v < 0 ∨ 6 < v
  · simp only [if_pos c]
    exact ⟨trivial, h⟩
  · simp only [if_neg c]
    simp (disch := decide) only [zs_s, zs_n, zr_s, zr_n]
    refine ⟨by rw [e55], h.u (by repeat first | exact kU.rf | refine kU.z ?_ (by decide) | refine kU.c ?_ (by omega)) ⟨?_, ?_⟩⟩
    · simp (disch := decide) only [zs_s, zs_n, zr_s, zr_n]; exact h.1.1.feast
    · simp (disch := decide) only [zs_s, zs_n, zr_s, zr_n]; exact ((h.1.2.l.feast h.1.1).o (by decide)).r
theorem sim_sulk (h : SIM mem) (i j v : Int) : KX5_sulk l G 3 [zR 0, zI i, zI j, zI v] mem (simQ (fun m p => KX6_sulk l G 3 [zR 65, zI i, zI j, zI v] m p)) := by
  refine (c_X5_sulk h.fi i j v).imp (fun r m1 e => ?_)
  obtain ⟨rfl, rfl⟩ := e
  have n5 := h.1.1.1.2
  rw [h.e0]
  by_cases c : 0 ≤ i ∧ i < mem 65 3 ∧ 0 ≤ j ∧ j < mem 65 3 ∧ i ≠ j ∧ 0 ≤ v ∧ v ≤ 3
  · simp only [if_pos c]
    refine ⟨_, rfl, (c_X6_sulk (by simp (disch := decide) only [zs_s, zs_n, zr_s, zr_n]; exact h.1.1.1.1) (by simp (disch := decide) only [zs_s, zs_n, zr_s, zr_n]; exact n5) i j v).imp (fun r m2 e2 => ?_)⟩
    obtain ⟨rfl, rfl⟩ := e2
    simp (disch := decide) only [zs_s, zs_n, zr_s, zr_n]
    simp only [if_pos c]
    refine ⟨by rw [show mem 4 (5 * i + j) = mem 66 (10 + (5 * i + j)) from h.1.2.l.2.2.2.2.2.2.1 (5 * i + j) (by omega) (by omega)], h.u (by repeat first | exact kU.rf | refine kU.z ?_ (by decide) | refine kU.c ?_ (by omega)) ⟨?_, ?_⟩⟩
    · simp (disch := decide) only [zs_s, zs_n, zr_s, zr_n]; exact h.1.1.sulk c.1 c.2.1 c.2.2.1 c.2.2.2.1 c.2.2.2.2.1 c.2.2.2.2.2.1 c.2.2.2.2.2.2
    · simp (disch := decide) only [zs_s, zs_n, zr_s, zr_n]; exact ((h.1.2.l.sulk h.1.1 c.1 c.2.1 c.2.2.1 c.2.2.2.1).o (by decide)).r
  · simp only [if_neg c]
    refine ⟨_, rfl, (c_X6_sulk h.1.1.1.1 n5 i j v).imp (fun r m2 e2 => ?_)⟩
    obtain ⟨rfl, rfl⟩ := e2
    simp only [if_neg c]
    exact ⟨trivial, h⟩
theorem sim_haul (h : SIM mem) (k v : Int) : KX5_haul l G 1 [zR 0, zI k, zI v] mem (simQ (fun m p => KX6_haul l G 2 [zR 65, zI k, zI v] m p)) := by
  refine (c_X5_haul h.fi k v).imp (fun r m1 e => ?_)
  obtain ⟨rfl, rfl⟩ := e
  have r0 := h.1.1.2.1.1
  have r6 := h.1.1.2.1.2
  rw [h.e4]
  by_cases c : 0 ≤ k ∧ k < mem 66 53 ∧ 1 ≤ v ∧ v ≤ 30
  · simp only [if_pos c]
    refine ⟨_, rfl, (c_X6_haul (by simp (disch := decide) only [zs_s, zs_n, zr_s, zr_n]; exact r0) (by simp (disch := decide) only [zs_s, zs_n, zr_s, zr_n]; exact r6) k v).imp (fun r m2 e2 => ?_)⟩
    obtain ⟨rfl, rfl⟩ := e2
    simp (disch := decide) only [zs_s, zs_n, zr_s, zr_n]
    simp only [if_pos c]
    refine ⟨by rw [(h.1.2.l.2.2.2.2.2.2.2.1 k c.1 c.2.1).2.2], h.u (by repeat first | exact kU.rf | refine kU.z ?_ (by decide) | refine kU.c ?_ (by omega)) ⟨?_, ?_⟩⟩
    · simp (disch := decide) only [zs_s, zs_n, zr_s, zr_n]; exact h.1.1.haul c.1 c.2.1 (by omega) (by omega)
    · simp (disch := decide) only [zs_s, zs_n, zr_s, zr_n]; exact ((h.1.2.l.haul h.1.1 c.1 c.2.1).o (by decide)).r
  · simp only [if_neg c]
    refine ⟨_, rfl, (c_X6_haul r0 r6 k v).imp (fun r m2 e2 => ?_)⟩
    obtain ⟨rfl, rfl⟩ := e2
    simp only [if_neg c]
    exact ⟨trivial, h⟩
theorem sim_wed (h : SIM mem) (i j v : Int) : KX5_wed l G 2 [zR 0, zI i, zI j, zI v] mem (simQ (fun m p => KX6_wed l G 3 [zR 65, zI i, zI j, zI v] m p)) := by
  refine (c_X5_wed h.fi i j v).imp (fun r m1 e => ?_)
  obtain ⟨rfl, rfl⟩ := e
  have r6 := h.1.1.2.1.2
  have e4 := h.e4
  rw [h.e0]
  by_cases c : 0 ≤ i ∧ i < mem 65 3 ∧ 0 ≤ j ∧ j < mem 65 3 ∧ i ≠ j ∧ 1 ≤ v ∧ v ≤ 30
  · by_cases c6 : mem 66 53 = 6
    · simp only [if_pos c, e4, if_pos c6, if_neg (show ¬ ((0 ≤ i ∧ i < mem 65 3 ∧ 0 ≤ j ∧ j < mem 65 3 ∧ i ≠ j ∧ 1 ≤ v ∧ v ≤ 30) ∧ mem 66 53 ≠ 6) from fun z => z.2 c6)]
      refine ⟨_, rfl, (c_X6_wed h.1.1.mI i j v).imp (fun r m2 e2 => ?_)⟩
      obtain ⟨rfl, X, rfl⟩ := e2
      simp only [if_pos c, if_pos c6, if_neg (show ¬ ((0 ≤ i ∧ i < mem 65 3 ∧ 0 ≤ j ∧ j < mem 65 3 ∧ i ≠ j ∧ 1 ≤ v ∧ v ≤ 30) ∧ mem 66 53 ≠ 6) from fun z => z.2 c6), zr_self]
      exact ⟨trivial, h.kM (kM.rf.r (by decide))⟩
    · have hc : (0 ≤ i ∧ i < mem 65 3 ∧ 0 ≤ j ∧ j < mem 65 3 ∧ i ≠ j ∧ 1 ≤ v ∧ v ≤ 30) ∧ mem 66 53 ≠ 6 := ⟨c, c6⟩
      simp only [if_pos c, e4, if_neg c6, if_pos hc]
      refine ⟨_, rfl, (c_X6_wed (by simp (disch := decide) only [zs_s, zs_n, zr_s, zr_n]; exact h.1.1.mI) i j v).imp (fun r m2 e2 => ?_)⟩
      obtain ⟨rfl, X, rfl⟩ := e2
      simp (disch := decide) only [zs_s, zs_n, zr_s, zr_n]
      simp only [if_pos c, if_neg c6, if_pos hc]
      refine ⟨trivial, h.u ((kU.s (by repeat first | exact kU.rf | refine kU.z ?_ (by decide) | refine kU.c ?_ (by omega)) (fun k k0 k1 => ?_)).z (by decide)) ⟨?_, ?_⟩⟩
      · simp (disch := decide) only [zs_s, zs_n, zr_s, zr_n]; rw [zu_n (by omega), zu_n (by omega), zu_n (by omega), zu_n (by omega)]
      · simp (disch := decide) only [zs_s, zs_n, zr_s, zr_n]; exact h.1.1.wed c.1 c.2.1 c.2.2.1 c.2.2.2.1 (by omega) (by omega) (by omega)
      · simp (disch := decide) only [zs_s, zs_n, zr_s, zr_n]
        have fin := h.1.2.l.wed (x := i) (y := j) (v := v) h.1.1 (by omega)
        rw [e4] at fin
        exact ((fin.o (by decide)).o (by decide)).r
  · simp only [if_neg c, if_neg (show ¬ ((0 ≤ i ∧ i < mem 65 3 ∧ 0 ≤ j ∧ j < mem 65 3 ∧ i ≠ j ∧ 1 ≤ v ∧ v ≤ 30) ∧ mem 1 4 ≠ 6) from fun z => c z.1)]
    refine ⟨_, rfl, (c_X6_wed h.1.1.mI i j v).imp (fun r m2 e2 => ?_)⟩
    obtain ⟨rfl, X, rfl⟩ := e2
    simp only [if_neg c, if_neg (show ¬ ((0 ≤ i ∧ i < mem 65 3 ∧ 0 ≤ j ∧ j < mem 65 3 ∧ i ≠ j ∧ 1 ≤ v ∧ v ≤ 30) ∧ mem 66 53 ≠ 6) from fun z => c z.1), zr_self]
    exact ⟨trivial, h.kM (kM.rf.r (by decide))⟩
theorem sim_see (h : SIM mem) (n i v : Int) : KX5_see l G 1 [zR 0, zI n, zI i, zI v] mem (simQ (fun m p => KX6_see l G 2 [zR 65, zI n, zI i, zI v] m p)) := by
  have e57 : mem 15 0 = mem 66 57 := h.1.2.2.2.2.2.2.2.2.2.1
  have s0 := h.1.1.2.2.2.2.2.2.2.2.1.1
  have s6 := h.1.1.2.2.2.2.2.2.2.2.1.2
  refine (c_X5_see (by rw [e57]; exact s0) (by rw [e57]; exact s6) n i v).imp (fun r m1 e => ?_)
  obtain ⟨rfl, rfl⟩ := e
  rw [h.e0]
  by_cases c : (0 ≤ n ∧ n ≤ 20) ∧ (0 ≤ i ∧ i < mem 65 3) ∧ 0 ≤ v ∧ v ≤ 99
  · by_cases c6 : mem 66 57 = 6
    · simp only [if_pos c, e57, if_pos c6, if_neg (show ¬ (((0 ≤ n ∧ n ≤ 20) ∧ (0 ≤ i ∧ i < mem 65 3) ∧ 0 ≤ v ∧ v ≤ 99) ∧ mem 66 57 ≠ 6) from fun z => z.2 c6)]
      refine ⟨_, rfl, (c_X6_see h.1.1.1.1 h.1.1.1.2 s0 s6 n i v).imp (fun r m2 e2 => ?_)⟩
      obtain ⟨rfl, rfl⟩ := e2
      simp only [if_pos c, if_pos c6, if_neg (show ¬ (((0 ≤ n ∧ n ≤ 20) ∧ (0 ≤ i ∧ i < mem 65 3) ∧ 0 ≤ v ∧ v ≤ 99) ∧ mem 66 57 ≠ 6) from fun z => z.2 c6)]
      exact ⟨trivial, h⟩
    · have hc : ((0 ≤ n ∧ n ≤ 20) ∧ (0 ≤ i ∧ i < mem 65 3) ∧ 0 ≤ v ∧ v ≤ 99) ∧ mem 66 57 ≠ 6 := ⟨c, c6⟩
      simp only [if_pos c, e57, if_neg c6, if_pos hc]
      refine ⟨_, rfl, (c_X6_see (by simp (disch := decide) only [zs_s, zs_n, zr_s, zr_n]; exact h.1.1.1.1) (by simp (disch := decide) only [zs_s, zs_n, zr_s, zr_n]; exact h.1.1.1.2) (by simp (disch := decide) only [zs_s, zs_n, zr_s, zr_n]; exact s0) (by simp (disch := decide) only [zs_s, zs_n, zr_s, zr_n]; exact s6) n i v).imp (fun r m2 e2 => ?_)⟩
      obtain ⟨rfl, rfl⟩ := e2
      simp (disch := decide) only [zs_s, zs_n, zr_s, zr_n]
      simp only [if_pos c, if_neg c6, if_pos hc]
      refine ⟨trivial, h.u (kU.s (by repeat first | exact kU.rf | refine kU.z ?_ (by decide) | refine kU.c ?_ (by omega)) (fun k k0 k1 => ?_)) ⟨?_, ?_⟩⟩
      · simp (disch := decide) only [zs_s, zs_n, zr_s, zr_n]; rw [zu_n (by omega), zu_n (by omega), zu_n (by omega), zu_n (by omega)]
      · simp (disch := decide) only [zs_s, zs_n, zr_s, zr_n]; exact h.1.1.see c.1.1 c.1.2 c.2.1.1 c.2.1.2 (by omega)
      · simp (disch := decide) only [zs_s, zs_n, zr_s, zr_n]
        have fin := h.1.2.l.see (t := n) (x := i) (v := v) h.1.1 (by omega)
        rw [e57] at fin
        exact (fin.o (by decide)).r
  · simp only [if_neg c, if_neg (show ¬ (((0 ≤ n ∧ n ≤ 20) ∧ (0 ≤ i ∧ i < mem 65 3) ∧ 0 ≤ v ∧ v ≤ 99) ∧ mem 15 0 ≠ 6) from fun z => c z.1)]
    refine ⟨_, rfl, (c_X6_see h.1.1.1.1 h.1.1.1.2 s0 s6 n i v).imp (fun r m2 e2 => ?_)⟩
    obtain ⟨rfl, rfl⟩ := e2
    simp only [if_neg c, if_neg (show ¬ (((0 ≤ n ∧ n ≤ 20) ∧ (0 ≤ i ∧ i < mem 65 3) ∧ 0 ≤ v ∧ v ≤ 99) ∧ mem 66 57 ≠ 6) from fun z => c z.1)]
    exact ⟨trivial, h⟩
theorem sim_alter (h : SIM mem) (i w v : Int) : KX5_alter l G 1 [zR 0, zI i, zI w, zI v] mem (simQ (fun m p => KX6_alter l G 2 [zR 65, zI i, zI w, zI v] m p)) := by
  have e0 := h.e0
  have n5 := h.1.1.1.2
  have hp := h.1.2.l.2.2.2.2.2.1
  refine (c_X5_alter h.fi i w v).imp (fun r m1 e => ?_)
  obtain ⟨rfl, rfl⟩ := e
  simp only [e0]
  by_cases c : (0 ≤ i ∧ i < mem 65 3) ∧ w = 0 ∧ 0 ≤ v ∧ v ≤ 3
  · simp only [if_pos c]
    refine ⟨_, rfl, (c_X6_alter (by simp (disch := decide) only [zs_s, zs_n, zr_s, zr_n]; exact h.1.1.mI) i w v).imp (fun r m2 e2 => ?_)⟩
    obtain ⟨rfl, X, rfl⟩ := e2
    simp (disch := decide) only [zs_s, zs_n, zr_s, zr_n]
    simp only [if_pos c]
    refine ⟨by rw [(hp i c.1.1 c.1.2).1], h.u ((kU.s (by repeat first | exact kU.rf | refine kU.z ?_ (by decide) | refine kU.c ?_ (by omega)) (fun k k0 k1 => ?_)).z (by decide)) ⟨?_, ?_⟩⟩
    · simp (disch := decide) only [zs_s, zs_n, zr_s, zr_n]; rw [zu_n (by omega)]
    · simp (disch := decide) only [zs_s, zs_n, zr_s, zr_n]; exact h.1.1.kindU c.1.1 c.1.2
    · simp (disch := decide) only [zs_s, zs_n, zr_s, zr_n]; exact (((h.1.2.l.kindU h.1.1 c.1.1 c.1.2).o (by decide)).o (by decide)).r
  · simp only [if_neg c]
    have hT : ((0 ≤ i ∧ i < mem 65 3) ∧ w = 1 ∧ 0 ≤ v ∧ v ≤ 99) → ((sTaken (mem 65 3) (mem 3) v i = false) ↔ (mP (mem 66) i = v ∨ mTaken (mem 65 3) (mP (mem 66)) v = false)) := fun q => sTaken_e (by have w := h.1.2.pd h.1.1; rw [e0] at w; exact w) (fun x x0 x1 => (hp x x0 x1).2) q.1.1 q.1.2
    by_cases d : ((0 ≤ i ∧ i < mem 65 3) ∧ w = 1 ∧ 0 ≤ v ∧ v ≤ 99) ∧ sTaken (mem 65 3) (mem 3) v i = false
    · have d' : ((0 ≤ i ∧ i < mem 65 3) ∧ w = 1 ∧ 0 ≤ v ∧ v ≤ 99) ∧ (mP (mem 66) i = v ∨ mTaken (mem 65 3) (mP (mem 66)) v = false) := ⟨d.1, (hT d.1).mp d.2⟩
      simp only [if_pos d]
      refine ⟨_, rfl, (c_X6_alter (by simp (disch := decide) only [zs_s, zs_n, zr_s, zr_n]; exact h.1.1.mI) i w v).imp (fun r m2 e2 => ?_)⟩
      obtain ⟨rfl, X, rfl⟩ := e2
      simp (disch := decide) only [zs_s, zs_n, zr_s, zr_n]
      simp only [if_neg c, if_pos d']
      have hf := sTaken_f d.2
      refine ⟨by rw [(hp i d.1.1.1 d.1.1.2).2], h.u ((kU.s (by repeat first | exact kU.rf | refine kU.z ?_ (by decide) | refine kU.c ?_ (by omega)) (fun k k0 k1 => ?_)).z (by decide)) ⟨?_, ?_⟩⟩
      · simp (disch := decide) only [zs_s, zs_n, zr_s, zr_n]; rw [zu_n (by omega)]
      · simp (disch := decide) only [zs_s, zs_n, zr_s, zr_n]; exact h.1.1.placeU d.1.1.1 d.1.1.2 d.1.2.2.1 d.1.2.2.2 (fun j j0 j1 hj => by rw [← (hp j j0 j1).2]; exact hf j j0 j1 hj)
      · simp (disch := decide) only [zs_s, zs_n, zr_s, zr_n]; exact (((h.1.2.l.placeU h.1.1 d.1.1.1 d.1.1.2).o (by decide)).o (by decide)).r
    · have d' : ¬ (((0 ≤ i ∧ i < mem 65 3) ∧ w = 1 ∧ 0 ≤ v ∧ v ≤ 99) ∧ (mP (mem 66) i = v ∨ mTaken (mem 65 3) (mP (mem 66)) v = false)) := fun z => d ⟨z.1, (hT z.1).mpr z.2⟩
      simp only [if_neg d]
      refine ⟨_, rfl, (c_X6_alter h.1.1.mI i w v).imp (fun r m2 e2 => ?_)⟩
      obtain ⟨rfl, X, rfl⟩ := e2
      simp only [if_neg c, if_neg d', zr_self]
      exact ⟨trivial, h.kM (kM.rf.r (by decide))⟩
theorem sim_end (h : SIM mem) (v : Int) : KX5_end l G 0 [zR 0, zI v] mem (simQ (fun m p => KX6_end l G 1 [zR 65, zI v] m p)) := by
  have e10 := h.2.2.2.1.2.1
  refine (c_X5_end v).imp (fun r m1 e => ?_)
  obtain ⟨rfl, rfl⟩ := e
  refine ⟨_, rfl, (c_X6_end v).imp (fun r m2 e2 => ?_)⟩
  obtain ⟨rfl, rfl⟩ := e2
  by_cases c : v < 0 ∨ mem 53 1 < v
  · have c' : v < 0 ∨ mem 65 10 < v := by rw [← e10]; exact c
    simp only [if_pos c, if_pos c']
    exact ⟨trivial, h⟩
  · have c' : ¬ (v < 0 ∨ mem 65 10 < v) := by rw [← e10]; exact c
    simp only [if_neg c]
    simp (disch := decide) only [zs_n]
    simp only [if_neg c']
    refine ⟨by rw [e10], ?_⟩
    obtain ⟨a1, a2, a3, ⟨b1, b2, b3, b4, b5⟩, a5, a6, a7⟩ := h
    unfold SIM
    simp (disch := decide) only [zs_n, zs_v, zs_k]
    have g : ∀ k : Int, 0 ≤ k → k ≤ 3 → zs (zs mem 53 1 v) 65 10 v (shp k) = mem (shp k) ∧ zs (zs mem 53 1 v) 65 10 v (shp k + 1) = mem (shp k + 1) := fun k k0 k1 => by
      have b := shp_b k0 k1
      rw [zs_n (by omega), zs_n (by omega), zs_n (by omega), zs_n (by omega)]
      exact ⟨rfl, rfl⟩
    refine ⟨⟨a1.1, a1.2.m (fun o ho => by rw [zs_n (by omega), zs_n (by omega)])⟩, ⟨a2.1, a2.2.1, fun q => ⟨(a2.2.2 q).1, (a2.2.2 q).2.m (fun o ho => by rw [zs_n (by omega), zs_n (by omega)])⟩⟩, ⟨a3.1, a3.2.1, fun q => ⟨(a3.2.2 q).1, (a3.2.2 q).2.m (fun o ho => by rw [zs_n (by omega), zs_n (by omega)])⟩⟩, ⟨b1, trivial, by omega, by omega, b5⟩, a5, a6, fun k k0 k1 => ?_⟩
    rw [(g k k0 k1).1, (g k k0 k1).2]
    exact a7 k k0 k1
theorem sim_feed (h : SIM mem) (v : Int) : KX5_feed l G 0 [zR 0, zI v] mem (simQ (fun m p => KX6_feed l G 1 [zR 65, zI v] m p)) := by
  have e10 := h.2.2.2.1.2.1
  have l0 := h.2.2.2.1.2.2.1
  have l1 := h.2.2.2.1.2.2.2.1
  refine (c_X5_feed v (by omega) (by omega)).imp (fun r m1 e => ?_)
  obtain ⟨rfl, rfl⟩ := e
  rw [e10]
  by_cases c : v < 0 ∨ 127 < v
  · simp only [if_pos c]
    refine ⟨_, rfl, (c_X6_feed v l0 l1).imp (fun r m2 e2 => ?_)⟩
    obtain ⟨rfl, rfl⟩ := e2
    simp only [if_pos c]
    exact ⟨trivial, h⟩
  · by_cases d : mem 65 10 = 160
    · simp only [if_neg c, if_pos d]
      refine ⟨_, rfl, (c_X6_feed v l0 l1).imp (fun r m2 e2 => ?_)⟩
      obtain ⟨rfl, rfl⟩ := e2
      simp only [if_neg c, if_pos d]
      exact ⟨trivial, h⟩
    · simp only [if_neg c, if_neg d]
      refine ⟨_, rfl, (c_X6_feed v (by simp (disch := decide) only [zs_n]; exact l0) (by simp (disch := decide) only [zs_n]; exact l1)).imp (fun r m2 e2 => ?_)⟩
      obtain ⟨rfl, rfl⟩ := e2
      simp (disch := decide) only [zs_n]
      simp only [if_neg c, if_neg d]
      refine ⟨trivial, ?_⟩
      obtain ⟨a1, a2, a3, ⟨b1, b2, b3, b4, b5⟩, a5, a6, a7⟩ := h
      unfold SIM
      simp (disch := decide) only [zs_n, zs_v, zs_k, zs_s]
      have g : ∀ k : Int, 0 ≤ k → k ≤ 3 → zs (zs (zs (zs mem 54 (mem 65 10) v) 53 1 (mem 65 10 + 1)) 70 (mem 65 10) v) 65 10 (mem 65 10 + 1) (shp k) = mem (shp k) ∧ zs (zs (zs (zs mem 54 (mem 65 10) v) 53 1 (mem 65 10 + 1)) 70 (mem 65 10) v) 65 10 (mem 65 10 + 1) (shp k + 1) = mem (shp k + 1) := fun k k0 k1 => by
        have b := shp_b k0 k1
        simp (disch := omega) only [zs_n]
        exact ⟨trivial, trivial⟩
      refine ⟨⟨a1.1, a1.2.m (fun o ho => by simp (disch := omega) only [zs_n])⟩, ⟨a2.1, a2.2.1, fun q => ⟨(a2.2.2 q).1, (a2.2.2 q).2.m (fun o ho => by simp (disch := omega) only [zs_n])⟩⟩, ⟨a3.1, a3.2.1, fun q => ⟨(a3.2.2 q).1, (a3.2.2 q).2.m (fun o ho => by simp (disch := omega) only [zs_n])⟩⟩, ⟨by rw [b1], trivial, by omega, by omega, fun j => ?_⟩, a5, a6, fun k k0 k1 => ?_⟩
      · by_cases e : j = mem 65 10
        · subst e; rw [zu_s]; omega
        · rw [zu_n e]; exact b5 j
      · rw [(g k k0 k1).1, (g k k0 k1).2]
        exact a7 k k0 k1
end
