/-! ===== the calls that only show ===== -/
theorem sLens_c {r : Int} {f g : Int → Int} (h : ∀ k, 0 ≤ k → k < r → f k = g k) : sLens r f = sLens r g := by
  unfold sLens
  exact zfor_congr _ _ _ (fun k a k0 k1 => by rw [h k k0 (by omega)])
theorem sGrudges_c {n : Int} {f g : Int → Int} (h : ∀ i j, 0 ≤ i → i < n → 0 ≤ j → j < n → f (5 * i + j) = g (5 * i + j)) : sGrudges n f = sGrudges n g := by
  unfold sGrudges
  exact zfor_congr _ _ _ (fun i a i0 i1 => zfor_congr _ _ _ (fun j a j0 j1 => by rw [h i j i0 (by omega) j0 (by omega)]))

theorem sGr_all {n : Int} {c : Int → Int} (n0 : 0 ≤ n) (n5 : n ≤ 5) (hz : ∀ i j, 0 ≤ i → i ≤ 4 → 0 ≤ j → j ≤ 4 → c (10 + (5 * i + j)) ≠ 0 → i < n ∧ j < n ∧ i ≠ j) : sGrudges n (fun k => c (10 + k)) = mAll c := by
  have z : ∀ i j, 0 ≤ i → i ≤ 4 → 0 ≤ j → j ≤ 4 → ¬ (i < n ∧ j < n ∧ i ≠ j) → c (10 + (5 * i + j)) = 0 := by
    intro i j a b d e f
    by_cases q : c (10 + (5 * i + j)) = 0
    · exact q
    · exact absurd (hz i j a b d e q) f
  rcases (show n = 0 ∨ n = 1 ∨ n = 2 ∨ n = 3 ∨ n = 4 ∨ n = 5 by omega) with rfl | rfl | rfl | rfl | rfl | rfl
  · have z10 : c 10 = 0 := z 0 0 (by decide) (by decide) (by decide) (by decide) (by decide)
    have z11 : c 11 = 0 := z 0 1 (by decide) (by decide) (by decide) (by decide) (by decide)
    have z12 : c 12 = 0 := z 0 2 (by decide) (by decide) (by decide) (by decide) (by decide)
    have z13 : c 13 = 0 := z 0 3 (by decide) (by decide) (by decide) (by decide) (by decide)
    have z14 : c 14 = 0 := z 0 4 (by decide) (by decide) (by decide) (by decide) (by decide)
    have z15 : c 15 = 0 := z 1 0 (by decide) (by decide) (by decide) (by decide) (by decide)
    have z16 : c 16 = 0 := z 1 1 (by decide) (by decide) (by decide) (by decide) (by decide)
    have z17 : c 17 = 0 := z 1 2 (by decide) (by decide) (by decide) (by decide) (by decide)
    have z18 : c 18 = 0 := z 1 3 (by decide) (by decide) (by decide) (by decide) (by decide)
    have z19 : c 19 = 0 := z 1 4 (by decide) (by decide) (by decide) (by decide) (by decide)
    have z20 : c 20 = 0 := z 2 0 (by decide) (by decide) (by decide) (by decide) (by decide)
    have z21 : c 21 = 0 := z 2 1 (by decide) (by decide) (by decide) (by decide) (by decide)
    have z22 : c 22 = 0 := z 2 2 (by decide) (by decide) (by decide) (by decide) (by decide)
    have z23 : c 23 = 0 := z 2 3 (by decide) (by decide) (by decide) (by decide) (by decide)
    have z24 : c 24 = 0 := z 2 4 (by decide) (by decide) (by decide) (by decide) (by decide)
    have z25 : c 25 = 0 := z 3 0 (by decide) (by decide) (by decide) (by decide) (by decide)
    have z26 : c 26 = 0 := z 3 1 (by decide) (by decide) (by decide) (by decide) (by decide)
    have z27 : c 27 = 0 := z 3 2 (by decide) (by decide) (by decide) (by decide) (by decide)
    have z28 : c 28 = 0 := z 3 3 (by decide) (by decide) (by decide) (by decide) (by decide)
    have z29 : c 29 = 0 := z 3 4 (by decide) (by decide) (by decide) (by decide) (by decide)
    have z30 : c 30 = 0 := z 4 0 (by decide) (by decide) (by decide) (by decide) (by decide)
    have z31 : c 31 = 0 := z 4 1 (by decide) (by decide) (by decide) (by decide) (by decide)
    have z32 : c 32 = 0 := z 4 2 (by decide) (by decide) (by decide) (by decide) (by decide)
    have z33 : c 33 = 0 := z 4 3 (by decide) (by decide) (by decide) (by decide) (by decide)
    have z34 : c 34 = 0 := z 4 4 (by decide) (by decide) (by decide) (by decide) (by decide)
    simp [sGrudges, mAll, zfor, z10, z11, z12, z13, z14, z15, z16, z17, z18, z19, z20, z21, z22, z23, z24, z25, z26, z27, z28, z29, z30, z31, z32, z33, z34]
  · have z10 : c 10 = 0 := z 0 0 (by decide) (by decide) (by decide) (by decide) (by decide)
    have z11 : c 11 = 0 := z 0 1 (by decide) (by decide) (by decide) (by decide) (by decide)
    have z12 : c 12 = 0 := z 0 2 (by decide) (by decide) (by decide) (by decide) (by decide)
    have z13 : c 13 = 0 := z 0 3 (by decide) (by decide) (by decide) (by decide) (by decide)
    have z14 : c 14 = 0 := z 0 4 (by decide) (by decide) (by decide) (by decide) (by decide)
    have z15 : c 15 = 0 := z 1 0 (by decide) (by decide) (by decide) (by decide) (by decide)
    have z16 : c 16 = 0 := z 1 1 (by decide) (by decide) (by decide) (by decide) (by decide)
    have z17 : c 17 = 0 := z 1 2 (by decide) (by decide) (by decide) (by decide) (by decide)
    have z18 : c 18 = 0 := z 1 3 (by decide) (by decide) (by decide) (by decide) (by decide)
    have z19 : c 19 = 0 := z 1 4 (by decide) (by decide) (by decide) (by decide) (by decide)
    have z20 : c 20 = 0 := z 2 0 (by decide) (by decide) (by decide) (by decide) (by decide)
    have z21 : c 21 = 0 := z 2 1 (by decide) (by decide) (by decide) (by decide) (by decide)
    have z22 : c 22 = 0 := z 2 2 (by decide) (by decide) (by decide) (by decide) (by decide)
    have z23 : c 23 = 0 := z 2 3 (by decide) (by decide) (by decide) (by decide) (by decide)
    have z24 : c 24 = 0 := z 2 4 (by decide) (by decide) (by decide) (by decide) (by decide)
    have z25 : c 25 = 0 := z 3 0 (by decide) (by decide) (by decide) (by decide) (by decide)
    have z26 : c 26 = 0 := z 3 1 (by decide) (by decide) (by decide) (by decide) (by decide)
    have z27 : c 27 = 0 := z 3 2 (by decide) (by decide) (by decide) (by decide) (by decide)
    have z28 : c 28 = 0 := z 3 3 (by decide) (by decide) (by decide) (by decide) (by decide)
    have z29 : c 29 = 0 := z 3 4 (by decide) (by decide) (by decide) (by decide) (by decide)
    have z30 : c 30 = 0 := z 4 0 (by decide) (by decide) (by decide) (by decide) (by decide)
    have z31 : c 31 = 0 := z 4 1 (by decide) (by decide) (by decide) (by decide) (by decide)
    have z32 : c 32 = 0 := z 4 2 (by decide) (by decide) (by decide) (by decide) (by decide)
    have z33 : c 33 = 0 := z 4 3 (by decide) (by decide) (by decide) (by decide) (by decide)
    have z34 : c 34 = 0 := z 4 4 (by decide) (by decide) (by decide) (by decide) (by decide)
    simp [sGrudges, mAll, zfor, z10, z11, z12, z13, z14, z15, z16, z17, z18, z19, z20, z21, z22, z23, z24, z25, z26, z27, z28, z29, z30, z31, z32, z33, z34]
  · have z10 : c 10 = 0 := z 0 0 (by decide) (by decide) (by decide) (by decide) (by decide)
    have z12 : c 12 = 0 := z 0 2 (by decide) (by decide) (by decide) (by decide) (by decide)
    have z13 : c 13 = 0 := z 0 3 (by decide) (by decide) (by decide) (by decide) (by decide)
    have z14 : c 14 = 0 := z 0 4 (by decide) (by decide) (by decide) (by decide) (by decide)
    have z16 : c 16 = 0 := z 1 1 (by decide) (by decide) (by decide) (by decide) (by decide)
    have z17 : c 17 = 0 := z 1 2 (by decide) (by decide) (by decide) (by decide) (by decide)
    have z18 : c 18 = 0 := z 1 3 (by decide) (by decide) (by decide) (by decide) (by decide)
    have z19 : c 19 = 0 := z 1 4 (by decide) (by decide) (by decide) (by decide) (by decide)
    have z20 : c 20 = 0 := z 2 0 (by decide) (by decide) (by decide) (by decide) (by decide)
    have z21 : c 21 = 0 := z 2 1 (by decide) (by decide) (by decide) (by decide) (by decide)
    have z22 : c 22 = 0 := z 2 2 (by decide) (by decide) (by decide) (by decide) (by decide)
    have z23 : c 23 = 0 := z 2 3 (by decide) (by decide) (by decide) (by decide) (by decide)
    have z24 : c 24 = 0 := z 2 4 (by decide) (by decide) (by decide) (by decide) (by decide)
    have z25 : c 25 = 0 := z 3 0 (by decide) (by decide) (by decide) (by decide) (by decide)
    have z26 : c 26 = 0 := z 3 1 (by decide) (by decide) (by decide) (by decide) (by decide)
    have z27 : c 27 = 0 := z 3 2 (by decide) (by decide) (by decide) (by decide) (by decide)
    have z28 : c 28 = 0 := z 3 3 (by decide) (by decide) (by decide) (by decide) (by decide)
    have z29 : c 29 = 0 := z 3 4 (by decide) (by decide) (by decide) (by decide) (by decide)
    have z30 : c 30 = 0 := z 4 0 (by decide) (by decide) (by decide) (by decide) (by decide)
    have z31 : c 31 = 0 := z 4 1 (by decide) (by decide) (by decide) (by decide) (by decide)
    have z32 : c 32 = 0 := z 4 2 (by decide) (by decide) (by decide) (by decide) (by decide)
    have z33 : c 33 = 0 := z 4 3 (by decide) (by decide) (by decide) (by decide) (by decide)
    have z34 : c 34 = 0 := z 4 4 (by decide) (by decide) (by decide) (by decide) (by decide)
    simp [sGrudges, mAll, zfor, z10, z12, z13, z14, z16, z17, z18, z19, z20, z21, z22, z23, z24, z25, z26, z27, z28, z29, z30, z31, z32, z33, z34]
    try omega
  · have z10 : c 10 = 0 := z 0 0 (by decide) (by decide) (by decide) (by decide) (by decide)
    have z13 : c 13 = 0 := z 0 3 (by decide) (by decide) (by decide) (by decide) (by decide)
    have z14 : c 14 = 0 := z 0 4 (by decide) (by decide) (by decide) (by decide) (by decide)
    have z16 : c 16 = 0 := z 1 1 (by decide) (by decide) (by decide) (by decide) (by decide)
    have z18 : c 18 = 0 := z 1 3 (by decide) (by decide) (by decide) (by decide) (by decide)
    have z19 : c 19 = 0 := z 1 4 (by decide) (by decide) (by decide) (by decide) (by decide)
    have z22 : c 22 = 0 := z 2 2 (by decide) (by decide) (by decide) (by decide) (by decide)
    have z23 : c 23 = 0 := z 2 3 (by decide) (by decide) (by decide) (by decide) (by decide)
    have z24 : c 24 = 0 := z 2 4 (by decide) (by decide) (by decide) (by decide) (by decide)
    have z25 : c 25 = 0 := z 3 0 (by decide) (by decide) (by decide) (by decide) (by decide)
    have z26 : c 26 = 0 := z 3 1 (by decide) (by decide) (by decide) (by decide) (by decide)
    have z27 : c 27 = 0 := z 3 2 (by decide) (by decide) (by decide) (by decide) (by decide)
    have z28 : c 28 = 0 := z 3 3 (by decide) (by decide) (by decide) (by decide) (by decide)
    have z29 : c 29 = 0 := z 3 4 (by decide) (by decide) (by decide) (by decide) (by decide)
    have z30 : c 30 = 0 := z 4 0 (by decide) (by decide) (by decide) (by decide) (by decide)
    have z31 : c 31 = 0 := z 4 1 (by decide) (by decide) (by decide) (by decide) (by decide)
    have z32 : c 32 = 0 := z 4 2 (by decide) (by decide) (by decide) (by decide) (by decide)
    have z33 : c 33 = 0 := z 4 3 (by decide) (by decide) (by decide) (by decide) (by decide)
    have z34 : c 34 = 0 := z 4 4 (by decide) (by decide) (by decide) (by decide) (by decide)
    simp [sGrudges, mAll, zfor, z10, z13, z14, z16, z18, z19, z22, z23, z24, z25, z26, z27, z28, z29, z30, z31, z32, z33, z34]
    try omega
  · have z10 : c 10 = 0 := z 0 0 (by decide) (by decide) (by decide) (by decide) (by decide)
    have z14 : c 14 = 0 := z 0 4 (by decide) (by decide) (by decide) (by decide) (by decide)
    have z16 : c 16 = 0 := z 1 1 (by decide) (by decide) (by decide) (by decide) (by decide)
    have z19 : c 19 = 0 := z 1 4 (by decide) (by decide) (by decide) (by decide) (by decide)
    have z22 : c 22 = 0 := z 2 2 (by decide) (by decide) (by decide) (by decide) (by decide)
    have z24 : c 24 = 0 := z 2 4 (by decide) (by decide) (by decide) (by decide) (by decide)
    have z28 : c 28 = 0 := z 3 3 (by decide) (by decide) (by decide) (by decide) (by decide)
    have z29 : c 29 = 0 := z 3 4 (by decide) (by decide) (by decide) (by decide) (by decide)
    have z30 : c 30 = 0 := z 4 0 (by decide) (by decide) (by decide) (by decide) (by decide)
    have z31 : c 31 = 0 := z 4 1 (by decide) (by decide) (by decide) (by decide) (by decide)
    have z32 : c 32 = 0 := z 4 2 (by decide) (by decide) (by decide) (by decide) (by decide)
    have z33 : c 33 = 0 := z 4 3 (by decide) (by decide) (by decide) (by decide) (by decide)
    have z34 : c 34 = 0 := z 4 4 (by decide) (by decide) (by decide) (by decide) (by decide)
    simp [sGrudges, mAll, zfor, z10, z14, z16, z19, z22, z24, z28, z29, z30, z31, z32, z33, z34]
    try omega
  · have z10 : c 10 = 0 := z 0 0 (by decide) (by decide) (by decide) (by decide) (by decide)
    have z16 : c 16 = 0 := z 1 1 (by decide) (by decide) (by decide) (by decide) (by decide)
    have z22 : c 22 = 0 := z 2 2 (by decide) (by decide) (by decide) (by decide) (by decide)
    have z28 : c 28 = 0 := z 3 3 (by decide) (by decide) (by decide) (by decide) (by decide)
    have z34 : c 34 = 0 := z 4 4 (by decide) (by decide) (by decide) (by decide) (by decide)
    simp [sGrudges, mAll, zfor, z10, z16, z22, z28, z34]
    try omega
theorem vRopeA_M {n : Int} {c : Int → Int} {k w : Int} (h6 : c 53 ≤ 6) : vRopeA (vM n c) k w = if 0 ≤ k ∧ k < c 53 ∧ 0 ≤ w ∧ w ≤ 2 then c (35 + 3 * k + w) else -1 := by
  show (if 0 ≤ k ∧ k < c 53 then (if w = 0 then m1 c k else if w = 1 then m2 c k else if w = 2 then m3 c k else -1) else -1) = _
  by_cases a : 0 ≤ k ∧ k < c 53
  · have q : 0 ≤ k ∧ k < 6 := by omega
    rw [if_pos a]
    by_cases w0 : w = 0
    · subst w0
      rw [if_pos rfl, if_pos (by omega)]
      exact (m1_at q (by omega)).symm
    · rw [if_neg w0]
      by_cases w1 : w = 1
      · subst w1
        rw [if_pos rfl, if_pos (by omega)]
        exact (m2_at q (by omega)).symm
      · rw [if_neg w1]
        by_cases w2 : w = 2
        · subst w2
          rw [if_pos rfl, if_pos (by omega)]
          exact (m3_at q (by omega)).symm
        · rw [if_neg w2, if_neg (by omega)]
  · rw [if_neg a, if_neg (by omega)]
section
variable {l : Launch} {G : zG} {mem : zM}
theorem kC.e66 {m m' : zM} (h : kC m m') : m' 66 = m 66 := h.at (by omega) (by omega) (by omega)
theorem kC.e65 {m m' : zM} (h : kC m m') : m' 65 = m 65 := h.at (by omega) (by omega) (by omega)
theorem SIM.fi {m : zM} (h : SIM m) : zFI m 1 := h.1.2.fi h.1.1
theorem SIM.veq {m : zM} (h : SIM m) : VEQ (vC m 1) (vM (m 65 3) (m 66)) := h.1.2.veq h.1.1
theorem SIM.e0 {m : zM} (h : SIM m) : m 1 0 = m 65 3 := h.1.2.1
theorem SIM.e4 {m : zM} (h : SIM m) : m 1 4 = m 66 53 := h.1.2.2.1
theorem sim_fault (h : SIM mem) : KX5_fault l G 0 [zR 0] mem (simQ (fun m p => KX6_fault l G 0 [zR 65] m p)) :=
  c_X5_fault.imp (fun r m1 e => by
    obtain ⟨rfl, rfl⟩ := e
    exact ⟨_, rfl, c_X6_fault.imp (fun r m2 e2 => by obtain ⟨rfl, rfl⟩ := e2; exact ⟨by rw [h.2.2.2.2.1], h⟩)⟩)
theorem sim_torn (h : SIM mem) : KX5_torn l G 0 [zR 0] mem (simQ (fun m p => KX6_torn l G 0 [zR 65] m p)) :=
  c_X5_torn.imp (fun r m1 e => by
    obtain ⟨rfl, rfl⟩ := e
    exact ⟨_, rfl, c_X6_torn.imp (fun r m2 e2 => by obtain ⟨rfl, rfl⟩ := e2; exact ⟨by rw [h.2.2.2.2.2.1], h⟩)⟩)

theorem sim_rule (h : SIM mem) (w : Int) : KX5_rule l G 2 [zR 0, zI w] mem (simQ (fun m p => KX6_rule l G 3 [zR 65, zI w] m p)) := by
  have hv := h.veq
  refine (c_X5_rule h.fi w).imp (fun r m1 e => ?_)
  obtain ⟨rfl, rfl⟩ := e
  exact ⟨_, rfl, (c_X6_rule h.1.1.mI w).imp (fun r m2 e2 => ⟨by rw [e2.1]; rw [hv.rule], h.kM e2.2⟩)⟩
theorem sim_isle (h : SIM mem) (i w : Int) : KX5_isle l G 2 [zR 0, zI i, zI w] mem (simQ (fun m p => KX6_isle l G 3 [zR 65, zI i, zI w] m p)) := by
  have hv := h.veq
  refine (c_X5_isle h.fi i w).imp (fun r m1 e => ?_)
  obtain ⟨rfl, rfl⟩ := e
  exact ⟨_, rfl, (c_X6_isle h.1.1.mI i w).imp (fun r m2 e2 => ⟨by rw [e2.1]; rw [hv.isle], h.kM e2.2⟩)⟩
theorem sim_far (h : SIM mem) (i j : Int) : KX5_far l G 2 [zR 0, zI i, zI j] mem (simQ (fun m p => KX6_far l G 3 [zR 65, zI i, zI j] m p)) := by
  have hv := h.veq
  refine (c_X5_far h.fi i j).imp (fun r m1 e => ?_)
  obtain ⟨rfl, rfl⟩ := e
  exact ⟨_, rfl, (c_X6_far h.1.1.mI i j).imp (fun r m2 e2 => ⟨by rw [e2.1]; rw [hv.far], h.kM e2.2⟩)⟩
theorem sim_cross (h : SIM mem) (i j : Int) : KX5_cross l G 2 [zR 0, zI i, zI j] mem (simQ (fun m p => KX6_cross l G 3 [zR 65, zI i, zI j] m p)) := by
  have hv := h.veq
  have eX : (if 0 ≤ i ∧ i < mem 65 3 ∧ 0 ≤ j ∧ j < mem 65 3 ∧ i ≠ j then mem 66 (10 + (5 * i + j)) else -1) = (if 0 ≤ i ∧ i < mem 1 0 ∧ 0 ≤ j ∧ j < mem 1 0 ∧ i ≠ j then mem 4 (5 * i + j) else -1) := by
    rw [h.e0]
    have n5 := h.1.1.1.2
    split
    · exact (h.1.2.2.2.2.2.2.2.1 (5 * i + j) (by omega) (by omega)).symm
    · rfl
  refine (c_X5_cross h.fi i j).imp (fun r m1 e => ?_)
  obtain ⟨rfl, rfl⟩ := e
  refine ⟨_, rfl, (c_X6_cross h.1.1.1.1 h.1.1.1.2 i j).imp (fun r m2 e2 => ?_)⟩
  obtain ⟨rfl, rfl⟩ := e2
  exact ⟨by rw [eX], h⟩
theorem sim_rope (h : SIM mem) (k w : Int) : KX5_rope l G 1 [zR 0, zI k, zI w] mem (simQ (fun m p => KX6_rope l G 2 [zR 65, zI k, zI w] m p)) := by
  have hv := h.veq
  refine (c_X5_rope h.fi k w).imp (fun r m1 e => ?_)
  obtain ⟨rfl, rfl⟩ := e
  refine ⟨_, rfl, (c_X6_rope h.1.1.2.1.1 h.1.1.2.1.2 k w).imp (fun r m2 e2 => ?_)⟩
  obtain ⟨rfl, rfl⟩ := e2
  exact ⟨by rw [hv.ropeA]; exact congrArg (fun z => some (zI z)) (vRopeA_M h.1.1.2.1.2).symm, h⟩
theorem sim_runs (h : SIM mem) (n w : Int) : KX5_runs l G 4 [zR 0, zI n, zI w] mem (simQ (fun m p => KX6_runs l G 5 [zR 65, zI n, zI w] m p)) := by
  have hv := h.veq
  refine (c_X5_runs h.fi n w).imp (fun r m1 e => ?_)
  obtain ⟨rfl, hk⟩ := e
  have h1 := h.kC hk
  refine ⟨_, rfl, (c_X6_runs h1.1.1.mI n w).imp (fun r m2 e2 => ⟨?_, h1.kM e2.2⟩)⟩
  rw [e2.1, hk.e65, hk.e66]
  rw [hv.runsA]
theorem sim_ahead (h : SIM mem) (i n : Int) : KX5_ahead l G 5 [zR 0, zI i, zI n] mem (simQ (fun m p => KX6_ahead l G 6 [zR 65, zI i, zI n] m p)) := by
  have hv := h.veq
  refine (c_X5_ahead h.fi i n).imp (fun r m1 e => ?_)
  obtain ⟨rfl, hk⟩ := e
  have h1 := h.kC hk
  refine ⟨_, rfl, (c_X6_ahead h1.1.1.mI i n).imp (fun r m2 e2 => ⟨?_, h1.kM e2.2⟩)⟩
  rw [e2.1, hk.e65, hk.e66]
  rw [h.e0]
  split
  · rename_i q
    rw [(hv.days n.toNat).2.1 i q.1 (show i < mem 1 0 by rw [h.e0]; exact q.2.1)]
  · rfl
theorem sim_within (h : SIM mem) (v : Int) : KX5_within l G 4 [zR 0, zI v] mem (simQ (fun m p => KX6_within l G 5 [zR 65, zI v] m p)) := by
  have hv := h.veq
  refine (c_X5_within h.fi v).imp (fun r m1 e => ?_)
  obtain ⟨rfl, hk⟩ := e
  have h1 := h.kC hk
  refine ⟨_, rfl, (c_X6_within h1.1.1.mI v).imp (fun r m2 e2 => ⟨?_, h1.kM e2.2⟩)⟩
  rw [e2.1, hk.e65, hk.e66]
  rw [hv.wi v 61 0 _ _ hv.s0.2.1 hv.s0.2.2]
theorem sim_match (h : SIM mem) (len w : Int) : KX5_match l G 6 [zR 0, zI len, zI w] mem (simQ (fun m p => KX6_match l G 7 [zR 65, zI len, zI w] m p)) := by
  have hv := h.veq
  refine (c_X5_match h.fi len w).imp (fun r m1 e => ?_)
  obtain ⟨rfl, hk⟩ := e
  have h1 := h.kC hk
  refine ⟨_, rfl, (c_X6_match h1.1.1.mI len w).imp (fun r m2 e2 => ⟨?_, h1.kM e2.2⟩)⟩
  rw [e2.1, hk.e65, hk.e66]
  rw [hv.matchA, h.e4]
theorem sim_fray (h : SIM mem) (w : Int) : KX5_fray l G 6 [zR 0, zI w] mem (simQ (fun m p => KX6_fray l G 6 [zR 65, zI w] m p)) := by
  have hv := h.veq
  refine (c_X5_fray h.fi w).imp (fun r m1 e => ?_)
  obtain ⟨rfl, hk⟩ := e
  have h1 := h.kC hk
  refine ⟨_, rfl, (c_X6_fray h1.1.1.mI w).imp (fun r m2 e2 => ⟨?_, h1.kM e2.2⟩)⟩
  rw [e2.1, hk.e65, hk.e66]
  rw [hv.frayA]
theorem sim_soothe (h : SIM mem) (w : Int) : KX5_soothe l G 6 [zR 0, zI w] mem (simQ (fun m p => KX6_soothe l G 7 [zR 65, zI w] m p)) := by
  have hv := h.veq
  refine (c_X5_soothe h.fi w).imp (fun r m1 e => ?_)
  obtain ⟨rfl, hk⟩ := e
  have h1 := h.kC hk
  refine ⟨_, rfl, (c_X6_soothe h1.1.1.mI w).imp (fun r m2 e2 => ⟨?_, h1.kM e2.2⟩)⟩
  rw [e2.1, hk.e65, hk.e66]
  rw [sSoothe_e, hv.sootheA]
theorem sim_holy (h : SIM mem) (n w : Int) : KX5_holy l G 6 [zR 0, zI n, zI w] mem (simQ (fun m p => KX6_holy l G 7 [zR 65, zI n, zI w] m p)) := by
  have hv := h.veq
  refine (c_X5_holy h.fi n w).imp (fun r m1 e => ?_)
  obtain ⟨rfl, hk⟩ := e
  have h1 := h.kC hk
  refine ⟨_, rfl, (c_X6_holy h1.1.1.mI n w).imp (fun r m2 e2 => ⟨?_, h1.kM e2.2⟩)⟩
  rw [e2.1, hk.e65, hk.e66]
  rw [sHoly_b (W := vC mem 1) h.fi.1 h.fi.2.2.2.2.1, hv.holyA]
theorem sim_kind (h : SIM mem) (i n w : Int) : KX5_kind l G 6 [zR 0, zI i, zI n, zI w] mem (simQ (fun m p => KX6_kind l G 7 [zR 65, zI i, zI n, zI w] m p)) := by
  have hv := h.veq
  refine (c_X5_kind h.fi i n w).imp (fun r m1 e => ?_)
  obtain ⟨rfl, hk⟩ := e
  have h1 := h.kC hk
  refine ⟨_, rfl, (c_X6_kind h1.1.1.mI i n w).imp (fun r m2 e2 => ⟨?_, h1.kM e2.2⟩)⟩
  rw [e2.1, hk.e65, hk.e66]
  rw [sKind_b (W := vC mem 1) h.fi.1 h.fi.2.2.2.2.1, hv.kindA, h.e0]
theorem sim_slack (h : SIM mem) (i n w : Int) : KX5_slack l G 6 [zR 0, zI i, zI n, zI w] mem (simQ (fun m p => KX6_slack l G 7 [zR 65, zI i, zI n, zI w] m p)) := by
  have hv := h.veq
  refine (c_X5_slack h.fi i n w).imp (fun r m1 e => ?_)
  obtain ⟨rfl, hk⟩ := e
  have h1 := h.kC hk
  refine ⟨_, rfl, (c_X6_slack h1.1.1.mI i n w).imp (fun r m2 e2 => ⟨?_, h1.kM e2.2⟩)⟩
  rw [e2.1, hk.e65, hk.e66]
  rw [hv.slackA, h.e4]
theorem sim_drift (h : SIM mem) (sd n w : Int) (hs : zin32 sd) : KX5_drift l G 4 [zR 0, zI sd, zI n, zI w] mem (simQ (fun m p => KX6_drift l G 5 [zR 65, zI sd, zI n, zI w] m p)) := by
  have hv := h.veq
  refine (c_X5_drift h.fi sd n w).imp (fun r m1 e => ?_)
  obtain ⟨rfl, hk⟩ := e
  have h1 := h.kC hk
  refine ⟨_, rfl, (c_X6_drift h1.1.1.mI sd n w hs).imp (fun r m2 e2 => ⟨?_, h1.kM e2.2⟩)⟩
  rw [e2.1, hk.e65, hk.e66]
  rw [hv.drA, h.e0]
theorem sim_luck (h : SIM mem) (v n w q : Int) : KX5_luck l G 13 [zR 0, zI v, zI n, zI w, zI q] mem (simJ (fun m p => KX6_luck l G 6 [zR 65, zI v, zI n, zI w, zI q] m p)) := by
  have hv := h.veq
  refine (c_X5_luck h.fi (by rw [h.1.2.2.2.2.1]; exact h.1.1.2.2.1.1) (by rw [h.1.2.2.2.2.1]; exact h.1.1.2.2.1.2) v n w q).imp (fun r m1 e => ?_)
  obtain ⟨rfl, hk⟩ := e
  have h1 := h.kC hk
  refine ⟨_, rfl, (c_X6_luck h1.1.1.mI v n w q).imp (fun r m2 e2 => ⟨?_, h1.kM e2.2⟩)⟩
  rw [e2.1, hk.e65, hk.e66]
  rw [hv.sums]
theorem sim_mean (h : SIM mem) (v n q : Int) : KX5_mean l G 13 [zR 0, zI v, zI n, zI q] mem (simJ (fun m p => KX6_mean l G 6 [zR 65, zI v, zI n, zI q] m p)) := by
  have hv := h.veq
  refine (c_X5_mean h.fi (by rw [h.1.2.2.2.2.1]; exact h.1.1.2.2.1.1) (by rw [h.1.2.2.2.2.1]; exact h.1.1.2.2.1.2) v n q).imp (fun r m1 e => ?_)
  obtain ⟨rfl, hk⟩ := e
  have h1 := h.kC hk
  refine ⟨_, rfl, (c_X6_mean h1.1.1.mI v n q).imp (fun r m2 e2 => ⟨?_, h1.kM e2.2⟩)⟩
  rw [e2.1, hk.e65, hk.e66]
  rw [hv.sums]
theorem sim_kinds (h : SIM mem) (i : Int) : KX5_kinds l G 6 [zR 0, zI i] mem (simQ (fun m p => KX6_kinds l G 7 [zR 65, zI i] m p)) := by
  have hv := h.veq
  have hs := h.1.2.sb h.1.1
  have hw : ∀ k, 0 ≤ k → k < mem 15 0 → mem 16 k = sb3 (mem 66) k ∧ mem 17 k = sw3 (mem 66) k ∧ mem 18 k = sp3 (mem 66) k := fun k k0 k1 => h.1.2.2.2.2.2.2.2.2.2.2 k k0 (by rw [← h.1.2.2.2.2.2.2.2.2.2.1]; exact k1)
  have h57 := h.1.2.2.2.2.2.2.2.2.2.1
  refine (c_X5_kinds h.fi (h.1.2.sb h.1.1) i).imp (fun r m1 e => ?_)
  obtain ⟨rfl, hk⟩ := e
  have h1 := h.kC hk
  refine ⟨_, rfl, (c_X6_kinds h1.1.1.mI h1.1.1.sb i).imp (fun r m2 e2 => ⟨?_, h1.kM e2.2⟩)⟩
  rw [e2.1, hk.e65, hk.e66]
  rw [h.e0]
  split
  · rw [sBits_c (fun v _ _ => ((hv.kind i v).so (show sSB (mem 1 0) _ _ _ from hs)).trans (sSo_c h57 hw))]
  · rfl
theorem sim_sulks (h : SIM mem) (i j : Int) : KX5_sulks l G 5 [zR 0, zI i, zI j] mem (simQ (fun m p => KX6_sulks l G 7 [zR 65, zI i, zI j] m p)) := by
  have hv := h.veq
  have hs := h.1.2.sb h.1.1
  have hw : ∀ k, 0 ≤ k → k < mem 15 0 → mem 16 k = sb3 (mem 66) k ∧ mem 17 k = sw3 (mem 66) k ∧ mem 18 k = sp3 (mem 66) k := fun k k0 k1 => h.1.2.2.2.2.2.2.2.2.2.2 k k0 (by rw [← h.1.2.2.2.2.2.2.2.2.2.1]; exact k1)
  have h57 := h.1.2.2.2.2.2.2.2.2.2.1
  refine (c_X5_sulks h.fi (h.1.2.sb h.1.1) i j).imp (fun r m1 e => ?_)
  obtain ⟨rfl, hk⟩ := e
  have h1 := h.kC hk
  refine ⟨_, rfl, (c_X6_sulks h1.1.1.mI h1.1.1.sb i j).imp (fun r m2 e2 => ⟨?_, h1.kM e2.2⟩)⟩
  rw [e2.1, hk.e65, hk.e66]
  rw [h.e0]
  split
  · rw [sBits_c (fun v _ _ => ((hv.grudge i j v).so (show sSB (mem 1 0) _ _ _ from hs)).trans (sSo_c h57 hw))]
  · rfl
theorem sim_ask (h : SIM mem) (i w : Int) : KX5_ask l G 6 [zR 0, zI i, zI w] mem (simQ (fun m p => KX6_ask l G 6 [zR 65, zI i, zI w] m p)) := by
  have hv := h.veq
  have hs := h.1.2.sb h.1.1
  have hw : ∀ k, 0 ≤ k → k < mem 15 0 → mem 16 k = sb3 (mem 66) k ∧ mem 17 k = sw3 (mem 66) k ∧ mem 18 k = sp3 (mem 66) k := fun k k0 k1 => h.1.2.2.2.2.2.2.2.2.2.2 k k0 (by rw [← h.1.2.2.2.2.2.2.2.2.2.1]; exact k1)
  have h57 := h.1.2.2.2.2.2.2.2.2.2.1
  refine (c_X5_ask h.fi (h.1.2.sb h.1.1) i w).imp (fun r m1 e => ?_)
  obtain ⟨rfl, hk⟩ := e
  have h1 := h.kC hk
  refine ⟨_, rfl, (c_X6_ask h1.1.1.mI h1.1.1.sb i w).imp (fun r m2 e2 => ⟨?_, h1.kM e2.2⟩)⟩
  rw [e2.1, hk.e65, hk.e66]
  have q := sAsk_c (i := i) hv (fun v _ _ => ((hv.kind i v).so (show sSB (mem 1 0) _ _ _ from hs)).trans (sSo_c (W := vKind (vM (mem 65 3) (mem 66)) i v) h57 hw)) (show mem 1 0 ≤ 5 from h.fi.2.1)
  have q : sAskS (mem 1 0) _ _ = sAskS (mem 65 3) _ _ := q
  rw [q, h.e0]
theorem sim_count (h : SIM mem) (w : Int) : KX5_count l G 2 [zR 0, zI w] mem (simQ (fun m p => KX6_count l G 1 [zR 65, zI w] m p)) := by
  have hv := h.veq
  have s0 := h.2.2.2.2.2.2 0 (by decide) (by decide)
  have k1 : (if mem 20 0 = 0 then (0 : Int) else 1) = mem 68 0 := by
    rw [h.2.1.1]
    rcases h.2.1.2.1 with q | q <;> rw [q] <;> rfl
  have k2 : (if mem 32 0 = 0 then (0 : Int) else 1) = mem 68 1 := by
    rw [h.2.2.1.1]
    rcases h.2.2.1.2.1 with q | q <;> rw [q] <;> rfl
  have eL : sLens (mem 1 4) (mem 7) = sLens (mem 66 53) (m3 (mem 66)) := by
    rw [h.e4]
    exact sLens_c (fun k k0 k1 => ((h.1.2.2.2.2.2.2.2.2.1 k k0 k1).2.2).trans (m3_at ⟨k0, by have := h.1.1.2.1; omega⟩ rfl))
  have eG : sGrudges (mem 1 0) (mem 4) = mAll (mem 66) := by
    rw [h.e0, ← sGr_all h.1.1.1.1 h.1.1.1.2 h.1.1.2.2.2.2.2.2.1]
    exact sGrudges_c (fun i j i0 i1 j0 j1 => h.1.2.2.2.2.2.2.2.1 (5 * i + j) (by omega) (by have := h.1.1.1; omega))
  have eC : sCnt (mem 66 57) (mem 68 0 + mem 68 1) (mem 65 10) (mem 73 0) (mem 74 0) (sLens (mem 66 53) (m3 (mem 66))) (mAll (mem 66)) w = sCnt (mem 15 0) ((if mem 20 0 = 0 then 0 else 1) + (if mem 32 0 = 0 then 0 else 1)) (mem 53 1) (mem 45 0) (mem 45 1) (sLens (mem 1 4) (mem 7)) (sGrudges (mem 1 0) (mem 4)) w := by
    rw [k1, k2, eL, eG, h.1.2.2.2.2.2.2.2.2.2.1, h.2.2.2.1.2.1, show mem 45 0 = mem 73 0 from s0.1, show mem 45 1 = mem 74 0 from s0.2.1]
  refine (c_X5_count h.fi w).imp (fun r m1 e => ?_)
  obtain ⟨rfl, rfl⟩ := e
  refine ⟨_, rfl, (c_X6_count h.1.1.mI w h.1.1.2.2.2.2.2.1 h.2.1.2.1 h.2.2.1.2.1).imp (fun r m2 e2 => ?_)⟩
  obtain ⟨rfl, rfl⟩ := e2
  exact ⟨by rw [eC], h⟩
end
