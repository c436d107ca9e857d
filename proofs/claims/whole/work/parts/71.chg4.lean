/-! ===== the text: both sides ===== -/
theorem CI_text {m : zM} {D : zDr} (hR : DR m D) (hI : DI D) (hq : sPD D.1.1 (dP D)) (hh : D.2.2.2 < D.1.1) : CI D.1.1 (m 69) := by
  obtain ⟨⟨n, t, g, r, e1, e2, ln, hol, p, bu, dy⟩, td, fe, hi⟩ := D
  obtain ⟨a1, a2, a3, a4, a5, a6, a7, a8, a9, a10, a11, a12, a13, a14, a15⟩ := hI
  obtain ⟨b1, b2, b3, b4, b5, b6, ⟨b7, b8, b9⟩, b10, b11⟩ := hR
  simp only [dR, dP, vS0] at a1 a2 a3 a4 a5 a6 a7 a8 a9 a10 b1 b2 b3 b4 b5 b6 hq hh
  refine ⟨⟨a1, a2⟩, by rw [b4]; exact ⟨a3, a4⟩, by rw [b7]; exact ⟨by decide, by decide⟩, fun i i0 i1 => ?_, fun i j i0 i1 j0 j1 hij => ?_, fun k k0 k1 => ?_, fun i j i0 i1 j0 j1 hz => ?_, fun k k0 k1 => ?_, by rw [b9]; exact ⟨by decide, by decide⟩, fun k k0 k1 => by rw [b9] at k1; omega⟩
  · rw [(b2 i i0 i1).2]; exact a7 i i0 i1
  · rw [(b2 i i0 i1).2, (b2 j j0 j1).2]; exact hq i j i0 i1 j0 j1 hij
  · rw [b3 k k0 k1]; exact a8 k k0 k1
  · rw [b3 _ (by omega) (by omega)] at hz
    have w := a9 i j i0 i1 j0 j1 hz
    exact ⟨by dsimp only; omega, by dsimp only; omega, w.2.2⟩
  · rw [b4] at k1
    have w := a10 k k0 k1
    have u := b5 k k0 k1
    rw [u.1, u.2.1, u.2.2]
    dsimp only
    omega
theorem CA_text {m m1 : zM} {D : zDr} {s : Nat} (hR : DR m D) (hI : DI D) (hC : vC m1 55 = D.1) (hs : m1 s 0 = 0) : CA D.1.1 (m 69) m1 55 s := by
  obtain ⟨b1, b2, b3, b4, b5, b6, ⟨b7, b8, b9⟩, b10, b11⟩ := hR
  have h13 := hI.2.2.2.2.2.2.2.2.2.2.2.2.1
  rw [← hC] at b2 b3 b5 b6 h13 ⊢
  have r4 : dR D = m1 55 4 := by unfold dR; rw [← hC]; rfl
  have hp : ∀ i, dP D i = m1 57 i := fun i => by unfold dP; rw [← hC]; rfl
  have h13 : ((m1 55 10, m1 55 9) : Int × Int) = (0, 0) := h13
  have h10 : m1 55 10 = 0 := congrArg Prod.fst h13
  have h9 : m1 55 9 = 0 := congrArg Prod.snd h13
  rw [r4] at b4 b5
  refine ⟨rfl, b4.symm, b6.symm, by rw [b7]; exact h9, by rw [b8]; exact h10, fun i i0 i1 => ⟨(b2 i i0 i1).1.symm, ?_⟩, fun k k0 k1 => (b3 k k0 k1).symm, fun k k0 k1 => ?_, by rw [b9]; exact hs, fun k k0 k1 => by rw [b9] at k1; omega⟩
  · rw [(b2 i i0 i1).2, hp]
  · rw [b4] at k1
    have u := b5 k k0 k1
    exact ⟨u.1.symm, u.2.1.symm, u.2.2.symm⟩
section
variable {l : Launch} {G : zG} {mem : zM}
theorem sim_text (h : SIM mem) : KX5_text l G 7 [zR 0] mem (simQ (fun m p => KX6_text l G 7 [zR 65] m p)) := by
  have e54 : mem 54 = mem 70 := h.2.2.2.1.1
  have e1 : mem 53 1 = mem 65 10 := h.2.2.2.1.2.1
  have l0 := h.2.2.2.1.2.2.1
  have l1 := h.2.2.2.1.2.2.2.1
  have lb := h.2.2.2.1.2.2.2.2
  refine (c_X5_text (by omega) (by omega)).imp (fun r M1 e => ?_)
  have hDI := dC0_I (m := mem)
  have z : ∀ (r : Int → Int) (k : Int), 0 ≤ k → k < 25 → zfil r 0 25 k = 0 := fun r k h0 h1 => by unfold zfil; rw [if_pos ⟨h0, h1⟩]
  have ref : ∀ m : zM, m 70 = mem 70 → m 65 10 = mem 65 10 → KX6_text l G 7 [zR 65] m (zPTm (sTx (mem 54) (mem 53 1) 161 (dC0 mem) 0 0) m) := by
    intro m q70 q10
    have w := c_X6_text (l := l) (G := G) (mem := m) (D0 := dC0 mem) ⟨rfl, rfl, by rw [q10]; exact l0, by rw [q10]; exact l1, fun j _ _ => by rw [q70]; exact lb j⟩ hDI rfl rfl (fun k a b => z _ k a b) rfl rfl (fun k a b => z _ k a b) rfl
    rw [q70, q10, ← e54, ← e1] at w
    exact w
  have hok := fun b => sTx_ok (t := mem 54) (L := mem 53 1) 161 (dC0 mem) 0 0 b (by omega) hDI (fun i j i0 i1 j0 j1 hij => absurd i1 (by show ¬ i < 0; omega))
  generalize sTx (mem 54) (mem 53 1) 161 (dC0 mem) 0 0 = X at *
  obtain ⟨m1, hk, e⟩ := e
  cases X with
  | error x =>
    obtain ⟨f4, rfl, rfl⟩ := e
    refine ⟨_, rfl, (ref _ (by rw [zs_n (by decide)]; exact hk.1 70 (by decide) (by decide)) (by rw [zs_n (by decide), hk.1 65 (by decide) (by decide)])).imp (fun r2 M2 e2 => ?_)⟩
    obtain ⟨m2, hd, g15, rfl, rfl⟩ := e2
    refine ⟨rfl, ?_⟩
    have F : ∀ o : Nat, o ≠ 53 → o ≠ 65 → o ≠ 69 → ¬ (55 ≤ o ∧ o ≤ 62) → zs m2 65 10 0 o = mem o := fun o a b c d => by rw [zs_n b, hd.1 o b c, zs_n a, hk.1 o a d]
    have F65 : ∀ j, j ≠ 10 → ¬ (5 ≤ j ∧ j ≤ 8) → ¬ (11 ≤ j ∧ j ≤ 16) → zs m2 65 10 0 65 j = mem 65 j := fun j a b c => by rw [zs_k a, hd.2 j b c, zs_n (by decide), hk.1 65 (by decide) (by decide)]
    have F53 : ∀ j, j ≠ 1 → zs m2 65 10 0 53 j = m1 53 j := fun j a => by rw [zs_n (by decide), hd.1 53 (by decide) (by decide), zs_k a]
    have F1 : zs m2 65 10 0 53 1 = 0 := by rw [zs_n (by decide), hd.1 53 (by decide) (by decide), zs_v]
    have F10 : zs m2 65 10 0 65 10 = 0 := zs_v
    have F15 : zs m2 65 10 0 65 15 = x.1 := by rw [zs_k (by decide)]; exact g15
    generalize zs m2 65 10 0 = M at *
    obtain ⟨a1, a2, a3, a4, a5, a6, a7⟩ := h
    have n3 := F65 3 (by decide) (by decide) (by decide)
    refine ⟨?_, ?_, ?_, ?_, by rw [F53 4 (by decide), F15]; exact f4, by rw [F 0 (by decide) (by decide) (by decide) (by decide), F65 27 (by decide) (by decide) (by decide)]; exact a6, fun k k0 k1 => ?_⟩
    · rw [n3, F 66 (by decide) (by decide) (by decide) (by decide)]
      exact ⟨a1.1, a1.2.m (fun o ho => F o (by omega) (by omega) (by omega) (by omega))⟩
    · rw [n3, F 66 (by decide) (by decide) (by decide) (by decide), F 20 (by decide) (by decide) (by decide) (by decide), F 68 (by decide) (by decide) (by decide) (by decide)]
      exact ⟨a2.1, a2.2.1, fun q => ⟨(a2.2.2 q).1, (a2.2.2 q).2.m (fun o ho => F o (by omega) (by omega) (by omega) (by omega))⟩⟩
    · rw [n3, F 66 (by decide) (by decide) (by decide) (by decide), F 32 (by decide) (by decide) (by decide) (by decide), F 68 (by decide) (by decide) (by decide) (by decide)]
      exact ⟨a3.1, a3.2.1, fun q => ⟨(a3.2.2 q).1, (a3.2.2 q).2.m (fun o ho => F o (by omega) (by omega) (by omega) (by omega))⟩⟩
    · rw [F 54 (by decide) (by decide) (by decide) (by decide), F 70 (by decide) (by decide) (by decide) (by decide), F1, F10]
      exact ⟨a4.1, rfl, by decide, by decide, lb⟩
    · have b := shp_b k0 k1
      rw [F (shp k) (by omega) (by omega) (by omega) (by omega), F (shp k + 1) (by omega) (by omega) (by omega) (by omega), F 73 (by decide) (by decide) (by decide) (by decide), F 74 (by decide) (by decide) (by decide) (by decide), F 75 (by decide) (by decide) (by decide) (by decide)]
      exact a7 k k0 k1
  | ok b =>
    obtain ⟨⟨q1, q2, q3⟩, rfl, rfl⟩ := e
    obtain ⟨hB, hP, hH⟩ := hok b rfl
    have f : ∀ o : Nat, ¬ (1 ≤ o ∧ o ≤ 7) → o ≠ 15 → o ≠ 20 → o ≠ 32 → zs (zs (zs (zBec (zs m1 53 1 0) 1 55) 15 0 0) 20 0 0) 32 0 0 o = zs m1 53 1 0 o := fun o a b c d => by rw [zs_n d, zs_n c, zs_n b, zBec_o (by omega)]
    have f2 : ∀ o : Nat, o ≠ 53 → ¬ (55 ≤ o ∧ o ≤ 62) → zs m1 53 1 0 o = mem o := fun o a d => by rw [zs_n a, hk.1 o a d]
    refine ⟨_, rfl, (ref _ (by rw [f 70 (by decide) (by decide) (by decide) (by decide), f2 70 (by decide) (by decide)]) (by rw [f 65 (by decide) (by decide) (by decide) (by decide), f2 65 (by decide) (by decide)])).imp (fun r2 M2 e2 => ?_)⟩
    obtain ⟨m2, hd, hR, g15, rfl, rfl⟩ := e2
    refine ⟨rfl, ?_⟩
    have k0 : ∀ o : Nat, o ≠ 65 → o ≠ 66 → o ≠ 68 → zKD (zs m2 65 10 0) o = m2 o := fun o a b c => by unfold zKD; rw [zs_n c, zs_n c, zs_n a, zr_n b, zs_n a]
    have K66 : zKD (zs m2 65 10 0) 66 = zcp (m2 69) (m2 66) 0 0 76 := by
      unfold zKD
      simp (disch := decide) only [zs_n, zr_s]
    have K68 : zKD (zs m2 65 10 0) 68 0 = 0 ∧ zKD (zs m2 65 10 0) 68 1 = 0 := by
      unfold zKD
      simp (disch := decide) only [zs_v, zs_k]
      exact ⟨trivial, trivial⟩
    have K3 : zKD (zs m2 65 10 0) 65 3 = b.1.1.1 := by
      unfold zKD
      simp (disch := decide) only [zs_n, zs_v, zs_k]
      exact hR.1
    have K65 : ∀ j, j ≠ 3 → zKD (zs m2 65 10 0) 65 j = zs m2 65 10 0 65 j := fun j a => by
      unfold zKD
      rw [zs_n (by decide), zs_n (by decide), zs_k a, zr_n (by decide)]
    have hcI := CI_text hR hB hP hH
    have F : ∀ o : Nat, ¬ (1 ≤ o ∧ o ≤ 7) → o ≠ 15 → o ≠ 20 → o ≠ 32 → o ≠ 53 → ¬ (55 ≤ o ∧ o ≤ 62) → o ≠ 65 → o ≠ 66 → o ≠ 68 → o ≠ 69 → zKD (zs m2 65 10 0) o = mem o := fun o a1 a2 a3 a4 a5 a6 a7 a8 a9 a10 => by rw [k0 o a7 a8 a9, hd.1 o a7 a10, f o a1 a2 a3 a4, f2 o a5 a6]
    have E : ∀ o : Nat, o ≠ 65 → o ≠ 66 → o ≠ 68 → o ≠ 69 → zKD (zs m2 65 10 0) o = zs (zs (zs (zBec (zs m1 53 1 0) 1 55) 15 0 0) 20 0 0) 32 0 0 o := fun o a b c d => by rw [k0 o a b c, hd.1 o a d]
    have F53 : zKD (zs m2 65 10 0) 53 1 = 0 ∧ zKD (zs m2 65 10 0) 53 4 = 0 := by
      rw [E 53 (by decide) (by decide) (by decide) (by decide), f 53 (by decide) (by decide) (by decide) (by decide), zs_v, zs_k (by decide)]
      exact ⟨rfl, q3⟩
    have E20 : zKD (zs m2 65 10 0) 20 0 = 0 := by
      rw [E 20 (by decide) (by decide) (by decide) (by decide), zs_n (by decide), zs_v]
    have E32 : zKD (zs m2 65 10 0) 32 0 = 0 := by
      rw [E 32 (by decide) (by decide) (by decide) (by decide), zs_v]
    have hCA : CA b.1.1.1 (m2 69) (zKD (zs m2 65 10 0)) 1 15 := by
      have hC : vC (zs m1 15 0 0) 55 = b.1.1 := by
        rw [← q1]
        unfold dC vC
        simp (disch := decide) only [zs_n]
      have w := CA_text (s := 15) hR hB hC zs_v
      have B : ∀ o : Nat, 1 ≤ o → o ≤ 7 → zKD (zs m2 65 10 0) o = zBec (zs m1 53 1 0) 1 55 o := fun o x y => by rw [E o (by omega) (by omega) (by omega) (by omega), zs_n (by omega), zs_n (by omega), zs_n (by omega)]
      have S : ∀ o : Nat, 55 ≤ o → o ≤ 61 → zs m1 53 1 0 o = zs m1 15 0 0 o := fun o x y => by rw [zs_n (by omega), zs_n (by omega)]
      refine w.t hcI (fun k hk => by rw [B 1 (by omega) (by omega), zBec_k hk, S 55 (by omega) (by omega)]) (fun i i0 i1 => ?_) (fun k k0 k1 => ?_) (fun k k0 k1 => ?_) ?_ (fun k k0 k1 => ?_)
      · rw [B (1 + 1) (by omega) (by omega), B (1 + 2) (by omega) (by omega), zBec_1, zBec_2, zcp_at i0 i1, zcp_at i0 i1, S (55 + 1) (by omega) (by omega), S (55 + 2) (by omega) (by omega)]; exact ⟨rfl, rfl⟩
      · rw [B (1 + 3) (by omega) (by omega), zBec_3, zcp_at k0 k1, S (55 + 3) (by omega) (by omega)]
      · rw [B (1 + 4) (by omega) (by omega), B (1 + 5) (by omega) (by omega), B (1 + 6) (by omega) (by omega), zBec_4, zBec_5, zBec_6, zcp_at k0 k1, zcp_at k0 k1, zcp_at k0 k1, S (55 + 4) (by omega) (by omega), S (55 + 5) (by omega) (by omega), S (55 + 6) (by omega) (by omega)]; exact ⟨rfl, rfl, rfl⟩
      · rw [E 15 (by decide) (by decide) (by decide) (by decide), zs_n (by decide), zs_n (by decide), zs_v, zs_v]
      · have Q : ∀ o : Nat, 16 ≤ o → o ≤ 18 → zKD (zs m2 65 10 0) o = zs m1 15 0 0 o := fun o x y => by rw [E o (by omega) (by omega) (by omega) (by omega), f o (by omega) (by omega) (by omega) (by omega), zs_n (by omega), zs_n (by omega)]
        rw [Q (15 + 1) (by omega) (by omega), Q (15 + 2) (by omega) (by omega), Q (15 + 3) (by omega) (by omega)]; exact ⟨rfl, rfl, rfl⟩
    have Z10 : zKD (zs m2 65 10 0) 65 10 = 0 := by rw [K65 10 (by decide), zs_v]
    have Z15 : zKD (zs m2 65 10 0) 65 15 = 0 := by rw [K65 15 (by decide), zs_k (by decide)]; exact g15
    have Z27 : zKD (zs m2 65 10 0) 65 27 = mem 65 27 := by rw [K65 27 (by decide), zs_k (by decide), hd.2 27 (by decide) (by decide), f 65 (by decide) (by decide) (by decide) (by decide), f2 65 (by decide) (by decide)]
    generalize zKD (zs m2 65 10 0) = M at *
    obtain ⟨a1, a2, a3, a4, a5, a6, a7⟩ := h
    refine ⟨?_, ?_, ?_, ?_, by rw [F53.2, Z15], by rw [F 0 (by decide) (by decide) (by decide) (by decide) (by decide) (by decide) (by decide) (by decide) (by decide) (by decide), Z27]; exact a6, fun k k0 k1 => ?_⟩
    · rw [K3, K66]
      exact ⟨hcI.c (fun k k0 k1 _ _ _ => zcp_at k0 k1), hCA.c hcI (fun k k0 k1 => zcp_at k0 k1)⟩
    · exact ⟨by rw [E20, K68.1], Or.inl K68.1, fun q => by rw [K68.1] at q; cases q⟩
    · exact ⟨by rw [E32, K68.2], Or.inl K68.2, fun q => by rw [K68.2] at q; cases q⟩
    · rw [F 54 (by decide) (by decide) (by decide) (by decide) (by decide) (by decide) (by decide) (by decide) (by decide) (by decide), F 70 (by decide) (by decide) (by decide) (by decide) (by decide) (by decide) (by decide) (by decide) (by decide) (by decide), F53.1, Z10]
      exact ⟨a4.1, rfl, by decide, by decide, lb⟩
    · have b := shp_b k0 k1
      rw [F (shp k) (by omega) (by omega) (by omega) (by omega) (by omega) (by omega) (by omega) (by omega) (by omega) (by omega), F (shp k + 1) (by omega) (by omega) (by omega) (by omega) (by omega) (by omega) (by omega) (by omega) (by omega) (by omega), F 73 (by decide) (by decide) (by decide) (by decide) (by decide) (by decide) (by decide) (by decide) (by decide) (by decide), F 74 (by decide) (by decide) (by decide) (by decide) (by decide) (by decide) (by decide) (by decide) (by decide) (by decide), F 75 (by decide) (by decide) (by decide) (by decide) (by decide) (by decide) (by decide) (by decide) (by decide) (by decide)]
      exact a7 k k0 k1
end
