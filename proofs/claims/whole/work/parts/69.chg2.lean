/-! ===== days, images, sheets: both sides ===== -/
theorem vDays_dy {W : zVw} {k : Nat} (h0 : 0 ≤ (vS0 W).2.2) (h1 : (vS0 W).2.2 + k < 2147483648) : (vDays W k).2.2 = (vS0 W).2.2 + k := by
  obtain ⟨n, t, g, r, e1, e2, ln, hol, p, bu, dy⟩ := W
  have h0 : 0 ≤ dy := h0
  have h1 : dy + k < 2147483648 := h1
  have q := zfor_ind (f := fun _ s => sDay n t g r e1 e2 ln hol s) (P := fun x (s : zS3) => s.2.2 = dy + x) k 0 (p, bu, dy) (by dsimp only; omega) (fun j a j0 j1 h3 => by
    show zw (a.2.2 + 1) = _
    rw [h3, zw_id (by omega) (by omega)]
    omega)
  show (zfor (fun _ s => sDay n t g r e1 e2 ln hol s) 0 k (p, bu, dy)).2.2 = dy + k
  rw [q]
  omega
theorem CI.days {n : Int} {c : Int → Int} {s : zS3} (h : CI n c) (hd0 : 0 ≤ s.2.2) (hd9 : s.2.2 ≤ 999) (hp : sPB n s.1) (hq : sPD n s.1) : CI n (mR c s) := by
  obtain ⟨⟨n0, n5⟩, ⟨b0, b6⟩, -, p, q, g, z, r, ⟨s0, s6⟩, w⟩ := h
  have e : ∀ k : Int, k ≠ 56 → k ≠ 54 → 10 ≤ k → mR c s k = c k := fun k a b d => mR_k a b d
  refine ⟨⟨n0, n5⟩, by rw [mR_53]; exact ⟨b0, b6⟩, by rw [mR_54]; exact ⟨hd0, hd9⟩, fun i i0 i1 => by rw [mR_i i0 (by omega)]; exact hp i i0 i1, fun i j i0 i1 j0 j1 hij => by rw [mR_i i0 (by omega), mR_i j0 (by omega)]; exact hq i j i0 i1 j0 j1 hij, fun k k0 k1 => by rw [e _ (by omega) (by omega) (by omega)]; exact g k k0 k1, fun i j i0 i1 j0 j1 hz => by rw [e _ (by omega) (by omega) (by omega)] at hz; exact z i j i0 i1 j0 j1 hz, fun k k0 k1 => ?_, by rw [e 57 (by decide) (by decide) (by decide)]; exact ⟨s0, s6⟩, fun k k0 k1 => ?_⟩
  · rw [mR_53] at k1
    rw [e (35 + 3 * k) (by omega) (by omega) (by omega), e (36 + 3 * k) (by omega) (by omega) (by omega), e (37 + 3 * k) (by omega) (by omega) (by omega)]; exact r k k0 k1
  · rw [e 57 (by decide) (by decide) (by decide)] at k1
    rw [e (58 + 3 * k) (by omega) (by omega) (by omega), e (59 + 3 * k) (by omega) (by omega) (by omega)]; exact w k k0 k1
theorem CA1.days {n : Int} {c : Int → Int} {m : zM} {s u : zS3} (h : CA1 n c m) (hI : CI n c) (h1 : PE n s.1 u.1) (h2 : s.2 = u.2) : CA1 n (mR c u) (zFy m 1 s) := by
  obtain ⟨⟨n0, n5⟩, ⟨b0, b6⟩, -, -, -, -, -, -, ⟨s0, s6⟩, -⟩ := hI
  obtain ⟨a0, a4, a8, a9, a10, p, g, r, e0, w⟩ := h
  have e : ∀ k : Int, k ≠ 56 → k ≠ 54 → 10 ≤ k → mR c u k = c k := fun k a b d => mR_k a b d
  have f : ∀ o : Nat, o ≠ 1 → o ≠ 3 → zFy m 1 s o = m o := fun o x y => zFy_o x y
  refine ⟨by rw [zFy_b0]; exact a0, by rw [zFy_b4, mR_53]; exact a4, by rw [zFy_b8, mR_55]; exact a8, by rw [zFy_9, mR_54, h2], by rw [zFy_10, mR_56, h2], fun i i0 i1 => ?_, fun k k0 k1 => ?_, fun k k0 k1 => ?_, ?_, fun k k0 k1 => ?_⟩
  · rw [f 2 (by decide) (by decide), show zFy m 1 s 3 = s.1 from zFy_2, mR_i i0 (by omega)]
    refine ⟨?_, h1 i i0 i1⟩
    rw [(p i i0 i1).1]
    unfold mR
    rw [if_neg (by omega), if_neg (by omega), if_neg (by omega)]
  · rw [f 4 (by decide) (by decide), e _ (by omega) (by omega) (by omega)]; exact g k k0 k1
  · rw [mR_53] at k1
    rw [f 5 (by decide) (by decide), f 6 (by decide) (by decide), f 7 (by decide) (by decide), e (35 + 3 * k) (by omega) (by omega) (by omega), e (36 + 3 * k) (by omega) (by omega) (by omega), e (37 + 3 * k) (by omega) (by omega) (by omega)]; exact r k k0 k1
  · rw [f 15 (by decide) (by decide), e 57 (by decide) (by decide) (by decide)]; exact e0
  · rw [e 57 (by decide) (by decide) (by decide)] at k1
    rw [f 16 (by decide) (by decide), f 17 (by decide) (by decide), f 18 (by decide) (by decide), e (58 + 3 * k) (by omega) (by omega) (by omega), e (59 + 3 * k) (by omega) (by omega) (by omega), e (60 + 3 * k) (by omega) (by omega) (by omega)]; exact w k k0 k1
/-- a firth copied is that firth -/
theorem CA.t {n : Int} {c : Int → Int} {m m' : zM} {b s b' s' : Nat} (h : CA n c m b s) (hI : CI n c) (e0 : ∀ k : Int, k = 0 ∨ k = 4 ∨ k = 8 ∨ k = 9 ∨ k = 10 → m' b' k = m b k) (e1 : ∀ i : Int, 0 ≤ i → i < 5 → m' (b' + 1) i = m (b + 1) i ∧ m' (b' + 2) i = m (b + 2) i) (e3 : ∀ k : Int, 0 ≤ k → k < 25 → m' (b' + 3) k = m (b + 3) k) (e4 : ∀ k : Int, 0 ≤ k → k < 6 → m' (b' + 4) k = m (b + 4) k ∧ m' (b' + 5) k = m (b + 5) k ∧ m' (b' + 6) k = m (b + 6) k) (es : m' s' 0 = m s 0) (ew : ∀ k : Int, 0 ≤ k → k < 6 → m' (s' + 1) k = m (s + 1) k ∧ m' (s' + 2) k = m (s + 2) k ∧ m' (s' + 3) k = m (s + 3) k) : CA n c m' b' s' := by
  obtain ⟨⟨n0, n5⟩, ⟨b0, b6⟩, -, -, -, -, -, -, ⟨s0, s6⟩, -⟩ := hI
  obtain ⟨a0, a4, a8, a9, a10, p, g, r, q0, w⟩ := h
  refine ⟨by rw [e0 0 (by decide)]; exact a0, by rw [e0 4 (by decide)]; exact a4, by rw [e0 8 (by decide)]; exact a8, by rw [e0 9 (by decide)]; exact a9, by rw [e0 10 (by decide)]; exact a10, fun i i0 i1 => ?_, fun k k0 k1 => ?_, fun k k0 k1 => ?_, by rw [es]; exact q0, fun k k0 k1 => ?_⟩
  · rw [(e1 i i0 (by omega)).1, (e1 i i0 (by omega)).2]; exact p i i0 i1
  · rw [e3 k k0 k1]; exact g k k0 k1
  · have u := e4 k k0 (by omega)
    rw [u.1, u.2.1, u.2.2]; exact r k k0 k1
  · have u := ew k k0 (by omega)
    rw [u.1, u.2.1, u.2.2]; exact w k k0 k1
theorem zBec_k {m : zM} {b c : Nat} {k : Int} (h : k = 0 ∨ k = 4 ∨ k = 8 ∨ k = 9 ∨ k = 10) : zBec m b c b k = m c k := by rw [zBec_b, if_pos h]
theorem zBeS_o {m : zM} {b c o : Nat} (h : o < b ∨ b + 3 < o) : zBeS m b c o = m o := by
  unfold zBeS
  rw [zr_n (by omega), zr_n (by omega), zr_n (by omega), zs_n (by omega)]
theorem zBeS_0 {m : zM} {b c : Nat} : zBeS m b c b 0 = m c 0 := by
  unfold zBeS
  rw [zr_n (by omega), zr_n (by omega), zr_n (by omega), zs_v]
theorem zBeS_1 {m : zM} {b c : Nat} : zBeS m b c (b + 1) = zcp (m (c + 1)) (m (b + 1)) 0 0 6 := by
  unfold zBeS
  rw [zr_n (by omega), zr_n (by omega), zr_s]
theorem zBeS_2 {m : zM} {b c : Nat} : zBeS m b c (b + 2) = zcp (m (c + 2)) (m (b + 2)) 0 0 6 := by
  unfold zBeS
  rw [zr_n (by omega), zr_s]
theorem zBeS_3 {m : zM} {b c : Nat} : zBeS m b c (b + 3) = zcp (m (c + 3)) (m (b + 3)) 0 0 6 := by
  unfold zBeS
  rw [zr_s]
/-- a firth and what was seen, both copied -/
theorem CA.cp {n : Int} {c : Int → Int} {m : zM} {b s b' s' : Nat} (h : CA n c m b s) (hI : CI n c) (d1 : b' + 6 < s' ∨ s' + 3 < b') (d2 : s + 3 < b' ∨ b' + 6 < s) : CA n c (zBeS (zBec m b' b) s' s) b' s' := by
  have f : ∀ o, b' ≤ o → o ≤ b' + 6 → zBeS (zBec m b' b) s' s o = zBec m b' b o := fun o x y => zBeS_o (by omega)
  have g : ∀ o, s ≤ o → o ≤ s + 3 → zBec m b' b o = m o := fun o x y => zBec_o (by omega)
  refine h.t hI (fun k hk => by rw [f b' (by omega) (by omega), zBec_k hk]) (fun i i0 i1 => ?_) (fun k k0 k1 => ?_) (fun k k0 k1 => ?_) (by rw [zBeS_0, g s (by omega) (by omega)]) (fun k k0 k1 => ?_)
  · rw [f (b' + 1) (by omega) (by omega), f (b' + 2) (by omega) (by omega), zBec_1, zBec_2, zcp_at i0 i1, zcp_at i0 i1]; exact ⟨rfl, rfl⟩
  · rw [f (b' + 3) (by omega) (by omega), zBec_3, zcp_at k0 k1]
  · rw [f (b' + 4) (by omega) (by omega), f (b' + 5) (by omega) (by omega), f (b' + 6) (by omega) (by omega), zBec_4, zBec_5, zBec_6, zcp_at k0 k1, zcp_at k0 k1, zcp_at k0 k1]; exact ⟨rfl, rfl, rfl⟩
  · rw [zBeS_1, zBeS_2, zBeS_3, zcp_at k0 k1, zcp_at k0 k1, zcp_at k0 k1, g (s + 1) (by omega) (by omega), g (s + 2) (by omega) (by omega), g (s + 3) (by omega) (by omega)]; exact ⟨rfl, rfl, rfl⟩
theorem kU.y {m : zM} {s : zS3} : kU m (zFy m 1 s) := by
  have f : ∀ o : Nat, o ≠ 1 → o ≠ 3 → zFy m 1 s o = m o := fun o x y => zFy_o x y
  refine ⟨fun o ho => f o (by omega) (by omega), ?_, fun k _ _ => by rw [f 66 (by decide) (by decide)]⟩
  rw [f 0 (by decide) (by decide), f 53 (by decide) (by decide), f 65 (by decide) (by decide)]
  exact ⟨rfl, rfl, rfl, rfl, rfl, rfl, rfl⟩
section
variable {l : Launch} {G : zG} {mem : zM}
theorem sim_days (h : SIM mem) (n : Int) : KX5_days l G 5 [zR 0, zI n] mem (simQ (fun m p => KX6_days l G 6 [zR 65, zI n] m p)) := by
  have e9 : mem 1 9 = mem 66 54 := h.1.2.2.2.2.1
  have d0 := h.1.1.2.2.1.1
  have d9 := h.1.1.2.2.1.2
  have hv := h.veq
  refine (c_X5_days h.fi n (by omega) (by omega)).imp (fun r m1 e => ?_)
  obtain ⟨rfl, rfl⟩ := e
  simp only [e9]
  by_cases c : 0 ≤ n ∧ n ≤ 30
  · by_cases c9 : 999 < mem 66 54 + n
    · have c' : ¬ ((0 ≤ n ∧ n ≤ 30) ∧ mem 66 54 + n ≤ 999) := fun z => by omega
      simp only [if_pos c, if_pos c9, if_neg c']
      refine ⟨_, rfl, (c_X6_days h.1.1.mI n d0 d9).imp (fun r m2 e2 => ?_)⟩
      obtain ⟨rfl, X, rfl⟩ := e2
      simp only [if_pos c, if_pos c9, if_neg c', zr_self]
      exact ⟨trivial, h.kM (kM.rf.r (by decide))⟩
    · have c' : (0 ≤ n ∧ n ≤ 30) ∧ mem 66 54 + n ≤ 999 := ⟨c, by omega⟩
      simp only [if_pos c, if_neg c9, if_pos c']
      have f : ∀ o : Nat, o ≠ 1 → o ≠ 3 → zFy mem 1 (vDays (vC mem 1) n.toNat) o = mem o := fun o x y => zFy_o x y
      refine ⟨_, rfl, (c_X6_days (by rw [f 65 (by decide) (by decide), f 66 (by decide) (by decide)]; exact h.1.1.mI) n (by rw [f 66 (by decide) (by decide)]; exact d0) (by rw [f 66 (by decide) (by decide)]; exact d9)).imp (fun r m2 e2 => ?_)⟩
      obtain ⟨rfl, X, rfl⟩ := e2
      rw [f 65 (by decide) (by decide), f 66 (by decide) (by decide), f 67 (by decide) (by decide)]
      simp only [if_pos c, if_neg c9, if_pos c']
      have hw := hv.trans (vM_cp (d := mem 67) h.1.1.mI).2.1.symm
      have q := hw.days n.toNat
      have hfi := h.fi
      have hdy := vDays_dy (W := vC mem 1) (k := n.toNat) (show 0 ≤ mem 1 9 by omega) (show mem 1 9 + _ < _ by omega)
      have hdy : (vDays (vC mem 1) n.toNat).2.2 = mem 1 9 + n.toNat := hdy
      have hpb := vDays_bd (W := vC mem 1) (k := n.toNat) hfi.1 hfi.2.2.2.2.1
      have hpd := vDays_pd (W := vC mem 1) (k := n.toNat) (h.1.2.pd h.1.1)
      have hpb : sPB (mem 1 0) (vDays (vC mem 1) n.toNat).1 := hpb
      have hpd : sPD (mem 1 0) (vDays (vC mem 1) n.toNat).1 := hpd
      have hpe : PE (mem 1 0) (vDays (vC mem 1) n.toNat).1 (vDays (vM (mem 65 3) (zcp (mem 66) (mem 67) 0 0 76)) n.toNat).1 := q.2.1
      have h2 : (vDays (vC mem 1) n.toNat).2 = (vDays (vM (mem 65 3) (zcp (mem 66) (mem 67) 0 0 76)) n.toNat).2 := q.2.2
      rw [h.e0] at hpb hpd hpe
      generalize vDays (vM (mem 65 3) (zcp (mem 66) (mem 67) 0 0 76)) n.toNat = u at *
      generalize vDays (vC mem 1) n.toNat = s at *
      have d54 : u.2.2 = mem 66 54 + n := by rw [← h2, hdy]; omega
      have hpb' : sPB (mem 65 3) u.1 := fun i i0 i1 => by rw [← hpe i i0 i1]; exact hpb i i0 i1
      have hpd' : sPD (mem 65 3) u.1 := fun i j i0 i1 j0 j1 hij => by rw [← hpe i i0 i1, ← hpe j j0 j1]; exact hpd i j i0 i1 j0 j1 hij
      refine ⟨by rw [hv.bumps], h.u ((kU.y.s (fun k k0 k1 => ?_)).z (o := 67) (by decide)) ⟨?_, ?_⟩⟩
      · rw [f 66 (by decide) (by decide), mR_k (by omega) (by omega) (by omega)]
      · simp (disch := decide) only [zs_s, zs_n, zr_s, zr_n]; exact h.1.1.days (by omega) (by omega) hpb' hpd'
      · simp (disch := decide) only [zs_s, zs_n, zr_s, zr_n]; exact (((h.1.2.l.days h.1.1 hpe h2).o (by decide)).o (by decide)).r
  · have c' : ¬ ((0 ≤ n ∧ n ≤ 30) ∧ mem 66 54 + n ≤ 999) := fun z => c z.1
    simp only [if_neg c, if_neg c']
    refine ⟨_, rfl, (c_X6_days h.1.1.mI n d0 d9).imp (fun r m2 e2 => ?_)⟩
    obtain ⟨rfl, X, rfl⟩ := e2
    simp only [if_neg c, if_neg c', zr_self]
    exact ⟨trivial, h.kM (kM.rf.r (by decide))⟩
theorem SIM.i {m m' : zM} (h : SIM m) (h3 : m' 65 = m 65) (h0 : m' 0 = m 0) (h53 : m' 53 = m 53) (h1 : ∀ o, ((45 ≤ o ∧ o ≤ 52) ∨ o = 54 ∨ o = 70 ∨ (73 ≤ o ∧ o ≤ 75)) → m' o = m o) (hs : CI (m 65 3) (m' 66) ∧ CA (m 65 3) (m' 66) m' 1 15) (i1 : m' 20 0 = m' 68 0 ∧ (m' 68 0 = 0 ∨ m' 68 0 = 1) ∧ (m' 68 0 = 1 → CI (m 65 3) (fun k => m' 66 (76 + k)) ∧ CA (m 65 3) (fun k => m' 66 (76 + k)) m' 21 28)) (i2 : m' 32 0 = m' 68 1 ∧ (m' 68 1 = 0 ∨ m' 68 1 = 1) ∧ (m' 68 1 = 1 → CI (m 65 3) (fun k => m' 66 (152 + k)) ∧ CA (m 65 3) (fun k => m' 66 (152 + k)) m' 33 40)) : SIM m' := by
  obtain ⟨-, -, -, tp, ft, tn, sh⟩ := h
  refine ⟨by rw [h3]; exact hs, by rw [h3]; exact i1, by rw [h3]; exact i2, by rw [h1 54 (by omega), h1 70 (by omega), h53, h3]; exact tp, by rw [h53, h3]; exact ft, by rw [h0, h3]; exact tn, fun k k0 k1 => ?_⟩
  have b := shp_b k0 k1
  rw [h1 (shp k) (by omega), h1 (shp k + 1) (by omega), h1 73 (by omega), h1 74 (by omega), h1 75 (by omega)]
  exact sh k k0 k1
theorem zcp_i {f g : Int → Int} {a b n j : Int} (h0 : b ≤ j) (h1 : j < b + n) : zcp f g a b n j = f (a + (j - b)) := by unfold zcp; rw [if_pos ⟨h0, h1⟩]
theorem zcp_j {f g : Int → Int} {a b n j : Int} (h : j < b ∨ b + n ≤ j) : zcp f g a b n j = g j := by unfold zcp; rw [if_neg (by omega)]
set_option maxRecDepth 100000 in
theorem c_X6_keepB (k : Int) (h : ¬ (0 ≤ k ∧ k ≤ 1)) : KX6_keep l G 1 [zR 65, zI k] mem (zP1 (zI (-1)) mem) := by
  refine CT.of' (own := RX6) (ls0 := [zR 65, zI k, zU]) rfl (by decide +kernel) (Nat.le_of_ble_eq_true rfl) rfl ?_
  refine r_iload_n dX6_keep_0 rfl ?_
  refine r_i2l dX6_keep_1 ?_
  refine r_lconst dX6_keep_2 rfl (k := ?_)
  refine r_lconst dX6_keep_3 rfl (k := ?_)
  refine r_s3 (c_in _ _ _) kX6_69 dX6_keep_4 ?_
  refine r_ifd_ne (tgt := 12) dX6_keep_7 (by decide) (fun h7 => ?_) (fun h7 => ?_)
  · exact absurd h7 h
  · refine r_iconst dX6_keep_10 (k := ?_)
    refine r_iret dX6_keep_11 ?_
    exact zP1.i
theorem sim_keep (h : SIM mem) (k : Int) : KX5_keep l G 2 [zR 0, zI k] mem (simQ (fun m p => KX6_keep l G 1 [zR 65, zI k] m p)) := by
  by_cases c : 0 ≤ k ∧ k ≤ 1
  · rcases (show k = 0 ∨ k = 1 by omega) with rfl | rfl
    · refine c_X5_keep0.imp (fun r m1 e => ?_)
      obtain ⟨rfl, rfl⟩ := e
      have f : ∀ o : Nat, (o < 20 ∨ 32 ≤ o) → zBeS (zBec (zs mem 20 0 1) 21 1) 28 15 o = mem o := fun o ho => by rw [zBeS_o (by omega), zBec_o (by omega), zs_n (by omega)]
      refine ⟨_, rfl, (c_X6_keep 0 (by rw [f 68 (by omega)]; exact h.2.1.2.1)).imp (fun r m2 e2 => ?_)⟩
      obtain ⟨rfl, rfl⟩ := e2
      simp only [if_pos c]
      rw [f 68 (by omega), f 66 (by omega)]
      refine ⟨?_, ?_⟩
      · rw [h.2.1.1]
        rcases h.2.1.2.1 with q | q <;> rw [q] <;> rfl
      have F : ∀ o : Nat, (o < 20 ∨ 32 ≤ o) → o ≠ 66 → o ≠ 68 → zr (zs (zBeS (zBec (zs mem 20 0 1) 21 1) 28 15) 68 0 1) 66 (zcp (mem 66) (mem 66) 0 (76 * (0 + 1)) 76) o = mem o := fun o ho x y => by rw [zr_n x, zs_n y, f o ho]
      have E : ∀ o : Nat, o ≠ 66 → o ≠ 68 → zr (zs (zBeS (zBec (zs mem 20 0 1) 21 1) 28 15) 68 0 1) 66 (zcp (mem 66) (mem 66) 0 (76 * (0 + 1)) 76) o = zBeS (zBec (zs mem 20 0 1) 21 1) 28 15 o := fun o x y => by rw [zr_n x, zs_n y]
      have E66 : zr (zs (zBeS (zBec (zs mem 20 0 1) 21 1) 28 15) 68 0 1) 66 (zcp (mem 66) (mem 66) 0 (76 * (0 + 1)) 76) 66 = zcp (mem 66) (mem 66) 0 (76 * (0 + 1)) 76 := zr_s
      have E68 : ∀ j, zr (zs (zBeS (zBec (zs mem 20 0 1) 21 1) 28 15) 68 0 1) 66 (zcp (mem 66) (mem 66) 0 (76 * (0 + 1)) 76) 68 j = if j = 0 then 1 else mem 68 j := fun j => by rw [zr_n (by decide), zs_s, f 68 (by omega)]; rfl
      generalize hM : zr (zs (zBeS (zBec (zs mem 20 0 1) 21 1) 28 15) 68 0 1) 66 (zcp (mem 66) (mem 66) 0 (76 * (0 + 1)) 76) = M at *
      refine h.i (F 65 (by omega) (by decide) (by decide)) (F 0 (by omega) (by decide) (by decide)) (F 53 (by omega) (by decide) (by decide)) (fun o ho => F o (by omega) (by omega) (by omega)) ⟨?_, ?_⟩ ⟨?_, ?_, fun _ => ⟨?_, ?_⟩⟩ ⟨?_, ?_, fun q => ⟨?_, ?_⟩⟩
      · rw [E66]; exact h.1.1.c (fun k k0 k1 _ _ _ => zcp_j (by omega))
      · rw [E66]; exact (h.1.2.c h.1.1 (fun k k0 k1 => zcp_j (by omega))).m (fun o ho => F o (by omega) (by omega) (by omega))
      · rw [E68, if_pos rfl, E 20 (by decide) (by decide), zBeS_o (by omega), zBec_o (by omega), zs_v]
      · rw [E68, if_pos rfl]; exact Or.inr rfl
      · rw [E66]; exact h.1.1.c (fun k k0 k1 _ _ _ => by rw [zcp_i (by omega) (by omega)]; congr 1; omega)
      · rw [E66]
        refine (CA.m (m := zBeS (zBec (zs mem 20 0 1) 21 1) 28 15) ?_ (fun o ho => E o (by omega) (by omega))).c h.1.1 (fun k k0 k1 => by rw [zcp_i (by omega) (by omega)]; congr 1; omega)
        exact (h.1.2.m (m' := zs mem 20 0 1) (fun o ho => zs_n (by omega))).cp h.1.1 (by omega) (by omega)
      · rw [E68, if_neg (by decide), F 32 (by omega) (by decide) (by decide)]; exact h.2.2.1.1
      · rw [E68, if_neg (by decide)]; exact h.2.2.1.2.1
      · rw [E68, if_neg (by decide)] at q
        rw [E66]; exact (h.2.2.1.2.2 q).1.c (fun k k0 k1 _ _ _ => zcp_j (by omega))
      · rw [E68, if_neg (by decide)] at q
        rw [E66]; exact ((h.2.2.1.2.2 q).2.c (h.2.2.1.2.2 q).1 (fun k k0 k1 => zcp_j (by omega))).m (fun o ho => F o (by omega) (by omega) (by omega))
    · refine c_X5_keep1.imp (fun r m1 e => ?_)
      obtain ⟨rfl, rfl⟩ := e
      have f : ∀ o : Nat, (o < 32 ∨ 44 ≤ o) → zBeS (zBec (zs mem 32 0 1) 33 1) 40 15 o = mem o := fun o ho => by rw [zBeS_o (by omega), zBec_o (by omega), zs_n (by omega)]
      refine ⟨_, rfl, (c_X6_keep 1 (by rw [f 68 (by omega)]; exact h.2.2.1.2.1)).imp (fun r m2 e2 => ?_)⟩
      obtain ⟨rfl, rfl⟩ := e2
      simp only [if_pos c]
      rw [f 68 (by omega), f 66 (by omega)]
      refine ⟨?_, ?_⟩
      · rw [h.2.2.1.1]
        rcases h.2.2.1.2.1 with q | q <;> rw [q] <;> rfl
      have F : ∀ o : Nat, (o < 32 ∨ 44 ≤ o) → o ≠ 66 → o ≠ 68 → zr (zs (zBeS (zBec (zs mem 32 0 1) 33 1) 40 15) 68 1 1) 66 (zcp (mem 66) (mem 66) 0 (76 * (1 + 1)) 76) o = mem o := fun o ho x y => by rw [zr_n x, zs_n y, f o ho]
      have E : ∀ o : Nat, o ≠ 66 → o ≠ 68 → zr (zs (zBeS (zBec (zs mem 32 0 1) 33 1) 40 15) 68 1 1) 66 (zcp (mem 66) (mem 66) 0 (76 * (1 + 1)) 76) o = zBeS (zBec (zs mem 32 0 1) 33 1) 40 15 o := fun o x y => by rw [zr_n x, zs_n y]
      have E66 : zr (zs (zBeS (zBec (zs mem 32 0 1) 33 1) 40 15) 68 1 1) 66 (zcp (mem 66) (mem 66) 0 (76 * (1 + 1)) 76) 66 = zcp (mem 66) (mem 66) 0 (76 * (1 + 1)) 76 := zr_s
      have E68 : ∀ j, zr (zs (zBeS (zBec (zs mem 32 0 1) 33 1) 40 15) 68 1 1) 66 (zcp (mem 66) (mem 66) 0 (76 * (1 + 1)) 76) 68 j = if j = 1 then 1 else mem 68 j := fun j => by rw [zr_n (by decide), zs_s, f 68 (by omega)]; rfl
      generalize hM : zr (zs (zBeS (zBec (zs mem 32 0 1) 33 1) 40 15) 68 1 1) 66 (zcp (mem 66) (mem 66) 0 (76 * (1 + 1)) 76) = M at *
      refine h.i (F 65 (by omega) (by decide) (by decide)) (F 0 (by omega) (by decide) (by decide)) (F 53 (by omega) (by decide) (by decide)) (fun o ho => F o (by omega) (by omega) (by omega)) ⟨?_, ?_⟩ ⟨?_, ?_, fun q => ⟨?_, ?_⟩⟩ ⟨?_, ?_, fun _ => ⟨?_, ?_⟩⟩
      · rw [E66]; exact h.1.1.c (fun k k0 k1 _ _ _ => zcp_j (by omega))
      · rw [E66]; exact (h.1.2.c h.1.1 (fun k k0 k1 => zcp_j (by omega))).m (fun o ho => F o (by omega) (by omega) (by omega))
      · rw [E68, if_neg (by decide), F 20 (by omega) (by decide) (by decide)]; exact h.2.1.1
      · rw [E68, if_neg (by decide)]; exact h.2.1.2.1
      · rw [E68, if_neg (by decide)] at q
        rw [E66]; exact (h.2.1.2.2 q).1.c (fun k k0 k1 _ _ _ => zcp_j (by omega))
      · rw [E68, if_neg (by decide)] at q
        rw [E66]; exact ((h.2.1.2.2 q).2.c (h.2.1.2.2 q).1 (fun k k0 k1 => zcp_j (by omega))).m (fun o ho => F o (by omega) (by omega) (by omega))
      · rw [E68, if_pos rfl, E 32 (by decide) (by decide), zBeS_o (by omega), zBec_o (by omega), zs_v]
      · rw [E68, if_pos rfl]; exact Or.inr rfl
      · rw [E66]; exact h.1.1.c (fun k k0 k1 _ _ _ => by rw [zcp_i (by omega) (by omega)]; congr 1; omega)
      · rw [E66]
        refine (CA.m (m := zBeS (zBec (zs mem 32 0 1) 33 1) 40 15) ?_ (fun o ho => E o (by omega) (by omega))).c h.1.1 (fun k k0 k1 => by rw [zcp_i (by omega) (by omega)]; congr 1; omega)
        exact (h.1.2.m (m' := zs mem 32 0 1) (fun o ho => zs_n (by omega))).cp h.1.1 (by omega) (by omega)
  · refine (c_X5_keepB k (by omega)).imp (fun r m1 e => ?_)
    obtain ⟨rfl, rfl⟩ := e
    refine ⟨_, rfl, ?_⟩
    refine (c_X6_keepB k c).imp (fun r m2 e2 => ?_)
    obtain ⟨rfl, rfl⟩ := e2
    exact ⟨rfl, h⟩
end
