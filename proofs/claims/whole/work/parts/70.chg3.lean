/-! ===== back, sheets, read, text: both sides ===== -/
theorem kU.bk {m : zM} {b s : Nat} {a : Int} : kU m (zr (zBeS (zBec m 1 b) 15 s) 66 (zcp (m 66) (m 66) a 0 76)) := by
  have f : ∀ o : Nat, o ≠ 66 → (o < 1 ∨ 7 < o) → (o < 15 ∨ 18 < o) → zr (zBeS (zBec m 1 b) 15 s) 66 (zcp (m 66) (m 66) a 0 76) o = m o := fun o x y z => by rw [zr_n x, zBeS_o (by omega), zBec_o (by omega)]
  refine ⟨fun o ho => f o (by omega) (by omega) (by omega), ?_, fun k k0 k1 => by rw [zr_s, zcp_j (by omega)]⟩
  rw [f 0 (by decide) (by decide) (by decide), f 53 (by decide) (by decide) (by decide), f 65 (by decide) (by decide) (by decide)]
  exact ⟨rfl, rfl, rfl, rfl, rfl, rfl, rfl⟩
theorem SIM.sh {m m' : zM} (h : SIM m) (e : ∀ o, ¬ (45 ≤ o ∧ o ≤ 52) → ¬ (73 ≤ o ∧ o ≤ 75) → m' o = m o) (hs : ∀ k, 0 ≤ k → k ≤ 3 → m' (shp k) 0 = m' 73 k ∧ m' (shp k) 1 = m' 74 k ∧ 0 ≤ m' 74 k ∧ m' 74 k ≤ 40 ∧ ∀ i, 0 ≤ i → i < 40 → m' (shp k + 1) i = m' 75 (40 * k + i)) : SIM m' := by
  obtain ⟨a1, a2, a3, a4, a5, a6, -⟩ := h
  have g : ∀ o, ¬ (45 ≤ o ∧ o ≤ 52) → ¬ (73 ≤ o ∧ o ≤ 75) → m' o = m o := e
  refine ⟨?_, ?_, ?_, ?_, ?_, ?_, hs⟩
  · rw [g 65 (by omega) (by omega), g 66 (by omega) (by omega)]; exact ⟨a1.1, a1.2.m (fun o ho => g o (by omega) (by omega))⟩
  · rw [g 65 (by omega) (by omega), g 66 (by omega) (by omega), g 20 (by omega) (by omega), g 68 (by omega) (by omega)]; exact ⟨a2.1, a2.2.1, fun q => ⟨(a2.2.2 q).1, (a2.2.2 q).2.m (fun o ho => g o (by omega) (by omega))⟩⟩
  · rw [g 65 (by omega) (by omega), g 66 (by omega) (by omega), g 32 (by omega) (by omega), g 68 (by omega) (by omega)]; exact ⟨a3.1, a3.2.1, fun q => ⟨(a3.2.2 q).1, (a3.2.2 q).2.m (fun o ho => g o (by omega) (by omega))⟩⟩
  · rw [g 54 (by omega) (by omega), g 70 (by omega) (by omega), g 53 (by omega) (by omega), g 65 (by omega) (by omega)]; exact a4
  · rw [g 53 (by omega) (by omega), g 65 (by omega) (by omega)]; exact a5
  · rw [g 0 (by omega) (by omega), g 65 (by omega) (by omega)]; exact a6
theorem sFault_0 {lane size i : Int} (h : sFault lane size lane i = 0) : 0 ≤ i ∧ i < size := by
  unfold sFault at h
  split at h
  · omega
  · rw [if_pos rfl] at h
    split at h
    · omega
    · omega
section
variable {l : Launch} {G : zG} {mem : zM}
set_option maxRecDepth 100000 in
theorem c_X6_backB (k : Int) (h : ¬ (0 ≤ k ∧ k ≤ 1)) : KX6_back l G 1 [zR 65, zI k] mem (zP1 (zI (-1)) mem) := by
  refine CT.of' (own := RX6) (ls0 := [zR 65, zI k]) rfl (by decide +kernel) (Nat.le_of_ble_eq_true rfl) rfl ?_
  refine r_iload_n dX6_back_0 rfl ?_
  refine r_i2l dX6_back_1 ?_
  refine r_lconst dX6_back_2 rfl (k := ?_)
  refine r_lconst dX6_back_3 rfl (k := ?_)
  refine r_s3 (c_in _ _ _) kX6_69 dX6_back_4 ?_
  refine r_ifd_ne (tgt := 12) dX6_back_7 (by decide) (fun h7 => ?_) (fun h7 => ?_)
  · exact absurd h7 h
  · refine r_iconst dX6_back_10 (k := ?_)
    refine r_iret dX6_back_11 ?_
    exact zP1.i
theorem sim_back (h : SIM mem) (k : Int) : KX5_back l G 2 [zR 0, zI k] mem (simQ (fun m p => KX6_back l G 1 [zR 65, zI k] m p)) := by
  by_cases c : 0 ≤ k ∧ k ≤ 1
  · rcases (show k = 0 ∨ k = 1 by omega) with rfl | rfl
    · refine c_X5_back0.imp (fun r m1 e => ?_)
      obtain ⟨rfl, rfl⟩ := e
      rcases h.2.1.2.1 with q | q
      · have q0 : mem 20 0 = 0 := by rw [h.2.1.1]; exact q
        simp only [if_pos q0]
        refine ⟨_, rfl, (c_X6_back 0).imp (fun r m2 e2 => ?_)⟩
        obtain ⟨rfl, rfl⟩ := e2
        simp only [if_pos c, if_pos q]
        exact ⟨trivial, h⟩
      · have q0 : ¬ mem 20 0 = 0 := by rw [h.2.1.1, q]; decide
        have q1 : ¬ mem 68 0 = 0 := by rw [q]; decide
        obtain ⟨w1, w2⟩ := h.2.1.2.2 q
        simp only [if_neg q0]
        have f : ∀ o : Nat, (o < 1 ∨ 7 < o) → (o < 15 ∨ 18 < o) → zBeS (zBec mem 1 21) 15 28 o = mem o := fun o x y => by rw [zBeS_o (by omega), zBec_o (by omega)]
        refine ⟨_, rfl, (c_X6_back 0).imp (fun r m2 e2 => ?_)⟩
        obtain ⟨rfl, rfl⟩ := e2
        rw [f 68 (by decide) (by decide), f 66 (by decide) (by decide)]
        simp only [if_pos c, if_neg q1]
        refine ⟨?_, h.u kU.bk ⟨?_, ?_⟩⟩
        · rw [zBeS_o (by omega), zBec_k (by decide), zcp_i (by decide) (by decide)]
          exact congrArg (fun z => some (zI z)) w2.2.2.2.1.symm
        · rw [zr_s]; exact w1.c (fun k k0 k1 _ _ _ => by rw [zcp_i (by omega) (by omega)]; congr 1; omega)
        · rw [zr_s]
          refine (CA.m (m := zBeS (zBec mem 1 21) 15 28) ?_ (fun o ho => zr_n (by omega))).c w1 (fun k k0 k1 => by rw [zcp_i (by omega) (by omega)]; congr 1; omega)
          exact w2.cp w1 (by omega) (by omega)
    · refine c_X5_back1.imp (fun r m1 e => ?_)
      obtain ⟨rfl, rfl⟩ := e
      rcases h.2.2.1.2.1 with q | q
      · have q0 : mem 32 0 = 0 := by rw [h.2.2.1.1]; exact q
        simp only [if_pos q0]
        refine ⟨_, rfl, (c_X6_back 1).imp (fun r m2 e2 => ?_)⟩
        obtain ⟨rfl, rfl⟩ := e2
        simp only [if_pos c, if_pos q]
        exact ⟨trivial, h⟩
      · have q0 : ¬ mem 32 0 = 0 := by rw [h.2.2.1.1, q]; decide
        have q1 : ¬ mem 68 1 = 0 := by rw [q]; decide
        obtain ⟨w1, w2⟩ := h.2.2.1.2.2 q
        simp only [if_neg q0]
        have f : ∀ o : Nat, (o < 1 ∨ 7 < o) → (o < 15 ∨ 18 < o) → zBeS (zBec mem 1 33) 15 40 o = mem o := fun o x y => by rw [zBeS_o (by omega), zBec_o (by omega)]
        refine ⟨_, rfl, (c_X6_back 1).imp (fun r m2 e2 => ?_)⟩
        obtain ⟨rfl, rfl⟩ := e2
        rw [f 68 (by decide) (by decide), f 66 (by decide) (by decide)]
        simp only [if_pos c, if_neg q1]
        refine ⟨?_, h.u kU.bk ⟨?_, ?_⟩⟩
        · rw [zBeS_o (by omega), zBec_k (by decide), zcp_i (by decide) (by decide)]
          exact congrArg (fun z => some (zI z)) w2.2.2.2.1.symm
        · rw [zr_s]; exact w1.c (fun k k0 k1 _ _ _ => by rw [zcp_i (by omega) (by omega)]; congr 1; omega)
        · rw [zr_s]
          refine (CA.m (m := zBeS (zBec mem 1 33) 15 40) ?_ (fun o ho => zr_n (by omega))).c w1 (fun k k0 k1 => by rw [zcp_i (by omega) (by omega)]; congr 1; omega)
          exact w2.cp w1 (by omega) (by omega)
  · refine (c_X5_backB k (by omega)).imp (fun r m1 e => ?_)
    obtain ⟨rfl, rfl⟩ := e
    refine ⟨_, rfl, (c_X6_backB k c).imp (fun r m2 e2 => ?_)⟩
    obtain ⟨rfl, rfl⟩ := e2
    exact ⟨rfl, h⟩
theorem sim_sheet (h : SIM mem) (k ln n : Int) : KX5_sheet l G 2 [zR 0, zI k, zI ln, zI n] mem (simQ (fun m p => KX6_sheet l G 2 [zR 65, zI k, zI ln, zI n] m p)) := by
  refine (c_X5_sheet k ln n).imp (fun r m1 e => ?_)
  obtain ⟨rfl, rfl⟩ := e
  refine ⟨_, rfl, (c_X6_sheet k ln n).imp (fun r m2 e2 => ?_)⟩
  obtain ⟨rfl, rfl⟩ := e2
  refine ⟨rfl, ?_⟩
  by_cases c : (0 ≤ k ∧ k ≤ 3) ∧ (0 ≤ ln ∧ ln ≤ 2) ∧ 0 ≤ n ∧ n ≤ 40
  · simp only [if_pos c]
    have b := shp_b c.1.1 c.1.2
    have sk : shp k = 45 + 2 * k.toNat := rfl
    have e75 : zr (zs (zs mem (shp k) 0 ln) (shp k) 1 n) (shp k + 1) (zfil (mem (shp k + 1)) 0 40) 75 = mem 75 := by rw [zr_n (by omega), zs_n (by omega), zs_n (by omega)]
    rw [e75]
    refine h.sh (fun o x y => by simp (disch := omega) only [zr_n, zs_n]) (fun x x0 x1 => ?_)
    have sx : shp x = 45 + 2 * x.toNat := rfl
    have u := h.2.2.2.2.2.2 x x0 x1
    simp (disch := omega) only [zr_n, zs_n, zr_s]
    by_cases e : x = k
    · subst e
      simp (disch := omega) only [zr_n, zs_n, zr_s, zs_k, zs_v]
      refine ⟨trivial, trivial, c.2.2.1, c.2.2.2, fun i i0 i1 => ?_⟩
      unfold zfil zfl
      rw [if_pos ⟨i0, by omega⟩, if_pos (by omega)]
    · simp (disch := omega) only [zr_n, zs_n, zs_k]
      refine ⟨u.1, u.2.1, u.2.2.1, u.2.2.2.1, fun i i0 i1 => ?_⟩
      unfold zfl
      rw [if_neg (by omega)]
      exact u.2.2.2.2 i i0 i1
  · simp only [if_neg c]
    exact h
theorem sim_lay (h : SIM mem) (k i v : Int) : KX5_lay l G 1 [zR 0, zI k, zI i, zI v] mem (simQ (fun m p => KX6_lay l G 2 [zR 65, zI k, zI i, zI v] m p)) := by
  have hs := h.2.2.2.2.2.2
  refine (c_X5_lay k i v (fun k k0 k1 => by rw [(hs k k0 k1).2.1]; exact (hs k k0 k1).2.2.2.1)).imp (fun r m1 e => ?_)
  obtain ⟨rfl, rfl⟩ := e
  by_cases c : 0 ≤ k ∧ k ≤ 3
  · obtain ⟨u0, u1, u2, u3, u4⟩ := hs k c.1 c.2
    have b := shp_b c.1 c.2
    have sk : shp k = 45 + 2 * k.toNat := rfl
    rw [u0, u1]
    by_cases d : sFault (mem 73 k) (mem 74 k) (mem 73 k) i = 0
    · have d' : (0 ≤ k ∧ k ≤ 3) ∧ sFault (mem 73 k) (mem 74 k) (mem 73 k) i = 0 := ⟨c, d⟩
      have q := sFault_0 d
      simp only [if_pos c, if_pos d, if_pos d']
      refine ⟨_, rfl, (c_X6_lay k i v (fun x x0 x1 => by rw [zs_n (by omega)]; exact ⟨(hs x x0 x1).2.2.1, (hs x x0 x1).2.2.2.1⟩)).imp (fun r m2 e2 => ?_)⟩
      obtain ⟨rfl, rfl⟩ := e2
      rw [zs_n (show 73 ≠ shp k + 1 by omega), zs_n (show 74 ≠ shp k + 1 by omega)]
      simp only [if_pos c, if_pos d, if_pos d']
      refine ⟨trivial, h.sh (fun o x y => by simp (disch := omega) only [zs_n]) (fun x x0 x1 => ?_)⟩
      have sx : shp x = 45 + 2 * x.toNat := rfl
      have w := hs x x0 x1
      simp (disch := omega) only [zs_n]
      refine ⟨w.1, w.2.1, w.2.2.1, w.2.2.2.1, fun y y0 y1 => ?_⟩
      by_cases e : x = k
      · subst e
        by_cases f : y = i
        · subst f; rw [zs_v, zs_v]
        · simp (disch := omega) only [zs_n, zs_k]
          exact w.2.2.2.2 y y0 y1
      · simp (disch := omega) only [zs_n, zs_k]
        exact w.2.2.2.2 y y0 y1
    · have d' : ¬ ((0 ≤ k ∧ k ≤ 3) ∧ sFault (mem 73 k) (mem 74 k) (mem 73 k) i = 0) := fun z => d z.2
      simp only [if_pos c, if_neg d, if_neg d']
      refine ⟨_, rfl, (c_X6_lay k i v (fun x x0 x1 => ⟨(hs x x0 x1).2.2.1, (hs x x0 x1).2.2.2.1⟩)).imp (fun r m2 e2 => ?_)⟩
      obtain ⟨rfl, rfl⟩ := e2
      simp only [if_pos c, if_neg d, if_neg d']
      exact ⟨trivial, h⟩
  · simp only [if_neg c, if_neg (show ¬ ((0 ≤ k ∧ k ≤ 3) ∧ sFault (mem (shp k) 0) (mem (shp k) 1) (mem (shp k) 0) i = 0) from fun z => c z.1)]
    refine ⟨_, rfl, (c_X6_lay k i v (fun x x0 x1 => ⟨(hs x x0 x1).2.2.1, (hs x x0 x1).2.2.2.1⟩)).imp (fun r m2 e2 => ?_)⟩
    obtain ⟨rfl, rfl⟩ := e2
    simp only [if_neg c, if_neg (show ¬ ((0 ≤ k ∧ k ≤ 3) ∧ sFault (mem 73 k) (mem 74 k) (mem 73 k) i = 0) from fun z => c z.1)]
    exact ⟨trivial, h⟩
end
theorem sRd_c {N lane size asl f : Int} {a b : Int → Int} (h40 : size ≤ 40) (h : ∀ x, 0 ≤ x → x < 40 → a x = b x) : ∀ (k : Nat) (t : Int), sRd N lane size asl f a k t = sRd N lane size asl f b k t
  | 0, t => rfl
  | k + 1, t => by
    rw [sRd, sRd]
    by_cases c : sF3 lane size asl (f + 3 * t) = 0
    · have q := sF3_0 c
      rw [if_pos c, if_pos c, sRd_c h40 h k (t + 1)]
      have e : sTri N a (f + 3 * t) ↔ sTri N b (f + 3 * t) := by
        unfold sTri
        rw [h (f + 3 * t) (by omega) (by omega), h (f + 3 * t + 1) (by omega) (by omega), h (f + 3 * t + 2) (by omega) (by omega)]
      by_cases d : sTri N a (f + 3 * t)
      · rw [if_pos d, if_pos (e.mp d)]
      · rw [if_neg d, if_neg (fun z => d (e.mpr z))]
    · rw [if_neg c, if_neg c]
theorem sRd_ok {N lane size asl f : Int} {a : Int → Int} : ∀ (k : Nat) (t : Int), (sRd N lane size asl f a k t).1 = false → t ≤ (sRd N lane size asl f a k t).2.2 ∧ ∀ u, t ≤ u → u < (sRd N lane size asl f a k t).2.2 → sF3 lane size asl (f + 3 * u) = 0 ∧ sTri N a (f + 3 * u)
  | 0, t, _ => by
    rw [sRd]
    exact ⟨Int.le_refl _, fun u a b => absurd b (by dsimp only; omega)⟩
  | k + 1, t, h => by
    rw [sRd] at h ⊢
    by_cases c : sF3 lane size asl (f + 3 * t) = 0
    · rw [if_pos c] at h ⊢
      by_cases d : sTri N a (f + 3 * t)
      · rw [if_pos d] at h ⊢
        have ih := sRd_ok k (t + 1) h
        refine ⟨by omega, fun u u0 u1 => ?_⟩
        by_cases e : u = t
        · rw [e]; exact ⟨c, d⟩
        · exact ih.2 u (by omega) u1
      · rw [if_neg d] at h; cases h
    · rw [if_neg c]
      exact ⟨Int.le_refl _, fun u a b => absurd b (by dsimp only; omega)⟩
theorem sGo_c {o f : Int} {a b g : Int → Int} {t : Nat} (h : ∀ u : Int, 0 ≤ u → u < t → a (f + 3 * u) = b (f + 3 * u) ∧ a (f + 3 * u + 1) = b (f + 3 * u + 1) ∧ a (f + 3 * u + 2) = b (f + 3 * u + 2)) : sGo o f a t g = sGo o f b t g := by
  unfold sGo
  exact zfor_congr _ _ _ (fun u g u0 u1 => by
    have q := h u u0 (by omega)
    rw [q.1, q.2.1, q.2.2])
theorem sGo_sim {n f : Int} {c cl : Int → Int} {m : zM} (hI : CI n c) (hA : CA1 n c m) : ∀ t : Nat, (∀ u : Int, 0 ≤ u → u < t → sTri n cl (f + 3 * u)) → CI n (sGo 10 f cl t c) ∧ CA1 n (sGo 10 f cl t c) (zr m 4 (sGo 0 f cl t (m 4))) ∧ ∀ k, 35 ≤ k → sGo 10 f cl t c k = c k
  | 0, _ => ⟨hI, by rw [show sGo 0 f cl 0 (m 4) = m 4 from rfl, zr_self]; exact hA, fun _ _ => rfl⟩
  | t + 1, h => by
    obtain ⟨i1, i2, i3⟩ := sGo_sim hI hA t (fun u a b => h u a (by omega))
    have q := h t (by omega) (by omega)
    unfold sTri at q
    have n5 := hI.1.2
    rw [sGo_s, sGo_s, Int.zero_add]
    refine ⟨i1.sulk q.1 q.2.1 q.2.2.1 q.2.2.2.1 q.2.2.2.2.1 q.2.2.2.2.2.1 q.2.2.2.2.2.2, ?_, fun k hk => by rw [zu_n (by omega)]; exact i3 k hk⟩
    have fin := i2.sulk (v := cl (f + 3 * t + 2)) i1 q.1 q.2.1 q.2.2.1 q.2.2.2.1
    rw [zs_zr] at fin
    exact fin
section
variable {l : Launch} {G : zG} {mem : zM}
theorem sim_read (h : SIM mem) (k ln f n : Int) (hf : zin32 f) : KX5_read l G 3 [zR 0, zI k, zI ln, zI f, zI n] mem (simQ (fun m p => KX6_read l G 4 [zR 65, zI k, zI ln, zI f, zI n] m p)) := by
  have hs := h.2.2.2.2.2.2
  refine (c_X5_read h.fi k ln f n hf (fun x x0 x1 => by rw [(hs x x0 x1).2.1]; exact ⟨(hs x x0 x1).2.2.1, (hs x x0 x1).2.2.2.1⟩)).imp (fun r m1 e => ?_)
  obtain ⟨rfl, rfl⟩ := e
  by_cases c : (0 ≤ k ∧ k ≤ 3) ∧ (0 ≤ ln ∧ ln ≤ 2) ∧ 0 ≤ n ∧ n ≤ 13
  · obtain ⟨u0, u1, u2, u3, u4⟩ := hs k c.1.1 c.1.2
    have hc := sRd_c (N := mem 65 3) (lane := mem 73 k) (asl := ln) (f := f) (a := mem (shp k + 1)) (b := fun x => mem 75 (40 * k + x)) u3 u4 n.toNat 0
    have hok := sRd_ok (N := mem 65 3) (lane := mem 73 k) (size := mem 74 k) (asl := ln) (f := f) (a := fun x => mem 75 (40 * k + x)) n.toNat 0
    rw [u0, u1, h.e0, hc]
    generalize hR : sRd (mem 65 3) (mem 73 k) (mem 74 k) ln f (fun x => mem 75 (40 * k + x)) n.toNat 0 = R at *
    by_cases d : R.1 = true
    · simp only [if_pos c, if_pos d]
      refine ⟨_, rfl, (c_X6_read h.1.1.mI k ln f n hf (fun x x0 x1 => ⟨(hs x x0 x1).2.2.1, (hs x x0 x1).2.2.2.1⟩)).imp (fun r m2 e2 => ?_)⟩
      obtain ⟨rfl, X, rfl⟩ := e2
      rw [hR]
      simp only [if_pos c, if_pos d]
      refine ⟨trivial, ?_⟩
      rw [zr_id (m := zr mem 76 X) (o := 66) (by rw [zr_n (by decide)]), zs_u (by rw [zr_n (by decide)])]
      exact h.u (kU.rf.z (by decide)) ⟨by rw [zr_n (by decide)]; exact h.1.1, by rw [zr_n (by decide)]; exact h.1.2.m (fun o ho => zr_n (by omega))⟩
    · simp only [if_pos c, if_neg d]
      obtain ⟨t0, hv⟩ := hok (by simpa using d)
      have f' : ∀ o : Nat, o ≠ 0 → o ≠ 4 → zs (zr mem 4 (sGo 0 f (mem (shp k + 1)) R.2.2.toNat (mem 4))) 0 8 R.2.1 o = mem o := fun o x y => by rw [zs_n x, zr_n y]
      have e73 : zs (zr mem 4 (sGo 0 f (mem (shp k + 1)) R.2.2.toNat (mem 4))) 0 8 R.2.1 73 = mem 73 := f' 73 (by decide) (by decide)
      refine ⟨_, rfl, (c_X6_read (by rw [f' 65 (by decide) (by decide), f' 66 (by decide) (by decide)]; exact h.1.1.mI) k ln f n hf (by rw [f' 74 (by decide) (by decide)]; exact fun x x0 x1 => ⟨(hs x x0 x1).2.2.1, (hs x x0 x1).2.2.2.1⟩)).imp (fun r m2 e2 => ?_)⟩
      obtain ⟨rfl, X, rfl⟩ := e2
      rw [f' 65 (by decide) (by decide), f' 66 (by decide) (by decide), f' 73 (by decide) (by decide), f' 74 (by decide) (by decide), f' 75 (by decide) (by decide), hR]
      simp only [if_pos c, if_neg d]
      have hg := sGo_sim (f := f) (cl := fun x => mem 75 (40 * k + x)) h.1.1 h.1.2.l R.2.2.toNat (fun u a b => (hv u a (by omega)).2)
      have eg : sGo 0 f (mem (shp k + 1)) R.2.2.toNat (mem 4) = sGo 0 f (fun x => mem 75 (40 * k + x)) R.2.2.toNat (mem 4) := sGo_c (fun u a b => by
        have q := sF3_0 (hv u a (by omega)).1
        exact ⟨u4 _ (by omega) (by omega), u4 _ (by omega) (by omega), u4 _ (by omega) (by omega)⟩)
      rw [eg]
      obtain ⟨g1, g2, g3⟩ := hg
      generalize sGo 10 f (fun x => mem 75 (40 * k + x)) R.2.2.toNat (mem 66) = S at *
      generalize sGo 0 f (fun x => mem 75 (40 * k + x)) R.2.2.toNat (mem 4) = T at *
      have F : ∀ o : Nat, o ≠ 0 → o ≠ 4 → o ≠ 76 → o ≠ 66 → o ≠ 65 → zs (zr (zr (zs (zr mem 4 T) 0 8 R.2.1) 76 X) 66 S) 65 27 R.2.1 o = mem o := fun o a b d e g => by rw [zs_n g, zr_n e, zr_n d, zs_n a, zr_n b]
      refine ⟨trivial, h.u' (fun o ho => F o (by omega) (by omega) (by omega) (by omega) (by omega)) ?_ (fun j j0 j1 => ?_) ⟨?_, ?_⟩⟩
      · rw [F 53 (by decide) (by decide) (by decide) (by decide) (by decide)]
        simp (disch := decide) only [zs_v, zs_k, zs_n, zr_n]
        exact ⟨trivial, trivial, trivial, trivial, trivial, trivial⟩
      · simp (disch := decide) only [zs_s, zs_n, zr_s, zr_n]; exact g3 j (by omega)
      · simp (disch := decide) only [zs_s, zs_n, zr_s, zr_n]; exact g1
      · have e66 : zs (zr (zr (zs (zr mem 4 T) 0 8 R.2.1) 76 X) 66 S) 65 27 R.2.1 66 = S := by simp (disch := decide) only [zs_s, zs_n, zr_s, zr_n]
        rw [e66]
        exact g2.r.m (fun o ho => by rw [zs_n (by omega), zr_n (by omega), zr_n (by omega), zs_n (by omega)])
  · simp only [if_neg c]
    refine ⟨_, rfl, (c_X6_read h.1.1.mI k ln f n hf (fun x x0 x1 => ⟨(hs x x0 x1).2.2.1, (hs x x0 x1).2.2.2.1⟩)).imp (fun r m2 e2 => ?_)⟩
    obtain ⟨rfl, X, rfl⟩ := e2
    simp only [if_neg c]
    refine ⟨trivial, ?_⟩
    rw [zr_id (m := zr mem 76 X) (o := 66) (by rw [zr_n (by decide)]), zs_u (by rw [zr_n (by decide)])]
    exact h.u (kU.rf.z (by decide)) ⟨by rw [zr_n (by decide)]; exact h.1.1, by rw [zr_n (by decide)]; exact h.1.2.m (fun o ho => zr_n (by omega))⟩
end
