/-! ===== the reference: which is best ===== -/
def zPR (v : zV) (m : zM) : Option zV → zM → Prop := fun r m' => r = some v ∧ ∃ X, m' = zr m 67 X
section
variable {l : Launch} {G : zG} {R : Room} {own : String} {cc : ByteArray} {nL : Nat} {ret : Option FieldType} {Z : List Frame → Array Value → State → State → Prop} {kc ks : Nat} {Ex : State → Prop} {pc : Nat} {ls st : List zV} {mem mem' : zM}
variable {y : MethodName} {bytes : ByteArray} {nL' : Nat} {ret' : Option FieldType} {d index b ci : Nat} {v a1 a2 a3 : zV}
theorem r_vR0 (hM : CT l G y bytes nL' ret' d (zR b :: []) mem (zPR v mem)) (hk : zCl own index y bytes nL' ret' 0 ci) (hL9 : zL b = (ci, zNf ci)) (hd : decode cc pc = .ok (.invokevirtual index, 3)) (kk : ∀ X, SW l G R own cc nL ret Z kc ks Ex (pc + 3) ls (v :: st) (zr mem 67 X)) (hR : d + 1 ≤ R.frames ∧ 8 + (nL' + 11) + 100 * d ≤ R.locals := by exact ⟨Nat.le_of_ble_eq_true rfl, Nat.le_of_ble_eq_true rfl⟩) (hw : zwd st ≤ 8 := by exact Nat.le_of_ble_eq_true rfl) : SW l G R own cc nL ret Z kc ks Ex pc ls (zR b :: st) mem := by
  obtain ⟨h1, h2, h3, T, N, h4⟩ := hk
  exact r_callV hM h1 h2 hL9 h3 h4 rfl rfl hR hw hd (fun r m9 h9 => by obtain ⟨rfl, X, rfl⟩ := h9; exact kk X)
theorem r_vR1 (hM : CT l G y bytes nL' ret' d (zR b :: [a1]) mem (zPR v mem)) (hk : zCl own index y bytes nL' ret' 1 ci) (hL9 : zL b = (ci, zNf ci)) (hd : decode cc pc = .ok (.invokevirtual index, 3)) (kk : ∀ X, SW l G R own cc nL ret Z kc ks Ex (pc + 3) ls (v :: st) (zr mem 67 X)) (hR : d + 1 ≤ R.frames ∧ 8 + (nL' + 11) + 100 * d ≤ R.locals := by exact ⟨Nat.le_of_ble_eq_true rfl, Nat.le_of_ble_eq_true rfl⟩) (hw : zwd st ≤ 8 := by exact Nat.le_of_ble_eq_true rfl) : SW l G R own cc nL ret Z kc ks Ex pc ls (a1 :: zR b :: st) mem := by
  obtain ⟨h1, h2, h3, T, N, h4⟩ := hk
  exact r_callV hM h1 h2 hL9 h3 h4 rfl rfl hR hw hd (fun r m9 h9 => by obtain ⟨rfl, X, rfl⟩ := h9; exact kk X)
theorem r_vR2 (hM : CT l G y bytes nL' ret' d (zR b :: [a1, a2]) mem (zPR v mem)) (hk : zCl own index y bytes nL' ret' 2 ci) (hL9 : zL b = (ci, zNf ci)) (hd : decode cc pc = .ok (.invokevirtual index, 3)) (kk : ∀ X, SW l G R own cc nL ret Z kc ks Ex (pc + 3) ls (v :: st) (zr mem 67 X)) (hR : d + 1 ≤ R.frames ∧ 8 + (nL' + 11) + 100 * d ≤ R.locals := by exact ⟨Nat.le_of_ble_eq_true rfl, Nat.le_of_ble_eq_true rfl⟩) (hw : zwd st ≤ 8 := by exact Nat.le_of_ble_eq_true rfl) : SW l G R own cc nL ret Z kc ks Ex pc ls (a2 :: a1 :: zR b :: st) mem := by
  obtain ⟨h1, h2, h3, T, N, h4⟩ := hk
  exact r_callV hM h1 h2 hL9 h3 h4 rfl rfl hR hw hd (fun r m9 h9 => by obtain ⟨rfl, X, rfl⟩ := h9; exact kk X)
end
def mJ (m : zM) (c v : Int) : zM := zs (zs m 65 17 (if v < m 65 18 then c else m 65 17)) 65 18 (min v (m 65 18))
def mS (m : zM) (v : Int) : zM := zs (zs m 65 17 (-4)) 65 18 v
theorem mJ_k {mem m : zM} {c v : Int} (h : kM mem m) : kM mem (mJ m c v) := (h.f (Or.inl rfl)).f (Or.inr (Or.inl rfl))
theorem mS_k {mem m : zM} {v : Int} (h : kM mem m) : kM mem (mS m v) := (h.f (Or.inl rfl)).f (Or.inr (Or.inl rfl))
theorem mJ_a {m : zM} {X : Int → Int} {c v : Int} : (mJ (zr m 67 X) c v 65 17, mJ (zr m 67 X) c v 65 18) = sJ c v (m 65 17, m 65 18) := by
  unfold mJ sJ
  rw [zs_k (by decide), zs_v, zs_v, zr_n (by decide)]
  dsimp only
  split
  · rw [show min v (m 65 18) = v by omega]
  · rw [show min v (m 65 18) = m 65 18 by omega]
theorem mS_a {m : zM} {v : Int} : (mS m v 65 17, mS m v 65 18) = (-4, v) := by
  unfold mS
  rw [zs_k (by decide), zs_v, zs_v]
def zsh3 (f : Int → Int) (g x : Int) : Int → Int := fun j => if g ≤ j ∧ j < x then f (j + 3) else f j
theorem zsh3_0 {f : Int → Int} {g : Int} : zsh3 f g g = f := by
  funext j; unfold zsh3; rw [if_neg (by omega)]
theorem zsh3_s {f : Int → Int} {g k : Int} (h : g ≤ k) : zu (zsh3 f g k) k (zsh3 f g k (k + 3)) = zsh3 f g (k + 1) := by
  funext j
  unfold zu zsh3
  rw [if_neg (show ¬ (g ≤ k + 3 ∧ k + 3 < k) by omega)]
  by_cases hj : j = k
  · rw [if_pos hj, if_pos (by omega), hj]
  · rw [if_neg hj]
    by_cases h2 : g ≤ j ∧ j < k
    · rw [if_pos h2, if_pos (by omega)]
    · rw [if_neg h2, if_neg (by omega)]
theorem vM_drop {n : Int} {c : Int → Int} {x : Int} (h : mI n c) (hx0 : 0 ≤ x) (hx1 : x < c 53) : mI n (zu (zsh3 c (35 + 3 * x) 50) 53 (c 53 - 1)) ∧ VEQ (vM n (zu (zsh3 c (35 + 3 * x) 50) 53 (c 53 - 1))) (vDrop (vM n c) x) := by
  obtain ⟨hn0, hn5, hr0, hr6, hp, hg, hr⟩ := id h
  have low : ∀ q : Int, q < 35 ∨ 54 ≤ q → zu (zsh3 c (35 + 3 * x) 50) 53 (c 53 - 1) q = c q := fun q hq => by
    rw [zu_n (by omega)]; unfold zsh3; rw [if_neg (by omega)]
  have e4 : mT (zu (zsh3 c (35 + 3 * x) 50) 53 (c 53 - 1)) = mT c := by
    funext j; unfold mT; split
    · rw [low _ (by omega)]
    · rfl
  have e5 : mG (zu (zsh3 c (35 + 3 * x) 50) 53 (c 53 - 1)) = mG c := by
    funext j; unfold mG; split
    · rw [low _ (by omega)]
    · rfl
  have e6 : PE n (mP (zu (zsh3 c (35 + 3 * x) 50) 53 (c 53 - 1))) (mP c) := fun i a b => low _ (by omega)
  have q1 : ∀ y : Int, 0 ≤ y → y < c 53 - 1 → m1 (zu (zsh3 c (35 + 3 * x) 50) 53 (c 53 - 1)) y = zsh (m1 c) x (c 53 - 1) y := fun y a b => by
    unfold m1 zsh
    rw [if_pos (by omega), zu_n (by omega)]
    unfold zsh3
    by_cases e : x ≤ y
    · rw [if_pos (by omega), if_pos (by omega)]
      dsimp only
      rw [if_pos (by omega), show 35 + 3 * y + 3 = 35 + 3 * (y + 1) by omega]
    · rw [if_neg (by omega), if_neg (by omega)]
      dsimp only
      rw [if_pos (by omega)]
  have q2 : ∀ y : Int, 0 ≤ y → y < c 53 - 1 → m2 (zu (zsh3 c (35 + 3 * x) 50) 53 (c 53 - 1)) y = zsh (m2 c) x (c 53 - 1) y := fun y a b => by
    unfold m2 zsh
    rw [if_pos (by omega), zu_n (by omega)]
    unfold zsh3
    by_cases e : x ≤ y
    · rw [if_pos (by omega), if_pos (by omega)]
      dsimp only
      rw [if_pos (by omega), show 36 + 3 * y + 3 = 36 + 3 * (y + 1) by omega]
    · rw [if_neg (by omega), if_neg (by omega)]
      dsimp only
      rw [if_pos (by omega)]
  have q3 : ∀ y : Int, 0 ≤ y → y < c 53 - 1 → m3 (zu (zsh3 c (35 + 3 * x) 50) 53 (c 53 - 1)) y = zsh (m3 c) x (c 53 - 1) y := fun y a b => by
    unfold m3 zsh
    rw [if_pos (by omega), zu_n (by omega)]
    unfold zsh3
    by_cases e : x ≤ y
    · rw [if_pos (by omega), if_pos (by omega)]
      dsimp only
      rw [if_pos (by omega), show 37 + 3 * y + 3 = 37 + 3 * (y + 1) by omega]
    · rw [if_neg (by omega), if_neg (by omega)]
      dsimp only
      rw [if_pos (by omega)]
  have hrr : ∀ y : Int, 0 ≤ y → y < c 53 - 1 → 0 ≤ zsh (m1 c) x (c 53 - 1) y ∧ zsh (m1 c) x (c 53 - 1) y < n ∧ 0 ≤ zsh (m2 c) x (c 53 - 1) y ∧ zsh (m2 c) x (c 53 - 1) y < n ∧ 0 ≤ zsh (m3 c) x (c 53 - 1) y ∧ zsh (m3 c) x (c 53 - 1) y ≤ 30 := fun y a b => by
    unfold zsh
    by_cases e : x ≤ y ∧ y < c 53 - 1
    · simp only [if_pos e]; exact hr (y + 1) (by omega) (by omega)
    · simp only [if_neg e]; exact hr y a (by omega)
  constructor
  · unfold mI
    rw [e5, zu_s]
    refine ⟨hn0, hn5, by omega, by omega, fun y a b => by rw [e6 y a b]; exact hp y a b, hg, fun y a b => ?_⟩
    rw [q1 y a b, q2 y a b, q3 y a b]
    exact hrr y a b
  · unfold vM vDrop
    rw [e4, e5, zu_s, low 54 (by omega), low 55 (by omega), low 56 (by omega)]
    refine ⟨rfl, PE.rf, fun _ _ _ _ _ _ _ => rfl, rfl, fun y a b => ?_, rfl, e6, rfl, rfl, hn0, by omega⟩
    obtain ⟨w1, w2, w3, w4, w5, w6⟩ := hrr y a b
    refine ⟨q1 y a b, q2 y a b, q3 y a b, ?_, ?_, ?_, ?_⟩
    · rw [q1 y a b]; exact w1
    · rw [q1 y a b]; exact w2
    · rw [q2 y a b]; exact w3
    · rw [q2 y a b]; exact w4
section
variable {l : Launch} {G : zG} {mem : zM}
theorem c_mSpr {W : zVw} (hI : mI (mem 65 3) (mem 67)) (hv : VEQ (vM (mem 65 3) (mem 67)) W) (n : Int) (h0 : 0 ≤ n) (h9 : n ≤ 1000) : KX6_spreadBehind l G 6 [zR 65, zI n] mem (zPR (zI (vSpread W n.toNat)) mem) :=
  (c_X6_spreadBehind hI n h0 h9).imp (fun r m h => by
    obtain ⟨rfl, rfl⟩ := h
    refine ⟨?_, _, rfl⟩
    rw [← hv.spread]
    rfl)
theorem c_judges' (c v : Int) : KX6_judges l G 1 [zR 65, zI c, zI v] mem (zP0 (mJ mem c v)) := c_judges c v
theorem c_sJudging' (v : Int) : KX6_startsJudging l G 0 [zR 65, zI v] mem (zP0 (mS mem v)) := c_startsJudging v
set_option maxRecDepth 100000 in
theorem c_X6_holy (hI : mI (mem 65 3) (mem 66)) (n w : Int) : KX6_holy l G 7 [zR 65, zI n, zI w] mem (zPM (zI (if 0 ≤ n ∧ n ≤ 60 ∧ 0 ≤ w ∧ w ≤ 1 then sAdv (sHoly (vM (mem 65 3) (mem 66)) n 1000000).1 (sHoly (vM (mem 65 3) (mem 66)) n 1000000).2 w else -1)) mem) := by
  refine CT.of' (own := RX6) (ls0 := [zR 65, zI n, zI w, zU]) rfl (by decide +kernel) (Nat.le_of_ble_eq_true rfl) rfl ?_
  by_cases hc : 0 ≤ n ∧ n ≤ 60 ∧ 0 ≤ w ∧ w ≤ 1
  · rw [if_pos hc]
    have loop : ∀ (k : Nat) (x : Int) (m : zM), 0 ≤ x → x + k = 7 → kM mem m → zfor (fun v a => sJ v (vSpread (vHol (vM (mem 65 3) (mem 66)) v) n.toNat) a) x k (m 65 17, m 65 18) = sHoly (vM (mem 65 3) (mem 66)) n 1000000 → SW l G (zrm 7) RX6 cX6_holy 4 (some .int) (zZ G (zPM (zI (sAdv (sHoly (vM (mem 65 3) (mem 66)) n 1000000).1 (sHoly (vM (mem 65 3) (mem 66)) n 1000000).2 w)) mem)) 0 0 (fun _ => True) 25 [zR 65, zI n, zI w, zI x] [] m := by
      intro k
      induction k with
      | zero =>
        intro x m h0 h1 hk he
        refine r_iload_n dX6_holy_25 rfl ?_
        refine r_bipush dX6_holy_26 (k := ?_)
        refine r_icmp_ge (tgt := 59) dX6_holy_28 (by decide) (fun h28 => ?_) (fun h28 => ?_)
        · refine r_aload_n dX6_holy_59 rfl ?_
          refine r_iload_n dX6_holy_60 rfl ?_
          refine r_v1 (c_judged _) kX6_264 rfl dX6_holy_61 ?_
          refine r_iret dX6_holy_64 ?_
          exact zPM.i (by rw [← he]; rfl) hk
        · exact absurd (by omega) h28
      | succ k ih =>
        intro x m h0 h1 hk he
        obtain ⟨g1, g2, g3⟩ := mStart hI hk
        have e65 : m 65 3 = mem 65 3 := hk.2 3 (by decide) (by decide) (by decide) (by decide) (by decide)
        rw [zfor] at he
        refine r_iload_n dX6_holy_25 rfl ?_
        refine r_bipush dX6_holy_26 (k := ?_)
        refine r_icmp_ge (tgt := 59) dX6_holy_28 (by decide) (fun h28 => ?_) (fun h28 => ?_)
        · exact absurd h28 (by omega)
        · refine r_aload_n dX6_holy_31 rfl ?_
          refine r_w0 (c_starts) kX6_194 rfl dX6_holy_32 ?_
          refine r_aload_n dX6_holy_35 rfl ?_
          refine r_getR (q := 67) fX6_13 rfl rfl dX6_holy_36 ?_
          refine r_bipush dX6_holy_39 (k := ?_)
          refine r_iload_n dX6_holy_41 rfl ?_
          refine r_iast rfl (by omega) (by omega) dX6_holy_42 ?_
          rw [zs_zr]
          refine r_aload_n dX6_holy_43 rfl ?_
          refine r_iload_n dX6_holy_44 rfl ?_
          refine r_aload_n dX6_holy_45 rfl ?_
          refine r_iload_n dX6_holy_46 rfl ?_
          refine r_vR1 (c_mSpr (by rw [zr_n (by decide), zr_s, e65]; exact (vM_hol g1).1) (by rw [zr_n (by decide), zr_s, e65]; exact (vM_hol g1).2.trans (g2.hol x)) _ (by omega) (by omega)) kX6_254 rfl dX6_holy_47 (fun X47 => ?_)
          refine r_w2 (c_judges' _ _) kX6_260 rfl dX6_holy_50 ?_
          refine r_iinc dX6_holy_53 rfl rfl ?_
          try rw [zw_id (by omega) (by omega)]
          refine r_goto (tgt := 25) dX6_holy_56 (by decide) ?_
          rw [zr_zr]
          exact ih _ _ (by omega) (by omega) (mJ_k (hk.r (Or.inl rfl))) (by rw [mJ_a]; exact he)
    refine r_iload_n dX6_holy_0 rfl ?_
    refine r_s1 (c_isFar _) kX6_239 dX6_holy_1 ?_
    refine r_ifd_eq (tgt := 14) dX6_holy_4 (by decide) (fun h4 => ?_) (fun h4 => ?_)
    · exact absurd hc (by omega)
    · refine r_iload_n dX6_holy_7 rfl ?_
      refine r_s1 (c_isPart _) kX6_251 dX6_holy_8 ?_
      refine r_ifd_ne (tgt := 16) dX6_holy_11 (by decide) (fun h11 => ?_) (fun h11 => ?_)
      · refine r_aload_n dX6_holy_16 rfl ?_
        refine r_ldcw nX6_270 dX6_holy_17 (x := 1000000) (k := ?_)
        refine r_w1 (c_sJudging' _) kX6_257 rfl dX6_holy_20 ?_
        refine r_iconst dX6_holy_23 (k := ?_)
        refine r_istore_n dX6_holy_24 rfl ?_
        exact loop 7 0 _ (by omega) (by omega) (mS_k kM.rf) (by rw [mS_a]; rfl)
      · exact absurd hc (by omega)
  · rw [if_neg hc]
    refine r_iload_n dX6_holy_0 rfl ?_
    refine r_s1 (c_isFar _) kX6_239 dX6_holy_1 ?_
    refine r_ifd_eq (tgt := 14) dX6_holy_4 (by decide) (fun h4 => ?_) (fun h4 => ?_)
    · refine r_iconst dX6_holy_14 (k := ?_)
      refine r_iret dX6_holy_15 ?_
      exact zPM.i rfl kM.rf
    · refine r_iload_n dX6_holy_7 rfl ?_
      refine r_s1 (c_isPart _) kX6_251 dX6_holy_8 ?_
      refine r_ifd_ne (tgt := 16) dX6_holy_11 (by decide) (fun h11 => ?_) (fun h11 => ?_)
      · exact absurd (by omega) hc
      · refine r_iconst dX6_holy_14 (k := ?_)
        refine r_iret dX6_holy_15 ?_
        exact zPM.i rfl kM.rf
set_option maxRecDepth 100000 in
theorem c_X6_kind (hI : mI (mem 65 3) (mem 66)) (i n w : Int) : KX6_kind l G 7 [zR 65, zI i, zI n, zI w] mem (zPM (zI (if 0 ≤ i ∧ i < mem 65 3 ∧ 0 ≤ n ∧ n ≤ 60 ∧ 0 ≤ w ∧ w ≤ 1 then sAdv (sKind (vM (mem 65 3) (mem 66)) i n 1000000).1 (sKind (vM (mem 65 3) (mem 66)) i n 1000000).2 w else -1)) mem) := by
  have hn0 := hI.1
  have hn5 := hI.2.1
  refine CT.of' (own := RX6) (ls0 := [zR 65, zI i, zI n, zI w, zU]) rfl (by decide +kernel) (Nat.le_of_ble_eq_true rfl) rfl ?_
  by_cases hc : 0 ≤ i ∧ i < mem 65 3 ∧ 0 ≤ n ∧ n ≤ 60 ∧ 0 ≤ w ∧ w ≤ 1
  · rw [if_pos hc]
    have loop : ∀ (k : Nat) (x : Int) (m : zM), 0 ≤ x → x + k = 4 → kM mem m → zfor (fun v a => sJ v (vSpread (vKind (vM (mem 65 3) (mem 66)) i v) n.toNat) a) x k (m 65 17, m 65 18) = sKind (vM (mem 65 3) (mem 66)) i n 1000000 → SW l G (zrm 7) RX6 cX6_kind 5 (some .int) (zZ G (zPM (zI (sAdv (sKind (vM (mem 65 3) (mem 66)) i n 1000000).1 (sKind (vM (mem 65 3) (mem 66)) i n 1000000).2 w)) mem)) 0 0 (fun _ => True) 34 [zR 65, zI i, zI n, zI w, zI x] [] m := by
      intro k
      induction k with
      | zero =>
        intro x m h0 h1 hk he
        refine r_iload dX6_kind_34 rfl ?_
        refine r_iconst dX6_kind_36 (k := ?_)
        refine r_icmp_ge (tgt := 73) dX6_kind_37 (by decide) (fun h37 => ?_) (fun h37 => ?_)
        · refine r_aload_n dX6_kind_73 rfl ?_
          refine r_iload_n dX6_kind_74 rfl ?_
          refine r_v1 (c_judged _) kX6_264 rfl dX6_kind_75 ?_
          refine r_iret dX6_kind_78 ?_
          exact zPM.i (by rw [← he]; rfl) hk
        · exact absurd (by omega) h37
      | succ k ih =>
        intro x m h0 h1 hk he
        obtain ⟨g1, g2, g3⟩ := mStart hI hk
        have e65 : m 65 3 = mem 65 3 := hk.2 3 (by decide) (by decide) (by decide) (by decide) (by decide)
        rw [zfor] at he
        refine r_iload dX6_kind_34 rfl ?_
        refine r_iconst dX6_kind_36 (k := ?_)
        refine r_icmp_ge (tgt := 73) dX6_kind_37 (by decide) (fun h37 => ?_) (fun h37 => ?_)
        · exact absurd h37 (by omega)
        · refine r_aload_n dX6_kind_40 rfl ?_
          refine r_w0 (c_starts) kX6_194 rfl dX6_kind_41 ?_
          refine r_aload_n dX6_kind_44 rfl ?_
          refine r_getR (q := 67) fX6_13 rfl rfl dX6_kind_45 ?_
          refine r_iconst dX6_kind_48 (k := ?_)
          refine r_iload_n dX6_kind_49 rfl ?_
          refine r_imul dX6_kind_50 ?_
          try rw [zw_id (by omega) (by omega)]
          refine r_iconst dX6_kind_51 (k := ?_)
          refine r_iadd dX6_kind_52 ?_
          try rw [zw_id (by omega) (by omega)]
          refine r_iload dX6_kind_53 rfl ?_
          refine r_iast rfl (by omega) (by omega) dX6_kind_55 ?_
          rw [zs_zr, show 2 * i + 0 = 2 * i by omega]
          refine r_aload_n dX6_kind_56 rfl ?_
          refine r_iload dX6_kind_57 rfl ?_
          refine r_aload_n dX6_kind_59 rfl ?_
          refine r_iload_n dX6_kind_60 rfl ?_
          refine r_vR1 (c_mSpr (by rw [zr_n (by decide), zr_s, e65]; exact (vM_kind g1 hc.1 hc.2.1).1) (by rw [zr_n (by decide), zr_s, e65]; exact (vM_kind g1 hc.1 hc.2.1).2.trans (g2.kind i x)) _ (by omega) (by omega)) kX6_254 rfl dX6_kind_61 (fun X61 => ?_)
          refine r_w2 (c_judges' _ _) kX6_260 rfl dX6_kind_64 ?_
          refine r_iinc dX6_kind_67 rfl rfl ?_
          try rw [zw_id (by omega) (by omega)]
          refine r_goto (tgt := 34) dX6_kind_70 (by decide) ?_
          rw [zr_zr]
          exact ih _ _ (by omega) (by omega) (mJ_k (hk.r (Or.inl rfl))) (by rw [mJ_a]; exact he)
    refine r_aload_n dX6_kind_0 rfl ?_
    refine r_iload_n dX6_kind_1 rfl ?_
    refine r_v1 (c_isIsle _ hn0 hn5) kX6_151 rfl dX6_kind_2 ?_
    refine r_ifd_eq (tgt := 22) dX6_kind_5 (by decide) (fun h5 => ?_) (fun h5 => ?_)
    · exact absurd hc (by omega)
    · refine r_iload_n dX6_kind_8 rfl ?_
      refine r_s1 (c_isFar _) kX6_239 dX6_kind_9 ?_
      refine r_ifd_eq (tgt := 22) dX6_kind_12 (by decide) (fun h12 => ?_) (fun h12 => ?_)
      · exact absurd hc (by omega)
      · refine r_iload_n dX6_kind_15 rfl ?_
        refine r_s1 (c_isPart _) kX6_251 dX6_kind_16 ?_
        refine r_ifd_ne (tgt := 24) dX6_kind_19 (by decide) (fun h19 => ?_) (fun h19 => ?_)
        · refine r_aload_n dX6_kind_24 rfl ?_
          refine r_ldcw nX6_270 dX6_kind_25 (x := 1000000) (k := ?_)
          refine r_w1 (c_sJudging' _) kX6_257 rfl dX6_kind_28 ?_
          refine r_iconst dX6_kind_31 (k := ?_)
          refine r_istore dX6_kind_32 rfl ?_
          exact loop 4 0 _ (by omega) (by omega) (mS_k kM.rf) (by rw [mS_a]; rfl)
        · exact absurd hc (by omega)
  · rw [if_neg hc]
    refine r_aload_n dX6_kind_0 rfl ?_
    refine r_iload_n dX6_kind_1 rfl ?_
    refine r_v1 (c_isIsle _ hn0 hn5) kX6_151 rfl dX6_kind_2 ?_
    refine r_ifd_eq (tgt := 22) dX6_kind_5 (by decide) (fun h5 => ?_) (fun h5 => ?_)
    · refine r_iconst dX6_kind_22 (k := ?_)
      refine r_iret dX6_kind_23 ?_
      exact zPM.i rfl kM.rf
    · refine r_iload_n dX6_kind_8 rfl ?_
      refine r_s1 (c_isFar _) kX6_239 dX6_kind_9 ?_
      refine r_ifd_eq (tgt := 22) dX6_kind_12 (by decide) (fun h12 => ?_) (fun h12 => ?_)
      · refine r_iconst dX6_kind_22 (k := ?_)
        refine r_iret dX6_kind_23 ?_
        exact zPM.i rfl kM.rf
      · refine r_iload_n dX6_kind_15 rfl ?_
        refine r_s1 (c_isPart _) kX6_251 dX6_kind_16 ?_
        refine r_ifd_ne (tgt := 24) dX6_kind_19 (by decide) (fun h19 => ?_) (fun h19 => ?_)
        · exact absurd (by omega) hc
        · refine r_iconst dX6_kind_22 (k := ?_)
          refine r_iret dX6_kind_23 ?_
          exact zPM.i rfl kM.rf
set_option maxRecDepth 100000 in
theorem c_X6_slack (hI : mI (mem 65 3) (mem 66)) (i n w : Int) : KX6_slack l G 7 [zR 65, zI i, zI n, zI w] mem (zPM (zI (if 0 ≤ i ∧ i < mem 66 53 ∧ 0 ≤ n ∧ n ≤ 60 ∧ 0 ≤ w ∧ w ≤ 99 then sSlack (vM (mem 65 3) (mem 66)) i n w 30 else -1)) mem) := by
  have hr0 := hI.2.2.1
  have hr6 := hI.2.2.2.1
  refine CT.of' (own := RX6) (ls0 := [zR 65, zI i, zI n, zI w, zU]) rfl (by decide +kernel) (Nat.le_of_ble_eq_true rfl) rfl ?_
  by_cases hc : 0 ≤ i ∧ i < mem 66 53 ∧ 0 ≤ n ∧ n ≤ 60 ∧ 0 ≤ w ∧ w ≤ 99
  · rw [if_pos hc]
    have loop : ∀ (k : Nat) (x : Int) (m : zM), x = k → k ≤ 30 → kM mem m → sSlack (vM (mem 65 3) (mem 66)) i n w k = sSlack (vM (mem 65 3) (mem 66)) i n w 30 → SW l G (zrm 7) RX6 cX6_slack 5 (some .int) (zZ G (zPM (zI (sSlack (vM (mem 65 3) (mem 66)) i n w 30)) mem)) 0 0 (fun _ => True) 28 [zR 65, zI i, zI n, zI w, zI x] [] m := by
      intro k
      induction k with
      | zero =>
        intro x m hx h1 hk he
        refine r_iload dX6_slack_28 rfl ?_
        refine r_if_le (tgt := 70) dX6_slack_30 (by decide) (fun h30 => ?_) (fun h30 => ?_)
        · refine r_bipush dX6_slack_70 (k := ?_)
          refine r_iret dX6_slack_72 ?_
          exact zPM.i (by rw [← he]; rfl) hk
        · exact absurd (by omega) h30
      | succ k ih =>
        intro x m hx h1 hk he
        obtain ⟨g1, g2, g3⟩ := mStart hI hk
        have e65 : m 65 3 = mem 65 3 := hk.2 3 (by decide) (by decide) (by decide) (by decide) (by decide)
        have g5 : i < zcp (m 66) (m 67) 0 0 76 53 := by rw [zcp_at (by decide) (by decide), hk.at (by decide) (by decide) (by decide) (by decide)]; exact hc.2.1
        rw [sSlack, show ((k : Int) + 1) = x by omega] at he
        refine r_iload dX6_slack_28 rfl ?_
        refine r_if_le (tgt := 70) dX6_slack_30 (by decide) (fun h30 => ?_) (fun h30 => ?_)
        · exact absurd h30 (by omega)
        · refine r_aload_n dX6_slack_33 rfl ?_
          refine r_w0 (c_starts) kX6_194 rfl dX6_slack_34 ?_
          refine r_aload_n dX6_slack_37 rfl ?_
          refine r_getR (q := 67) fX6_13 rfl rfl dX6_slack_38 ?_
          refine r_bipush dX6_slack_41 (k := ?_)
          refine r_iconst dX6_slack_43 (k := ?_)
          refine r_iload_n dX6_slack_44 rfl ?_
          refine r_imul dX6_slack_45 ?_
          try rw [zw_id (by omega) (by omega)]
          refine r_iadd dX6_slack_46 ?_
          try rw [zw_id (by omega) (by omega)]
          refine r_iconst dX6_slack_47 (k := ?_)
          refine r_iadd dX6_slack_48 ?_
          try rw [zw_id (by omega) (by omega)]
          refine r_iload dX6_slack_49 rfl ?_
          refine r_iast rfl (by omega) (by omega) dX6_slack_51 ?_
          rw [zs_zr, show 35 + 3 * i + 2 = 37 + 3 * i by omega]
          refine r_aload_n dX6_slack_52 rfl ?_
          refine r_iload_n dX6_slack_53 rfl ?_
          refine r_vR1 (c_mSpr (by rw [zr_n (by decide), zr_s, e65]; exact (vM_len g1 (by omega) (by omega) hc.1 g5).1) (by rw [zr_n (by decide), zr_s, e65]; exact (vM_len g1 (by omega) (by omega) hc.1 g5).2.trans (g2.len i x)) _ (by omega) (by omega)) kX6_254 rfl dX6_slack_54 (fun X54 => ?_)
          refine r_iload_n dX6_slack_57 rfl ?_
          refine r_icmp_gt (tgt := 64) dX6_slack_58 (by decide) (fun h58 => ?_) (fun h58 => ?_)
          · refine r_iinc dX6_slack_64 rfl rfl ?_
            try rw [zw_id (by omega) (by omega)]
            refine r_goto (tgt := 28) dX6_slack_67 (by decide) ?_
            rw [zr_zr]
            exact ih _ _ (by omega) (by omega) (hk.r (Or.inl rfl)) (by rw [if_neg (by omega)] at he; exact he)
          · refine r_iload dX6_slack_61 rfl ?_
            refine r_iret dX6_slack_63 ?_
            rw [zr_zr]
            exact zPM.i (by rw [← he, if_pos (by omega)]) (hk.r (Or.inl rfl))
    refine r_aload_n dX6_slack_0 rfl ?_
    refine r_iload_n dX6_slack_1 rfl ?_
    refine r_v1 (c_isRope _ hr0 hr6) kX6_210 rfl dX6_slack_2 ?_
    refine r_ifd_eq (tgt := 22) dX6_slack_5 (by decide) (fun h5 => ?_) (fun h5 => ?_)
    · exact absurd hc (by omega)
    · refine r_iload_n dX6_slack_8 rfl ?_
      refine r_s1 (c_isFar _) kX6_239 dX6_slack_9 ?_
      refine r_ifd_eq (tgt := 22) dX6_slack_12 (by decide) (fun h12 => ?_) (fun h12 => ?_)
      · exact absurd hc (by omega)
      · refine r_iload_n dX6_slack_15 rfl ?_
        refine r_s1 (c_isFathom _) kX6_171 dX6_slack_16 ?_
        refine r_ifd_ne (tgt := 24) dX6_slack_19 (by decide) (fun h19 => ?_) (fun h19 => ?_)
        · refine r_bipush dX6_slack_24 (k := ?_)
          refine r_istore dX6_slack_26 rfl ?_
          exact loop 30 30 _ rfl (by omega) kM.rf rfl
        · exact absurd hc (by omega)
  · rw [if_neg hc]
    refine r_aload_n dX6_slack_0 rfl ?_
    refine r_iload_n dX6_slack_1 rfl ?_
    refine r_v1 (c_isRope _ hr0 hr6) kX6_210 rfl dX6_slack_2 ?_
    refine r_ifd_eq (tgt := 22) dX6_slack_5 (by decide) (fun h5 => ?_) (fun h5 => ?_)
    · refine r_iconst dX6_slack_22 (k := ?_)
      refine r_iret dX6_slack_23 ?_
      exact zPM.i rfl kM.rf
    · refine r_iload_n dX6_slack_8 rfl ?_
      refine r_s1 (c_isFar _) kX6_239 dX6_slack_9 ?_
      refine r_ifd_eq (tgt := 22) dX6_slack_12 (by decide) (fun h12 => ?_) (fun h12 => ?_)
      · refine r_iconst dX6_slack_22 (k := ?_)
        refine r_iret dX6_slack_23 ?_
        exact zPM.i rfl kM.rf
      · refine r_iload_n dX6_slack_15 rfl ?_
        refine r_s1 (c_isFathom _) kX6_171 dX6_slack_16 ?_
        refine r_ifd_ne (tgt := 24) dX6_slack_19 (by decide) (fun h19 => ?_) (fun h19 => ?_)
        · exact absurd (by omega) hc
        · refine r_iconst dX6_slack_22 (k := ?_)
          refine r_iret dX6_slack_23 ?_
          exact zPM.i rfl kM.rf
set_option maxRecDepth 100000 in
theorem c_frays (x : Int) (hx0 : 0 ≤ x) (hx1 : x < 6) (hlo : 0 ≤ mem 67 53) (hhi : mem 67 53 ≤ 6) : KX6_frays l G 0 [zR 65, zI x] mem (zP0 (zr mem 67 (zu (zsh3 (mem 67) (35 + 3 * x) 50) 53 (mem 67 53 - 1)))) := by
  refine CT.of' (own := RX6) (ls0 := [zR 65, zI x, zU]) rfl (by decide +kernel) (Nat.le_of_ble_eq_true rfl) rfl ?_
  have q53 : zsh3 (mem 67) (35 + 3 * x) 50 53 = mem 67 53 := by unfold zsh3; rw [if_neg (by omega)]
  have loop : ∀ (k : Nat) (j : Int), 35 + 3 * x ≤ j → j + k = 50 → SW l G (zrm 0) RX6 cX6_frays 3 none (zZ G (zP0 (zr mem 67 (zu (zsh3 (mem 67) (35 + 3 * x) 50) 53 (mem 67 53 - 1))))) 0 0 (fun _ => True) 7 [zR 65, zI x, zI j] [] (zr mem 67 (zsh3 (mem 67) (35 + 3 * x) j)) := by
    intro k
    induction k with
    | zero =>
      intro j h0 h1
      have hj : j = 50 := by omega
      subst hj
      refine r_iload_n dX6_frays_7 rfl ?_
      refine r_bipush dX6_frays_8 (k := ?_)
      refine r_icmp_ge (tgt := 33) dX6_frays_10 (by decide) (fun h10 => ?_) (fun h10 => ?_)
      · refine r_aload_n dX6_frays_33 rfl ?_
        refine r_getR (q := 67) fX6_13 rfl rfl dX6_frays_34 ?_
        try simp only [zr_s]
        refine r_bipush dX6_frays_37 (k := ?_)
        refine r_dup2 dX6_frays_39 rfl rfl ?_
        refine r_iald rfl (by omega) (by omega) dX6_frays_40 ?_
        try simp only [zr_s]
        rw [q53]
        refine r_iconst dX6_frays_41 (k := ?_)
        refine r_isub dX6_frays_42 ?_
        try rw [zw_id (by omega) (by omega)]
        refine r_iast rfl (by omega) (by omega) dX6_frays_43 ?_
        refine r_vret dX6_frays_44 ?_
        exact zP0.of (by rw [zs_zr])
      · exact absurd (by omega) h10
    | succ k ih =>
      intro j h0 h1
      refine r_iload_n dX6_frays_7 rfl ?_
      refine r_bipush dX6_frays_8 (k := ?_)
      refine r_icmp_ge (tgt := 33) dX6_frays_10 (by decide) (fun h10 => ?_) (fun h10 => ?_)
      · exact absurd h10 (by omega)
      · refine r_aload_n dX6_frays_13 rfl ?_
        refine r_getR (q := 67) fX6_13 rfl rfl dX6_frays_14 ?_
        try simp only [zr_s]
        refine r_iload_n dX6_frays_17 rfl ?_
        refine r_aload_n dX6_frays_18 rfl ?_
        refine r_getR (q := 67) fX6_13 rfl rfl dX6_frays_19 ?_
        try simp only [zr_s]
        refine r_iload_n dX6_frays_22 rfl ?_
        refine r_iconst dX6_frays_23 (k := ?_)
        refine r_iadd dX6_frays_24 ?_
        try rw [zw_id (by omega) (by omega)]
        refine r_iald rfl (by omega) (by omega) dX6_frays_25 ?_
        try simp only [zr_s]
        refine r_iast rfl (by omega) (by omega) dX6_frays_26 ?_
        refine r_iinc dX6_frays_27 rfl rfl ?_
        try rw [zw_id (by omega) (by omega)]
        refine r_goto (tgt := 7) dX6_frays_30 (by decide) ?_
        rw [zs_zr, zsh3_s h0]
        exact ih _ (by omega) (by omega)
  refine r_bipush dX6_frays_0 (k := ?_)
  refine r_iconst dX6_frays_2 (k := ?_)
  refine r_iload_n dX6_frays_3 rfl ?_
  refine r_imul dX6_frays_4 ?_
  try rw [zw_id (by omega) (by omega)]
  refine r_iadd dX6_frays_5 ?_
  try rw [zw_id (by omega) (by omega)]
  refine r_istore_n dX6_frays_6 rfl ?_
  by_cases h5 : x ≤ 5
  · have fin := loop (50 - (35 + 3 * x)).toNat (35 + 3 * x) (by omega) (by omega)
    rw [zsh3_0, zr_self] at fin
    exact fin
  · omega
set_option maxRecDepth 100000 in
set_option maxHeartbeats 1000000 in
theorem c_X6_match (hI : mI (mem 65 3) (mem 66)) (len w : Int) : KX6_match l G 7 [zR 65, zI len, zI w] mem (zPM (zI (if 1 ≤ len ∧ len ≤ 30 ∧ 0 ≤ w ∧ w ≤ 1 then (if mem 66 53 = 6 then -3 else sAdv (sMatch (vM (mem 65 3) (mem 66)) len).1 (sMatch (vM (mem 65 3) (mem 66)) len).2 w) else -1)) mem) := by
  have hn0 := hI.1
  have hn5 := hI.2.1
  have hr0 := hI.2.2.1
  have hr6 := hI.2.2.2.1
  refine CT.of' (own := RX6) (ls0 := [zR 65, zI len, zI w, zU, zU]) rfl (by decide +kernel) (Nat.le_of_ble_eq_true rfl) rfl ?_
  obtain ⟨f1, f2, f3⟩ := mStart hI kM.rf
  by_cases hc : 1 ≤ len ∧ len ≤ 30 ∧ 0 ≤ w ∧ w ≤ 1
  · rw [if_pos hc]
    by_cases hfull : mem 66 53 = 6
    · rw [if_pos hfull]
      refine r_iload_n dX6_match_0 rfl ?_
      refine r_i2l dX6_match_1 ?_
      refine r_lconst dX6_match_2 rfl (k := ?_)
      refine r_ldc2 nX6_220 dX6_match_3 (x := 30) (k := ?_)
      refine r_s3 (c_in _ _ _) kX6_69 dX6_match_6 ?_
      refine r_ifd_eq (tgt := 19) dX6_match_9 (by decide) (fun h9 => ?_) (fun h9 => ?_)
      · exact absurd hc (by omega)
      · refine r_iload_n dX6_match_12 rfl ?_
        refine r_s1 (c_isPart _) kX6_251 dX6_match_13 ?_
        refine r_ifd_ne (tgt := 21) dX6_match_16 (by decide) (fun h16 => ?_) (fun h16 => ?_)
        · refine r_aload_n dX6_match_21 rfl ?_
          refine r_getR (q := 66) fX6_7 rfl rfl dX6_match_22 ?_
          refine r_bipush dX6_match_25 (k := ?_)
          refine r_iald rfl (by omega) (by omega) dX6_match_27 ?_
          refine r_bipush dX6_match_28 (k := ?_)
          refine r_icmp_ne (tgt := 36) dX6_match_30 (by decide) (fun h30 => ?_) (fun h30 => ?_)
          · exact absurd hfull (by omega)
          · refine r_bipush dX6_match_33 (k := ?_)
            refine r_iret dX6_match_35 ?_
            exact zPM.i rfl kM.rf
        · exact absurd hc (by omega)
    · rw [if_neg hfull]
      have loop : ∀ (k : Nat) (x : Int) (m : zM) (v4 : zV), 0 ≤ x → x + k = mem 65 3 → kM mem m → zfor (fun i a => zfor (fun j a => sJ (10 * i + j) (vSpread (vRope (vM (mem 65 3) (mem 66)) i j len) 30) a) (i + 1) (mem 65 3 - (i + 1)).toNat a) x k (m 65 17, m 65 18) = sMatch (vM (mem 65 3) (mem 66)) len → SW l G (zrm 7) RX6 cX6_match 5 (some .int) (zZ G (zPM (zI (sAdv (sMatch (vM (mem 65 3) (mem 66)) len).1 (sMatch (vM (mem 65 3) (mem 66)) len).2 w)) mem)) 0 0 (fun _ => True) 52 [zR 65, zI len, zI w, zI x, v4] [] m := by
        intro k
        induction k with
        | zero =>
          intro x m v4 h0 h1 hk he
          have e65 : m 65 3 = mem 65 3 := hk.2 3 (by decide) (by decide) (by decide) (by decide) (by decide)
          refine r_iload_n dX6_match_52 rfl ?_
          refine r_aload_n dX6_match_53 rfl ?_
          refine r_gI (q := 3) rfl fX6_64 rfl (by decide) dX6_match_54 ?_
          try simp only [e65]
          refine r_icmp_ge (tgt := 115) dX6_match_57 (by decide) (fun h57 => ?_) (fun h57 => ?_)
          · refine r_aload_n dX6_match_115 rfl ?_
            refine r_iload_n dX6_match_116 rfl ?_
            refine r_v1 (c_judged _) kX6_264 rfl dX6_match_117 ?_
            try simp only [e65]
            refine r_iret dX6_match_120 ?_
            exact zPM.i (by rw [← he]; rfl) hk
          · exact absurd (by omega) h57
        | succ k ih =>
          intro x m v4 h0 h1 hk he
          have e65 : m 65 3 = mem 65 3 := hk.2 3 (by decide) (by decide) (by decide) (by decide) (by decide)
          rw [zfor] at he
          have inner : ∀ (kk : Nat) (y : Int) (m : zM), x + 1 ≤ y → y + kk = mem 65 3 → kM mem m → zfor (fun i a => zfor (fun j a => sJ (10 * i + j) (vSpread (vRope (vM (mem 65 3) (mem 66)) i j len) 30) a) (i + 1) (mem 65 3 - (i + 1)).toNat a) (x + 1) k (zfor (fun j a => sJ (10 * x + j) (vSpread (vRope (vM (mem 65 3) (mem 66)) x j len) 30) a) y kk (m 65 17, m 65 18)) = sMatch (vM (mem 65 3) (mem 66)) len → SW l G (zrm 7) RX6 cX6_match 5 (some .int) (zZ G (zPM (zI (sAdv (sMatch (vM (mem 65 3) (mem 66)) len).1 (sMatch (vM (mem 65 3) (mem 66)) len).2 w)) mem)) 0 0 (fun _ => True) 65 [zR 65, zI len, zI w, zI x, zI y] [] m := by
            intro kk
            induction kk with
            | zero =>
              intro y m g0 g1 hk he
              have e65 : m 65 3 = mem 65 3 := hk.2 3 (by decide) (by decide) (by decide) (by decide) (by decide)
              refine r_iload dX6_match_65 rfl ?_
              refine r_aload_n dX6_match_67 rfl ?_
              refine r_gI (q := 3) rfl fX6_64 rfl (by decide) dX6_match_68 ?_
              try simp only [e65]
              refine r_icmp_ge (tgt := 109) dX6_match_71 (by decide) (fun h71 => ?_) (fun h71 => ?_)
              · refine r_iinc dX6_match_109 rfl rfl ?_
                try rw [zw_id (by omega) (by omega)]
                refine r_goto (tgt := 52) dX6_match_112 (by decide) ?_
                exact ih _ _ _ (by omega) (by omega) hk he
              · exact absurd (by omega) h71
            | succ kk ih2 =>
              intro y m q0 q1 hk he
              have e65 : m 65 3 = mem 65 3 := hk.2 3 (by decide) (by decide) (by decide) (by decide) (by decide)
              obtain ⟨g1, g2, g3⟩ := mStart hI hk
              have e53 : zcp (m 66) (m 67) 0 0 76 53 = mem 66 53 := by rw [zcp_at (by decide) (by decide), hk.at (by decide) (by decide) (by decide) (by decide)]
              rw [zfor] at he
              refine r_iload dX6_match_65 rfl ?_
              refine r_aload_n dX6_match_67 rfl ?_
              refine r_gI (q := 3) rfl fX6_64 rfl (by decide) dX6_match_68 ?_
              try simp only [e65]
              refine r_icmp_ge (tgt := 109) dX6_match_71 (by decide) (fun h71 => ?_) (fun h71 => ?_)
              · exact absurd h71 (by omega)
              · refine r_aload_n dX6_match_74 rfl ?_
                refine r_w0 (c_starts) kX6_194 rfl dX6_match_75 ?_
                try simp only [e65]
                refine r_aload_n dX6_match_78 rfl ?_
                refine r_iload_n dX6_match_79 rfl ?_
                refine r_iload dX6_match_80 rfl ?_
                refine r_iload_n dX6_match_82 rfl ?_
                refine r_w3 (c_ties _ _ _ (by rw [zr_s, e53]; omega) (by rw [zr_s, e53]; omega)) kX6_222 rfl dX6_match_83 ?_
                try simp only [e65]
                rw [zr_zr, zr_s]
                refine r_aload_n dX6_match_86 rfl ?_
                refine r_bipush dX6_match_87 (k := ?_)
                refine r_iload_n dX6_match_89 rfl ?_
                refine r_imul dX6_match_90 ?_
                try rw [zw_id (by omega) (by omega)]
                refine r_iload dX6_match_91 rfl ?_
                refine r_iadd dX6_match_93 ?_
                try rw [zw_id (by omega) (by omega)]
                refine r_aload_n dX6_match_94 rfl ?_
                refine r_bipush dX6_match_95 (k := ?_)
                refine r_vR1 (c_mSpr (by rw [zr_n (by decide), zr_s, e65]; exact (vM_rope g1 (by omega) (by omega) (by omega) (by omega) (by omega) (by omega) (by omega)).1) (by rw [zr_n (by decide), zr_s, e65]; exact (vM_rope g1 (by omega) (by omega) (by omega) (by omega) (by omega) (by omega) (by omega)).2.trans (g2.rope len (by omega) (show x < mem 65 3 by omega) (by omega) (show y < mem 65 3 by omega))) _ (by decide) (by decide)) kX6_254 rfl dX6_match_97 (fun X97 => ?_)
                try simp only [e65]
                try rw [show Int.toNat 30 = 30 from rfl]
                refine r_w2 (c_judges' _ _) kX6_260 rfl dX6_match_100 ?_
                try simp only [e65]
                refine r_iinc dX6_match_103 rfl rfl ?_
                try rw [zw_id (by omega) (by omega)]
                refine r_goto (tgt := 65) dX6_match_106 (by decide) ?_
                rw [zr_zr]
                exact ih2 _ _ (by omega) (by omega) (mJ_k (hk.r (Or.inl rfl))) (by rw [mJ_a]; exact he)
          refine r_iload_n dX6_match_52 rfl ?_
          refine r_aload_n dX6_match_53 rfl ?_
          refine r_gI (q := 3) rfl fX6_64 rfl (by decide) dX6_match_54 ?_
          try simp only [e65]
          refine r_icmp_ge (tgt := 115) dX6_match_57 (by decide) (fun h57 => ?_) (fun h57 => ?_)
          · exact absurd h57 (by omega)
          · refine r_iload_n dX6_match_60 rfl ?_
            refine r_iconst dX6_match_61 (k := ?_)
            refine r_iadd dX6_match_62 ?_
            try rw [zw_id (by omega) (by omega)]
            refine r_istore dX6_match_63 rfl ?_
            exact inner (mem 65 3 - (x + 1)).toNat _ _ (by omega) (by omega) hk he
      refine r_iload_n dX6_match_0 rfl ?_
      refine r_i2l dX6_match_1 ?_
      refine r_lconst dX6_match_2 rfl (k := ?_)
      refine r_ldc2 nX6_220 dX6_match_3 (x := 30) (k := ?_)
      refine r_s3 (c_in _ _ _) kX6_69 dX6_match_6 ?_
      refine r_ifd_eq (tgt := 19) dX6_match_9 (by decide) (fun h9 => ?_) (fun h9 => ?_)
      · exact absurd hc (by omega)
      · refine r_iload_n dX6_match_12 rfl ?_
        refine r_s1 (c_isPart _) kX6_251 dX6_match_13 ?_
        refine r_ifd_ne (tgt := 21) dX6_match_16 (by decide) (fun h16 => ?_) (fun h16 => ?_)
        · refine r_aload_n dX6_match_21 rfl ?_
          refine r_getR (q := 66) fX6_7 rfl rfl dX6_match_22 ?_
          refine r_bipush dX6_match_25 (k := ?_)
          refine r_iald rfl (by omega) (by omega) dX6_match_27 ?_
          refine r_bipush dX6_match_28 (k := ?_)
          refine r_icmp_ne (tgt := 36) dX6_match_30 (by decide) (fun h30 => ?_) (fun h30 => ?_)
          · refine r_aload_n dX6_match_36 rfl ?_
            refine r_w0 (c_starts) kX6_194 rfl dX6_match_37 ?_
            refine r_aload_n dX6_match_40 rfl ?_
            refine r_aload_n dX6_match_41 rfl ?_
            refine r_bipush dX6_match_42 (k := ?_)
            refine r_vR1 (c_mSpr (by rw [zr_n (by decide), zr_s]; exact f1) (by rw [zr_n (by decide), zr_s]; exact f2) _ (by decide) (by decide)) kX6_254 rfl dX6_match_44 (fun X44 => ?_)
            try rw [show Int.toNat 30 = 30 from rfl]
            refine r_w1 (c_sJudging' _) kX6_257 rfl dX6_match_47 ?_
            refine r_iconst dX6_match_50 (k := ?_)
            refine r_istore_n dX6_match_51 rfl ?_
            rw [zr_zr]
            exact loop (mem 65 3).toNat 0 _ _ (by omega) (by omega) (mS_k (kM.rf.r (Or.inl rfl))) (by rw [mS_a]; rfl)
          · exact absurd h30 (by omega)
        · exact absurd hc (by omega)
  · rw [if_neg hc]
    refine r_iload_n dX6_match_0 rfl ?_
    refine r_i2l dX6_match_1 ?_
    refine r_lconst dX6_match_2 rfl (k := ?_)
    refine r_ldc2 nX6_220 dX6_match_3 (x := 30) (k := ?_)
    refine r_s3 (c_in _ _ _) kX6_69 dX6_match_6 ?_
    refine r_ifd_eq (tgt := 19) dX6_match_9 (by decide) (fun h9 => ?_) (fun h9 => ?_)
    · refine r_iconst dX6_match_19 (k := ?_)
      refine r_iret dX6_match_20 ?_
      exact zPM.i rfl kM.rf
    · refine r_iload_n dX6_match_12 rfl ?_
      refine r_s1 (c_isPart _) kX6_251 dX6_match_13 ?_
      refine r_ifd_ne (tgt := 21) dX6_match_16 (by decide) (fun h16 => ?_) (fun h16 => ?_)
      · exact absurd (by omega) hc
      · refine r_iconst dX6_match_19 (k := ?_)
        refine r_iret dX6_match_20 ?_
        exact zPM.i rfl kM.rf
end
