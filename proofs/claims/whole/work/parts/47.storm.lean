/-! ===== storms ===== -/
theorem sOff_p {n r : Int} {e1 e2 ln : Int → Int} {i way : Int} : ∀ (k : Nat) (p : Int → Int) (b c : Int), (sOff n r e1 e2 ln i way k (p, b)).1 = (sOff n r e1 e2 ln i way k (p, c)).1
  | 0, _, _, _ => rfl
  | k + 1, p, b, c => by
    rw [sOff, sOff]
    dsimp only
    split
    · rfl
    · split
      · rfl
      · exact sOff_p k _ _ _
theorem sOne_p {n r : Int} {t g e1 e2 ln : Int → Int} {f : Bool} {i : Int} {s u : (Int → Int) × Int} (h : s.1 = u.1) : (sOne n t g r e1 e2 ln f i s).1 = (sOne n t g r e1 e2 ln f i u).1 := by
  obtain ⟨p, b⟩ := s
  obtain ⟨q, c⟩ := u
  have h : p = q := h
  subst h
  unfold sOne
  split
  · rfl
  · exact sOff_p _ _ _ _
theorem sDay_p {n r hol : Int} {t g e1 e2 ln p : Int → Int} {b c d : Int} : (sDay n t g r e1 e2 ln hol (p, b, d)).1 = (sDay n t g r e1 e2 ln hol (p, c, d)).1 := by
  unfold sDay sAll
  exact zfor_rel (P := fun (a u : (Int → Int) × Int) => a.1 = u.1) n.toNat 0 (p, b) (p, c) rfl (fun j a u _ _ h => sOne_p h)
theorem sDay_o {n r hol : Int} {t g e1 e2 ln : Int → Int} {s : (Int → Int) × Int × Int} (hn0 : 0 ≤ n) (hn : n ≤ 5) (j : Int) (hj : ¬ (0 ≤ j ∧ j < 5)) : (sDay n t g r e1 e2 ln hol s).1 j = s.1 j := by
  have h : mOut (fun k => s.1 ((k - 1) / 2)) s.1 := fun i _ => by unfold mP; dsimp only; rw [show (2 * i + 1 - 1) / 2 = i by omega]
  rw [sDay_out hn0 hn h j hj, h j hj]
theorem sSpread_bd {n : Int} {p : Int → Int} (hn : 0 ≤ n) (h : sPB n p) : 0 ≤ sSpread n p ∧ sSpread n p ≤ 99 := by
  unfold sSpread
  split
  · omega
  · rename_i h2
    have a := zfor_ind (f := fun i a => min a (p i)) (P := fun _ a => 0 ≤ a ∧ a ≤ p 0) (n - 1).toNat 1 (p 0) ⟨(h 0 (by omega) (by omega)).1, by omega⟩ (fun j a h1 h2 h3 => by have := h j (by omega) (by omega); omega)
    have b := zfor_ind (f := fun i a => max a (p i)) (P := fun _ a => p 0 ≤ a ∧ a ≤ 99) (n - 1).toNat 1 (p 0) ⟨by omega, (h 0 (by omega) (by omega)).2⟩ (fun j a h1 h2 h3 => by have := h j (by omega) (by omega); omega)
    unfold sMax sMin
    omega
def sVal (w x : Int) : Int := if w = -1 then x else if x ≤ w then 1 else 0
theorem sVal_b {w x : Int} (h0 : 0 ≤ x) (h1 : x ≤ 99) : 0 ≤ sVal w x ∧ sVal w x ≤ 99 := by
  unfold sVal; split <;> (try split) <;> omega
/-- summed over all ways in which k days may go -/
def sT (n : Int) (t g : Int → Int) (r : Int) (e1 e2 ln : Int → Int) (hol : Int) (val : Int → Int) (v : Int) : Nat → (Int → Int) → Int → Int
  | 0, p, _ => val (sSpread n p)
  | k + 1, p, dy => v * sT n t g r e1 e2 ln hol val v k p (zw (dy + 1)) + (10 - v) * sT n t g r e1 e2 ln hol val v k (sDay n t g r e1 e2 ln hol (p, 0, dy)).1 (zw (dy + 1))
theorem sT_s {n r hol : Int} {t g e1 e2 ln val : Int → Int} {v : Int} {k : Nat} {p : Int → Int} {dy : Int} : sT n t g r e1 e2 ln hol val v (k + 1) p dy = v * sT n t g r e1 e2 ln hol val v k p (zw (dy + 1)) + (10 - v) * sT n t g r e1 e2 ln hol val v k (sDay n t g r e1 e2 ln hol (p, 0, dy)).1 (zw (dy + 1)) := rfl
theorem zmulb {v T B : Int} (h0 : 0 ≤ v) (h1 : v ≤ 10) (t0 : 0 ≤ T) (t1 : T ≤ B) : 0 ≤ v * T ∧ v * T ≤ 10 * B := ⟨Int.mul_nonneg h0 t0, Int.le_trans (Int.mul_le_mul_of_nonneg_right h1 t0) (Int.mul_le_mul_of_nonneg_left t1 (by omega))⟩
theorem sT_bd {n r hol : Int} {t g e1 e2 ln : Int → Int} {v w : Int} (hv0 : 0 ≤ v) (hv1 : v ≤ 10) (hn : 0 ≤ n) : ∀ (k : Nat) {p : Int → Int} {dy : Int}, sPB n p → 0 ≤ sT n t g r e1 e2 ln hol (sVal w) v k p dy ∧ sT n t g r e1 e2 ln hol (sVal w) v k p dy ≤ 99 * 10 ^ k
  | 0, p, dy, h => by
    obtain ⟨a, b⟩ := sSpread_bd hn h
    exact sVal_b a b
  | k + 1, p, dy, h => by
    rw [sT]
    have a := sT_bd hv0 hv1 hn k (dy := zw (dy + 1)) (w := w) (t := t) (g := g) (r := r) (e1 := e1) (e2 := e2) (ln := ln) (hol := hol) h
    have b := sT_bd hv0 hv1 hn k (dy := zw (dy + 1)) (w := w) (t := t) (g := g) (r := r) (e1 := e1) (e2 := e2) (ln := ln) (hol := hol) (sDay_bd (t := t) (g := g) (r := r) (e1 := e1) (e2 := e2) (ln := ln) (hol := hol) (s := (p, 0, dy)) hn h)
    generalize sT n t g r e1 e2 ln hol (sVal w) v k p (zw (dy + 1)) = T1 at a ⊢
    generalize sT n t g r e1 e2 ln hol (sVal w) v k (sDay n t g r e1 e2 ln hol (p, 0, dy)).1 (zw (dy + 1)) = T2 at b ⊢
    have c1 : v * T1 ≤ v * (99 * 10 ^ k) := Int.mul_le_mul_of_nonneg_left a.2 hv0
    have c2 : (10 - v) * T2 ≤ (10 - v) * (99 * 10 ^ k) := Int.mul_le_mul_of_nonneg_left b.2 (by omega)
    have c3 : v * (99 * 10 ^ k) + (10 - v) * (99 * 10 ^ k) = 99 * 10 ^ (k + 1) := by
      rw [← Int.add_mul, show v + (10 - v) = 10 by omega, Int.pow_succ]
      generalize (10 : Int) ^ k = z
      omega
    have d1 := Int.mul_nonneg hv0 a.1
    have d2 := Int.mul_nonneg (show 0 ≤ 10 - v by omega) b.1
    omega
theorem sT_c {n r hol : Int} {t t' g g' e1 e2 ln f1 f2 fl : Int → Int} {val : Int → Int} {v : Int} (hn : 0 ≤ n) (ht : PE n t t') (hg : GE n g g') (hr : RE n r e1 e2 ln f1 f2 fl) : ∀ (k : Nat) (p q : Int → Int) (dy : Int), PE n p q → sT n t g r e1 e2 ln hol val v k p dy = sT n t' g' r f1 f2 fl hol val v k q dy
  | 0, p, q, dy, h => by rw [sT, sT, sSpread_c h]
  | k + 1, p, q, dy, h => by
    rw [sT, sT, sT_c hn ht hg hr k p q _ h, sT_c hn ht hg hr k _ _ _ (sDay_c (hol := hol) (s := (p, 0, dy)) (u := (q, 0, dy)) hn ht hg hr h rfl).1]
theorem zW1 {m : zM} {a bu : Int} {Y : Int → Int} : zs (zs (zr (zs m 8 9 a) 64 Y) 8 10 bu) 8 9 (m 8 9) = zs (zr m 64 Y) 8 10 bu := by
  funext o
  by_cases h : o = 8
  · subst h
    funext k
    simp (disch := decide) only [zs_s, zr_n]
    unfold zu
    by_cases h9 : k = 9
    · subst h9; rfl
    · rw [if_neg h9]
      by_cases h10 : k = 10
      · rw [if_pos h10, if_pos h10]
      · rw [if_neg h10, if_neg h10, if_neg h9]
  · rw [zs_n h, zs_n h, zs_n h]
    by_cases h6 : o = 64
    · subst h6; rw [zr_s, zr_s]
    · rw [zr_n h6, zr_n h6, zs_n h]
theorem zW2 {m : zM} {bu b2 : Int} {Y Y2 Z : Int → Int} {s : zS3} : zr (zs (zs (zr (zFy (zr (zs (zr m 64 Y) 8 10 bu) 64 Z) 8 s) 64 Y2) 8 10 b2) 8 9 (m 8 9)) 10 (m 10) = zs (zr m 64 Y2) 8 10 b2 := by
  funext o
  by_cases h : o = 8
  · subst h
    funext k
    simp (disch := decide) only [zs_s, zr_n]
    unfold zu
    by_cases h9 : k = 9
    · subst h9; rfl
    · rw [if_neg h9]
      by_cases h10 : k = 10
      · rw [if_pos h10, if_pos h10]
      · rw [if_neg h10, if_neg h10, zFy_b h10 h9, zr_n (by decide), zs_s]
        unfold zu
        rw [if_neg h10, zr_n (by decide)]
  · rw [zs_n h]
    by_cases ht : o = 10
    · subst ht; rw [zr_s, zr_n (by decide)]
    · rw [zr_n ht, zs_n h, zs_n h]
      by_cases h6 : o = 64
      · subst h6; rw [zr_s, zr_s]
      · rw [zr_n h6, zr_n h6, zFy_o h ht, zr_n h6, zs_n h, zr_n h6]
def zPG (k : Int) (v : zV) (m : zM) : Option zV → zM → Prop := fun r m' => r = some v ∧ ∃ Y bu, m' = zs (zr m 64 Y) 8 10 bu ∧ ∀ j, 5 * k ≤ j → Y j = m 64 j
theorem zPG.of {k v w : Int} {m : zM} {Y : Int → Int} {bu : Int} (h : w = v) (hY : ∀ j, 5 * k ≤ j → Y j = m 64 j) : zPG k (zJ v) m (some (zJ w)) (zs (zr m 64 Y) 8 10 bu) := ⟨by rw [h], Y, bu, rfl, hY⟩
section
variable {l : Launch} {G : zG} {R : Room} {own : String} {cc : ByteArray} {nL : Nat} {ret : Option FieldType} {Z : List Frame → Array Value → State → State → Prop} {kc ks : Nat} {Ex : State → Prop} {pc : Nat} {ls st : List zV} {mem mem' : zM}
variable {y : MethodName} {bytes : ByteArray} {nL' : Nat} {ret' : Option FieldType} {d index b ci : Nat} {v a1 a2 a3 a4 a5 : zV}
theorem r_g5 {k : Int} (hM : CT l G y bytes nL' ret' d [a1, a2, a3, a4, a5] mem (zPG k v mem)) (hk : zCs own index y bytes nL' ret' 5) (hd : decode cc pc = .ok (.invokestatic index, 3)) (kk : ∀ Y bu, (∀ j, 5 * k ≤ j → Y j = mem 64 j) → SW l G R own cc nL ret Z kc ks Ex (pc + 3) ls (v :: st) (zs (zr mem 64 Y) 8 10 bu)) (hR : d + 1 ≤ R.frames ∧ 8 + (nL' + 11) + 100 * d ≤ R.locals := by exact ⟨Nat.le_of_ble_eq_true rfl, Nat.le_of_ble_eq_true rfl⟩) (hw : zwd st ≤ 8 := by exact Nat.le_of_ble_eq_true rfl) : SW l G R own cc nL ret Z kc ks Ex pc ls (a5 :: a4 :: a3 :: a2 :: a1 :: st) mem := by
  obtain ⟨h1, h2⟩ := hk
  exact r_callS hM h1 h2 rfl rfl hR hw hd (fun r m9 h9 => by obtain ⟨rfl, Y, bu, rfl, hY⟩ := h9; exact kk Y bu hY)
end
section
variable {l : Launch} {G : zG}
set_option maxRecDepth 100000 in
theorem c_storm0 {mem : zM} (hI : zFI mem 8) (v w : Int) (hv0 : 0 ≤ v) (hv1 : v ≤ 10) (hd0 : 0 ≤ mem 8 9) (hd1 : mem 8 9 ≤ 5000 - 0) : KX5_stormSum l G 4 [zR 8, zR 64, zI 0, zI v, zI w] mem (zPG 0 (zJ (sT (mem 8 0) (mem 9) (mem 11) (mem 8 4) (mem 12) (mem 13) (mem 14) (mem 8 8) (sVal w) v 0 (mem 10) (mem 8 9))) mem) := by
  have same : ∀ r, r = sVal w (sSpread (mem 8 0) (mem 10)) → zPG 0 (zJ (sT (mem 8 0) (mem 9) (mem 11) (mem 8 4) (mem 12) (mem 13) (mem 14) (mem 8 8) (sVal w) v 0 (mem 10) (mem 8 9))) mem (some (zJ r)) mem := fun r h => ⟨by rw [h]; rfl, mem 64, mem 8 10, by rw [zr_self]; exact (zs_u rfl).symm, fun _ _ => rfl⟩
  refine CT.of' (own := RX5) (ls0 := [zR 8, zR 64, zI 0, zI v, zI w, zU, zU, zU]) rfl (by decide +kernel) (Nat.le_of_ble_eq_true rfl) rfl ?_
  refine r_iload_n dX5_stormSum_0 rfl ?_
  refine r_if_le (tgt := 10) dX5_stormSum_1 (by decide) (fun h1 => ?_) (fun h1 => ?_)
  · refine r_aload_n dX5_stormSum_10 rfl ?_
    refine r_v0 (c_X0_spread hF8 hI) kX5_107 rfl dX5_stormSum_11 ?_
    rw [show (8 + 2 : Nat) = 10 from rfl]
    refine r_istore dX5_stormSum_14 rfl ?_
    refine r_iload dX5_stormSum_16 rfl ?_
    refine r_iconst dX5_stormSum_18 (k := ?_)
    refine r_icmp_ne (tgt := 26) dX5_stormSum_19 (by decide) (fun h19 => ?_) (fun h19 => ?_)
    · refine r_iload dX5_stormSum_26 rfl ?_
      refine r_iload dX5_stormSum_28 rfl ?_
      refine r_icmp_gt (tgt := 37) dX5_stormSum_30 (by decide) (fun h30 => ?_) (fun h30 => ?_)
      · refine r_lconst dX5_stormSum_37 rfl (k := ?_)
        refine r_lret dX5_stormSum_38 ?_
        exact same _ (by unfold sVal; first | rw [if_pos (by omega)] | (rw [if_neg (by omega), if_pos (by omega)]; rfl) | (rw [if_neg (by omega), if_neg (by omega)]; rfl))
      · refine r_lconst dX5_stormSum_33 rfl (k := ?_)
        refine r_goto (tgt := 38) dX5_stormSum_34 (by decide) ?_
        refine r_lret dX5_stormSum_38 ?_
        exact same _ (by unfold sVal; first | rw [if_pos (by omega)] | (rw [if_neg (by omega), if_pos (by omega)]; rfl) | (rw [if_neg (by omega), if_neg (by omega)]; rfl))
    · refine r_iload dX5_stormSum_22 rfl ?_
      refine r_i2l dX5_stormSum_24 ?_
      refine r_lret dX5_stormSum_25 ?_
      exact same _ (by unfold sVal; first | rw [if_pos (by omega)] | (rw [if_neg (by omega), if_pos (by omega)]; rfl) | (rw [if_neg (by omega), if_neg (by omega)]; rfl))
  · exact absurd (by decide) h1
set_option maxRecDepth 100000 in
set_option maxHeartbeats 1000000 in
theorem c_storm1 {mem : zM} (hI : zFI mem 8) (v w : Int) (hv0 : 0 ≤ v) (hv1 : v ≤ 10) (hd0 : 0 ≤ mem 8 9) (hd1 : mem 8 9 ≤ 5000 - 1) : KX5_stormSum l G (4 + 1) [zR 8, zR 64, zI 1, zI v, zI w] mem (zPG 1 (zJ (sT (mem 8 0) (mem 9) (mem 11) (mem 8 4) (mem 12) (mem 13) (mem 14) (mem 8 8) (sVal w) v 1 (mem 10) (mem 8 9))) mem) := by
  obtain ⟨hn0, hn5, hr0, hr6, hp, hg, hr⟩ := id hI
  generalize hT1 : sT (mem 8 0) (mem 9) (mem 11) (mem 8 4) (mem 12) (mem 13) (mem 14) (mem 8 8) (sVal w) v 0 (mem 10) (mem 8 9 + 1) = T1
  generalize hT2 : sT (mem 8 0) (mem 9) (mem 11) (mem 8 4) (mem 12) (mem 13) (mem 14) (mem 8 8) (sVal w) v 0 (sDay (mem 8 0) (mem 9) (mem 11) (mem 8 4) (mem 12) (mem 13) (mem 14) (mem 8 8) (mem 10, 0, mem 8 9)).1 (mem 8 9 + 1) = T2
  have hT : sT (mem 8 0) (mem 9) (mem 11) (mem 8 4) (mem 12) (mem 13) (mem 14) (mem 8 8) (sVal w) v 1 (mem 10) (mem 8 9) = v * T1 + (10 - v) * T2 := by
    refine (sT_s (k := 0)).trans ?_
    rw [zw_id (by omega) (by omega), hT1, hT2]
  have hB1 : 0 ≤ T1 ∧ T1 ≤ 99 := by rw [← hT1]; exact sT_bd hv0 hv1 hn0 0 hp
  have hB2 : 0 ≤ T2 ∧ T2 ≤ 99 := by rw [← hT2]; exact sT_bd hv0 hv1 hn0 0 (sDay_bd hn0 hp)
  have hM1 := zmulb hv0 hv1 hB1.1 hB1.2
  have hM2 := zmulb (v := 10 - v) (by omega) (by omega) hB2.1 hB2.2
  rw [hT]
  refine CT.of' (own := RX5) (ls0 := [zR 8, zR 64, zI 1, zI v, zI w, zU, zU, zU]) rfl (by decide +kernel) (Nat.le_of_ble_eq_true rfl) rfl ?_
  have two : ∀ (Y : Int → Int) (bu sum : Int), sum = v * T1 → (∀ j, 5 * 0 ≤ j → Y j = mem 64 j) → SW l G (zrm (4 + 1)) RX5 cX5_stormSum 8 (some .long) (zZ G (zPG 1 (zJ (v * T1 + (10 - v) * T2)) mem)) 0 0 (fun _ => True) 85 [zR 8, zR 64, zI 1, zI v, zI w, zJ sum, zU, zU] [] (zs (zr mem 64 Y) 8 10 bu) := by
    intro Y bu sum hsum hY
    have hI3 : zFI (zr (zs (zr mem 64 Y) 8 10 bu) 64 (zcp (mem 10) Y 0 (5 * 0) 5)) 8 := by
      unfold zFI
      simp (disch := decide) only [zr_n, zs_n, zs_s, zu_n]
      exact hI
    generalize hs' : sDay (mem 8 0) (mem 9) (mem 11) (mem 8 4) (mem 12) (mem 13) (mem 14) (mem 8 8) (mem 10, bu, mem 8 9) = s'
    have hp' : sPB (mem 8 0) s'.1 := by rw [← hs']; exact sDay_bd hn0 hp
    have hd' : s'.2.2 = mem 8 9 + 1 := by rw [← hs']; show zw (mem 8 9 + 1) = _; exact zw_id (by omega) (by omega)
    have hq' : s'.1 = (sDay (mem 8 0) (mem 9) (mem 11) (mem 8 4) (mem 12) (mem 13) (mem 14) (mem 8 8) (mem 10, 0, mem 8 9)).1 := by rw [← hs']; exact sDay_p
    have ho' : ∀ j, ¬ (0 ≤ j ∧ j < 5) → s'.1 j = mem 10 j := by rw [← hs']; exact fun j hj => sDay_o hn0 hn5 j hj
    have hd2 : 0 ≤ s'.2.2 := by omega
    have hd3 : s'.2.2 ≤ 5000 - 0 := by omega
    have hI2 : zFI (zFy (zr (zs (zr mem 64 Y) 8 10 bu) 64 (zcp (mem 10) Y 0 (5 * 0) 5)) 8 s') 8 := hI3.y (by simp (disch := decide) only [zr_n, zs_s, zu_n]; exact hp')
    have hv129 : sT ((zFy (zr (zs (zr mem 64 Y) 8 10 bu) 64 (zcp (mem 10) Y 0 (5 * 0) 5)) 8 s') 8 0) ((zFy (zr (zs (zr mem 64 Y) 8 10 bu) 64 (zcp (mem 10) Y 0 (5 * 0) 5)) 8 s') 9) ((zFy (zr (zs (zr mem 64 Y) 8 10 bu) 64 (zcp (mem 10) Y 0 (5 * 0) 5)) 8 s') 11) ((zFy (zr (zs (zr mem 64 Y) 8 10 bu) 64 (zcp (mem 10) Y 0 (5 * 0) 5)) 8 s') 8 4) ((zFy (zr (zs (zr mem 64 Y) 8 10 bu) 64 (zcp (mem 10) Y 0 (5 * 0) 5)) 8 s') 12) ((zFy (zr (zs (zr mem 64 Y) 8 10 bu) 64 (zcp (mem 10) Y 0 (5 * 0) 5)) 8 s') 13) ((zFy (zr (zs (zr mem 64 Y) 8 10 bu) 64 (zcp (mem 10) Y 0 (5 * 0) 5)) 8 s') 14) ((zFy (zr (zs (zr mem 64 Y) 8 10 bu) 64 (zcp (mem 10) Y 0 (5 * 0) 5)) 8 s') 8 8) (sVal w) v 0 s'.1 s'.2.2 = T2 := by
      simp (disch := decide) only [zFy_o, zr_n, zs_n, zs_s, zu_n, zFy_b]
      rw [hd', hq']
      exact hT2
    have e89 : ∀ Y2 b2, zs (zr (zFy (zr (zs (zr mem 64 Y) 8 10 bu) 64 (zcp (mem 10) Y 0 (5 * 0) 5)) 8 s') 64 Y2) 8 10 b2 8 9 = mem 8 9 + 1 := fun Y2 b2 => by rw [zs_k (by decide), zr_n (by decide), zFy_9, hd']
    have fin : ∀ (Y2 : Int → Int) (b2 : Int), (∀ j, 5 * 0 ≤ j → Y2 j = (zFy (zr (zs (zr mem 64 Y) 8 10 bu) 64 (zcp (mem 10) Y 0 (5 * 0) 5)) 8 s') 64 j) → zcp Y2 s'.1 (5 * 0) 0 5 = mem 10 ∧ ∀ j, 5 * 1 ≤ j → Y2 j = mem 64 j := fun Y2 b2 h => by
      rw [zFy_o (by decide) (by decide), zr_s] at h
      constructor
      · funext j
        unfold zcp
        by_cases hj : 0 ≤ j ∧ j < 0 + 5
        · rw [if_pos hj, h _ (by omega)]
          unfold zcp
          rw [if_pos (by omega)]
          congr 1
          omega
        · rw [if_neg hj, ho' j (by omega)]
      · intro j hj
        rw [h j (by omega)]
        unfold zcp
        rw [if_neg (by omega)]
        exact hY j (by omega)
    refine r_iload_n dX5_stormSum_85 rfl ?_
    refine r_bipush dX5_stormSum_86 (k := ?_)
    refine r_icmp_ge (tgt := 158) dX5_stormSum_88 (by decide) (fun h88 => ?_) (fun h88 => ?_)
    · refine r_lload dX5_stormSum_158 rfl ?_
      refine r_lret dX5_stormSum_160 ?_
      first
        | (have e : v = 10 := (by omega); refine zPG.of ?_ (fun j hj => hY j (by omega)); rw [hsum, e]; omega)
        | (refine zPG.of ?_ (fin Y129 bu129 hY129).2; rw [hsum])
    · refine r_iload_n dX5_stormSum_91 rfl ?_
      refine r_iconst dX5_stormSum_92 (k := ?_)
      refine r_isub dX5_stormSum_93 ?_
      try rw [zw_id (by omega) (by omega)]
      refine r_iconst dX5_stormSum_94 (k := ?_)
      refine r_imul dX5_stormSum_95 ?_
      try rw [zw_id (by omega) (by omega)]
      rw [show ((1 : Int) - 1) * 5 = 5 * 0 from rfl]
      refine r_istore dX5_stormSum_96 rfl ?_
      refine r_aload_n dX5_stormSum_98 rfl ?_
      refine r_getR (q := 10) fX5_118 rfl rfl dX5_stormSum_99 ?_
      refine r_iconst dX5_stormSum_102 (k := ?_)
      refine r_aload_n dX5_stormSum_103 rfl ?_
      refine r_iload dX5_stormSum_104 rfl ?_
      refine r_iconst dX5_stormSum_106 (k := ?_)
      refine r_copy lX5_269 rfl rfl (by omega) (by omega) (by omega) (by omega) (by omega) dX5_stormSum_107 ?_
      simp (disch := decide) only [zs_n, zr_n, zr_s]
      refine r_aload_n dX5_stormSum_110 rfl ?_
      refine r_w0 (c_X0_passDay' hF8 hI3) kX5_181 rfl dX5_stormSum_111 ?_
      simp (disch := decide) only [zr_n, zs_n, zs_s, zu_n, zu_s]
      rw [hs']
      refine r_lload dX5_stormSum_114 rfl ?_
      refine r_bipush dX5_stormSum_116 (k := ?_)
      refine r_iload_n dX5_stormSum_118 rfl ?_
      refine r_isub dX5_stormSum_119 ?_
      try rw [zw_id (by omega) (by omega)]
      refine r_i2l dX5_stormSum_120 ?_
      refine r_aload_n dX5_stormSum_121 rfl ?_
      refine r_aload_n dX5_stormSum_122 rfl ?_
      refine r_iload_n dX5_stormSum_123 rfl ?_
      refine r_iconst dX5_stormSum_124 (k := ?_)
      refine r_isub dX5_stormSum_125 ?_
      try rw [zw_id (by omega) (by omega)]
      refine r_iload_n dX5_stormSum_126 rfl ?_
      refine r_iload dX5_stormSum_127 rfl ?_
      refine r_g5 (c_storm0 hI2 v w hv0 hv1 (by rw [zFy_9]; exact hd2) (by rw [zFy_9]; exact hd3)) kX5_209 dX5_stormSum_129 (fun Y129 bu129 hY129 => ?_)
      rw [zFy_10', zFy_9, hv129]
      refine r_lmul dX5_stormSum_132 ?_
      try rw [zw64_id (by omega) (by omega)]
      refine r_ladd dX5_stormSum_133 ?_
      try rw [zw64_id (by omega) (by omega)]
      refine r_lstore dX5_stormSum_134 rfl ?_
      refine r_aload_n dX5_stormSum_136 rfl ?_
      refine r_dup dX5_stormSum_137 rfl ?_
      refine r_gI (q := 9) rfl fX5_98 rfl (by decide) dX5_stormSum_138 ?_
      rw [e89]
      refine r_iconst dX5_stormSum_141 (k := ?_)
      refine r_isub dX5_stormSum_142 ?_
      try rw [zw_id (by omega) (by omega)]
      rw [show mem 8 9 + 1 - 1 = mem 8 9 by omega]
      refine r_pI (q := 9) rfl pX5_98 rfl dX5_stormSum_143 ?_
      refine r_aload_n dX5_stormSum_146 rfl ?_
      refine r_iload dX5_stormSum_147 rfl ?_
      refine r_aload_n dX5_stormSum_149 rfl ?_
      refine r_getR (q := 10) fX5_118 rfl rfl dX5_stormSum_150 ?_
      refine r_iconst dX5_stormSum_153 (k := ?_)
      refine r_iconst dX5_stormSum_154 (k := ?_)
      refine r_copy lX5_269 rfl rfl (by omega) (by omega) (by omega) (by omega) (by omega) dX5_stormSum_155 ?_
      simp (disch := decide) only [zs_n, zr_n, zr_s, zFy_10']
      rw [(fin Y129 bu129 hY129).1, zW2]
      refine r_lload dX5_stormSum_158 rfl ?_
      refine r_lret dX5_stormSum_160 ?_
      first
        | (have e : v = 10 := (by omega); refine zPG.of ?_ (fun j hj => hY j (by omega)); rw [hsum, e]; omega)
        | (refine zPG.of ?_ (fin Y129 bu129 hY129).2; rw [hsum])
  have hI1 : zFI (zs mem 8 9 (mem 8 9 + 1)) 8 := by
    unfold zFI
    simp (disch := decide) only [zs_n, zs_s, zu_n]
    exact hI
  have hv68 : sT ((zs mem 8 9 (mem 8 9 + 1)) 8 0) ((zs mem 8 9 (mem 8 9 + 1)) 9) ((zs mem 8 9 (mem 8 9 + 1)) 11) ((zs mem 8 9 (mem 8 9 + 1)) 8 4) ((zs mem 8 9 (mem 8 9 + 1)) 12) ((zs mem 8 9 (mem 8 9 + 1)) 13) ((zs mem 8 9 (mem 8 9 + 1)) 14) ((zs mem 8 9 (mem 8 9 + 1)) 8 8) (sVal w) v 0 ((zs mem 8 9 (mem 8 9 + 1)) 10) ((zs mem 8 9 (mem 8 9 + 1)) 8 9) = T1 := by
    simp (disch := decide) only [zs_n, zs_s, zu_n, zu_s]
    exact hT1
  have e79 : ∀ Y2 b2, zs (zr (zs mem 8 9 (mem 8 9 + 1)) 64 Y2) 8 10 b2 8 9 = mem 8 9 + 1 := fun Y2 b2 => by rw [zs_k (by decide), zr_n (by decide), zs_v]
  have e64 : ∀ j, (zs mem 8 9 (mem 8 9 + 1)) 64 j = mem 64 j := fun j => by rw [zs_n (by decide)]
  have same : zs (zr mem 64 (mem 64)) 8 10 (mem 8 10) = mem := by rw [zr_self]; exact zs_u rfl
  refine r_iload_n dX5_stormSum_0 rfl ?_
  refine r_if_le (tgt := 10) dX5_stormSum_1 (by decide) (fun h1 => ?_) (fun h1 => ?_)
  · first | exact absurd h1 (by decide) | exact absurd (by decide) h7
  · refine r_iload_n dX5_stormSum_4 rfl ?_
    refine r_bipush dX5_stormSum_5 (k := ?_)
    refine r_icmp_le (tgt := 39) dX5_stormSum_7 (by decide) (fun h7 => ?_) (fun h7 => ?_)
    · refine r_lconst dX5_stormSum_39 rfl (k := ?_)
      refine r_lstore dX5_stormSum_40 rfl ?_
      refine r_iload_n dX5_stormSum_42 rfl ?_
      refine r_if_le (tgt := 85) dX5_stormSum_43 (by decide) (fun h43 => ?_) (fun h43 => ?_)
      · first
          | (have t := two (mem 64) (mem 8 10) 0 (by rw [show v = 0 by omega, Int.zero_mul]) (fun j hj => rfl); rw [same] at t; exact t)
          | (rw [zW1]; exact two Y68 bu68 _ (by omega) (fun j hj => (hY68 j hj).trans (e64 j)))
      · refine r_aload_n dX5_stormSum_46 rfl ?_
        refine r_dup dX5_stormSum_47 rfl ?_
        refine r_gI (q := 9) rfl fX5_98 rfl (by decide) dX5_stormSum_48 ?_
        refine r_iconst dX5_stormSum_51 (k := ?_)
        refine r_iadd dX5_stormSum_52 ?_
        try rw [zw_id (by omega) (by omega)]
        refine r_pI (q := 9) rfl pX5_98 rfl dX5_stormSum_53 ?_
        refine r_lload dX5_stormSum_56 rfl ?_
        refine r_iload_n dX5_stormSum_58 rfl ?_
        refine r_i2l dX5_stormSum_59 ?_
        refine r_aload_n dX5_stormSum_60 rfl ?_
        refine r_aload_n dX5_stormSum_61 rfl ?_
        refine r_iload_n dX5_stormSum_62 rfl ?_
        refine r_iconst dX5_stormSum_63 (k := ?_)
        refine r_isub dX5_stormSum_64 ?_
        try rw [zw_id (by omega) (by omega)]
        refine r_iload_n dX5_stormSum_65 rfl ?_
        refine r_iload dX5_stormSum_66 rfl ?_
        refine r_g5 (c_storm0 (mem := zs mem 8 9 (mem 8 9 + 1)) hI1 v w hv0 hv1 (by rw [zs_v]; omega) (by rw [zs_v]; omega)) kX5_209 dX5_stormSum_68 (fun Y68 bu68 hY68 => ?_)
        rw [hv68]
        refine r_lmul dX5_stormSum_71 ?_
        try rw [zw64_id (by omega) (by omega)]
        refine r_ladd dX5_stormSum_72 ?_
        try rw [zw64_id (by omega) (by omega)]
        refine r_lstore dX5_stormSum_73 rfl ?_
        refine r_aload_n dX5_stormSum_75 rfl ?_
        refine r_dup dX5_stormSum_76 rfl ?_
        refine r_gI (q := 9) rfl fX5_98 rfl (by decide) dX5_stormSum_77 ?_
        rw [e79]
        refine r_iconst dX5_stormSum_80 (k := ?_)
        refine r_isub dX5_stormSum_81 ?_
        try rw [zw_id (by omega) (by omega)]
        rw [show mem 8 9 + 1 - 1 = mem 8 9 by omega]
        refine r_pI (q := 9) rfl pX5_98 rfl dX5_stormSum_82 ?_
        first
          | (have t := two (mem 64) (mem 8 10) 0 (by rw [show v = 0 by omega, Int.zero_mul]) (fun j hj => rfl); rw [same] at t; exact t)
          | (rw [zW1]; exact two Y68 bu68 _ (by omega) (fun j hj => (hY68 j hj).trans (e64 j)))
    · first | exact absurd h1 (by decide) | exact absurd (by decide) h7
set_option maxRecDepth 100000 in
set_option maxHeartbeats 1000000 in
theorem c_storm2 {mem : zM} (hI : zFI mem 8) (v w : Int) (hv0 : 0 ≤ v) (hv1 : v ≤ 10) (hd0 : 0 ≤ mem 8 9) (hd1 : mem 8 9 ≤ 5000 - 2) : KX5_stormSum l G (4 + 2) [zR 8, zR 64, zI 2, zI v, zI w] mem (zPG 2 (zJ (sT (mem 8 0) (mem 9) (mem 11) (mem 8 4) (mem 12) (mem 13) (mem 14) (mem 8 8) (sVal w) v 2 (mem 10) (mem 8 9))) mem) := by
  obtain ⟨hn0, hn5, hr0, hr6, hp, hg, hr⟩ := id hI
  generalize hT1 : sT (mem 8 0) (mem 9) (mem 11) (mem 8 4) (mem 12) (mem 13) (mem 14) (mem 8 8) (sVal w) v 1 (mem 10) (mem 8 9 + 1) = T1
  generalize hT2 : sT (mem 8 0) (mem 9) (mem 11) (mem 8 4) (mem 12) (mem 13) (mem 14) (mem 8 8) (sVal w) v 1 (sDay (mem 8 0) (mem 9) (mem 11) (mem 8 4) (mem 12) (mem 13) (mem 14) (mem 8 8) (mem 10, 0, mem 8 9)).1 (mem 8 9 + 1) = T2
  have hT : sT (mem 8 0) (mem 9) (mem 11) (mem 8 4) (mem 12) (mem 13) (mem 14) (mem 8 8) (sVal w) v 2 (mem 10) (mem 8 9) = v * T1 + (10 - v) * T2 := by
    refine (sT_s (k := 1)).trans ?_
    rw [zw_id (by omega) (by omega), hT1, hT2]
  have hB1 : 0 ≤ T1 ∧ T1 ≤ 990 := by rw [← hT1]; exact sT_bd hv0 hv1 hn0 1 hp
  have hB2 : 0 ≤ T2 ∧ T2 ≤ 990 := by rw [← hT2]; exact sT_bd hv0 hv1 hn0 1 (sDay_bd hn0 hp)
  have hM1 := zmulb hv0 hv1 hB1.1 hB1.2
  have hM2 := zmulb (v := 10 - v) (by omega) (by omega) hB2.1 hB2.2
  rw [hT]
  refine CT.of' (own := RX5) (ls0 := [zR 8, zR 64, zI 2, zI v, zI w, zU, zU, zU]) rfl (by decide +kernel) (Nat.le_of_ble_eq_true rfl) rfl ?_
  have two : ∀ (Y : Int → Int) (bu sum : Int), sum = v * T1 → (∀ j, 5 * 1 ≤ j → Y j = mem 64 j) → SW l G (zrm (4 + 2)) RX5 cX5_stormSum 8 (some .long) (zZ G (zPG 2 (zJ (v * T1 + (10 - v) * T2)) mem)) 0 0 (fun _ => True) 85 [zR 8, zR 64, zI 2, zI v, zI w, zJ sum, zU, zU] [] (zs (zr mem 64 Y) 8 10 bu) := by
    intro Y bu sum hsum hY
    have hI3 : zFI (zr (zs (zr mem 64 Y) 8 10 bu) 64 (zcp (mem 10) Y 0 (5 * 1) 5)) 8 := by
      unfold zFI
      simp (disch := decide) only [zr_n, zs_n, zs_s, zu_n]
      exact hI
    generalize hs' : sDay (mem 8 0) (mem 9) (mem 11) (mem 8 4) (mem 12) (mem 13) (mem 14) (mem 8 8) (mem 10, bu, mem 8 9) = s'
    have hp' : sPB (mem 8 0) s'.1 := by rw [← hs']; exact sDay_bd hn0 hp
    have hd' : s'.2.2 = mem 8 9 + 1 := by rw [← hs']; show zw (mem 8 9 + 1) = _; exact zw_id (by omega) (by omega)
    have hq' : s'.1 = (sDay (mem 8 0) (mem 9) (mem 11) (mem 8 4) (mem 12) (mem 13) (mem 14) (mem 8 8) (mem 10, 0, mem 8 9)).1 := by rw [← hs']; exact sDay_p
    have ho' : ∀ j, ¬ (0 ≤ j ∧ j < 5) → s'.1 j = mem 10 j := by rw [← hs']; exact fun j hj => sDay_o hn0 hn5 j hj
    have hd2 : 0 ≤ s'.2.2 := by omega
    have hd3 : s'.2.2 ≤ 5000 - 1 := by omega
    have hI2 : zFI (zFy (zr (zs (zr mem 64 Y) 8 10 bu) 64 (zcp (mem 10) Y 0 (5 * 1) 5)) 8 s') 8 := hI3.y (by simp (disch := decide) only [zr_n, zs_s, zu_n]; exact hp')
    have hv129 : sT ((zFy (zr (zs (zr mem 64 Y) 8 10 bu) 64 (zcp (mem 10) Y 0 (5 * 1) 5)) 8 s') 8 0) ((zFy (zr (zs (zr mem 64 Y) 8 10 bu) 64 (zcp (mem 10) Y 0 (5 * 1) 5)) 8 s') 9) ((zFy (zr (zs (zr mem 64 Y) 8 10 bu) 64 (zcp (mem 10) Y 0 (5 * 1) 5)) 8 s') 11) ((zFy (zr (zs (zr mem 64 Y) 8 10 bu) 64 (zcp (mem 10) Y 0 (5 * 1) 5)) 8 s') 8 4) ((zFy (zr (zs (zr mem 64 Y) 8 10 bu) 64 (zcp (mem 10) Y 0 (5 * 1) 5)) 8 s') 12) ((zFy (zr (zs (zr mem 64 Y) 8 10 bu) 64 (zcp (mem 10) Y 0 (5 * 1) 5)) 8 s') 13) ((zFy (zr (zs (zr mem 64 Y) 8 10 bu) 64 (zcp (mem 10) Y 0 (5 * 1) 5)) 8 s') 14) ((zFy (zr (zs (zr mem 64 Y) 8 10 bu) 64 (zcp (mem 10) Y 0 (5 * 1) 5)) 8 s') 8 8) (sVal w) v 1 s'.1 s'.2.2 = T2 := by
      simp (disch := decide) only [zFy_o, zr_n, zs_n, zs_s, zu_n, zFy_b]
      rw [hd', hq']
      exact hT2
    have e89 : ∀ Y2 b2, zs (zr (zFy (zr (zs (zr mem 64 Y) 8 10 bu) 64 (zcp (mem 10) Y 0 (5 * 1) 5)) 8 s') 64 Y2) 8 10 b2 8 9 = mem 8 9 + 1 := fun Y2 b2 => by rw [zs_k (by decide), zr_n (by decide), zFy_9, hd']
    have fin : ∀ (Y2 : Int → Int) (b2 : Int), (∀ j, 5 * 1 ≤ j → Y2 j = (zFy (zr (zs (zr mem 64 Y) 8 10 bu) 64 (zcp (mem 10) Y 0 (5 * 1) 5)) 8 s') 64 j) → zcp Y2 s'.1 (5 * 1) 0 5 = mem 10 ∧ ∀ j, 5 * 2 ≤ j → Y2 j = mem 64 j := fun Y2 b2 h => by
      rw [zFy_o (by decide) (by decide), zr_s] at h
      constructor
      · funext j
        unfold zcp
        by_cases hj : 0 ≤ j ∧ j < 0 + 5
        · rw [if_pos hj, h _ (by omega)]
          unfold zcp
          rw [if_pos (by omega)]
          congr 1
          omega
        · rw [if_neg hj, ho' j (by omega)]
      · intro j hj
        rw [h j (by omega)]
        unfold zcp
        rw [if_neg (by omega)]
        exact hY j (by omega)
    refine r_iload_n dX5_stormSum_85 rfl ?_
    refine r_bipush dX5_stormSum_86 (k := ?_)
    refine r_icmp_ge (tgt := 158) dX5_stormSum_88 (by decide) (fun h88 => ?_) (fun h88 => ?_)
    · refine r_lload dX5_stormSum_158 rfl ?_
      refine r_lret dX5_stormSum_160 ?_
      first
        | (have e : v = 10 := (by omega); refine zPG.of ?_ (fun j hj => hY j (by omega)); rw [hsum, e]; omega)
        | (refine zPG.of ?_ (fin Y129 bu129 hY129).2; rw [hsum])
    · refine r_iload_n dX5_stormSum_91 rfl ?_
      refine r_iconst dX5_stormSum_92 (k := ?_)
      refine r_isub dX5_stormSum_93 ?_
      try rw [zw_id (by omega) (by omega)]
      refine r_iconst dX5_stormSum_94 (k := ?_)
      refine r_imul dX5_stormSum_95 ?_
      try rw [zw_id (by omega) (by omega)]
      rw [show ((2 : Int) - 1) * 5 = 5 * 1 from rfl]
      refine r_istore dX5_stormSum_96 rfl ?_
      refine r_aload_n dX5_stormSum_98 rfl ?_
      refine r_getR (q := 10) fX5_118 rfl rfl dX5_stormSum_99 ?_
      refine r_iconst dX5_stormSum_102 (k := ?_)
      refine r_aload_n dX5_stormSum_103 rfl ?_
      refine r_iload dX5_stormSum_104 rfl ?_
      refine r_iconst dX5_stormSum_106 (k := ?_)
      refine r_copy lX5_269 rfl rfl (by omega) (by omega) (by omega) (by omega) (by omega) dX5_stormSum_107 ?_
      simp (disch := decide) only [zs_n, zr_n, zr_s]
      refine r_aload_n dX5_stormSum_110 rfl ?_
      refine r_w0 (c_X0_passDay' hF8 hI3) kX5_181 rfl dX5_stormSum_111 ?_
      simp (disch := decide) only [zr_n, zs_n, zs_s, zu_n, zu_s]
      rw [hs']
      refine r_lload dX5_stormSum_114 rfl ?_
      refine r_bipush dX5_stormSum_116 (k := ?_)
      refine r_iload_n dX5_stormSum_118 rfl ?_
      refine r_isub dX5_stormSum_119 ?_
      try rw [zw_id (by omega) (by omega)]
      refine r_i2l dX5_stormSum_120 ?_
      refine r_aload_n dX5_stormSum_121 rfl ?_
      refine r_aload_n dX5_stormSum_122 rfl ?_
      refine r_iload_n dX5_stormSum_123 rfl ?_
      refine r_iconst dX5_stormSum_124 (k := ?_)
      refine r_isub dX5_stormSum_125 ?_
      try rw [zw_id (by omega) (by omega)]
      refine r_iload_n dX5_stormSum_126 rfl ?_
      refine r_iload dX5_stormSum_127 rfl ?_
      refine r_g5 (c_storm1 hI2 v w hv0 hv1 (by rw [zFy_9]; exact hd2) (by rw [zFy_9]; exact hd3)) kX5_209 dX5_stormSum_129 (fun Y129 bu129 hY129 => ?_)
      rw [zFy_10', zFy_9, hv129]
      refine r_lmul dX5_stormSum_132 ?_
      try rw [zw64_id (by omega) (by omega)]
      refine r_ladd dX5_stormSum_133 ?_
      try rw [zw64_id (by omega) (by omega)]
      refine r_lstore dX5_stormSum_134 rfl ?_
      refine r_aload_n dX5_stormSum_136 rfl ?_
      refine r_dup dX5_stormSum_137 rfl ?_
      refine r_gI (q := 9) rfl fX5_98 rfl (by decide) dX5_stormSum_138 ?_
      rw [e89]
      refine r_iconst dX5_stormSum_141 (k := ?_)
      refine r_isub dX5_stormSum_142 ?_
      try rw [zw_id (by omega) (by omega)]
      rw [show mem 8 9 + 1 - 1 = mem 8 9 by omega]
      refine r_pI (q := 9) rfl pX5_98 rfl dX5_stormSum_143 ?_
      refine r_aload_n dX5_stormSum_146 rfl ?_
      refine r_iload dX5_stormSum_147 rfl ?_
      refine r_aload_n dX5_stormSum_149 rfl ?_
      refine r_getR (q := 10) fX5_118 rfl rfl dX5_stormSum_150 ?_
      refine r_iconst dX5_stormSum_153 (k := ?_)
      refine r_iconst dX5_stormSum_154 (k := ?_)
      refine r_copy lX5_269 rfl rfl (by omega) (by omega) (by omega) (by omega) (by omega) dX5_stormSum_155 ?_
      simp (disch := decide) only [zs_n, zr_n, zr_s, zFy_10']
      rw [(fin Y129 bu129 hY129).1, zW2]
      refine r_lload dX5_stormSum_158 rfl ?_
      refine r_lret dX5_stormSum_160 ?_
      first
        | (have e : v = 10 := (by omega); refine zPG.of ?_ (fun j hj => hY j (by omega)); rw [hsum, e]; omega)
        | (refine zPG.of ?_ (fin Y129 bu129 hY129).2; rw [hsum])
  have hI1 : zFI (zs mem 8 9 (mem 8 9 + 1)) 8 := by
    unfold zFI
    simp (disch := decide) only [zs_n, zs_s, zu_n]
    exact hI
  have hv68 : sT ((zs mem 8 9 (mem 8 9 + 1)) 8 0) ((zs mem 8 9 (mem 8 9 + 1)) 9) ((zs mem 8 9 (mem 8 9 + 1)) 11) ((zs mem 8 9 (mem 8 9 + 1)) 8 4) ((zs mem 8 9 (mem 8 9 + 1)) 12) ((zs mem 8 9 (mem 8 9 + 1)) 13) ((zs mem 8 9 (mem 8 9 + 1)) 14) ((zs mem 8 9 (mem 8 9 + 1)) 8 8) (sVal w) v 1 ((zs mem 8 9 (mem 8 9 + 1)) 10) ((zs mem 8 9 (mem 8 9 + 1)) 8 9) = T1 := by
    simp (disch := decide) only [zs_n, zs_s, zu_n, zu_s]
    exact hT1
  have e79 : ∀ Y2 b2, zs (zr (zs mem 8 9 (mem 8 9 + 1)) 64 Y2) 8 10 b2 8 9 = mem 8 9 + 1 := fun Y2 b2 => by rw [zs_k (by decide), zr_n (by decide), zs_v]
  have e64 : ∀ j, (zs mem 8 9 (mem 8 9 + 1)) 64 j = mem 64 j := fun j => by rw [zs_n (by decide)]
  have same : zs (zr mem 64 (mem 64)) 8 10 (mem 8 10) = mem := by rw [zr_self]; exact zs_u rfl
  refine r_iload_n dX5_stormSum_0 rfl ?_
  refine r_if_le (tgt := 10) dX5_stormSum_1 (by decide) (fun h1 => ?_) (fun h1 => ?_)
  · first | exact absurd h1 (by decide) | exact absurd (by decide) h7
  · refine r_iload_n dX5_stormSum_4 rfl ?_
    refine r_bipush dX5_stormSum_5 (k := ?_)
    refine r_icmp_le (tgt := 39) dX5_stormSum_7 (by decide) (fun h7 => ?_) (fun h7 => ?_)
    · refine r_lconst dX5_stormSum_39 rfl (k := ?_)
      refine r_lstore dX5_stormSum_40 rfl ?_
      refine r_iload_n dX5_stormSum_42 rfl ?_
      refine r_if_le (tgt := 85) dX5_stormSum_43 (by decide) (fun h43 => ?_) (fun h43 => ?_)
      · first
          | (have t := two (mem 64) (mem 8 10) 0 (by rw [show v = 0 by omega, Int.zero_mul]) (fun j hj => rfl); rw [same] at t; exact t)
          | (rw [zW1]; exact two Y68 bu68 _ (by omega) (fun j hj => (hY68 j hj).trans (e64 j)))
      · refine r_aload_n dX5_stormSum_46 rfl ?_
        refine r_dup dX5_stormSum_47 rfl ?_
        refine r_gI (q := 9) rfl fX5_98 rfl (by decide) dX5_stormSum_48 ?_
        refine r_iconst dX5_stormSum_51 (k := ?_)
        refine r_iadd dX5_stormSum_52 ?_
        try rw [zw_id (by omega) (by omega)]
        refine r_pI (q := 9) rfl pX5_98 rfl dX5_stormSum_53 ?_
        refine r_lload dX5_stormSum_56 rfl ?_
        refine r_iload_n dX5_stormSum_58 rfl ?_
        refine r_i2l dX5_stormSum_59 ?_
        refine r_aload_n dX5_stormSum_60 rfl ?_
        refine r_aload_n dX5_stormSum_61 rfl ?_
        refine r_iload_n dX5_stormSum_62 rfl ?_
        refine r_iconst dX5_stormSum_63 (k := ?_)
        refine r_isub dX5_stormSum_64 ?_
        try rw [zw_id (by omega) (by omega)]
        refine r_iload_n dX5_stormSum_65 rfl ?_
        refine r_iload dX5_stormSum_66 rfl ?_
        refine r_g5 (c_storm1 (mem := zs mem 8 9 (mem 8 9 + 1)) hI1 v w hv0 hv1 (by rw [zs_v]; omega) (by rw [zs_v]; omega)) kX5_209 dX5_stormSum_68 (fun Y68 bu68 hY68 => ?_)
        rw [hv68]
        refine r_lmul dX5_stormSum_71 ?_
        try rw [zw64_id (by omega) (by omega)]
        refine r_ladd dX5_stormSum_72 ?_
        try rw [zw64_id (by omega) (by omega)]
        refine r_lstore dX5_stormSum_73 rfl ?_
        refine r_aload_n dX5_stormSum_75 rfl ?_
        refine r_dup dX5_stormSum_76 rfl ?_
        refine r_gI (q := 9) rfl fX5_98 rfl (by decide) dX5_stormSum_77 ?_
        rw [e79]
        refine r_iconst dX5_stormSum_80 (k := ?_)
        refine r_isub dX5_stormSum_81 ?_
        try rw [zw_id (by omega) (by omega)]
        rw [show mem 8 9 + 1 - 1 = mem 8 9 by omega]
        refine r_pI (q := 9) rfl pX5_98 rfl dX5_stormSum_82 ?_
        first
          | (have t := two (mem 64) (mem 8 10) 0 (by rw [show v = 0 by omega, Int.zero_mul]) (fun j hj => rfl); rw [same] at t; exact t)
          | (rw [zW1]; exact two Y68 bu68 _ (by omega) (fun j hj => (hY68 j hj).trans (e64 j)))
    · first | exact absurd h1 (by decide) | exact absurd (by decide) h7
set_option maxRecDepth 100000 in
set_option maxHeartbeats 1000000 in
theorem c_storm3 {mem : zM} (hI : zFI mem 8) (v w : Int) (hv0 : 0 ≤ v) (hv1 : v ≤ 10) (hd0 : 0 ≤ mem 8 9) (hd1 : mem 8 9 ≤ 5000 - 3) : KX5_stormSum l G (4 + 3) [zR 8, zR 64, zI 3, zI v, zI w] mem (zPG 3 (zJ (sT (mem 8 0) (mem 9) (mem 11) (mem 8 4) (mem 12) (mem 13) (mem 14) (mem 8 8) (sVal w) v 3 (mem 10) (mem 8 9))) mem) := by
  obtain ⟨hn0, hn5, hr0, hr6, hp, hg, hr⟩ := id hI
  generalize hT1 : sT (mem 8 0) (mem 9) (mem 11) (mem 8 4) (mem 12) (mem 13) (mem 14) (mem 8 8) (sVal w) v 2 (mem 10) (mem 8 9 + 1) = T1
  generalize hT2 : sT (mem 8 0) (mem 9) (mem 11) (mem 8 4) (mem 12) (mem 13) (mem 14) (mem 8 8) (sVal w) v 2 (sDay (mem 8 0) (mem 9) (mem 11) (mem 8 4) (mem 12) (mem 13) (mem 14) (mem 8 8) (mem 10, 0, mem 8 9)).1 (mem 8 9 + 1) = T2
  have hT : sT (mem 8 0) (mem 9) (mem 11) (mem 8 4) (mem 12) (mem 13) (mem 14) (mem 8 8) (sVal w) v 3 (mem 10) (mem 8 9) = v * T1 + (10 - v) * T2 := by
    refine (sT_s (k := 2)).trans ?_
    rw [zw_id (by omega) (by omega), hT1, hT2]
  have hB1 : 0 ≤ T1 ∧ T1 ≤ 9900 := by rw [← hT1]; exact sT_bd hv0 hv1 hn0 2 hp
  have hB2 : 0 ≤ T2 ∧ T2 ≤ 9900 := by rw [← hT2]; exact sT_bd hv0 hv1 hn0 2 (sDay_bd hn0 hp)
  have hM1 := zmulb hv0 hv1 hB1.1 hB1.2
  have hM2 := zmulb (v := 10 - v) (by omega) (by omega) hB2.1 hB2.2
  rw [hT]
  refine CT.of' (own := RX5) (ls0 := [zR 8, zR 64, zI 3, zI v, zI w, zU, zU, zU]) rfl (by decide +kernel) (Nat.le_of_ble_eq_true rfl) rfl ?_
  have two : ∀ (Y : Int → Int) (bu sum : Int), sum = v * T1 → (∀ j, 5 * 2 ≤ j → Y j = mem 64 j) → SW l G (zrm (4 + 3)) RX5 cX5_stormSum 8 (some .long) (zZ G (zPG 3 (zJ (v * T1 + (10 - v) * T2)) mem)) 0 0 (fun _ => True) 85 [zR 8, zR 64, zI 3, zI v, zI w, zJ sum, zU, zU] [] (zs (zr mem 64 Y) 8 10 bu) := by
    intro Y bu sum hsum hY
    have hI3 : zFI (zr (zs (zr mem 64 Y) 8 10 bu) 64 (zcp (mem 10) Y 0 (5 * 2) 5)) 8 := by
      unfold zFI
      simp (disch := decide) only [zr_n, zs_n, zs_s, zu_n]
      exact hI
    generalize hs' : sDay (mem 8 0) (mem 9) (mem 11) (mem 8 4) (mem 12) (mem 13) (mem 14) (mem 8 8) (mem 10, bu, mem 8 9) = s'
    have hp' : sPB (mem 8 0) s'.1 := by rw [← hs']; exact sDay_bd hn0 hp
    have hd' : s'.2.2 = mem 8 9 + 1 := by rw [← hs']; show zw (mem 8 9 + 1) = _; exact zw_id (by omega) (by omega)
    have hq' : s'.1 = (sDay (mem 8 0) (mem 9) (mem 11) (mem 8 4) (mem 12) (mem 13) (mem 14) (mem 8 8) (mem 10, 0, mem 8 9)).1 := by rw [← hs']; exact sDay_p
    have ho' : ∀ j, ¬ (0 ≤ j ∧ j < 5) → s'.1 j = mem 10 j := by rw [← hs']; exact fun j hj => sDay_o hn0 hn5 j hj
    have hd2 : 0 ≤ s'.2.2 := by omega
    have hd3 : s'.2.2 ≤ 5000 - 2 := by omega
    have hI2 : zFI (zFy (zr (zs (zr mem 64 Y) 8 10 bu) 64 (zcp (mem 10) Y 0 (5 * 2) 5)) 8 s') 8 := hI3.y (by simp (disch := decide) only [zr_n, zs_s, zu_n]; exact hp')
    have hv129 : sT ((zFy (zr (zs (zr mem 64 Y) 8 10 bu) 64 (zcp (mem 10) Y 0 (5 * 2) 5)) 8 s') 8 0) ((zFy (zr (zs (zr mem 64 Y) 8 10 bu) 64 (zcp (mem 10) Y 0 (5 * 2) 5)) 8 s') 9) ((zFy (zr (zs (zr mem 64 Y) 8 10 bu) 64 (zcp (mem 10) Y 0 (5 * 2) 5)) 8 s') 11) ((zFy (zr (zs (zr mem 64 Y) 8 10 bu) 64 (zcp (mem 10) Y 0 (5 * 2) 5)) 8 s') 8 4) ((zFy (zr (zs (zr mem 64 Y) 8 10 bu) 64 (zcp (mem 10) Y 0 (5 * 2) 5)) 8 s') 12) ((zFy (zr (zs (zr mem 64 Y) 8 10 bu) 64 (zcp (mem 10) Y 0 (5 * 2) 5)) 8 s') 13) ((zFy (zr (zs (zr mem 64 Y) 8 10 bu) 64 (zcp (mem 10) Y 0 (5 * 2) 5)) 8 s') 14) ((zFy (zr (zs (zr mem 64 Y) 8 10 bu) 64 (zcp (mem 10) Y 0 (5 * 2) 5)) 8 s') 8 8) (sVal w) v 2 s'.1 s'.2.2 = T2 := by
      simp (disch := decide) only [zFy_o, zr_n, zs_n, zs_s, zu_n, zFy_b]
      rw [hd', hq']
      exact hT2
    have e89 : ∀ Y2 b2, zs (zr (zFy (zr (zs (zr mem 64 Y) 8 10 bu) 64 (zcp (mem 10) Y 0 (5 * 2) 5)) 8 s') 64 Y2) 8 10 b2 8 9 = mem 8 9 + 1 := fun Y2 b2 => by rw [zs_k (by decide), zr_n (by decide), zFy_9, hd']
    have fin : ∀ (Y2 : Int → Int) (b2 : Int), (∀ j, 5 * 2 ≤ j → Y2 j = (zFy (zr (zs (zr mem 64 Y) 8 10 bu) 64 (zcp (mem 10) Y 0 (5 * 2) 5)) 8 s') 64 j) → zcp Y2 s'.1 (5 * 2) 0 5 = mem 10 ∧ ∀ j, 5 * 3 ≤ j → Y2 j = mem 64 j := fun Y2 b2 h => by
      rw [zFy_o (by decide) (by decide), zr_s] at h
      constructor
      · funext j
        unfold zcp
        by_cases hj : 0 ≤ j ∧ j < 0 + 5
        · rw [if_pos hj, h _ (by omega)]
          unfold zcp
          rw [if_pos (by omega)]
          congr 1
          omega
        · rw [if_neg hj, ho' j (by omega)]
      · intro j hj
        rw [h j (by omega)]
        unfold zcp
        rw [if_neg (by omega)]
        exact hY j (by omega)
    refine r_iload_n dX5_stormSum_85 rfl ?_
    refine r_bipush dX5_stormSum_86 (k := ?_)
    refine r_icmp_ge (tgt := 158) dX5_stormSum_88 (by decide) (fun h88 => ?_) (fun h88 => ?_)
    · refine r_lload dX5_stormSum_158 rfl ?_
      refine r_lret dX5_stormSum_160 ?_
      first
        | (have e : v = 10 := (by omega); refine zPG.of ?_ (fun j hj => hY j (by omega)); rw [hsum, e]; omega)
        | (refine zPG.of ?_ (fin Y129 bu129 hY129).2; rw [hsum])
    · refine r_iload_n dX5_stormSum_91 rfl ?_
      refine r_iconst dX5_stormSum_92 (k := ?_)
      refine r_isub dX5_stormSum_93 ?_
      try rw [zw_id (by omega) (by omega)]
      refine r_iconst dX5_stormSum_94 (k := ?_)
      refine r_imul dX5_stormSum_95 ?_
      try rw [zw_id (by omega) (by omega)]
      rw [show ((3 : Int) - 1) * 5 = 5 * 2 from rfl]
      refine r_istore dX5_stormSum_96 rfl ?_
      refine r_aload_n dX5_stormSum_98 rfl ?_
      refine r_getR (q := 10) fX5_118 rfl rfl dX5_stormSum_99 ?_
      refine r_iconst dX5_stormSum_102 (k := ?_)
      refine r_aload_n dX5_stormSum_103 rfl ?_
      refine r_iload dX5_stormSum_104 rfl ?_
      refine r_iconst dX5_stormSum_106 (k := ?_)
      refine r_copy lX5_269 rfl rfl (by omega) (by omega) (by omega) (by omega) (by omega) dX5_stormSum_107 ?_
      simp (disch := decide) only [zs_n, zr_n, zr_s]
      refine r_aload_n dX5_stormSum_110 rfl ?_
      refine r_w0 (c_X0_passDay' hF8 hI3) kX5_181 rfl dX5_stormSum_111 ?_
      simp (disch := decide) only [zr_n, zs_n, zs_s, zu_n, zu_s]
      rw [hs']
      refine r_lload dX5_stormSum_114 rfl ?_
      refine r_bipush dX5_stormSum_116 (k := ?_)
      refine r_iload_n dX5_stormSum_118 rfl ?_
      refine r_isub dX5_stormSum_119 ?_
      try rw [zw_id (by omega) (by omega)]
      refine r_i2l dX5_stormSum_120 ?_
      refine r_aload_n dX5_stormSum_121 rfl ?_
      refine r_aload_n dX5_stormSum_122 rfl ?_
      refine r_iload_n dX5_stormSum_123 rfl ?_
      refine r_iconst dX5_stormSum_124 (k := ?_)
      refine r_isub dX5_stormSum_125 ?_
      try rw [zw_id (by omega) (by omega)]
      refine r_iload_n dX5_stormSum_126 rfl ?_
      refine r_iload dX5_stormSum_127 rfl ?_
      refine r_g5 (c_storm2 hI2 v w hv0 hv1 (by rw [zFy_9]; exact hd2) (by rw [zFy_9]; exact hd3)) kX5_209 dX5_stormSum_129 (fun Y129 bu129 hY129 => ?_)
      rw [zFy_10', zFy_9, hv129]
      refine r_lmul dX5_stormSum_132 ?_
      try rw [zw64_id (by omega) (by omega)]
      refine r_ladd dX5_stormSum_133 ?_
      try rw [zw64_id (by omega) (by omega)]
      refine r_lstore dX5_stormSum_134 rfl ?_
      refine r_aload_n dX5_stormSum_136 rfl ?_
      refine r_dup dX5_stormSum_137 rfl ?_
      refine r_gI (q := 9) rfl fX5_98 rfl (by decide) dX5_stormSum_138 ?_
      rw [e89]
      refine r_iconst dX5_stormSum_141 (k := ?_)
      refine r_isub dX5_stormSum_142 ?_
      try rw [zw_id (by omega) (by omega)]
      rw [show mem 8 9 + 1 - 1 = mem 8 9 by omega]
      refine r_pI (q := 9) rfl pX5_98 rfl dX5_stormSum_143 ?_
      refine r_aload_n dX5_stormSum_146 rfl ?_
      refine r_iload dX5_stormSum_147 rfl ?_
      refine r_aload_n dX5_stormSum_149 rfl ?_
      refine r_getR (q := 10) fX5_118 rfl rfl dX5_stormSum_150 ?_
      refine r_iconst dX5_stormSum_153 (k := ?_)
      refine r_iconst dX5_stormSum_154 (k := ?_)
      refine r_copy lX5_269 rfl rfl (by omega) (by omega) (by omega) (by omega) (by omega) dX5_stormSum_155 ?_
      simp (disch := decide) only [zs_n, zr_n, zr_s, zFy_10']
      rw [(fin Y129 bu129 hY129).1, zW2]
      refine r_lload dX5_stormSum_158 rfl ?_
      refine r_lret dX5_stormSum_160 ?_
      first
        | (have e : v = 10 := (by omega); refine zPG.of ?_ (fun j hj => hY j (by omega)); rw [hsum, e]; omega)
        | (refine zPG.of ?_ (fin Y129 bu129 hY129).2; rw [hsum])
  have hI1 : zFI (zs mem 8 9 (mem 8 9 + 1)) 8 := by
    unfold zFI
    simp (disch := decide) only [zs_n, zs_s, zu_n]
    exact hI
  have hv68 : sT ((zs mem 8 9 (mem 8 9 + 1)) 8 0) ((zs mem 8 9 (mem 8 9 + 1)) 9) ((zs mem 8 9 (mem 8 9 + 1)) 11) ((zs mem 8 9 (mem 8 9 + 1)) 8 4) ((zs mem 8 9 (mem 8 9 + 1)) 12) ((zs mem 8 9 (mem 8 9 + 1)) 13) ((zs mem 8 9 (mem 8 9 + 1)) 14) ((zs mem 8 9 (mem 8 9 + 1)) 8 8) (sVal w) v 2 ((zs mem 8 9 (mem 8 9 + 1)) 10) ((zs mem 8 9 (mem 8 9 + 1)) 8 9) = T1 := by
    simp (disch := decide) only [zs_n, zs_s, zu_n, zu_s]
    exact hT1
  have e79 : ∀ Y2 b2, zs (zr (zs mem 8 9 (mem 8 9 + 1)) 64 Y2) 8 10 b2 8 9 = mem 8 9 + 1 := fun Y2 b2 => by rw [zs_k (by decide), zr_n (by decide), zs_v]
  have e64 : ∀ j, (zs mem 8 9 (mem 8 9 + 1)) 64 j = mem 64 j := fun j => by rw [zs_n (by decide)]
  have same : zs (zr mem 64 (mem 64)) 8 10 (mem 8 10) = mem := by rw [zr_self]; exact zs_u rfl
  refine r_iload_n dX5_stormSum_0 rfl ?_
  refine r_if_le (tgt := 10) dX5_stormSum_1 (by decide) (fun h1 => ?_) (fun h1 => ?_)
  · first | exact absurd h1 (by decide) | exact absurd (by decide) h7
  · refine r_iload_n dX5_stormSum_4 rfl ?_
    refine r_bipush dX5_stormSum_5 (k := ?_)
    refine r_icmp_le (tgt := 39) dX5_stormSum_7 (by decide) (fun h7 => ?_) (fun h7 => ?_)
    · refine r_lconst dX5_stormSum_39 rfl (k := ?_)
      refine r_lstore dX5_stormSum_40 rfl ?_
      refine r_iload_n dX5_stormSum_42 rfl ?_
      refine r_if_le (tgt := 85) dX5_stormSum_43 (by decide) (fun h43 => ?_) (fun h43 => ?_)
      · first
          | (have t := two (mem 64) (mem 8 10) 0 (by rw [show v = 0 by omega, Int.zero_mul]) (fun j hj => rfl); rw [same] at t; exact t)
          | (rw [zW1]; exact two Y68 bu68 _ (by omega) (fun j hj => (hY68 j hj).trans (e64 j)))
      · refine r_aload_n dX5_stormSum_46 rfl ?_
        refine r_dup dX5_stormSum_47 rfl ?_
        refine r_gI (q := 9) rfl fX5_98 rfl (by decide) dX5_stormSum_48 ?_
        refine r_iconst dX5_stormSum_51 (k := ?_)
        refine r_iadd dX5_stormSum_52 ?_
        try rw [zw_id (by omega) (by omega)]
        refine r_pI (q := 9) rfl pX5_98 rfl dX5_stormSum_53 ?_
        refine r_lload dX5_stormSum_56 rfl ?_
        refine r_iload_n dX5_stormSum_58 rfl ?_
        refine r_i2l dX5_stormSum_59 ?_
        refine r_aload_n dX5_stormSum_60 rfl ?_
        refine r_aload_n dX5_stormSum_61 rfl ?_
        refine r_iload_n dX5_stormSum_62 rfl ?_
        refine r_iconst dX5_stormSum_63 (k := ?_)
        refine r_isub dX5_stormSum_64 ?_
        try rw [zw_id (by omega) (by omega)]
        refine r_iload_n dX5_stormSum_65 rfl ?_
        refine r_iload dX5_stormSum_66 rfl ?_
        refine r_g5 (c_storm2 (mem := zs mem 8 9 (mem 8 9 + 1)) hI1 v w hv0 hv1 (by rw [zs_v]; omega) (by rw [zs_v]; omega)) kX5_209 dX5_stormSum_68 (fun Y68 bu68 hY68 => ?_)
        rw [hv68]
        refine r_lmul dX5_stormSum_71 ?_
        try rw [zw64_id (by omega) (by omega)]
        refine r_ladd dX5_stormSum_72 ?_
        try rw [zw64_id (by omega) (by omega)]
        refine r_lstore dX5_stormSum_73 rfl ?_
        refine r_aload_n dX5_stormSum_75 rfl ?_
        refine r_dup dX5_stormSum_76 rfl ?_
        refine r_gI (q := 9) rfl fX5_98 rfl (by decide) dX5_stormSum_77 ?_
        rw [e79]
        refine r_iconst dX5_stormSum_80 (k := ?_)
        refine r_isub dX5_stormSum_81 ?_
        try rw [zw_id (by omega) (by omega)]
        rw [show mem 8 9 + 1 - 1 = mem 8 9 by omega]
        refine r_pI (q := 9) rfl pX5_98 rfl dX5_stormSum_82 ?_
        first
          | (have t := two (mem 64) (mem 8 10) 0 (by rw [show v = 0 by omega, Int.zero_mul]) (fun j hj => rfl); rw [same] at t; exact t)
          | (rw [zW1]; exact two Y68 bu68 _ (by omega) (fun j hj => (hY68 j hj).trans (e64 j)))
    · first | exact absurd h1 (by decide) | exact absurd (by decide) h7
set_option maxRecDepth 100000 in
set_option maxHeartbeats 1000000 in
theorem c_storm4 {mem : zM} (hI : zFI mem 8) (v w : Int) (hv0 : 0 ≤ v) (hv1 : v ≤ 10) (hd0 : 0 ≤ mem 8 9) (hd1 : mem 8 9 ≤ 5000 - 4) : KX5_stormSum l G (4 + 4) [zR 8, zR 64, zI 4, zI v, zI w] mem (zPG 4 (zJ (sT (mem 8 0) (mem 9) (mem 11) (mem 8 4) (mem 12) (mem 13) (mem 14) (mem 8 8) (sVal w) v 4 (mem 10) (mem 8 9))) mem) := by
  obtain ⟨hn0, hn5, hr0, hr6, hp, hg, hr⟩ := id hI
  generalize hT1 : sT (mem 8 0) (mem 9) (mem 11) (mem 8 4) (mem 12) (mem 13) (mem 14) (mem 8 8) (sVal w) v 3 (mem 10) (mem 8 9 + 1) = T1
  generalize hT2 : sT (mem 8 0) (mem 9) (mem 11) (mem 8 4) (mem 12) (mem 13) (mem 14) (mem 8 8) (sVal w) v 3 (sDay (mem 8 0) (mem 9) (mem 11) (mem 8 4) (mem 12) (mem 13) (mem 14) (mem 8 8) (mem 10, 0, mem 8 9)).1 (mem 8 9 + 1) = T2
  have hT : sT (mem 8 0) (mem 9) (mem 11) (mem 8 4) (mem 12) (mem 13) (mem 14) (mem 8 8) (sVal w) v 4 (mem 10) (mem 8 9) = v * T1 + (10 - v) * T2 := by
    refine (sT_s (k := 3)).trans ?_
    rw [zw_id (by omega) (by omega), hT1, hT2]
  have hB1 : 0 ≤ T1 ∧ T1 ≤ 99000 := by rw [← hT1]; exact sT_bd hv0 hv1 hn0 3 hp
  have hB2 : 0 ≤ T2 ∧ T2 ≤ 99000 := by rw [← hT2]; exact sT_bd hv0 hv1 hn0 3 (sDay_bd hn0 hp)
  have hM1 := zmulb hv0 hv1 hB1.1 hB1.2
  have hM2 := zmulb (v := 10 - v) (by omega) (by omega) hB2.1 hB2.2
  rw [hT]
  refine CT.of' (own := RX5) (ls0 := [zR 8, zR 64, zI 4, zI v, zI w, zU, zU, zU]) rfl (by decide +kernel) (Nat.le_of_ble_eq_true rfl) rfl ?_
  have two : ∀ (Y : Int → Int) (bu sum : Int), sum = v * T1 → (∀ j, 5 * 3 ≤ j → Y j = mem 64 j) → SW l G (zrm (4 + 4)) RX5 cX5_stormSum 8 (some .long) (zZ G (zPG 4 (zJ (v * T1 + (10 - v) * T2)) mem)) 0 0 (fun _ => True) 85 [zR 8, zR 64, zI 4, zI v, zI w, zJ sum, zU, zU] [] (zs (zr mem 64 Y) 8 10 bu) := by
    intro Y bu sum hsum hY
    have hI3 : zFI (zr (zs (zr mem 64 Y) 8 10 bu) 64 (zcp (mem 10) Y 0 (5 * 3) 5)) 8 := by
      unfold zFI
      simp (disch := decide) only [zr_n, zs_n, zs_s, zu_n]
      exact hI
    generalize hs' : sDay (mem 8 0) (mem 9) (mem 11) (mem 8 4) (mem 12) (mem 13) (mem 14) (mem 8 8) (mem 10, bu, mem 8 9) = s'
    have hp' : sPB (mem 8 0) s'.1 := by rw [← hs']; exact sDay_bd hn0 hp
    have hd' : s'.2.2 = mem 8 9 + 1 := by rw [← hs']; show zw (mem 8 9 + 1) = _; exact zw_id (by omega) (by omega)
    have hq' : s'.1 = (sDay (mem 8 0) (mem 9) (mem 11) (mem 8 4) (mem 12) (mem 13) (mem 14) (mem 8 8) (mem 10, 0, mem 8 9)).1 := by rw [← hs']; exact sDay_p
    have ho' : ∀ j, ¬ (0 ≤ j ∧ j < 5) → s'.1 j = mem 10 j := by rw [← hs']; exact fun j hj => sDay_o hn0 hn5 j hj
    have hd2 : 0 ≤ s'.2.2 := by omega
    have hd3 : s'.2.2 ≤ 5000 - 3 := by omega
    have hI2 : zFI (zFy (zr (zs (zr mem 64 Y) 8 10 bu) 64 (zcp (mem 10) Y 0 (5 * 3) 5)) 8 s') 8 := hI3.y (by simp (disch := decide) only [zr_n, zs_s, zu_n]; exact hp')
    have hv129 : sT ((zFy (zr (zs (zr mem 64 Y) 8 10 bu) 64 (zcp (mem 10) Y 0 (5 * 3) 5)) 8 s') 8 0) ((zFy (zr (zs (zr mem 64 Y) 8 10 bu) 64 (zcp (mem 10) Y 0 (5 * 3) 5)) 8 s') 9) ((zFy (zr (zs (zr mem 64 Y) 8 10 bu) 64 (zcp (mem 10) Y 0 (5 * 3) 5)) 8 s') 11) ((zFy (zr (zs (zr mem 64 Y) 8 10 bu) 64 (zcp (mem 10) Y 0 (5 * 3) 5)) 8 s') 8 4) ((zFy (zr (zs (zr mem 64 Y) 8 10 bu) 64 (zcp (mem 10) Y 0 (5 * 3) 5)) 8 s') 12) ((zFy (zr (zs (zr mem 64 Y) 8 10 bu) 64 (zcp (mem 10) Y 0 (5 * 3) 5)) 8 s') 13) ((zFy (zr (zs (zr mem 64 Y) 8 10 bu) 64 (zcp (mem 10) Y 0 (5 * 3) 5)) 8 s') 14) ((zFy (zr (zs (zr mem 64 Y) 8 10 bu) 64 (zcp (mem 10) Y 0 (5 * 3) 5)) 8 s') 8 8) (sVal w) v 3 s'.1 s'.2.2 = T2 := by
      simp (disch := decide) only [zFy_o, zr_n, zs_n, zs_s, zu_n, zFy_b]
      rw [hd', hq']
      exact hT2
    have e89 : ∀ Y2 b2, zs (zr (zFy (zr (zs (zr mem 64 Y) 8 10 bu) 64 (zcp (mem 10) Y 0 (5 * 3) 5)) 8 s') 64 Y2) 8 10 b2 8 9 = mem 8 9 + 1 := fun Y2 b2 => by rw [zs_k (by decide), zr_n (by decide), zFy_9, hd']
    have fin : ∀ (Y2 : Int → Int) (b2 : Int), (∀ j, 5 * 3 ≤ j → Y2 j = (zFy (zr (zs (zr mem 64 Y) 8 10 bu) 64 (zcp (mem 10) Y 0 (5 * 3) 5)) 8 s') 64 j) → zcp Y2 s'.1 (5 * 3) 0 5 = mem 10 ∧ ∀ j, 5 * 4 ≤ j → Y2 j = mem 64 j := fun Y2 b2 h => by
      rw [zFy_o (by decide) (by decide), zr_s] at h
      constructor
      · funext j
        unfold zcp
        by_cases hj : 0 ≤ j ∧ j < 0 + 5
        · rw [if_pos hj, h _ (by omega)]
          unfold zcp
          rw [if_pos (by omega)]
          congr 1
          omega
        · rw [if_neg hj, ho' j (by omega)]
      · intro j hj
        rw [h j (by omega)]
        unfold zcp
        rw [if_neg (by omega)]
        exact hY j (by omega)
    refine r_iload_n dX5_stormSum_85 rfl ?_
    refine r_bipush dX5_stormSum_86 (k := ?_)
    refine r_icmp_ge (tgt := 158) dX5_stormSum_88 (by decide) (fun h88 => ?_) (fun h88 => ?_)
    · refine r_lload dX5_stormSum_158 rfl ?_
      refine r_lret dX5_stormSum_160 ?_
      first
        | (have e : v = 10 := (by omega); refine zPG.of ?_ (fun j hj => hY j (by omega)); rw [hsum, e]; omega)
        | (refine zPG.of ?_ (fin Y129 bu129 hY129).2; rw [hsum])
    · refine r_iload_n dX5_stormSum_91 rfl ?_
      refine r_iconst dX5_stormSum_92 (k := ?_)
      refine r_isub dX5_stormSum_93 ?_
      try rw [zw_id (by omega) (by omega)]
      refine r_iconst dX5_stormSum_94 (k := ?_)
      refine r_imul dX5_stormSum_95 ?_
      try rw [zw_id (by omega) (by omega)]
      rw [show ((4 : Int) - 1) * 5 = 5 * 3 from rfl]
      refine r_istore dX5_stormSum_96 rfl ?_
      refine r_aload_n dX5_stormSum_98 rfl ?_
      refine r_getR (q := 10) fX5_118 rfl rfl dX5_stormSum_99 ?_
      refine r_iconst dX5_stormSum_102 (k := ?_)
      refine r_aload_n dX5_stormSum_103 rfl ?_
      refine r_iload dX5_stormSum_104 rfl ?_
      refine r_iconst dX5_stormSum_106 (k := ?_)
      refine r_copy lX5_269 rfl rfl (by omega) (by omega) (by omega) (by omega) (by omega) dX5_stormSum_107 ?_
      simp (disch := decide) only [zs_n, zr_n, zr_s]
      refine r_aload_n dX5_stormSum_110 rfl ?_
      refine r_w0 (c_X0_passDay' hF8 hI3) kX5_181 rfl dX5_stormSum_111 ?_
      simp (disch := decide) only [zr_n, zs_n, zs_s, zu_n, zu_s]
      rw [hs']
      refine r_lload dX5_stormSum_114 rfl ?_
      refine r_bipush dX5_stormSum_116 (k := ?_)
      refine r_iload_n dX5_stormSum_118 rfl ?_
      refine r_isub dX5_stormSum_119 ?_
      try rw [zw_id (by omega) (by omega)]
      refine r_i2l dX5_stormSum_120 ?_
      refine r_aload_n dX5_stormSum_121 rfl ?_
      refine r_aload_n dX5_stormSum_122 rfl ?_
      refine r_iload_n dX5_stormSum_123 rfl ?_
      refine r_iconst dX5_stormSum_124 (k := ?_)
      refine r_isub dX5_stormSum_125 ?_
      try rw [zw_id (by omega) (by omega)]
      refine r_iload_n dX5_stormSum_126 rfl ?_
      refine r_iload dX5_stormSum_127 rfl ?_
      refine r_g5 (c_storm3 hI2 v w hv0 hv1 (by rw [zFy_9]; exact hd2) (by rw [zFy_9]; exact hd3)) kX5_209 dX5_stormSum_129 (fun Y129 bu129 hY129 => ?_)
      rw [zFy_10', zFy_9, hv129]
      refine r_lmul dX5_stormSum_132 ?_
      try rw [zw64_id (by omega) (by omega)]
      refine r_ladd dX5_stormSum_133 ?_
      try rw [zw64_id (by omega) (by omega)]
      refine r_lstore dX5_stormSum_134 rfl ?_
      refine r_aload_n dX5_stormSum_136 rfl ?_
      refine r_dup dX5_stormSum_137 rfl ?_
      refine r_gI (q := 9) rfl fX5_98 rfl (by decide) dX5_stormSum_138 ?_
      rw [e89]
      refine r_iconst dX5_stormSum_141 (k := ?_)
      refine r_isub dX5_stormSum_142 ?_
      try rw [zw_id (by omega) (by omega)]
      rw [show mem 8 9 + 1 - 1 = mem 8 9 by omega]
      refine r_pI (q := 9) rfl pX5_98 rfl dX5_stormSum_143 ?_
      refine r_aload_n dX5_stormSum_146 rfl ?_
      refine r_iload dX5_stormSum_147 rfl ?_
      refine r_aload_n dX5_stormSum_149 rfl ?_
      refine r_getR (q := 10) fX5_118 rfl rfl dX5_stormSum_150 ?_
      refine r_iconst dX5_stormSum_153 (k := ?_)
      refine r_iconst dX5_stormSum_154 (k := ?_)
      refine r_copy lX5_269 rfl rfl (by omega) (by omega) (by omega) (by omega) (by omega) dX5_stormSum_155 ?_
      simp (disch := decide) only [zs_n, zr_n, zr_s, zFy_10']
      rw [(fin Y129 bu129 hY129).1, zW2]
      refine r_lload dX5_stormSum_158 rfl ?_
      refine r_lret dX5_stormSum_160 ?_
      first
        | (have e : v = 10 := (by omega); refine zPG.of ?_ (fun j hj => hY j (by omega)); rw [hsum, e]; omega)
        | (refine zPG.of ?_ (fin Y129 bu129 hY129).2; rw [hsum])
  have hI1 : zFI (zs mem 8 9 (mem 8 9 + 1)) 8 := by
    unfold zFI
    simp (disch := decide) only [zs_n, zs_s, zu_n]
    exact hI
  have hv68 : sT ((zs mem 8 9 (mem 8 9 + 1)) 8 0) ((zs mem 8 9 (mem 8 9 + 1)) 9) ((zs mem 8 9 (mem 8 9 + 1)) 11) ((zs mem 8 9 (mem 8 9 + 1)) 8 4) ((zs mem 8 9 (mem 8 9 + 1)) 12) ((zs mem 8 9 (mem 8 9 + 1)) 13) ((zs mem 8 9 (mem 8 9 + 1)) 14) ((zs mem 8 9 (mem 8 9 + 1)) 8 8) (sVal w) v 3 ((zs mem 8 9 (mem 8 9 + 1)) 10) ((zs mem 8 9 (mem 8 9 + 1)) 8 9) = T1 := by
    simp (disch := decide) only [zs_n, zs_s, zu_n, zu_s]
    exact hT1
  have e79 : ∀ Y2 b2, zs (zr (zs mem 8 9 (mem 8 9 + 1)) 64 Y2) 8 10 b2 8 9 = mem 8 9 + 1 := fun Y2 b2 => by rw [zs_k (by decide), zr_n (by decide), zs_v]
  have e64 : ∀ j, (zs mem 8 9 (mem 8 9 + 1)) 64 j = mem 64 j := fun j => by rw [zs_n (by decide)]
  have same : zs (zr mem 64 (mem 64)) 8 10 (mem 8 10) = mem := by rw [zr_self]; exact zs_u rfl
  refine r_iload_n dX5_stormSum_0 rfl ?_
  refine r_if_le (tgt := 10) dX5_stormSum_1 (by decide) (fun h1 => ?_) (fun h1 => ?_)
  · first | exact absurd h1 (by decide) | exact absurd (by decide) h7
  · refine r_iload_n dX5_stormSum_4 rfl ?_
    refine r_bipush dX5_stormSum_5 (k := ?_)
    refine r_icmp_le (tgt := 39) dX5_stormSum_7 (by decide) (fun h7 => ?_) (fun h7 => ?_)
    · refine r_lconst dX5_stormSum_39 rfl (k := ?_)
      refine r_lstore dX5_stormSum_40 rfl ?_
      refine r_iload_n dX5_stormSum_42 rfl ?_
      refine r_if_le (tgt := 85) dX5_stormSum_43 (by decide) (fun h43 => ?_) (fun h43 => ?_)
      · first
          | (have t := two (mem 64) (mem 8 10) 0 (by rw [show v = 0 by omega, Int.zero_mul]) (fun j hj => rfl); rw [same] at t; exact t)
          | (rw [zW1]; exact two Y68 bu68 _ (by omega) (fun j hj => (hY68 j hj).trans (e64 j)))
      · refine r_aload_n dX5_stormSum_46 rfl ?_
        refine r_dup dX5_stormSum_47 rfl ?_
        refine r_gI (q := 9) rfl fX5_98 rfl (by decide) dX5_stormSum_48 ?_
        refine r_iconst dX5_stormSum_51 (k := ?_)
        refine r_iadd dX5_stormSum_52 ?_
        try rw [zw_id (by omega) (by omega)]
        refine r_pI (q := 9) rfl pX5_98 rfl dX5_stormSum_53 ?_
        refine r_lload dX5_stormSum_56 rfl ?_
        refine r_iload_n dX5_stormSum_58 rfl ?_
        refine r_i2l dX5_stormSum_59 ?_
        refine r_aload_n dX5_stormSum_60 rfl ?_
        refine r_aload_n dX5_stormSum_61 rfl ?_
        refine r_iload_n dX5_stormSum_62 rfl ?_
        refine r_iconst dX5_stormSum_63 (k := ?_)
        refine r_isub dX5_stormSum_64 ?_
        try rw [zw_id (by omega) (by omega)]
        refine r_iload_n dX5_stormSum_65 rfl ?_
        refine r_iload dX5_stormSum_66 rfl ?_
        refine r_g5 (c_storm3 (mem := zs mem 8 9 (mem 8 9 + 1)) hI1 v w hv0 hv1 (by rw [zs_v]; omega) (by rw [zs_v]; omega)) kX5_209 dX5_stormSum_68 (fun Y68 bu68 hY68 => ?_)
        rw [hv68]
        refine r_lmul dX5_stormSum_71 ?_
        try rw [zw64_id (by omega) (by omega)]
        refine r_ladd dX5_stormSum_72 ?_
        try rw [zw64_id (by omega) (by omega)]
        refine r_lstore dX5_stormSum_73 rfl ?_
        refine r_aload_n dX5_stormSum_75 rfl ?_
        refine r_dup dX5_stormSum_76 rfl ?_
        refine r_gI (q := 9) rfl fX5_98 rfl (by decide) dX5_stormSum_77 ?_
        rw [e79]
        refine r_iconst dX5_stormSum_80 (k := ?_)
        refine r_isub dX5_stormSum_81 ?_
        try rw [zw_id (by omega) (by omega)]
        rw [show mem 8 9 + 1 - 1 = mem 8 9 by omega]
        refine r_pI (q := 9) rfl pX5_98 rfl dX5_stormSum_82 ?_
        first
          | (have t := two (mem 64) (mem 8 10) 0 (by rw [show v = 0 by omega, Int.zero_mul]) (fun j hj => rfl); rw [same] at t; exact t)
          | (rw [zW1]; exact two Y68 bu68 _ (by omega) (fun j hj => (hY68 j hj).trans (e64 j)))
    · first | exact absurd h1 (by decide) | exact absurd (by decide) h7
set_option maxRecDepth 100000 in
set_option maxHeartbeats 1000000 in
theorem c_storm5 {mem : zM} (hI : zFI mem 8) (v w : Int) (hv0 : 0 ≤ v) (hv1 : v ≤ 10) (hd0 : 0 ≤ mem 8 9) (hd1 : mem 8 9 ≤ 5000 - 5) : KX5_stormSum l G (4 + 5) [zR 8, zR 64, zI 5, zI v, zI w] mem (zPG 5 (zJ (sT (mem 8 0) (mem 9) (mem 11) (mem 8 4) (mem 12) (mem 13) (mem 14) (mem 8 8) (sVal w) v 5 (mem 10) (mem 8 9))) mem) := by
  obtain ⟨hn0, hn5, hr0, hr6, hp, hg, hr⟩ := id hI
  generalize hT1 : sT (mem 8 0) (mem 9) (mem 11) (mem 8 4) (mem 12) (mem 13) (mem 14) (mem 8 8) (sVal w) v 4 (mem 10) (mem 8 9 + 1) = T1
  generalize hT2 : sT (mem 8 0) (mem 9) (mem 11) (mem 8 4) (mem 12) (mem 13) (mem 14) (mem 8 8) (sVal w) v 4 (sDay (mem 8 0) (mem 9) (mem 11) (mem 8 4) (mem 12) (mem 13) (mem 14) (mem 8 8) (mem 10, 0, mem 8 9)).1 (mem 8 9 + 1) = T2
  have hT : sT (mem 8 0) (mem 9) (mem 11) (mem 8 4) (mem 12) (mem 13) (mem 14) (mem 8 8) (sVal w) v 5 (mem 10) (mem 8 9) = v * T1 + (10 - v) * T2 := by
    refine (sT_s (k := 4)).trans ?_
    rw [zw_id (by omega) (by omega), hT1, hT2]
  have hB1 : 0 ≤ T1 ∧ T1 ≤ 990000 := by rw [← hT1]; exact sT_bd hv0 hv1 hn0 4 hp
  have hB2 : 0 ≤ T2 ∧ T2 ≤ 990000 := by rw [← hT2]; exact sT_bd hv0 hv1 hn0 4 (sDay_bd hn0 hp)
  have hM1 := zmulb hv0 hv1 hB1.1 hB1.2
  have hM2 := zmulb (v := 10 - v) (by omega) (by omega) hB2.1 hB2.2
  rw [hT]
  refine CT.of' (own := RX5) (ls0 := [zR 8, zR 64, zI 5, zI v, zI w, zU, zU, zU]) rfl (by decide +kernel) (Nat.le_of_ble_eq_true rfl) rfl ?_
  have two : ∀ (Y : Int → Int) (bu sum : Int), sum = v * T1 → (∀ j, 5 * 4 ≤ j → Y j = mem 64 j) → SW l G (zrm (4 + 5)) RX5 cX5_stormSum 8 (some .long) (zZ G (zPG 5 (zJ (v * T1 + (10 - v) * T2)) mem)) 0 0 (fun _ => True) 85 [zR 8, zR 64, zI 5, zI v, zI w, zJ sum, zU, zU] [] (zs (zr mem 64 Y) 8 10 bu) := by
    intro Y bu sum hsum hY
    have hI3 : zFI (zr (zs (zr mem 64 Y) 8 10 bu) 64 (zcp (mem 10) Y 0 (5 * 4) 5)) 8 := by
      unfold zFI
      simp (disch := decide) only [zr_n, zs_n, zs_s, zu_n]
      exact hI
    generalize hs' : sDay (mem 8 0) (mem 9) (mem 11) (mem 8 4) (mem 12) (mem 13) (mem 14) (mem 8 8) (mem 10, bu, mem 8 9) = s'
    have hp' : sPB (mem 8 0) s'.1 := by rw [← hs']; exact sDay_bd hn0 hp
    have hd' : s'.2.2 = mem 8 9 + 1 := by rw [← hs']; show zw (mem 8 9 + 1) = _; exact zw_id (by omega) (by omega)
    have hq' : s'.1 = (sDay (mem 8 0) (mem 9) (mem 11) (mem 8 4) (mem 12) (mem 13) (mem 14) (mem 8 8) (mem 10, 0, mem 8 9)).1 := by rw [← hs']; exact sDay_p
    have ho' : ∀ j, ¬ (0 ≤ j ∧ j < 5) → s'.1 j = mem 10 j := by rw [← hs']; exact fun j hj => sDay_o hn0 hn5 j hj
    have hd2 : 0 ≤ s'.2.2 := by omega
    have hd3 : s'.2.2 ≤ 5000 - 4 := by omega
    have hI2 : zFI (zFy (zr (zs (zr mem 64 Y) 8 10 bu) 64 (zcp (mem 10) Y 0 (5 * 4) 5)) 8 s') 8 := hI3.y (by simp (disch := decide) only [zr_n, zs_s, zu_n]; exact hp')
    have hv129 : sT ((zFy (zr (zs (zr mem 64 Y) 8 10 bu) 64 (zcp (mem 10) Y 0 (5 * 4) 5)) 8 s') 8 0) ((zFy (zr (zs (zr mem 64 Y) 8 10 bu) 64 (zcp (mem 10) Y 0 (5 * 4) 5)) 8 s') 9) ((zFy (zr (zs (zr mem 64 Y) 8 10 bu) 64 (zcp (mem 10) Y 0 (5 * 4) 5)) 8 s') 11) ((zFy (zr (zs (zr mem 64 Y) 8 10 bu) 64 (zcp (mem 10) Y 0 (5 * 4) 5)) 8 s') 8 4) ((zFy (zr (zs (zr mem 64 Y) 8 10 bu) 64 (zcp (mem 10) Y 0 (5 * 4) 5)) 8 s') 12) ((zFy (zr (zs (zr mem 64 Y) 8 10 bu) 64 (zcp (mem 10) Y 0 (5 * 4) 5)) 8 s') 13) ((zFy (zr (zs (zr mem 64 Y) 8 10 bu) 64 (zcp (mem 10) Y 0 (5 * 4) 5)) 8 s') 14) ((zFy (zr (zs (zr mem 64 Y) 8 10 bu) 64 (zcp (mem 10) Y 0 (5 * 4) 5)) 8 s') 8 8) (sVal w) v 4 s'.1 s'.2.2 = T2 := by
      simp (disch := decide) only [zFy_o, zr_n, zs_n, zs_s, zu_n, zFy_b]
      rw [hd', hq']
      exact hT2
    have e89 : ∀ Y2 b2, zs (zr (zFy (zr (zs (zr mem 64 Y) 8 10 bu) 64 (zcp (mem 10) Y 0 (5 * 4) 5)) 8 s') 64 Y2) 8 10 b2 8 9 = mem 8 9 + 1 := fun Y2 b2 => by rw [zs_k (by decide), zr_n (by decide), zFy_9, hd']
    have fin : ∀ (Y2 : Int → Int) (b2 : Int), (∀ j, 5 * 4 ≤ j → Y2 j = (zFy (zr (zs (zr mem 64 Y) 8 10 bu) 64 (zcp (mem 10) Y 0 (5 * 4) 5)) 8 s') 64 j) → zcp Y2 s'.1 (5 * 4) 0 5 = mem 10 ∧ ∀ j, 5 * 5 ≤ j → Y2 j = mem 64 j := fun Y2 b2 h => by
      rw [zFy_o (by decide) (by decide), zr_s] at h
      constructor
      · funext j
        unfold zcp
        by_cases hj : 0 ≤ j ∧ j < 0 + 5
        · rw [if_pos hj, h _ (by omega)]
          unfold zcp
          rw [if_pos (by omega)]
          congr 1
          omega
        · rw [if_neg hj, ho' j (by omega)]
      · intro j hj
        rw [h j (by omega)]
        unfold zcp
        rw [if_neg (by omega)]
        exact hY j (by omega)
    refine r_iload_n dX5_stormSum_85 rfl ?_
    refine r_bipush dX5_stormSum_86 (k := ?_)
    refine r_icmp_ge (tgt := 158) dX5_stormSum_88 (by decide) (fun h88 => ?_) (fun h88 => ?_)
    · refine r_lload dX5_stormSum_158 rfl ?_
      refine r_lret dX5_stormSum_160 ?_
      first
        | (have e : v = 10 := (by omega); refine zPG.of ?_ (fun j hj => hY j (by omega)); rw [hsum, e]; omega)
        | (refine zPG.of ?_ (fin Y129 bu129 hY129).2; rw [hsum])
    · refine r_iload_n dX5_stormSum_91 rfl ?_
      refine r_iconst dX5_stormSum_92 (k := ?_)
      refine r_isub dX5_stormSum_93 ?_
      try rw [zw_id (by omega) (by omega)]
      refine r_iconst dX5_stormSum_94 (k := ?_)
      refine r_imul dX5_stormSum_95 ?_
      try rw [zw_id (by omega) (by omega)]
      rw [show ((5 : Int) - 1) * 5 = 5 * 4 from rfl]
      refine r_istore dX5_stormSum_96 rfl ?_
      refine r_aload_n dX5_stormSum_98 rfl ?_
      refine r_getR (q := 10) fX5_118 rfl rfl dX5_stormSum_99 ?_
      refine r_iconst dX5_stormSum_102 (k := ?_)
      refine r_aload_n dX5_stormSum_103 rfl ?_
      refine r_iload dX5_stormSum_104 rfl ?_
      refine r_iconst dX5_stormSum_106 (k := ?_)
      refine r_copy lX5_269 rfl rfl (by omega) (by omega) (by omega) (by omega) (by omega) dX5_stormSum_107 ?_
      simp (disch := decide) only [zs_n, zr_n, zr_s]
      refine r_aload_n dX5_stormSum_110 rfl ?_
      refine r_w0 (c_X0_passDay' hF8 hI3) kX5_181 rfl dX5_stormSum_111 ?_
      simp (disch := decide) only [zr_n, zs_n, zs_s, zu_n, zu_s]
      rw [hs']
      refine r_lload dX5_stormSum_114 rfl ?_
      refine r_bipush dX5_stormSum_116 (k := ?_)
      refine r_iload_n dX5_stormSum_118 rfl ?_
      refine r_isub dX5_stormSum_119 ?_
      try rw [zw_id (by omega) (by omega)]
      refine r_i2l dX5_stormSum_120 ?_
      refine r_aload_n dX5_stormSum_121 rfl ?_
      refine r_aload_n dX5_stormSum_122 rfl ?_
      refine r_iload_n dX5_stormSum_123 rfl ?_
      refine r_iconst dX5_stormSum_124 (k := ?_)
      refine r_isub dX5_stormSum_125 ?_
      try rw [zw_id (by omega) (by omega)]
      refine r_iload_n dX5_stormSum_126 rfl ?_
      refine r_iload dX5_stormSum_127 rfl ?_
      refine r_g5 (c_storm4 hI2 v w hv0 hv1 (by rw [zFy_9]; exact hd2) (by rw [zFy_9]; exact hd3)) kX5_209 dX5_stormSum_129 (fun Y129 bu129 hY129 => ?_)
      rw [zFy_10', zFy_9, hv129]
      refine r_lmul dX5_stormSum_132 ?_
      try rw [zw64_id (by omega) (by omega)]
      refine r_ladd dX5_stormSum_133 ?_
      try rw [zw64_id (by omega) (by omega)]
      refine r_lstore dX5_stormSum_134 rfl ?_
      refine r_aload_n dX5_stormSum_136 rfl ?_
      refine r_dup dX5_stormSum_137 rfl ?_
      refine r_gI (q := 9) rfl fX5_98 rfl (by decide) dX5_stormSum_138 ?_
      rw [e89]
      refine r_iconst dX5_stormSum_141 (k := ?_)
      refine r_isub dX5_stormSum_142 ?_
      try rw [zw_id (by omega) (by omega)]
      rw [show mem 8 9 + 1 - 1 = mem 8 9 by omega]
      refine r_pI (q := 9) rfl pX5_98 rfl dX5_stormSum_143 ?_
      refine r_aload_n dX5_stormSum_146 rfl ?_
      refine r_iload dX5_stormSum_147 rfl ?_
      refine r_aload_n dX5_stormSum_149 rfl ?_
      refine r_getR (q := 10) fX5_118 rfl rfl dX5_stormSum_150 ?_
      refine r_iconst dX5_stormSum_153 (k := ?_)
      refine r_iconst dX5_stormSum_154 (k := ?_)
      refine r_copy lX5_269 rfl rfl (by omega) (by omega) (by omega) (by omega) (by omega) dX5_stormSum_155 ?_
      simp (disch := decide) only [zs_n, zr_n, zr_s, zFy_10']
      rw [(fin Y129 bu129 hY129).1, zW2]
      refine r_lload dX5_stormSum_158 rfl ?_
      refine r_lret dX5_stormSum_160 ?_
      first
        | (have e : v = 10 := (by omega); refine zPG.of ?_ (fun j hj => hY j (by omega)); rw [hsum, e]; omega)
        | (refine zPG.of ?_ (fin Y129 bu129 hY129).2; rw [hsum])
  have hI1 : zFI (zs mem 8 9 (mem 8 9 + 1)) 8 := by
    unfold zFI
    simp (disch := decide) only [zs_n, zs_s, zu_n]
    exact hI
  have hv68 : sT ((zs mem 8 9 (mem 8 9 + 1)) 8 0) ((zs mem 8 9 (mem 8 9 + 1)) 9) ((zs mem 8 9 (mem 8 9 + 1)) 11) ((zs mem 8 9 (mem 8 9 + 1)) 8 4) ((zs mem 8 9 (mem 8 9 + 1)) 12) ((zs mem 8 9 (mem 8 9 + 1)) 13) ((zs mem 8 9 (mem 8 9 + 1)) 14) ((zs mem 8 9 (mem 8 9 + 1)) 8 8) (sVal w) v 4 ((zs mem 8 9 (mem 8 9 + 1)) 10) ((zs mem 8 9 (mem 8 9 + 1)) 8 9) = T1 := by
    simp (disch := decide) only [zs_n, zs_s, zu_n, zu_s]
    exact hT1
  have e79 : ∀ Y2 b2, zs (zr (zs mem 8 9 (mem 8 9 + 1)) 64 Y2) 8 10 b2 8 9 = mem 8 9 + 1 := fun Y2 b2 => by rw [zs_k (by decide), zr_n (by decide), zs_v]
  have e64 : ∀ j, (zs mem 8 9 (mem 8 9 + 1)) 64 j = mem 64 j := fun j => by rw [zs_n (by decide)]
  have same : zs (zr mem 64 (mem 64)) 8 10 (mem 8 10) = mem := by rw [zr_self]; exact zs_u rfl
  refine r_iload_n dX5_stormSum_0 rfl ?_
  refine r_if_le (tgt := 10) dX5_stormSum_1 (by decide) (fun h1 => ?_) (fun h1 => ?_)
  · first | exact absurd h1 (by decide) | exact absurd (by decide) h7
  · refine r_iload_n dX5_stormSum_4 rfl ?_
    refine r_bipush dX5_stormSum_5 (k := ?_)
    refine r_icmp_le (tgt := 39) dX5_stormSum_7 (by decide) (fun h7 => ?_) (fun h7 => ?_)
    · refine r_lconst dX5_stormSum_39 rfl (k := ?_)
      refine r_lstore dX5_stormSum_40 rfl ?_
      refine r_iload_n dX5_stormSum_42 rfl ?_
      refine r_if_le (tgt := 85) dX5_stormSum_43 (by decide) (fun h43 => ?_) (fun h43 => ?_)
      · first
          | (have t := two (mem 64) (mem 8 10) 0 (by rw [show v = 0 by omega, Int.zero_mul]) (fun j hj => rfl); rw [same] at t; exact t)
          | (rw [zW1]; exact two Y68 bu68 _ (by omega) (fun j hj => (hY68 j hj).trans (e64 j)))
      · refine r_aload_n dX5_stormSum_46 rfl ?_
        refine r_dup dX5_stormSum_47 rfl ?_
        refine r_gI (q := 9) rfl fX5_98 rfl (by decide) dX5_stormSum_48 ?_
        refine r_iconst dX5_stormSum_51 (k := ?_)
        refine r_iadd dX5_stormSum_52 ?_
        try rw [zw_id (by omega) (by omega)]
        refine r_pI (q := 9) rfl pX5_98 rfl dX5_stormSum_53 ?_
        refine r_lload dX5_stormSum_56 rfl ?_
        refine r_iload_n dX5_stormSum_58 rfl ?_
        refine r_i2l dX5_stormSum_59 ?_
        refine r_aload_n dX5_stormSum_60 rfl ?_
        refine r_aload_n dX5_stormSum_61 rfl ?_
        refine r_iload_n dX5_stormSum_62 rfl ?_
        refine r_iconst dX5_stormSum_63 (k := ?_)
        refine r_isub dX5_stormSum_64 ?_
        try rw [zw_id (by omega) (by omega)]
        refine r_iload_n dX5_stormSum_65 rfl ?_
        refine r_iload dX5_stormSum_66 rfl ?_
        refine r_g5 (c_storm4 (mem := zs mem 8 9 (mem 8 9 + 1)) hI1 v w hv0 hv1 (by rw [zs_v]; omega) (by rw [zs_v]; omega)) kX5_209 dX5_stormSum_68 (fun Y68 bu68 hY68 => ?_)
        rw [hv68]
        refine r_lmul dX5_stormSum_71 ?_
        try rw [zw64_id (by omega) (by omega)]
        refine r_ladd dX5_stormSum_72 ?_
        try rw [zw64_id (by omega) (by omega)]
        refine r_lstore dX5_stormSum_73 rfl ?_
        refine r_aload_n dX5_stormSum_75 rfl ?_
        refine r_dup dX5_stormSum_76 rfl ?_
        refine r_gI (q := 9) rfl fX5_98 rfl (by decide) dX5_stormSum_77 ?_
        rw [e79]
        refine r_iconst dX5_stormSum_80 (k := ?_)
        refine r_isub dX5_stormSum_81 ?_
        try rw [zw_id (by omega) (by omega)]
        rw [show mem 8 9 + 1 - 1 = mem 8 9 by omega]
        refine r_pI (q := 9) rfl pX5_98 rfl dX5_stormSum_82 ?_
        first
          | (have t := two (mem 64) (mem 8 10) 0 (by rw [show v = 0 by omega, Int.zero_mul]) (fun j hj => rfl); rw [same] at t; exact t)
          | (rw [zW1]; exact two Y68 bu68 _ (by omega) (fun j hj => (hY68 j hj).trans (e64 j)))
    · first | exact absurd h1 (by decide) | exact absurd (by decide) h7
set_option maxRecDepth 100000 in
set_option maxHeartbeats 1000000 in
theorem c_storm6 {mem : zM} (hI : zFI mem 8) (v w : Int) (hv0 : 0 ≤ v) (hv1 : v ≤ 10) (hd0 : 0 ≤ mem 8 9) (hd1 : mem 8 9 ≤ 5000 - 6) : KX5_stormSum l G (4 + 6) [zR 8, zR 64, zI 6, zI v, zI w] mem (zPG 6 (zJ (sT (mem 8 0) (mem 9) (mem 11) (mem 8 4) (mem 12) (mem 13) (mem 14) (mem 8 8) (sVal w) v 6 (mem 10) (mem 8 9))) mem) := by
  obtain ⟨hn0, hn5, hr0, hr6, hp, hg, hr⟩ := id hI
  generalize hT1 : sT (mem 8 0) (mem 9) (mem 11) (mem 8 4) (mem 12) (mem 13) (mem 14) (mem 8 8) (sVal w) v 5 (mem 10) (mem 8 9 + 1) = T1
  generalize hT2 : sT (mem 8 0) (mem 9) (mem 11) (mem 8 4) (mem 12) (mem 13) (mem 14) (mem 8 8) (sVal w) v 5 (sDay (mem 8 0) (mem 9) (mem 11) (mem 8 4) (mem 12) (mem 13) (mem 14) (mem 8 8) (mem 10, 0, mem 8 9)).1 (mem 8 9 + 1) = T2
  have hT : sT (mem 8 0) (mem 9) (mem 11) (mem 8 4) (mem 12) (mem 13) (mem 14) (mem 8 8) (sVal w) v 6 (mem 10) (mem 8 9) = v * T1 + (10 - v) * T2 := by
    refine (sT_s (k := 5)).trans ?_
    rw [zw_id (by omega) (by omega), hT1, hT2]
  have hB1 : 0 ≤ T1 ∧ T1 ≤ 9900000 := by rw [← hT1]; exact sT_bd hv0 hv1 hn0 5 hp
  have hB2 : 0 ≤ T2 ∧ T2 ≤ 9900000 := by rw [← hT2]; exact sT_bd hv0 hv1 hn0 5 (sDay_bd hn0 hp)
  have hM1 := zmulb hv0 hv1 hB1.1 hB1.2
  have hM2 := zmulb (v := 10 - v) (by omega) (by omega) hB2.1 hB2.2
  rw [hT]
  refine CT.of' (own := RX5) (ls0 := [zR 8, zR 64, zI 6, zI v, zI w, zU, zU, zU]) rfl (by decide +kernel) (Nat.le_of_ble_eq_true rfl) rfl ?_
  have two : ∀ (Y : Int → Int) (bu sum : Int), sum = v * T1 → (∀ j, 5 * 5 ≤ j → Y j = mem 64 j) → SW l G (zrm (4 + 6)) RX5 cX5_stormSum 8 (some .long) (zZ G (zPG 6 (zJ (v * T1 + (10 - v) * T2)) mem)) 0 0 (fun _ => True) 85 [zR 8, zR 64, zI 6, zI v, zI w, zJ sum, zU, zU] [] (zs (zr mem 64 Y) 8 10 bu) := by
    intro Y bu sum hsum hY
    have hI3 : zFI (zr (zs (zr mem 64 Y) 8 10 bu) 64 (zcp (mem 10) Y 0 (5 * 5) 5)) 8 := by
      unfold zFI
      simp (disch := decide) only [zr_n, zs_n, zs_s, zu_n]
      exact hI
    generalize hs' : sDay (mem 8 0) (mem 9) (mem 11) (mem 8 4) (mem 12) (mem 13) (mem 14) (mem 8 8) (mem 10, bu, mem 8 9) = s'
    have hp' : sPB (mem 8 0) s'.1 := by rw [← hs']; exact sDay_bd hn0 hp
    have hd' : s'.2.2 = mem 8 9 + 1 := by rw [← hs']; show zw (mem 8 9 + 1) = _; exact zw_id (by omega) (by omega)
    have hq' : s'.1 = (sDay (mem 8 0) (mem 9) (mem 11) (mem 8 4) (mem 12) (mem 13) (mem 14) (mem 8 8) (mem 10, 0, mem 8 9)).1 := by rw [← hs']; exact sDay_p
    have ho' : ∀ j, ¬ (0 ≤ j ∧ j < 5) → s'.1 j = mem 10 j := by rw [← hs']; exact fun j hj => sDay_o hn0 hn5 j hj
    have hd2 : 0 ≤ s'.2.2 := by omega
    have hd3 : s'.2.2 ≤ 5000 - 5 := by omega
    have hI2 : zFI (zFy (zr (zs (zr mem 64 Y) 8 10 bu) 64 (zcp (mem 10) Y 0 (5 * 5) 5)) 8 s') 8 := hI3.y (by simp (disch := decide) only [zr_n, zs_s, zu_n]; exact hp')
    have hv129 : sT ((zFy (zr (zs (zr mem 64 Y) 8 10 bu) 64 (zcp (mem 10) Y 0 (5 * 5) 5)) 8 s') 8 0) ((zFy (zr (zs (zr mem 64 Y) 8 10 bu) 64 (zcp (mem 10) Y 0 (5 * 5) 5)) 8 s') 9) ((zFy (zr (zs (zr mem 64 Y) 8 10 bu) 64 (zcp (mem 10) Y 0 (5 * 5) 5)) 8 s') 11) ((zFy (zr (zs (zr mem 64 Y) 8 10 bu) 64 (zcp (mem 10) Y 0 (5 * 5) 5)) 8 s') 8 4) ((zFy (zr (zs (zr mem 64 Y) 8 10 bu) 64 (zcp (mem 10) Y 0 (5 * 5) 5)) 8 s') 12) ((zFy (zr (zs (zr mem 64 Y) 8 10 bu) 64 (zcp (mem 10) Y 0 (5 * 5) 5)) 8 s') 13) ((zFy (zr (zs (zr mem 64 Y) 8 10 bu) 64 (zcp (mem 10) Y 0 (5 * 5) 5)) 8 s') 14) ((zFy (zr (zs (zr mem 64 Y) 8 10 bu) 64 (zcp (mem 10) Y 0 (5 * 5) 5)) 8 s') 8 8) (sVal w) v 5 s'.1 s'.2.2 = T2 := by
      simp (disch := decide) only [zFy_o, zr_n, zs_n, zs_s, zu_n, zFy_b]
      rw [hd', hq']
      exact hT2
    have e89 : ∀ Y2 b2, zs (zr (zFy (zr (zs (zr mem 64 Y) 8 10 bu) 64 (zcp (mem 10) Y 0 (5 * 5) 5)) 8 s') 64 Y2) 8 10 b2 8 9 = mem 8 9 + 1 := fun Y2 b2 => by rw [zs_k (by decide), zr_n (by decide), zFy_9, hd']
    have fin : ∀ (Y2 : Int → Int) (b2 : Int), (∀ j, 5 * 5 ≤ j → Y2 j = (zFy (zr (zs (zr mem 64 Y) 8 10 bu) 64 (zcp (mem 10) Y 0 (5 * 5) 5)) 8 s') 64 j) → zcp Y2 s'.1 (5 * 5) 0 5 = mem 10 ∧ ∀ j, 5 * 6 ≤ j → Y2 j = mem 64 j := fun Y2 b2 h => by
      rw [zFy_o (by decide) (by decide), zr_s] at h
      constructor
      · funext j
        unfold zcp
        by_cases hj : 0 ≤ j ∧ j < 0 + 5
        · rw [if_pos hj, h _ (by omega)]
          unfold zcp
          rw [if_pos (by omega)]
          congr 1
          omega
        · rw [if_neg hj, ho' j (by omega)]
      · intro j hj
        rw [h j (by omega)]
        unfold zcp
        rw [if_neg (by omega)]
        exact hY j (by omega)
    refine r_iload_n dX5_stormSum_85 rfl ?_
    refine r_bipush dX5_stormSum_86 (k := ?_)
    refine r_icmp_ge (tgt := 158) dX5_stormSum_88 (by decide) (fun h88 => ?_) (fun h88 => ?_)
    · refine r_lload dX5_stormSum_158 rfl ?_
      refine r_lret dX5_stormSum_160 ?_
      first
        | (have e : v = 10 := (by omega); refine zPG.of ?_ (fun j hj => hY j (by omega)); rw [hsum, e]; omega)
        | (refine zPG.of ?_ (fin Y129 bu129 hY129).2; rw [hsum])
    · refine r_iload_n dX5_stormSum_91 rfl ?_
      refine r_iconst dX5_stormSum_92 (k := ?_)
      refine r_isub dX5_stormSum_93 ?_
      try rw [zw_id (by omega) (by omega)]
      refine r_iconst dX5_stormSum_94 (k := ?_)
      refine r_imul dX5_stormSum_95 ?_
      try rw [zw_id (by omega) (by omega)]
      rw [show ((6 : Int) - 1) * 5 = 5 * 5 from rfl]
      refine r_istore dX5_stormSum_96 rfl ?_
      refine r_aload_n dX5_stormSum_98 rfl ?_
      refine r_getR (q := 10) fX5_118 rfl rfl dX5_stormSum_99 ?_
      refine r_iconst dX5_stormSum_102 (k := ?_)
      refine r_aload_n dX5_stormSum_103 rfl ?_
      refine r_iload dX5_stormSum_104 rfl ?_
      refine r_iconst dX5_stormSum_106 (k := ?_)
      refine r_copy lX5_269 rfl rfl (by omega) (by omega) (by omega) (by omega) (by omega) dX5_stormSum_107 ?_
      simp (disch := decide) only [zs_n, zr_n, zr_s]
      refine r_aload_n dX5_stormSum_110 rfl ?_
      refine r_w0 (c_X0_passDay' hF8 hI3) kX5_181 rfl dX5_stormSum_111 ?_
      simp (disch := decide) only [zr_n, zs_n, zs_s, zu_n, zu_s]
      rw [hs']
      refine r_lload dX5_stormSum_114 rfl ?_
      refine r_bipush dX5_stormSum_116 (k := ?_)
      refine r_iload_n dX5_stormSum_118 rfl ?_
      refine r_isub dX5_stormSum_119 ?_
      try rw [zw_id (by omega) (by omega)]
      refine r_i2l dX5_stormSum_120 ?_
      refine r_aload_n dX5_stormSum_121 rfl ?_
      refine r_aload_n dX5_stormSum_122 rfl ?_
      refine r_iload_n dX5_stormSum_123 rfl ?_
      refine r_iconst dX5_stormSum_124 (k := ?_)
      refine r_isub dX5_stormSum_125 ?_
      try rw [zw_id (by omega) (by omega)]
      refine r_iload_n dX5_stormSum_126 rfl ?_
      refine r_iload dX5_stormSum_127 rfl ?_
      refine r_g5 (c_storm5 hI2 v w hv0 hv1 (by rw [zFy_9]; exact hd2) (by rw [zFy_9]; exact hd3)) kX5_209 dX5_stormSum_129 (fun Y129 bu129 hY129 => ?_)
      rw [zFy_10', zFy_9, hv129]
      refine r_lmul dX5_stormSum_132 ?_
      try rw [zw64_id (by omega) (by omega)]
      refine r_ladd dX5_stormSum_133 ?_
      try rw [zw64_id (by omega) (by omega)]
      refine r_lstore dX5_stormSum_134 rfl ?_
      refine r_aload_n dX5_stormSum_136 rfl ?_
      refine r_dup dX5_stormSum_137 rfl ?_
      refine r_gI (q := 9) rfl fX5_98 rfl (by decide) dX5_stormSum_138 ?_
      rw [e89]
      refine r_iconst dX5_stormSum_141 (k := ?_)
      refine r_isub dX5_stormSum_142 ?_
      try rw [zw_id (by omega) (by omega)]
      rw [show mem 8 9 + 1 - 1 = mem 8 9 by omega]
      refine r_pI (q := 9) rfl pX5_98 rfl dX5_stormSum_143 ?_
      refine r_aload_n dX5_stormSum_146 rfl ?_
      refine r_iload dX5_stormSum_147 rfl ?_
      refine r_aload_n dX5_stormSum_149 rfl ?_
      refine r_getR (q := 10) fX5_118 rfl rfl dX5_stormSum_150 ?_
      refine r_iconst dX5_stormSum_153 (k := ?_)
      refine r_iconst dX5_stormSum_154 (k := ?_)
      refine r_copy lX5_269 rfl rfl (by omega) (by omega) (by omega) (by omega) (by omega) dX5_stormSum_155 ?_
      simp (disch := decide) only [zs_n, zr_n, zr_s, zFy_10']
      rw [(fin Y129 bu129 hY129).1, zW2]
      refine r_lload dX5_stormSum_158 rfl ?_
      refine r_lret dX5_stormSum_160 ?_
      first
        | (have e : v = 10 := (by omega); refine zPG.of ?_ (fun j hj => hY j (by omega)); rw [hsum, e]; omega)
        | (refine zPG.of ?_ (fin Y129 bu129 hY129).2; rw [hsum])
  have hI1 : zFI (zs mem 8 9 (mem 8 9 + 1)) 8 := by
    unfold zFI
    simp (disch := decide) only [zs_n, zs_s, zu_n]
    exact hI
  have hv68 : sT ((zs mem 8 9 (mem 8 9 + 1)) 8 0) ((zs mem 8 9 (mem 8 9 + 1)) 9) ((zs mem 8 9 (mem 8 9 + 1)) 11) ((zs mem 8 9 (mem 8 9 + 1)) 8 4) ((zs mem 8 9 (mem 8 9 + 1)) 12) ((zs mem 8 9 (mem 8 9 + 1)) 13) ((zs mem 8 9 (mem 8 9 + 1)) 14) ((zs mem 8 9 (mem 8 9 + 1)) 8 8) (sVal w) v 5 ((zs mem 8 9 (mem 8 9 + 1)) 10) ((zs mem 8 9 (mem 8 9 + 1)) 8 9) = T1 := by
    simp (disch := decide) only [zs_n, zs_s, zu_n, zu_s]
    exact hT1
  have e79 : ∀ Y2 b2, zs (zr (zs mem 8 9 (mem 8 9 + 1)) 64 Y2) 8 10 b2 8 9 = mem 8 9 + 1 := fun Y2 b2 => by rw [zs_k (by decide), zr_n (by decide), zs_v]
  have e64 : ∀ j, (zs mem 8 9 (mem 8 9 + 1)) 64 j = mem 64 j := fun j => by rw [zs_n (by decide)]
  have same : zs (zr mem 64 (mem 64)) 8 10 (mem 8 10) = mem := by rw [zr_self]; exact zs_u rfl
  refine r_iload_n dX5_stormSum_0 rfl ?_
  refine r_if_le (tgt := 10) dX5_stormSum_1 (by decide) (fun h1 => ?_) (fun h1 => ?_)
  · first | exact absurd h1 (by decide) | exact absurd (by decide) h7
  · refine r_iload_n dX5_stormSum_4 rfl ?_
    refine r_bipush dX5_stormSum_5 (k := ?_)
    refine r_icmp_le (tgt := 39) dX5_stormSum_7 (by decide) (fun h7 => ?_) (fun h7 => ?_)
    · refine r_lconst dX5_stormSum_39 rfl (k := ?_)
      refine r_lstore dX5_stormSum_40 rfl ?_
      refine r_iload_n dX5_stormSum_42 rfl ?_
      refine r_if_le (tgt := 85) dX5_stormSum_43 (by decide) (fun h43 => ?_) (fun h43 => ?_)
      · first
          | (have t := two (mem 64) (mem 8 10) 0 (by rw [show v = 0 by omega, Int.zero_mul]) (fun j hj => rfl); rw [same] at t; exact t)
          | (rw [zW1]; exact two Y68 bu68 _ (by omega) (fun j hj => (hY68 j hj).trans (e64 j)))
      · refine r_aload_n dX5_stormSum_46 rfl ?_
        refine r_dup dX5_stormSum_47 rfl ?_
        refine r_gI (q := 9) rfl fX5_98 rfl (by decide) dX5_stormSum_48 ?_
        refine r_iconst dX5_stormSum_51 (k := ?_)
        refine r_iadd dX5_stormSum_52 ?_
        try rw [zw_id (by omega) (by omega)]
        refine r_pI (q := 9) rfl pX5_98 rfl dX5_stormSum_53 ?_
        refine r_lload dX5_stormSum_56 rfl ?_
        refine r_iload_n dX5_stormSum_58 rfl ?_
        refine r_i2l dX5_stormSum_59 ?_
        refine r_aload_n dX5_stormSum_60 rfl ?_
        refine r_aload_n dX5_stormSum_61 rfl ?_
        refine r_iload_n dX5_stormSum_62 rfl ?_
        refine r_iconst dX5_stormSum_63 (k := ?_)
        refine r_isub dX5_stormSum_64 ?_
        try rw [zw_id (by omega) (by omega)]
        refine r_iload_n dX5_stormSum_65 rfl ?_
        refine r_iload dX5_stormSum_66 rfl ?_
        refine r_g5 (c_storm5 (mem := zs mem 8 9 (mem 8 9 + 1)) hI1 v w hv0 hv1 (by rw [zs_v]; omega) (by rw [zs_v]; omega)) kX5_209 dX5_stormSum_68 (fun Y68 bu68 hY68 => ?_)
        rw [hv68]
        refine r_lmul dX5_stormSum_71 ?_
        try rw [zw64_id (by omega) (by omega)]
        refine r_ladd dX5_stormSum_72 ?_
        try rw [zw64_id (by omega) (by omega)]
        refine r_lstore dX5_stormSum_73 rfl ?_
        refine r_aload_n dX5_stormSum_75 rfl ?_
        refine r_dup dX5_stormSum_76 rfl ?_
        refine r_gI (q := 9) rfl fX5_98 rfl (by decide) dX5_stormSum_77 ?_
        rw [e79]
        refine r_iconst dX5_stormSum_80 (k := ?_)
        refine r_isub dX5_stormSum_81 ?_
        try rw [zw_id (by omega) (by omega)]
        rw [show mem 8 9 + 1 - 1 = mem 8 9 by omega]
        refine r_pI (q := 9) rfl pX5_98 rfl dX5_stormSum_82 ?_
        first
          | (have t := two (mem 64) (mem 8 10) 0 (by rw [show v = 0 by omega, Int.zero_mul]) (fun j hj => rfl); rw [same] at t; exact t)
          | (rw [zW1]; exact two Y68 bu68 _ (by omega) (fun j hj => (hY68 j hj).trans (e64 j)))
    · first | exact absurd h1 (by decide) | exact absurd (by decide) h7
set_option maxRecDepth 100000 in
set_option maxHeartbeats 1000000 in
theorem c_storm7 {mem : zM} (hI : zFI mem 8) (v w : Int) (hv0 : 0 ≤ v) (hv1 : v ≤ 10) (hd0 : 0 ≤ mem 8 9) (hd1 : mem 8 9 ≤ 5000 - 7) : KX5_stormSum l G (4 + 7) [zR 8, zR 64, zI 7, zI v, zI w] mem (zPG 7 (zJ (sT (mem 8 0) (mem 9) (mem 11) (mem 8 4) (mem 12) (mem 13) (mem 14) (mem 8 8) (sVal w) v 7 (mem 10) (mem 8 9))) mem) := by
  obtain ⟨hn0, hn5, hr0, hr6, hp, hg, hr⟩ := id hI
  generalize hT1 : sT (mem 8 0) (mem 9) (mem 11) (mem 8 4) (mem 12) (mem 13) (mem 14) (mem 8 8) (sVal w) v 6 (mem 10) (mem 8 9 + 1) = T1
  generalize hT2 : sT (mem 8 0) (mem 9) (mem 11) (mem 8 4) (mem 12) (mem 13) (mem 14) (mem 8 8) (sVal w) v 6 (sDay (mem 8 0) (mem 9) (mem 11) (mem 8 4) (mem 12) (mem 13) (mem 14) (mem 8 8) (mem 10, 0, mem 8 9)).1 (mem 8 9 + 1) = T2
  have hT : sT (mem 8 0) (mem 9) (mem 11) (mem 8 4) (mem 12) (mem 13) (mem 14) (mem 8 8) (sVal w) v 7 (mem 10) (mem 8 9) = v * T1 + (10 - v) * T2 := by
    refine (sT_s (k := 6)).trans ?_
    rw [zw_id (by omega) (by omega), hT1, hT2]
  have hB1 : 0 ≤ T1 ∧ T1 ≤ 99000000 := by rw [← hT1]; exact sT_bd hv0 hv1 hn0 6 hp
  have hB2 : 0 ≤ T2 ∧ T2 ≤ 99000000 := by rw [← hT2]; exact sT_bd hv0 hv1 hn0 6 (sDay_bd hn0 hp)
  have hM1 := zmulb hv0 hv1 hB1.1 hB1.2
  have hM2 := zmulb (v := 10 - v) (by omega) (by omega) hB2.1 hB2.2
  rw [hT]
  refine CT.of' (own := RX5) (ls0 := [zR 8, zR 64, zI 7, zI v, zI w, zU, zU, zU]) rfl (by decide +kernel) (Nat.le_of_ble_eq_true rfl) rfl ?_
  have two : ∀ (Y : Int → Int) (bu sum : Int), sum = v * T1 → (∀ j, 5 * 6 ≤ j → Y j = mem 64 j) → SW l G (zrm (4 + 7)) RX5 cX5_stormSum 8 (some .long) (zZ G (zPG 7 (zJ (v * T1 + (10 - v) * T2)) mem)) 0 0 (fun _ => True) 85 [zR 8, zR 64, zI 7, zI v, zI w, zJ sum, zU, zU] [] (zs (zr mem 64 Y) 8 10 bu) := by
    intro Y bu sum hsum hY
    have hI3 : zFI (zr (zs (zr mem 64 Y) 8 10 bu) 64 (zcp (mem 10) Y 0 (5 * 6) 5)) 8 := by
      unfold zFI
      simp (disch := decide) only [zr_n, zs_n, zs_s, zu_n]
      exact hI
    generalize hs' : sDay (mem 8 0) (mem 9) (mem 11) (mem 8 4) (mem 12) (mem 13) (mem 14) (mem 8 8) (mem 10, bu, mem 8 9) = s'
    have hp' : sPB (mem 8 0) s'.1 := by rw [← hs']; exact sDay_bd hn0 hp
    have hd' : s'.2.2 = mem 8 9 + 1 := by rw [← hs']; show zw (mem 8 9 + 1) = _; exact zw_id (by omega) (by omega)
    have hq' : s'.1 = (sDay (mem 8 0) (mem 9) (mem 11) (mem 8 4) (mem 12) (mem 13) (mem 14) (mem 8 8) (mem 10, 0, mem 8 9)).1 := by rw [← hs']; exact sDay_p
    have ho' : ∀ j, ¬ (0 ≤ j ∧ j < 5) → s'.1 j = mem 10 j := by rw [← hs']; exact fun j hj => sDay_o hn0 hn5 j hj
    have hd2 : 0 ≤ s'.2.2 := by omega
    have hd3 : s'.2.2 ≤ 5000 - 6 := by omega
    have hI2 : zFI (zFy (zr (zs (zr mem 64 Y) 8 10 bu) 64 (zcp (mem 10) Y 0 (5 * 6) 5)) 8 s') 8 := hI3.y (by simp (disch := decide) only [zr_n, zs_s, zu_n]; exact hp')
    have hv129 : sT ((zFy (zr (zs (zr mem 64 Y) 8 10 bu) 64 (zcp (mem 10) Y 0 (5 * 6) 5)) 8 s') 8 0) ((zFy (zr (zs (zr mem 64 Y) 8 10 bu) 64 (zcp (mem 10) Y 0 (5 * 6) 5)) 8 s') 9) ((zFy (zr (zs (zr mem 64 Y) 8 10 bu) 64 (zcp (mem 10) Y 0 (5 * 6) 5)) 8 s') 11) ((zFy (zr (zs (zr mem 64 Y) 8 10 bu) 64 (zcp (mem 10) Y 0 (5 * 6) 5)) 8 s') 8 4) ((zFy (zr (zs (zr mem 64 Y) 8 10 bu) 64 (zcp (mem 10) Y 0 (5 * 6) 5)) 8 s') 12) ((zFy (zr (zs (zr mem 64 Y) 8 10 bu) 64 (zcp (mem 10) Y 0 (5 * 6) 5)) 8 s') 13) ((zFy (zr (zs (zr mem 64 Y) 8 10 bu) 64 (zcp (mem 10) Y 0 (5 * 6) 5)) 8 s') 14) ((zFy (zr (zs (zr mem 64 Y) 8 10 bu) 64 (zcp (mem 10) Y 0 (5 * 6) 5)) 8 s') 8 8) (sVal w) v 6 s'.1 s'.2.2 = T2 := by
      simp (disch := decide) only [zFy_o, zr_n, zs_n, zs_s, zu_n, zFy_b]
      rw [hd', hq']
      exact hT2
    have e89 : ∀ Y2 b2, zs (zr (zFy (zr (zs (zr mem 64 Y) 8 10 bu) 64 (zcp (mem 10) Y 0 (5 * 6) 5)) 8 s') 64 Y2) 8 10 b2 8 9 = mem 8 9 + 1 := fun Y2 b2 => by rw [zs_k (by decide), zr_n (by decide), zFy_9, hd']
    have fin : ∀ (Y2 : Int → Int) (b2 : Int), (∀ j, 5 * 6 ≤ j → Y2 j = (zFy (zr (zs (zr mem 64 Y) 8 10 bu) 64 (zcp (mem 10) Y 0 (5 * 6) 5)) 8 s') 64 j) → zcp Y2 s'.1 (5 * 6) 0 5 = mem 10 ∧ ∀ j, 5 * 7 ≤ j → Y2 j = mem 64 j := fun Y2 b2 h => by
      rw [zFy_o (by decide) (by decide), zr_s] at h
      constructor
      · funext j
        unfold zcp
        by_cases hj : 0 ≤ j ∧ j < 0 + 5
        · rw [if_pos hj, h _ (by omega)]
          unfold zcp
          rw [if_pos (by omega)]
          congr 1
          omega
        · rw [if_neg hj, ho' j (by omega)]
      · intro j hj
        rw [h j (by omega)]
        unfold zcp
        rw [if_neg (by omega)]
        exact hY j (by omega)
    refine r_iload_n dX5_stormSum_85 rfl ?_
    refine r_bipush dX5_stormSum_86 (k := ?_)
    refine r_icmp_ge (tgt := 158) dX5_stormSum_88 (by decide) (fun h88 => ?_) (fun h88 => ?_)
    · refine r_lload dX5_stormSum_158 rfl ?_
      refine r_lret dX5_stormSum_160 ?_
      first
        | (have e : v = 10 := (by omega); refine zPG.of ?_ (fun j hj => hY j (by omega)); rw [hsum, e]; omega)
        | (refine zPG.of ?_ (fin Y129 bu129 hY129).2; rw [hsum])
    · refine r_iload_n dX5_stormSum_91 rfl ?_
      refine r_iconst dX5_stormSum_92 (k := ?_)
      refine r_isub dX5_stormSum_93 ?_
      try rw [zw_id (by omega) (by omega)]
      refine r_iconst dX5_stormSum_94 (k := ?_)
      refine r_imul dX5_stormSum_95 ?_
      try rw [zw_id (by omega) (by omega)]
      rw [show ((7 : Int) - 1) * 5 = 5 * 6 from rfl]
      refine r_istore dX5_stormSum_96 rfl ?_
      refine r_aload_n dX5_stormSum_98 rfl ?_
      refine r_getR (q := 10) fX5_118 rfl rfl dX5_stormSum_99 ?_
      refine r_iconst dX5_stormSum_102 (k := ?_)
      refine r_aload_n dX5_stormSum_103 rfl ?_
      refine r_iload dX5_stormSum_104 rfl ?_
      refine r_iconst dX5_stormSum_106 (k := ?_)
      refine r_copy lX5_269 rfl rfl (by omega) (by omega) (by omega) (by omega) (by omega) dX5_stormSum_107 ?_
      simp (disch := decide) only [zs_n, zr_n, zr_s]
      refine r_aload_n dX5_stormSum_110 rfl ?_
      refine r_w0 (c_X0_passDay' hF8 hI3) kX5_181 rfl dX5_stormSum_111 ?_
      simp (disch := decide) only [zr_n, zs_n, zs_s, zu_n, zu_s]
      rw [hs']
      refine r_lload dX5_stormSum_114 rfl ?_
      refine r_bipush dX5_stormSum_116 (k := ?_)
      refine r_iload_n dX5_stormSum_118 rfl ?_
      refine r_isub dX5_stormSum_119 ?_
      try rw [zw_id (by omega) (by omega)]
      refine r_i2l dX5_stormSum_120 ?_
      refine r_aload_n dX5_stormSum_121 rfl ?_
      refine r_aload_n dX5_stormSum_122 rfl ?_
      refine r_iload_n dX5_stormSum_123 rfl ?_
      refine r_iconst dX5_stormSum_124 (k := ?_)
      refine r_isub dX5_stormSum_125 ?_
      try rw [zw_id (by omega) (by omega)]
      refine r_iload_n dX5_stormSum_126 rfl ?_
      refine r_iload dX5_stormSum_127 rfl ?_
      refine r_g5 (c_storm6 hI2 v w hv0 hv1 (by rw [zFy_9]; exact hd2) (by rw [zFy_9]; exact hd3)) kX5_209 dX5_stormSum_129 (fun Y129 bu129 hY129 => ?_)
      rw [zFy_10', zFy_9, hv129]
      refine r_lmul dX5_stormSum_132 ?_
      try rw [zw64_id (by omega) (by omega)]
      refine r_ladd dX5_stormSum_133 ?_
      try rw [zw64_id (by omega) (by omega)]
      refine r_lstore dX5_stormSum_134 rfl ?_
      refine r_aload_n dX5_stormSum_136 rfl ?_
      refine r_dup dX5_stormSum_137 rfl ?_
      refine r_gI (q := 9) rfl fX5_98 rfl (by decide) dX5_stormSum_138 ?_
      rw [e89]
      refine r_iconst dX5_stormSum_141 (k := ?_)
      refine r_isub dX5_stormSum_142 ?_
      try rw [zw_id (by omega) (by omega)]
      rw [show mem 8 9 + 1 - 1 = mem 8 9 by omega]
      refine r_pI (q := 9) rfl pX5_98 rfl dX5_stormSum_143 ?_
      refine r_aload_n dX5_stormSum_146 rfl ?_
      refine r_iload dX5_stormSum_147 rfl ?_
      refine r_aload_n dX5_stormSum_149 rfl ?_
      refine r_getR (q := 10) fX5_118 rfl rfl dX5_stormSum_150 ?_
      refine r_iconst dX5_stormSum_153 (k := ?_)
      refine r_iconst dX5_stormSum_154 (k := ?_)
      refine r_copy lX5_269 rfl rfl (by omega) (by omega) (by omega) (by omega) (by omega) dX5_stormSum_155 ?_
      simp (disch := decide) only [zs_n, zr_n, zr_s, zFy_10']
      rw [(fin Y129 bu129 hY129).1, zW2]
      refine r_lload dX5_stormSum_158 rfl ?_
      refine r_lret dX5_stormSum_160 ?_
      first
        | (have e : v = 10 := (by omega); refine zPG.of ?_ (fun j hj => hY j (by omega)); rw [hsum, e]; omega)
        | (refine zPG.of ?_ (fin Y129 bu129 hY129).2; rw [hsum])
  have hI1 : zFI (zs mem 8 9 (mem 8 9 + 1)) 8 := by
    unfold zFI
    simp (disch := decide) only [zs_n, zs_s, zu_n]
    exact hI
  have hv68 : sT ((zs mem 8 9 (mem 8 9 + 1)) 8 0) ((zs mem 8 9 (mem 8 9 + 1)) 9) ((zs mem 8 9 (mem 8 9 + 1)) 11) ((zs mem 8 9 (mem 8 9 + 1)) 8 4) ((zs mem 8 9 (mem 8 9 + 1)) 12) ((zs mem 8 9 (mem 8 9 + 1)) 13) ((zs mem 8 9 (mem 8 9 + 1)) 14) ((zs mem 8 9 (mem 8 9 + 1)) 8 8) (sVal w) v 6 ((zs mem 8 9 (mem 8 9 + 1)) 10) ((zs mem 8 9 (mem 8 9 + 1)) 8 9) = T1 := by
    simp (disch := decide) only [zs_n, zs_s, zu_n, zu_s]
    exact hT1
  have e79 : ∀ Y2 b2, zs (zr (zs mem 8 9 (mem 8 9 + 1)) 64 Y2) 8 10 b2 8 9 = mem 8 9 + 1 := fun Y2 b2 => by rw [zs_k (by decide), zr_n (by decide), zs_v]
  have e64 : ∀ j, (zs mem 8 9 (mem 8 9 + 1)) 64 j = mem 64 j := fun j => by rw [zs_n (by decide)]
  have same : zs (zr mem 64 (mem 64)) 8 10 (mem 8 10) = mem := by rw [zr_self]; exact zs_u rfl
  refine r_iload_n dX5_stormSum_0 rfl ?_
  refine r_if_le (tgt := 10) dX5_stormSum_1 (by decide) (fun h1 => ?_) (fun h1 => ?_)
  · first | exact absurd h1 (by decide) | exact absurd (by decide) h7
  · refine r_iload_n dX5_stormSum_4 rfl ?_
    refine r_bipush dX5_stormSum_5 (k := ?_)
    refine r_icmp_le (tgt := 39) dX5_stormSum_7 (by decide) (fun h7 => ?_) (fun h7 => ?_)
    · refine r_lconst dX5_stormSum_39 rfl (k := ?_)
      refine r_lstore dX5_stormSum_40 rfl ?_
      refine r_iload_n dX5_stormSum_42 rfl ?_
      refine r_if_le (tgt := 85) dX5_stormSum_43 (by decide) (fun h43 => ?_) (fun h43 => ?_)
      · first
          | (have t := two (mem 64) (mem 8 10) 0 (by rw [show v = 0 by omega, Int.zero_mul]) (fun j hj => rfl); rw [same] at t; exact t)
          | (rw [zW1]; exact two Y68 bu68 _ (by omega) (fun j hj => (hY68 j hj).trans (e64 j)))
      · refine r_aload_n dX5_stormSum_46 rfl ?_
        refine r_dup dX5_stormSum_47 rfl ?_
        refine r_gI (q := 9) rfl fX5_98 rfl (by decide) dX5_stormSum_48 ?_
        refine r_iconst dX5_stormSum_51 (k := ?_)
        refine r_iadd dX5_stormSum_52 ?_
        try rw [zw_id (by omega) (by omega)]
        refine r_pI (q := 9) rfl pX5_98 rfl dX5_stormSum_53 ?_
        refine r_lload dX5_stormSum_56 rfl ?_
        refine r_iload_n dX5_stormSum_58 rfl ?_
        refine r_i2l dX5_stormSum_59 ?_
        refine r_aload_n dX5_stormSum_60 rfl ?_
        refine r_aload_n dX5_stormSum_61 rfl ?_
        refine r_iload_n dX5_stormSum_62 rfl ?_
        refine r_iconst dX5_stormSum_63 (k := ?_)
        refine r_isub dX5_stormSum_64 ?_
        try rw [zw_id (by omega) (by omega)]
        refine r_iload_n dX5_stormSum_65 rfl ?_
        refine r_iload dX5_stormSum_66 rfl ?_
        refine r_g5 (c_storm6 (mem := zs mem 8 9 (mem 8 9 + 1)) hI1 v w hv0 hv1 (by rw [zs_v]; omega) (by rw [zs_v]; omega)) kX5_209 dX5_stormSum_68 (fun Y68 bu68 hY68 => ?_)
        rw [hv68]
        refine r_lmul dX5_stormSum_71 ?_
        try rw [zw64_id (by omega) (by omega)]
        refine r_ladd dX5_stormSum_72 ?_
        try rw [zw64_id (by omega) (by omega)]
        refine r_lstore dX5_stormSum_73 rfl ?_
        refine r_aload_n dX5_stormSum_75 rfl ?_
        refine r_dup dX5_stormSum_76 rfl ?_
        refine r_gI (q := 9) rfl fX5_98 rfl (by decide) dX5_stormSum_77 ?_
        rw [e79]
        refine r_iconst dX5_stormSum_80 (k := ?_)
        refine r_isub dX5_stormSum_81 ?_
        try rw [zw_id (by omega) (by omega)]
        rw [show mem 8 9 + 1 - 1 = mem 8 9 by omega]
        refine r_pI (q := 9) rfl pX5_98 rfl dX5_stormSum_82 ?_
        first
          | (have t := two (mem 64) (mem 8 10) 0 (by rw [show v = 0 by omega, Int.zero_mul]) (fun j hj => rfl); rw [same] at t; exact t)
          | (rw [zW1]; exact two Y68 bu68 _ (by omega) (fun j hj => (hY68 j hj).trans (e64 j)))
    · first | exact absurd h1 (by decide) | exact absurd (by decide) h7
set_option maxRecDepth 100000 in
set_option maxHeartbeats 1000000 in
theorem c_storm8 {mem : zM} (hI : zFI mem 8) (v w : Int) (hv0 : 0 ≤ v) (hv1 : v ≤ 10) (hd0 : 0 ≤ mem 8 9) (hd1 : mem 8 9 ≤ 5000 - 8) : KX5_stormSum l G (4 + 8) [zR 8, zR 64, zI 8, zI v, zI w] mem (zPG 8 (zJ (sT (mem 8 0) (mem 9) (mem 11) (mem 8 4) (mem 12) (mem 13) (mem 14) (mem 8 8) (sVal w) v 8 (mem 10) (mem 8 9))) mem) := by
  obtain ⟨hn0, hn5, hr0, hr6, hp, hg, hr⟩ := id hI
  generalize hT1 : sT (mem 8 0) (mem 9) (mem 11) (mem 8 4) (mem 12) (mem 13) (mem 14) (mem 8 8) (sVal w) v 7 (mem 10) (mem 8 9 + 1) = T1
  generalize hT2 : sT (mem 8 0) (mem 9) (mem 11) (mem 8 4) (mem 12) (mem 13) (mem 14) (mem 8 8) (sVal w) v 7 (sDay (mem 8 0) (mem 9) (mem 11) (mem 8 4) (mem 12) (mem 13) (mem 14) (mem 8 8) (mem 10, 0, mem 8 9)).1 (mem 8 9 + 1) = T2
  have hT : sT (mem 8 0) (mem 9) (mem 11) (mem 8 4) (mem 12) (mem 13) (mem 14) (mem 8 8) (sVal w) v 8 (mem 10) (mem 8 9) = v * T1 + (10 - v) * T2 := by
    refine (sT_s (k := 7)).trans ?_
    rw [zw_id (by omega) (by omega), hT1, hT2]
  have hB1 : 0 ≤ T1 ∧ T1 ≤ 990000000 := by rw [← hT1]; exact sT_bd hv0 hv1 hn0 7 hp
  have hB2 : 0 ≤ T2 ∧ T2 ≤ 990000000 := by rw [← hT2]; exact sT_bd hv0 hv1 hn0 7 (sDay_bd hn0 hp)
  have hM1 := zmulb hv0 hv1 hB1.1 hB1.2
  have hM2 := zmulb (v := 10 - v) (by omega) (by omega) hB2.1 hB2.2
  rw [hT]
  refine CT.of' (own := RX5) (ls0 := [zR 8, zR 64, zI 8, zI v, zI w, zU, zU, zU]) rfl (by decide +kernel) (Nat.le_of_ble_eq_true rfl) rfl ?_
  have two : ∀ (Y : Int → Int) (bu sum : Int), sum = v * T1 → (∀ j, 5 * 7 ≤ j → Y j = mem 64 j) → SW l G (zrm (4 + 8)) RX5 cX5_stormSum 8 (some .long) (zZ G (zPG 8 (zJ (v * T1 + (10 - v) * T2)) mem)) 0 0 (fun _ => True) 85 [zR 8, zR 64, zI 8, zI v, zI w, zJ sum, zU, zU] [] (zs (zr mem 64 Y) 8 10 bu) := by
    intro Y bu sum hsum hY
    have hI3 : zFI (zr (zs (zr mem 64 Y) 8 10 bu) 64 (zcp (mem 10) Y 0 (5 * 7) 5)) 8 := by
      unfold zFI
      simp (disch := decide) only [zr_n, zs_n, zs_s, zu_n]
      exact hI
    generalize hs' : sDay (mem 8 0) (mem 9) (mem 11) (mem 8 4) (mem 12) (mem 13) (mem 14) (mem 8 8) (mem 10, bu, mem 8 9) = s'
    have hp' : sPB (mem 8 0) s'.1 := by rw [← hs']; exact sDay_bd hn0 hp
    have hd' : s'.2.2 = mem 8 9 + 1 := by rw [← hs']; show zw (mem 8 9 + 1) = _; exact zw_id (by omega) (by omega)
    have hq' : s'.1 = (sDay (mem 8 0) (mem 9) (mem 11) (mem 8 4) (mem 12) (mem 13) (mem 14) (mem 8 8) (mem 10, 0, mem 8 9)).1 := by rw [← hs']; exact sDay_p
    have ho' : ∀ j, ¬ (0 ≤ j ∧ j < 5) → s'.1 j = mem 10 j := by rw [← hs']; exact fun j hj => sDay_o hn0 hn5 j hj
    have hd2 : 0 ≤ s'.2.2 := by omega
    have hd3 : s'.2.2 ≤ 5000 - 7 := by omega
    have hI2 : zFI (zFy (zr (zs (zr mem 64 Y) 8 10 bu) 64 (zcp (mem 10) Y 0 (5 * 7) 5)) 8 s') 8 := hI3.y (by simp (disch := decide) only [zr_n, zs_s, zu_n]; exact hp')
    have hv129 : sT ((zFy (zr (zs (zr mem 64 Y) 8 10 bu) 64 (zcp (mem 10) Y 0 (5 * 7) 5)) 8 s') 8 0) ((zFy (zr (zs (zr mem 64 Y) 8 10 bu) 64 (zcp (mem 10) Y 0 (5 * 7) 5)) 8 s') 9) ((zFy (zr (zs (zr mem 64 Y) 8 10 bu) 64 (zcp (mem 10) Y 0 (5 * 7) 5)) 8 s') 11) ((zFy (zr (zs (zr mem 64 Y) 8 10 bu) 64 (zcp (mem 10) Y 0 (5 * 7) 5)) 8 s') 8 4) ((zFy (zr (zs (zr mem 64 Y) 8 10 bu) 64 (zcp (mem 10) Y 0 (5 * 7) 5)) 8 s') 12) ((zFy (zr (zs (zr mem 64 Y) 8 10 bu) 64 (zcp (mem 10) Y 0 (5 * 7) 5)) 8 s') 13) ((zFy (zr (zs (zr mem 64 Y) 8 10 bu) 64 (zcp (mem 10) Y 0 (5 * 7) 5)) 8 s') 14) ((zFy (zr (zs (zr mem 64 Y) 8 10 bu) 64 (zcp (mem 10) Y 0 (5 * 7) 5)) 8 s') 8 8) (sVal w) v 7 s'.1 s'.2.2 = T2 := by
      simp (disch := decide) only [zFy_o, zr_n, zs_n, zs_s, zu_n, zFy_b]
      rw [hd', hq']
      exact hT2
    have e89 : ∀ Y2 b2, zs (zr (zFy (zr (zs (zr mem 64 Y) 8 10 bu) 64 (zcp (mem 10) Y 0 (5 * 7) 5)) 8 s') 64 Y2) 8 10 b2 8 9 = mem 8 9 + 1 := fun Y2 b2 => by rw [zs_k (by decide), zr_n (by decide), zFy_9, hd']
    have fin : ∀ (Y2 : Int → Int) (b2 : Int), (∀ j, 5 * 7 ≤ j → Y2 j = (zFy (zr (zs (zr mem 64 Y) 8 10 bu) 64 (zcp (mem 10) Y 0 (5 * 7) 5)) 8 s') 64 j) → zcp Y2 s'.1 (5 * 7) 0 5 = mem 10 ∧ ∀ j, 5 * 8 ≤ j → Y2 j = mem 64 j := fun Y2 b2 h => by
      rw [zFy_o (by decide) (by decide), zr_s] at h
      constructor
      · funext j
        unfold zcp
        by_cases hj : 0 ≤ j ∧ j < 0 + 5
        · rw [if_pos hj, h _ (by omega)]
          unfold zcp
          rw [if_pos (by omega)]
          congr 1
          omega
        · rw [if_neg hj, ho' j (by omega)]
      · intro j hj
        rw [h j (by omega)]
        unfold zcp
        rw [if_neg (by omega)]
        exact hY j (by omega)
    refine r_iload_n dX5_stormSum_85 rfl ?_
    refine r_bipush dX5_stormSum_86 (k := ?_)
    refine r_icmp_ge (tgt := 158) dX5_stormSum_88 (by decide) (fun h88 => ?_) (fun h88 => ?_)
    · refine r_lload dX5_stormSum_158 rfl ?_
      refine r_lret dX5_stormSum_160 ?_
      first
        | (have e : v = 10 := (by omega); refine zPG.of ?_ (fun j hj => hY j (by omega)); rw [hsum, e]; omega)
        | (refine zPG.of ?_ (fin Y129 bu129 hY129).2; rw [hsum])
    · refine r_iload_n dX5_stormSum_91 rfl ?_
      refine r_iconst dX5_stormSum_92 (k := ?_)
      refine r_isub dX5_stormSum_93 ?_
      try rw [zw_id (by omega) (by omega)]
      refine r_iconst dX5_stormSum_94 (k := ?_)
      refine r_imul dX5_stormSum_95 ?_
      try rw [zw_id (by omega) (by omega)]
      rw [show ((8 : Int) - 1) * 5 = 5 * 7 from rfl]
      refine r_istore dX5_stormSum_96 rfl ?_
      refine r_aload_n dX5_stormSum_98 rfl ?_
      refine r_getR (q := 10) fX5_118 rfl rfl dX5_stormSum_99 ?_
      refine r_iconst dX5_stormSum_102 (k := ?_)
      refine r_aload_n dX5_stormSum_103 rfl ?_
      refine r_iload dX5_stormSum_104 rfl ?_
      refine r_iconst dX5_stormSum_106 (k := ?_)
      refine r_copy lX5_269 rfl rfl (by omega) (by omega) (by omega) (by omega) (by omega) dX5_stormSum_107 ?_
      simp (disch := decide) only [zs_n, zr_n, zr_s]
      refine r_aload_n dX5_stormSum_110 rfl ?_
      refine r_w0 (c_X0_passDay' hF8 hI3) kX5_181 rfl dX5_stormSum_111 ?_
      simp (disch := decide) only [zr_n, zs_n, zs_s, zu_n, zu_s]
      rw [hs']
      refine r_lload dX5_stormSum_114 rfl ?_
      refine r_bipush dX5_stormSum_116 (k := ?_)
      refine r_iload_n dX5_stormSum_118 rfl ?_
      refine r_isub dX5_stormSum_119 ?_
      try rw [zw_id (by omega) (by omega)]
      refine r_i2l dX5_stormSum_120 ?_
      refine r_aload_n dX5_stormSum_121 rfl ?_
      refine r_aload_n dX5_stormSum_122 rfl ?_
      refine r_iload_n dX5_stormSum_123 rfl ?_
      refine r_iconst dX5_stormSum_124 (k := ?_)
      refine r_isub dX5_stormSum_125 ?_
      try rw [zw_id (by omega) (by omega)]
      refine r_iload_n dX5_stormSum_126 rfl ?_
      refine r_iload dX5_stormSum_127 rfl ?_
      refine r_g5 (c_storm7 hI2 v w hv0 hv1 (by rw [zFy_9]; exact hd2) (by rw [zFy_9]; exact hd3)) kX5_209 dX5_stormSum_129 (fun Y129 bu129 hY129 => ?_)
      rw [zFy_10', zFy_9, hv129]
      refine r_lmul dX5_stormSum_132 ?_
      try rw [zw64_id (by omega) (by omega)]
      refine r_ladd dX5_stormSum_133 ?_
      try rw [zw64_id (by omega) (by omega)]
      refine r_lstore dX5_stormSum_134 rfl ?_
      refine r_aload_n dX5_stormSum_136 rfl ?_
      refine r_dup dX5_stormSum_137 rfl ?_
      refine r_gI (q := 9) rfl fX5_98 rfl (by decide) dX5_stormSum_138 ?_
      rw [e89]
      refine r_iconst dX5_stormSum_141 (k := ?_)
      refine r_isub dX5_stormSum_142 ?_
      try rw [zw_id (by omega) (by omega)]
      rw [show mem 8 9 + 1 - 1 = mem 8 9 by omega]
      refine r_pI (q := 9) rfl pX5_98 rfl dX5_stormSum_143 ?_
      refine r_aload_n dX5_stormSum_146 rfl ?_
      refine r_iload dX5_stormSum_147 rfl ?_
      refine r_aload_n dX5_stormSum_149 rfl ?_
      refine r_getR (q := 10) fX5_118 rfl rfl dX5_stormSum_150 ?_
      refine r_iconst dX5_stormSum_153 (k := ?_)
      refine r_iconst dX5_stormSum_154 (k := ?_)
      refine r_copy lX5_269 rfl rfl (by omega) (by omega) (by omega) (by omega) (by omega) dX5_stormSum_155 ?_
      simp (disch := decide) only [zs_n, zr_n, zr_s, zFy_10']
      rw [(fin Y129 bu129 hY129).1, zW2]
      refine r_lload dX5_stormSum_158 rfl ?_
      refine r_lret dX5_stormSum_160 ?_
      first
        | (have e : v = 10 := (by omega); refine zPG.of ?_ (fun j hj => hY j (by omega)); rw [hsum, e]; omega)
        | (refine zPG.of ?_ (fin Y129 bu129 hY129).2; rw [hsum])
  have hI1 : zFI (zs mem 8 9 (mem 8 9 + 1)) 8 := by
    unfold zFI
    simp (disch := decide) only [zs_n, zs_s, zu_n]
    exact hI
  have hv68 : sT ((zs mem 8 9 (mem 8 9 + 1)) 8 0) ((zs mem 8 9 (mem 8 9 + 1)) 9) ((zs mem 8 9 (mem 8 9 + 1)) 11) ((zs mem 8 9 (mem 8 9 + 1)) 8 4) ((zs mem 8 9 (mem 8 9 + 1)) 12) ((zs mem 8 9 (mem 8 9 + 1)) 13) ((zs mem 8 9 (mem 8 9 + 1)) 14) ((zs mem 8 9 (mem 8 9 + 1)) 8 8) (sVal w) v 7 ((zs mem 8 9 (mem 8 9 + 1)) 10) ((zs mem 8 9 (mem 8 9 + 1)) 8 9) = T1 := by
    simp (disch := decide) only [zs_n, zs_s, zu_n, zu_s]
    exact hT1
  have e79 : ∀ Y2 b2, zs (zr (zs mem 8 9 (mem 8 9 + 1)) 64 Y2) 8 10 b2 8 9 = mem 8 9 + 1 := fun Y2 b2 => by rw [zs_k (by decide), zr_n (by decide), zs_v]
  have e64 : ∀ j, (zs mem 8 9 (mem 8 9 + 1)) 64 j = mem 64 j := fun j => by rw [zs_n (by decide)]
  have same : zs (zr mem 64 (mem 64)) 8 10 (mem 8 10) = mem := by rw [zr_self]; exact zs_u rfl
  refine r_iload_n dX5_stormSum_0 rfl ?_
  refine r_if_le (tgt := 10) dX5_stormSum_1 (by decide) (fun h1 => ?_) (fun h1 => ?_)
  · first | exact absurd h1 (by decide) | exact absurd (by decide) h7
  · refine r_iload_n dX5_stormSum_4 rfl ?_
    refine r_bipush dX5_stormSum_5 (k := ?_)
    refine r_icmp_le (tgt := 39) dX5_stormSum_7 (by decide) (fun h7 => ?_) (fun h7 => ?_)
    · refine r_lconst dX5_stormSum_39 rfl (k := ?_)
      refine r_lstore dX5_stormSum_40 rfl ?_
      refine r_iload_n dX5_stormSum_42 rfl ?_
      refine r_if_le (tgt := 85) dX5_stormSum_43 (by decide) (fun h43 => ?_) (fun h43 => ?_)
      · first
          | (have t := two (mem 64) (mem 8 10) 0 (by rw [show v = 0 by omega, Int.zero_mul]) (fun j hj => rfl); rw [same] at t; exact t)
          | (rw [zW1]; exact two Y68 bu68 _ (by omega) (fun j hj => (hY68 j hj).trans (e64 j)))
      · refine r_aload_n dX5_stormSum_46 rfl ?_
        refine r_dup dX5_stormSum_47 rfl ?_
        refine r_gI (q := 9) rfl fX5_98 rfl (by decide) dX5_stormSum_48 ?_
        refine r_iconst dX5_stormSum_51 (k := ?_)
        refine r_iadd dX5_stormSum_52 ?_
        try rw [zw_id (by omega) (by omega)]
        refine r_pI (q := 9) rfl pX5_98 rfl dX5_stormSum_53 ?_
        refine r_lload dX5_stormSum_56 rfl ?_
        refine r_iload_n dX5_stormSum_58 rfl ?_
        refine r_i2l dX5_stormSum_59 ?_
        refine r_aload_n dX5_stormSum_60 rfl ?_
        refine r_aload_n dX5_stormSum_61 rfl ?_
        refine r_iload_n dX5_stormSum_62 rfl ?_
        refine r_iconst dX5_stormSum_63 (k := ?_)
        refine r_isub dX5_stormSum_64 ?_
        try rw [zw_id (by omega) (by omega)]
        refine r_iload_n dX5_stormSum_65 rfl ?_
        refine r_iload dX5_stormSum_66 rfl ?_
        refine r_g5 (c_storm7 (mem := zs mem 8 9 (mem 8 9 + 1)) hI1 v w hv0 hv1 (by rw [zs_v]; omega) (by rw [zs_v]; omega)) kX5_209 dX5_stormSum_68 (fun Y68 bu68 hY68 => ?_)
        rw [hv68]
        refine r_lmul dX5_stormSum_71 ?_
        try rw [zw64_id (by omega) (by omega)]
        refine r_ladd dX5_stormSum_72 ?_
        try rw [zw64_id (by omega) (by omega)]
        refine r_lstore dX5_stormSum_73 rfl ?_
        refine r_aload_n dX5_stormSum_75 rfl ?_
        refine r_dup dX5_stormSum_76 rfl ?_
        refine r_gI (q := 9) rfl fX5_98 rfl (by decide) dX5_stormSum_77 ?_
        rw [e79]
        refine r_iconst dX5_stormSum_80 (k := ?_)
        refine r_isub dX5_stormSum_81 ?_
        try rw [zw_id (by omega) (by omega)]
        rw [show mem 8 9 + 1 - 1 = mem 8 9 by omega]
        refine r_pI (q := 9) rfl pX5_98 rfl dX5_stormSum_82 ?_
        first
          | (have t := two (mem 64) (mem 8 10) 0 (by rw [show v = 0 by omega, Int.zero_mul]) (fun j hj => rfl); rw [same] at t; exact t)
          | (rw [zW1]; exact two Y68 bu68 _ (by omega) (fun j hj => (hY68 j hj).trans (e64 j)))
    · first | exact absurd h1 (by decide) | exact absurd (by decide) h7
end
