/-! ===== the reference: tokens ===== -/
def kA (m m' : zM) : Prop := (∀ o, o ≠ 65 → m' o = m o) ∧ ∀ j, ¬ (11 ≤ j ∧ j ≤ 16) → m' 65 j = m 65 j
def kD (m m' : zM) : Prop := (∀ o, o ≠ 65 → o ≠ 69 → m' o = m o) ∧ ∀ j, ¬ (5 ≤ j ∧ j ≤ 8) → ¬ (11 ≤ j ∧ j ≤ 16) → m' 65 j = m 65 j
theorem kA.rf {m : zM} : kA m m := ⟨fun _ _ => rfl, fun _ _ => rfl⟩
theorem kD.rf {m : zM} : kD m m := ⟨fun _ _ _ => rfl, fun _ _ _ => rfl⟩
theorem kA.tr {a b c : zM} (h1 : kA a b) (h2 : kA b c) : kA a c := ⟨fun o x => (h2.1 o x).trans (h1.1 o x), fun j x => (h2.2 j x).trans (h1.2 j x)⟩
theorem kD.tr {a b c : zM} (h1 : kD a b) (h2 : kD b c) : kD a c := ⟨fun o x y => (h2.1 o x y).trans (h1.1 o x y), fun j x y => (h2.2 j x y).trans (h1.2 j x y)⟩
theorem kA.d {a b : zM} (h : kA a b) : kD a b := ⟨fun o x _ => h.1 o x, fun j _ y => h.2 j y⟩
theorem kA.s {a b : zM} {k v : Int} (h : kA a b) (hk : 11 ≤ k ∧ k ≤ 16) : kA a (zs b 65 k v) := ⟨fun o x => by rw [zs_n x]; exact h.1 o x, fun j x => by rw [zs_k (by omega)]; exact h.2 j x⟩
theorem kD.s {a b : zM} {k v : Int} (h : kD a b) (hk : (5 ≤ k ∧ k ≤ 8) ∨ (11 ≤ k ∧ k ≤ 16)) : kD a (zs b 65 k v) := ⟨fun o x y => by rw [zs_n x]; exact h.1 o x y, fun j x y => by rw [zs_k (by omega)]; exact h.2 j x y⟩
theorem kD.z {a b : zM} {k v : Int} (h : kD a b) : kD a (zs b 69 k v) := ⟨fun o x y => by rw [zs_n y]; exact h.1 o x y, fun j x y => by rw [zs_n (by decide)]; exact h.2 j x y⟩
/-- a fault stands -/
def fS (m : zM) (e : zEr) : Prop := m 65 15 = e.1 ∧ m 65 16 = e.2 ∧ 0 < e.1
/-- the token ahead -/
def AH (x : Except zEr zTk) (m : zM) : Prop := match x with
  | .error e => fS m e
  | .ok k => m 65 15 = 0 ∧ m 65 11 = k.2.2.1 ∧ m 65 12 = k.2.1 ∧ m 65 13 = k.1 ∧ (k.1 = 2 → m 65 14 = k.2.2.2)
def mL (m : zM) : Prop := 0 ≤ m 65 11 ∧ m 65 11 ≤ m 65 10 ∧ m 65 10 ≤ 160
def mBy (m : zM) : Prop := ∀ j, 0 ≤ j → j < m 65 10 → 0 ≤ m 70 j ∧ m 70 j ≤ 127
theorem mBy.k {m m' : zM} (h : mBy m) (hk : kA m m') : mBy m' := by
  intro j a b
  rw [hk.2 10 (by decide)] at b
  rw [hk.1 70 (by decide)]
  exact h j a b
def zPA (x : Except zEr zTk) (m : zM) : Option zV → zM → Prop := fun r m' => r = none ∧ kA m m' ∧ AH x m'
def sNumX (x : Except zEr zTk) (lo hi : Int) : Except zEr (Int × Int × Int) := match x with
  | .error e => .error e
  | .ok k => if k.1 = 2 then (if lo ≤ k.2.2.2 ∧ k.2.2.2 ≤ hi then .ok (k.2.2.2, k.2.2.1, k.2.1) else .error (3, k.2.1)) else .error (2, k.2.1)
theorem sNumX_e {t : Int → Int} {L p lo hi : Int} : sNumX (sTk t L p) lo hi = sNum t L p lo hi := rfl
def zPLk (y : Except zEr (Int × Int × Int)) (m : zM) : Option zV → zM → Prop := fun r m' => match y with
  | .error e => r = some (zI 0) ∧ kA m m' ∧ fS m' e
  | .ok a => r = some (zI a.1) ∧ m' = m ∧ m 65 15 = 0 ∧ m 65 11 = a.2.1 ∧ m 65 12 = a.2.2
theorem zPLk.e {y : Except zEr (Int × Int × Int)} {m m' : zM} {e : zEr} (h : y = .error e) (hk : kA m m') (hf : fS m' e) : zPLk y m (some (zI 0)) m' := by subst h; exact ⟨rfl, hk, hf⟩
theorem zPLk.k {y : Except zEr (Int × Int × Int)} {m : zM} {v : Int} {a : Int × Int × Int} (h : y = .ok a) (hv : v = a.1) (h1 : m 65 15 = 0) (h2 : m 65 11 = a.2.1) (h3 : m 65 12 = a.2.2) : zPLk y m (some (zI v)) m := by subst h hv; exact ⟨rfl, rfl, h1, h2, h3⟩
def zPRN (t : Int → Int) (L : Int) (y : Except zEr (Int × Int × Int)) (m : zM) : Option zV → zM → Prop := fun r m' => kA m m' ∧ match y with
  | .error e => r = some (zI 0) ∧ fS m' e
  | .ok a => r = some (zI a.1) ∧ AH (sTk t L a.2.1) m'
section
variable {l : Launch} {G : zG} {R : Room} {own : String} {cc : ByteArray} {nL : Nat} {ret : Option FieldType} {Z : List Frame → Array Value → State → State → Prop} {kc ks : Nat} {Ex : State → Prop} {pc : Nat} {ls st : List zV} {mem mem' : zM}
variable {y : MethodName} {bytes : ByteArray} {nL' : Nat} {ret' : Option FieldType} {d index b ci : Nat} {v a1 a2 a3 : zV}
theorem r_wA0 {x : Except zEr zTk} (hM : CT l G y bytes nL' ret' d [zR b] mem (zPA x mem)) (hk : zCl own index y bytes nL' ret' 0 ci) (hL9 : zL b = (ci, zNf ci)) (hd : decode cc pc = .ok (.invokevirtual index, 3)) (kk : ∀ m9, kA mem m9 → AH x m9 → SW l G R own cc nL ret Z kc ks Ex (pc + 3) ls st m9) (hR : d + 1 ≤ R.frames ∧ 8 + (nL' + 11) + 100 * d ≤ R.locals := by exact ⟨Nat.le_of_ble_eq_true rfl, Nat.le_of_ble_eq_true rfl⟩) (hw : zwd st ≤ 8 := by exact Nat.le_of_ble_eq_true rfl) : SW l G R own cc nL ret Z kc ks Ex pc ls (zR b :: st) mem := by
  obtain ⟨h1, h2, h3, T, N, h4⟩ := hk
  exact r_callV hM h1 h2 hL9 h3 h4 rfl rfl hR hw hd (fun r m9 h9 => by obtain ⟨rfl, h9, h10⟩ := h9; exact kk m9 h9 h10)
theorem r_vL {z : Except zEr (Int × Int × Int)} (hM : CT l G y bytes nL' ret' d [zR b, a1, a2] mem (zPLk z mem)) (hk : zCl own index y bytes nL' ret' 2 ci) (hL9 : zL b = (ci, zNf ci)) (hd : decode cc pc = .ok (.invokevirtual index, 3)) (ke : ∀ e m9, z = .error e → kA mem m9 → fS m9 e → SW l G R own cc nL ret Z kc ks Ex (pc + 3) ls (zI 0 :: st) m9) (kk : ∀ a, z = .ok a → mem 65 15 = 0 → mem 65 11 = a.2.1 → mem 65 12 = a.2.2 → SW l G R own cc nL ret Z kc ks Ex (pc + 3) ls (zI a.1 :: st) mem) (hR : d + 1 ≤ R.frames ∧ 8 + (nL' + 11) + 100 * d ≤ R.locals := by exact ⟨Nat.le_of_ble_eq_true rfl, Nat.le_of_ble_eq_true rfl⟩) (hw : zwd st ≤ 8 := by exact Nat.le_of_ble_eq_true rfl) : SW l G R own cc nL ret Z kc ks Ex pc ls (a2 :: a1 :: zR b :: st) mem := by
  obtain ⟨h1, h2, h3, T, N, h4⟩ := hk
  refine r_callV hM h1 h2 hL9 h3 h4 rfl rfl hR hw hd (fun r m9 h9 => ?_)
  cases z with
  | error e => obtain ⟨rfl, h9, h10⟩ := h9; exact ke e m9 rfl h9 h10
  | ok a => obtain ⟨h9, h10, h11, h12, h13⟩ := h9; rw [h9, h10]; exact kk a rfl h11 h12 h13
theorem r_vRN {t : Int → Int} {L : Int} {z : Except zEr (Int × Int × Int)} (hM : CT l G y bytes nL' ret' d [zR b, a1, a2] mem (zPRN t L z mem)) (hk : zCl own index y bytes nL' ret' 2 ci) (hL9 : zL b = (ci, zNf ci)) (hd : decode cc pc = .ok (.invokevirtual index, 3)) (ke : ∀ e m9, z = .error e → kA mem m9 → fS m9 e → SW l G R own cc nL ret Z kc ks Ex (pc + 3) ls (zI 0 :: st) m9) (kk : ∀ a m9, z = .ok a → kA mem m9 → AH (sTk t L a.2.1) m9 → SW l G R own cc nL ret Z kc ks Ex (pc + 3) ls (zI a.1 :: st) m9) (hR : d + 1 ≤ R.frames ∧ 8 + (nL' + 11) + 100 * d ≤ R.locals := by exact ⟨Nat.le_of_ble_eq_true rfl, Nat.le_of_ble_eq_true rfl⟩) (hw : zwd st ≤ 8 := by exact Nat.le_of_ble_eq_true rfl) : SW l G R own cc nL ret Z kc ks Ex pc ls (a2 :: a1 :: zR b :: st) mem := by
  obtain ⟨h1, h2, h3, T, N, h4⟩ := hk
  refine r_callV hM h1 h2 hL9 h3 h4 rfl rfl hR hw hd (fun r m9 h9 => ?_)
  cases z with
  | error e => obtain ⟨h9, rfl, h10⟩ := h9; exact ke e m9 rfl h9 h10
  | ok a => obtain ⟨h9, rfl, h10⟩ := h9; exact kk a m9 rfl h9 h10
end
section
variable {l : Launch} {G : zG} {mem : zM}
set_option maxRecDepth 100000 in
theorem c_needs_t (g c : Int) (h : g ≠ 0) : KX6_needs l G 0 [zR 65, zI g, zI c] mem (zP0 mem) := by
  refine CT.of' (own := RX6) (ls0 := [zR 65, zI g, zI c]) rfl (by decide +kernel) (Nat.le_of_ble_eq_true rfl) rfl ?_
  refine r_iload_n dX6_needs_0 rfl ?_
  refine r_if_ne (tgt := 24) dX6_needs_1 (by decide) (fun h1 => ?_) (fun h1 => ?_)
  · refine r_vret dX6_needs_24 ?_
    exact zP0.i
  · exact absurd h1 h
set_option maxRecDepth 100000 in
theorem c_needs_f (g c : Int) (h : mem 65 15 ≠ 0) : KX6_needs l G 0 [zR 65, zI g, zI c] mem (zP0 mem) := by
  refine CT.of' (own := RX6) (ls0 := [zR 65, zI g, zI c]) rfl (by decide +kernel) (Nat.le_of_ble_eq_true rfl) rfl ?_
  refine r_iload_n dX6_needs_0 rfl ?_
  refine r_if_ne (tgt := 24) dX6_needs_1 (by decide) (fun h1 => ?_) (fun h1 => ?_)
  · refine r_vret dX6_needs_24 ?_
    exact zP0.i
  · refine r_aload_n dX6_needs_4 rfl ?_
    refine r_gI (q := 15) rfl fX6_76 rfl (by decide) dX6_needs_5 ?_
    refine r_if_ne (tgt := 24) dX6_needs_8 (by decide) (fun h8 => ?_) (fun h8 => ?_)
    · refine r_vret dX6_needs_24 ?_
      exact zP0.i
    · exact absurd h8 h
set_option maxRecDepth 100000 in
theorem c_needs_n (c : Int) (h : mem 65 15 = 0) : KX6_needs l G 0 [zR 65, zI 0, zI c] mem (zP0 (zs (zs mem 65 15 c) 65 16 (mem 65 12))) := by
  refine CT.of' (own := RX6) (ls0 := [zR 65, zI 0, zI c]) rfl (by decide +kernel) (Nat.le_of_ble_eq_true rfl) rfl ?_
  refine r_iload_n dX6_needs_0 rfl ?_
  refine r_if_ne (tgt := 24) dX6_needs_1 (by decide) (fun h1 => ?_) (fun h1 => ?_)
  · refine r_vret dX6_needs_24 ?_
    first | exact absurd rfl h1 | exact absurd h h8 | exact zP0.i
  · refine r_aload_n dX6_needs_4 rfl ?_
    refine r_gI (q := 15) rfl fX6_76 rfl (by decide) dX6_needs_5 ?_
    try simp (disch := omega) only [zs_n, zs_v, zs_k]
    refine r_if_ne (tgt := 24) dX6_needs_8 (by decide) (fun h8 => ?_) (fun h8 => ?_)
    · refine r_vret dX6_needs_24 ?_
      first | exact absurd rfl h1 | exact absurd h h8 | exact zP0.i
    · refine r_aload_n dX6_needs_11 rfl ?_
      refine r_iload_n dX6_needs_12 rfl ?_
      refine r_pI (q := 15) rfl pX6_76 rfl dX6_needs_13 ?_
      refine r_aload_n dX6_needs_16 rfl ?_
      refine r_aload_n dX6_needs_17 rfl ?_
      refine r_gI (q := 12) rfl fX6_79 rfl (by decide) dX6_needs_18 ?_
      try simp (disch := omega) only [zs_n, zs_v, zs_k]
      refine r_pI (q := 16) rfl pX6_82 rfl dX6_needs_21 ?_
      refine r_vret dX6_needs_24 ?_
      first | exact absurd rfl h1 | exact absurd h h8 | exact zP0.i
set_option maxRecDepth 100000 in
theorem c_byteIn (p : Int) (h0 : 0 ≤ p) (h1 : p < mem 65 10) (h2 : mem 65 10 ≤ 160) : KX6_byteAt l G 0 [zR 65, zI p] mem (zP1 (zI (mem 70 p)) mem) := by
  refine CT.of' (own := RX6) (ls0 := [zR 65, zI p]) rfl (by decide +kernel) (Nat.le_of_ble_eq_true rfl) rfl ?_
  refine r_iload_n dX6_byteAt_0 rfl ?_
  refine r_aload_n dX6_byteAt_1 rfl ?_
  refine r_gI (q := 10) rfl fX6_73 rfl (by decide) dX6_byteAt_2 ?_
  refine r_icmp_ge (tgt := 17) dX6_byteAt_5 (by decide) (fun h5 => ?_) (fun h5 => ?_)
  · exfalso; omega
  · refine r_aload_n dX6_byteAt_8 rfl ?_
    refine r_getR (q := 70) fX6_23 rfl rfl dX6_byteAt_9 ?_
    refine r_iload_n dX6_byteAt_12 rfl ?_
    refine r_iald rfl (by omega) (by omega) dX6_byteAt_13 ?_
    refine r_goto (tgt := 18) dX6_byteAt_14 (by decide) ?_
    refine r_iret dX6_byteAt_18 ?_
    exact zP1.i
set_option maxRecDepth 100000 in
theorem c_byteOut (p : Int) (h1 : mem 65 10 ≤ p) : KX6_byteAt l G 0 [zR 65, zI p] mem (zP1 (zI (-1)) mem) := by
  refine CT.of' (own := RX6) (ls0 := [zR 65, zI p]) rfl (by decide +kernel) (Nat.le_of_ble_eq_true rfl) rfl ?_
  refine r_iload_n dX6_byteAt_0 rfl ?_
  refine r_aload_n dX6_byteAt_1 rfl ?_
  refine r_gI (q := 10) rfl fX6_73 rfl (by decide) dX6_byteAt_2 ?_
  refine r_icmp_ge (tgt := 17) dX6_byteAt_5 (by decide) (fun h5 => ?_) (fun h5 => ?_)
  · refine r_iconst dX6_byteAt_17 (k := ?_)
    refine r_iret dX6_byteAt_18 ?_
    exact zP1.i
  · exfalso; omega
set_option maxRecDepth 100000 in
theorem c_takes_f (h : 0 < mem 65 15) : KX6_takes l G 1 [zR 65] mem (zP0 mem) := by
  refine CT.of' (own := RX6) (ls0 := [zR 65, zU]) rfl (by decide +kernel) (Nat.le_of_ble_eq_true rfl) rfl ?_
  refine r_aload_n dX6_takes_0 rfl ?_
  refine r_gI (q := 15) rfl fX6_76 rfl (by decide) dX6_takes_1 ?_
  refine r_if_le (tgt := 8) dX6_takes_4 (by decide) (fun h4 => ?_) (fun h4 => ?_)
  · exfalso; omega
  · refine r_vret dX6_takes_7 ?_
    exact zP0.i
set_option maxRecDepth 100000 in
theorem c_takes (hL : mL mem) (hB : mBy mem) (hf : mem 65 15 = 0) : KX6_takes l G 1 [zR 65] mem (zPA (sTk (mem 70) (mem 65 10) (mem 65 11)) mem) := by
  obtain ⟨b0, b1, b2⟩ := id hL
  have f1 := ze_ge (t := mem 70) (L := mem 65 10) (lo := 32) (hi := 32) (p := mem 65 11)
  have f2 := ze_le (t := mem 70) (L := mem 65 10) (lo := 32) (hi := 32) b1
  generalize hF : ze (mem 70) (mem 65 10) 32 32 (mem 65 11) = F at f1 f2
  refine CT.of' (own := RX6) (ls0 := [zR 65, zU]) rfl (by decide +kernel) (Nat.le_of_ble_eq_true rfl) rfl ?_
  have main : ∀ m, kA mem m → m 65 11 = F → m 65 15 = 0 → SW l G (zrm 1) RX6 cX6_takes 2 none (zZ G (zPA (sTk (mem 70) (mem 65 10) (mem 65 11)) mem)) 0 0 (fun _ => True) 34 [zR 65, zU] [] m := by
    intro m hk hx h15
    have o10 : m 65 10 = mem 65 10 := hk.2 10 (by decide)
    have o70 : m 70 = mem 70 := hk.1 70 (by decide)
    by_cases c1 : mem 65 10 ≤ F
    · have hs : sTk (mem 70) (mem 65 10) (mem 65 11) = .ok (0, F, F, 0) := by unfold sTk; rw [hF, if_pos c1]
      rw [hs]
      refine r_aload_n dX6_takes_34 rfl ?_
      refine r_aload_n dX6_takes_35 rfl ?_
      refine r_gI (q := 11) rfl fX6_85 rfl (by decide) dX6_takes_36 ?_
      try simp (disch := omega) only [zs_n, zs_v, zs_k, hx, o70]
      refine r_pI (q := 12) rfl pX6_79 rfl dX6_takes_39 ?_
      refine r_aload_n dX6_takes_42 rfl ?_
      refine r_aload_n dX6_takes_43 rfl ?_
      refine r_gI (q := 11) rfl fX6_85 rfl (by decide) dX6_takes_44 ?_
      try simp (disch := omega) only [zs_n, zs_v, zs_k, hx, o70]
      refine r_v1 (c_byteOut _ (by simp (disch := omega) only [zs_n, zs_v, zs_k]; omega)) kX6_88 rfl dX6_takes_47 ?_
      try simp (disch := omega) only [zs_n, zs_v, zs_k, hx, o70]
      refine r_istore_n dX6_takes_50 rfl ?_
      refine r_iload_n dX6_takes_51 rfl ?_
      refine r_if_ge (tgt := 63) dX6_takes_52 (by decide) (fun h52 => absurd h52 (by decide)) (fun h52 => ?_)
      refine r_aload_n dX6_takes_55 rfl ?_
      refine r_iconst dX6_takes_56 (k := ?_)
      refine r_pI (q := 13) rfl pX6_100 rfl dX6_takes_57 ?_
      refine r_goto (tgt := 274) dX6_takes_60 (by decide) ?_
      refine r_vret dX6_takes_274 ?_
      exact ⟨rfl, (by repeat first | assumption | exact kA.rf | refine kA.s ?_ (by decide)), by simp (disch := omega) only [zs_n, zs_v, zs_k]; exact h15, by simp (disch := omega) only [zs_n, zs_v, zs_k]; exact hx, by simp (disch := omega) only [zs_n, zs_v, zs_k], by simp (disch := omega) only [zs_n, zs_v, zs_k], fun h => absurd h (show ¬ ((0 : Int) = 2) by decide)⟩
    have by0 := hB F (by omega) (by omega)
    by_cases c3 : 97 ≤ mem 70 F ∧ mem 70 F ≤ 122
    · have hs : sTk (mem 70) (mem 65 10) (mem 65 11) = .ok (1, F, ze (mem 70) (mem 65 10) 97 122 F, 0) := by unfold sTk; rw [hF, if_neg c1, if_neg (by omega), if_pos c3]
      rw [hs]
      have g2 := ze_le (t := mem 70) (L := mem 65 10) (lo := 97) (hi := 122) f2
      have loop : ∀ (q : Nat) (x : Int) (m : zM), F ≤ x → x + q = mem 65 10 → ze (mem 70) (mem 65 10) 97 122 x = ze (mem 70) (mem 65 10) 97 122 F → kA mem m → m 65 11 = x → m 65 12 = F → m 65 13 = 1 → m 65 15 = 0 → SW l G (zrm 1) RX6 cX6_takes 2 none (zZ G (zPA (.ok (1, F, ze (mem 70) (mem 65 10) 97 122 F, 0)) mem)) 0 0 (fun _ => True) 82 [zR 65, zI (mem 70 F)] [] m := by
        intro q
        induction q with
        | zero =>
          intro x m a1 a2 he hk hx h12 h13 h15
          have o10 : m 65 10 = mem 65 10 := hk.2 10 (by decide)
          rw [ze_out (by omega)] at he
          refine r_aload_n dX6_takes_82 rfl ?_
          refine r_aload_n dX6_takes_83 rfl ?_
          refine r_gI (q := 11) rfl fX6_85 rfl (by decide) dX6_takes_84 ?_
          try simp (disch := omega) only [zs_n, zs_v, zs_k, hx, o70]
          refine r_v1 (c_byteOut _ (by omega)) kX6_88 rfl dX6_takes_87 ?_
          try simp (disch := omega) only [zs_n, zs_v, zs_k, hx, o70]
          refine r_i2l dX6_takes_90 ?_
          refine r_ldc2 nX6_103 dX6_takes_91 (x := 97) (k := ?_)
          refine r_ldc2 nX6_105 dX6_takes_94 (x := 122) (k := ?_)
          refine r_s3 (c_in _ _ _) kX6_69 dX6_takes_97 ?_
          try simp (disch := omega) only [zs_n, zs_v, zs_k, hx, o70]
          refine r_ifd_eq (tgt := 274) dX6_takes_100 (by decide) (fun h100 => ?_) (fun h100 => ?_)
          · refine r_vret dX6_takes_274 ?_
            exact ⟨rfl, hk, h15, by rw [hx]; exact he, h12, h13, fun h => absurd h (show ¬ ((1 : Int) = 2) by decide)⟩
          · exact absurd h100 (by decide)
        | succ q ih =>
          intro x m a1 a2 he hk hx h12 h13 h15
          have o10 : m 65 10 = mem 65 10 := hk.2 10 (by decide)
          have o70 : m 70 = mem 70 := hk.1 70 (by decide)
          have by1 := hB x (by omega) (by omega)
          by_cases c : x < mem 65 10 ∧ 97 ≤ mem 70 x ∧ mem 70 x ≤ 122
          · rw [ze_in c] at he
            refine r_aload_n dX6_takes_82 rfl ?_
            refine r_aload_n dX6_takes_83 rfl ?_
            refine r_gI (q := 11) rfl fX6_85 rfl (by decide) dX6_takes_84 ?_
            try simp (disch := omega) only [zs_n, zs_v, zs_k, hx, o70]
            refine r_v1 (c_byteIn _ (by omega) (by omega) (by omega)) kX6_88 rfl dX6_takes_87 ?_
            try simp (disch := omega) only [zs_n, zs_v, zs_k, hx, o70]
            refine r_i2l dX6_takes_90 ?_
            refine r_ldc2 nX6_103 dX6_takes_91 (x := 97) (k := ?_)
            refine r_ldc2 nX6_105 dX6_takes_94 (x := 122) (k := ?_)
            refine r_s3 (c_in _ _ _) kX6_69 dX6_takes_97 ?_
            try simp (disch := omega) only [zs_n, zs_v, zs_k, hx, o70]
            refine r_ifd_eq (tgt := 274) dX6_takes_100 (by decide) (fun h100 => ?_) (fun h100 => ?_)
            · exact absurd c.2 h100
            · refine r_aload_n dX6_takes_103 rfl ?_
              refine r_dup dX6_takes_104 rfl ?_
              refine r_gI (q := 11) rfl fX6_85 rfl (by decide) dX6_takes_105 ?_
              try simp (disch := omega) only [zs_n, zs_v, zs_k, hx, o70]
              refine r_iconst dX6_takes_108 (k := ?_)
              refine r_iadd dX6_takes_109 ?_
              try rw [zw_id (by omega) (by omega)]
              refine r_pI (q := 11) rfl pX6_85 rfl dX6_takes_110 ?_
              refine r_goto (tgt := 82) dX6_takes_113 (by decide) ?_
              refine ih (x + 1) _ (by omega) (by omega) he (hk.s (by decide)) (by simp (disch := omega) only [zs_n, zs_v, zs_k]) (by simp (disch := omega) only [zs_n, zs_v, zs_k]; exact h12) (by simp (disch := omega) only [zs_n, zs_v, zs_k]; exact h13) (by simp (disch := omega) only [zs_n, zs_v, zs_k]; exact h15)
          · rw [ze_out c] at he
            refine r_aload_n dX6_takes_82 rfl ?_
            refine r_aload_n dX6_takes_83 rfl ?_
            refine r_gI (q := 11) rfl fX6_85 rfl (by decide) dX6_takes_84 ?_
            try simp (disch := omega) only [zs_n, zs_v, zs_k, hx, o70]
            refine r_v1 (c_byteIn _ (by omega) (by omega) (by omega)) kX6_88 rfl dX6_takes_87 ?_
            try simp (disch := omega) only [zs_n, zs_v, zs_k, hx, o70]
            refine r_i2l dX6_takes_90 ?_
            refine r_ldc2 nX6_103 dX6_takes_91 (x := 97) (k := ?_)
            refine r_ldc2 nX6_105 dX6_takes_94 (x := 122) (k := ?_)
            refine r_s3 (c_in _ _ _) kX6_69 dX6_takes_97 ?_
            try simp (disch := omega) only [zs_n, zs_v, zs_k, hx, o70]
            refine r_ifd_eq (tgt := 274) dX6_takes_100 (by decide) (fun h100 => ?_) (fun h100 => ?_)
            · refine r_vret dX6_takes_274 ?_
              exact ⟨rfl, hk, h15, by rw [hx]; exact he, h12, h13, fun h => absurd h (show ¬ ((1 : Int) = 2) by decide)⟩
            · exact absurd ⟨by omega, h100⟩ c
      refine r_aload_n dX6_takes_34 rfl ?_
      refine r_aload_n dX6_takes_35 rfl ?_
      refine r_gI (q := 11) rfl fX6_85 rfl (by decide) dX6_takes_36 ?_
      try simp (disch := omega) only [zs_n, zs_v, zs_k, hx, o70]
      refine r_pI (q := 12) rfl pX6_79 rfl dX6_takes_39 ?_
      refine r_aload_n dX6_takes_42 rfl ?_
      refine r_aload_n dX6_takes_43 rfl ?_
      refine r_gI (q := 11) rfl fX6_85 rfl (by decide) dX6_takes_44 ?_
      try simp (disch := omega) only [zs_n, zs_v, zs_k, hx, o70]
      refine r_v1 (c_byteIn _ (by omega) (by simp (disch := omega) only [zs_n, zs_v, zs_k]; omega) (by simp (disch := omega) only [zs_n, zs_v, zs_k]; omega)) kX6_88 rfl dX6_takes_47 ?_
      try simp (disch := omega) only [zs_n, zs_v, zs_k, hx, o70]
      refine r_istore_n dX6_takes_50 rfl ?_
      refine r_iload_n dX6_takes_51 rfl ?_
      refine r_if_ge (tgt := 63) dX6_takes_52 (by decide) (fun h52 => ?_) (fun h52 => ?_)
      · refine r_iload_n dX6_takes_63 rfl ?_
        refine r_i2l dX6_takes_64 ?_
        refine r_ldc2 nX6_103 dX6_takes_65 (x := 97) (k := ?_)
        refine r_ldc2 nX6_105 dX6_takes_68 (x := 122) (k := ?_)
        refine r_s3 (c_in _ _ _) kX6_69 dX6_takes_71 ?_
        try simp (disch := omega) only [zs_n, zs_v, zs_k, hx, o70]
        refine r_ifd_eq (tgt := 116) dX6_takes_74 (by decide) (fun h74 => ?_) (fun h74 => ?_)
        · exact absurd c3 h74
        · refine r_aload_n dX6_takes_77 rfl ?_
          refine r_iconst dX6_takes_78 (k := ?_)
          refine r_pI (q := 13) rfl pX6_100 rfl dX6_takes_79 ?_
          exact loop (mem 65 10 - F).toNat F _ (by omega) (by omega) rfl ((hk.s (by decide)).s (by decide)) (by simp (disch := omega) only [zs_n, zs_v, zs_k]; exact hx) (by simp (disch := omega) only [zs_n, zs_v, zs_k]) (by simp (disch := omega) only [zs_n, zs_v, zs_k]) (by simp (disch := omega) only [zs_n, zs_v, zs_k]; exact h15)
      · exfalso; omega
    have d1 := ze_ge (t := mem 70) (L := mem 65 10) (lo := 48) (hi := 57) (p := F)
    have d2 := ze_le (t := mem 70) (L := mem 65 10) (lo := 48) (hi := 57) f2
    have d3 := fun j a b => ze_at (t := mem 70) (L := mem 65 10) (lo := 48) (hi := 57) (p := F) (j := j) a b
    by_cases c4 : 48 ≤ mem 70 F ∧ mem 70 F ≤ 57
    · have d4 := ze_in (t := mem 70) (L := mem 65 10) (lo := 48) (hi := 57) (p := F) ⟨by omega, c4.1, c4.2⟩
      have d5 := ze_ge (t := mem 70) (L := mem 65 10) (lo := 48) (hi := 57) (p := F + 1)
      generalize hN : ze (mem 70) (mem 65 10) 48 57 F = N at d1 d2 d3 d4
      have fin : ∀ m, kA mem m → m 65 11 = N → m 65 12 = F → m 65 13 = 2 → m 65 15 = 0 → (N = F + 1 → m 65 14 = mem 70 F - 48) → (F + 2 ≤ N → m 65 14 = 10 * (mem 70 F - 48) + (mem 70 (F + 1) - 48)) → SW l G (zrm 1) RX6 cX6_takes 2 none (zZ G (zPA (sTk (mem 70) (mem 65 10) (mem 65 11)) mem)) 0 0 (fun _ => True) 217 [zR 65, zI (mem 70 F)] [] m := by
        intro m hk hx h12 h13 h15 e1 e2
        by_cases n1 : N - F = 1
        · have hs : sTk (mem 70) (mem 65 10) (mem 65 11) = .ok (2, F, F + 1, mem 70 F - 48) := by unfold sTk; rw [hF, if_neg c1, if_neg (by omega), if_neg c3, hN, if_pos n1]
          rw [hs]
          refine r_aload_n dX6_takes_217 rfl ?_
          refine r_aload_n dX6_takes_218 rfl ?_
          refine r_gI (q := 11) rfl fX6_85 rfl (by decide) dX6_takes_219 ?_
          try simp (disch := omega) only [zs_n, zs_v, zs_k, hx, o70]
          refine r_aload_n dX6_takes_222 rfl ?_
          refine r_gI (q := 12) rfl fX6_79 rfl (by decide) dX6_takes_223 ?_
          try simp (disch := omega) only [zs_n, zs_v, zs_k, hx, o70]
          refine r_isub dX6_takes_226 ?_
          try rw [zw_id (by omega) (by omega)]
          refine r_iconst dX6_takes_227 (k := ?_)
          refine r_icmp_gt (tgt := 235) dX6_takes_228 (by decide) (fun h228 => ?_) (fun h228 => ?_)
          · exfalso; omega
          · refine r_iconst dX6_takes_231 (k := ?_)
            refine r_goto (tgt := 236) dX6_takes_232 (by decide) ?_
            refine r_iconst dX6_takes_236 (k := ?_)
            refine r_w2 (c_needs_t _ _ (by decide)) kX6_114 rfl dX6_takes_237 ?_
            try simp (disch := omega) only [zs_n, zs_v, zs_k, hx, o70]
            refine r_goto (tgt := 274) dX6_takes_240 (by decide) ?_
            refine r_vret dX6_takes_274 ?_
            exact ⟨rfl, hk, h15, by rw [hx]; show N = F + 1; omega, h12, h13, fun _ => e1 (by omega)⟩
        by_cases n2 : N - F = 2
        · have hs : sTk (mem 70) (mem 65 10) (mem 65 11) = .ok (2, F, F + 2, 10 * (mem 70 F - 48) + (mem 70 (F + 1) - 48)) := by unfold sTk; rw [hF, if_neg c1, if_neg (by omega), if_neg c3, hN, if_neg n1, if_pos n2]
          rw [hs]
          refine r_aload_n dX6_takes_217 rfl ?_
          refine r_aload_n dX6_takes_218 rfl ?_
          refine r_gI (q := 11) rfl fX6_85 rfl (by decide) dX6_takes_219 ?_
          try simp (disch := omega) only [zs_n, zs_v, zs_k, hx, o70]
          refine r_aload_n dX6_takes_222 rfl ?_
          refine r_gI (q := 12) rfl fX6_79 rfl (by decide) dX6_takes_223 ?_
          try simp (disch := omega) only [zs_n, zs_v, zs_k, hx, o70]
          refine r_isub dX6_takes_226 ?_
          try rw [zw_id (by omega) (by omega)]
          refine r_iconst dX6_takes_227 (k := ?_)
          refine r_icmp_gt (tgt := 235) dX6_takes_228 (by decide) (fun h228 => ?_) (fun h228 => ?_)
          · exfalso; omega
          · refine r_iconst dX6_takes_231 (k := ?_)
            refine r_goto (tgt := 236) dX6_takes_232 (by decide) ?_
            refine r_iconst dX6_takes_236 (k := ?_)
            refine r_w2 (c_needs_t _ _ (by decide)) kX6_114 rfl dX6_takes_237 ?_
            try simp (disch := omega) only [zs_n, zs_v, zs_k, hx, o70]
            refine r_goto (tgt := 274) dX6_takes_240 (by decide) ?_
            refine r_vret dX6_takes_274 ?_
            exact ⟨rfl, hk, h15, by rw [hx]; show N = F + 2; omega, h12, h13, fun _ => e2 (by omega)⟩
        · have hs : sTk (mem 70) (mem 65 10) (mem 65 11) = .error (1, F) := by unfold sTk; rw [hF, if_neg c1, if_neg (by omega), if_neg c3, hN, if_neg n1, if_neg n2]
          rw [hs]
          refine r_aload_n dX6_takes_217 rfl ?_
          refine r_aload_n dX6_takes_218 rfl ?_
          refine r_gI (q := 11) rfl fX6_85 rfl (by decide) dX6_takes_219 ?_
          try simp (disch := omega) only [zs_n, zs_v, zs_k, hx, o70]
          refine r_aload_n dX6_takes_222 rfl ?_
          refine r_gI (q := 12) rfl fX6_79 rfl (by decide) dX6_takes_223 ?_
          try simp (disch := omega) only [zs_n, zs_v, zs_k, hx, o70]
          refine r_isub dX6_takes_226 ?_
          try rw [zw_id (by omega) (by omega)]
          refine r_iconst dX6_takes_227 (k := ?_)
          refine r_icmp_gt (tgt := 235) dX6_takes_228 (by decide) (fun h228 => ?_) (fun h228 => ?_)
          · refine r_iconst dX6_takes_235 (k := ?_)
            refine r_iconst dX6_takes_236 (k := ?_)
            refine r_w2 (c_needs_n _ h15) kX6_114 rfl dX6_takes_237 ?_
            try simp (disch := omega) only [zs_n, zs_v, zs_k, hx, o70]
            refine r_goto (tgt := 274) dX6_takes_240 (by decide) ?_
            refine r_vret dX6_takes_274 ?_
            exact ⟨rfl, (by repeat first | assumption | exact kA.rf | refine kA.s ?_ (by decide)), by simp (disch := omega) only [zs_n, zs_v, zs_k], by simp (disch := omega) only [zs_n, zs_v, zs_k]; exact h12, (by show (0 : Int) < 1; decide)⟩
          · exfalso; omega
      have loop : ∀ (q : Nat) (x : Int) (m : zM), F ≤ x → x + q = mem 65 10 → ze (mem 70) (mem 65 10) 48 57 x = N → kA mem m → m 65 11 = x → m 65 12 = F → m 65 13 = 2 → m 65 15 = 0 → (x = F → m 65 14 = 0) → (x = F + 1 → m 65 14 = mem 70 F - 48) → (F + 2 ≤ x → m 65 14 = 10 * (mem 70 F - 48) + (mem 70 (F + 1) - 48)) → SW l G (zrm 1) RX6 cX6_takes 2 none (zZ G (zPA (sTk (mem 70) (mem 65 10) (mem 65 11)) mem)) 0 0 (fun _ => True) 140 [zR 65, zI (mem 70 F)] [] m := by
        intro q
        induction q with
        | zero =>
          intro x m a1 a2 he hk hx h12 h13 h15 v0 v1 v2
          have o10 : m 65 10 = mem 65 10 := hk.2 10 (by decide)
          rw [ze_out (by omega)] at he
          refine r_aload_n dX6_takes_140 rfl ?_
          refine r_aload_n dX6_takes_141 rfl ?_
          refine r_gI (q := 11) rfl fX6_85 rfl (by decide) dX6_takes_142 ?_
          try simp (disch := omega) only [zs_n, zs_v, zs_k, hx, o70]
          refine r_v1 (c_byteOut _ (by omega)) kX6_88 rfl dX6_takes_145 ?_
          try simp (disch := omega) only [zs_n, zs_v, zs_k, hx, o70]
          refine r_i2l dX6_takes_148 ?_
          refine r_ldc2 nX6_107 dX6_takes_149 (x := 48) (k := ?_)
          refine r_ldc2 nX6_109 dX6_takes_152 (x := 57) (k := ?_)
          refine r_s3 (c_in _ _ _) kX6_69 dX6_takes_155 ?_
          try simp (disch := omega) only [zs_n, zs_v, zs_k, hx, o70]
          refine r_ifd_eq (tgt := 217) dX6_takes_158 (by decide) (fun h158 => ?_) (fun h158 => ?_)
          · exact fin m hk (by omega) h12 h13 h15 (fun e => v1 (by omega)) (fun e => v2 (by omega))
          · exact absurd h158 (by decide)
        | succ q ih =>
          intro x m a1 a2 he hk hx h12 h13 h15 v0 v1 v2
          have o10 : m 65 10 = mem 65 10 := hk.2 10 (by decide)
          have o70 : m 70 = mem 70 := hk.1 70 (by decide)
          have by1 := hB x (by omega) (by omega)
          by_cases c : x < mem 65 10 ∧ 48 ≤ mem 70 x ∧ mem 70 x ≤ 57
          · rw [ze_in c] at he
            by_cases x0 : x = F
            · have w0 := v0 x0
              refine r_aload_n dX6_takes_140 rfl ?_
              refine r_aload_n dX6_takes_141 rfl ?_
              refine r_gI (q := 11) rfl fX6_85 rfl (by decide) dX6_takes_142 ?_
              try simp (disch := omega) only [zs_n, zs_v, zs_k, hx, o70, h12, w0]
              refine r_v1 (c_byteIn _ (by omega) (by omega) (by omega)) kX6_88 rfl dX6_takes_145 ?_
              try simp (disch := omega) only [zs_n, zs_v, zs_k, hx, o70, h12, w0]
              refine r_i2l dX6_takes_148 ?_
              refine r_ldc2 nX6_107 dX6_takes_149 (x := 48) (k := ?_)
              refine r_ldc2 nX6_109 dX6_takes_152 (x := 57) (k := ?_)
              refine r_s3 (c_in _ _ _) kX6_69 dX6_takes_155 ?_
              try simp (disch := omega) only [zs_n, zs_v, zs_k, hx, o70, h12, w0]
              refine r_ifd_eq (tgt := 217) dX6_takes_158 (by decide) (fun h158 => ?_) (fun h158 => ?_)
              · exact absurd c.2 h158
              · refine r_aload_n dX6_takes_161 rfl ?_
                refine r_aload_n dX6_takes_162 rfl ?_
                refine r_gI (q := 11) rfl fX6_85 rfl (by decide) dX6_takes_163 ?_
                try simp (disch := omega) only [zs_n, zs_v, zs_k, hx, o70, h12, w0]
                refine r_aload_n dX6_takes_166 rfl ?_
                refine r_gI (q := 12) rfl fX6_79 rfl (by decide) dX6_takes_167 ?_
                try simp (disch := omega) only [zs_n, zs_v, zs_k, hx, o70, h12, w0]
                refine r_isub dX6_takes_170 ?_
                try rw [zw_id (by omega) (by omega)]
                refine r_iconst dX6_takes_171 (k := ?_)
                refine r_icmp_ge (tgt := 197) dX6_takes_172 (by decide) (fun h172 => ?_) (fun h172 => ?_)
                · exfalso; omega
                · refine r_bipush dX6_takes_175 (k := ?_)
                  refine r_aload_n dX6_takes_177 rfl ?_
                  refine r_gI (q := 14) rfl fX6_111 rfl (by decide) dX6_takes_178 ?_
                  try simp (disch := omega) only [zs_n, zs_v, zs_k, hx, o70, h12, w0]
                  refine r_imul dX6_takes_181 ?_
                  try rw [zw_id (by omega) (by omega)]
                  refine r_aload_n dX6_takes_182 rfl ?_
                  refine r_aload_n dX6_takes_183 rfl ?_
                  refine r_gI (q := 11) rfl fX6_85 rfl (by decide) dX6_takes_184 ?_
                  try simp (disch := omega) only [zs_n, zs_v, zs_k, hx, o70, h12, w0]
                  refine r_v1 (c_byteIn _ (by omega) (by omega) (by omega)) kX6_88 rfl dX6_takes_187 ?_
                  try simp (disch := omega) only [zs_n, zs_v, zs_k, hx, o70, h12, w0]
                  refine r_iadd dX6_takes_190 ?_
                  try rw [zw_id (by omega) (by omega)]
                  refine r_bipush dX6_takes_191 (k := ?_)
                  refine r_isub dX6_takes_193 ?_
                  try rw [zw_id (by omega) (by omega)]
                  refine r_goto (tgt := 201) dX6_takes_194 (by decide) ?_
                  refine r_pI (q := 14) rfl pX6_111 rfl dX6_takes_201 ?_
                  refine r_aload_n dX6_takes_204 rfl ?_
                  refine r_dup dX6_takes_205 rfl ?_
                  refine r_gI (q := 11) rfl fX6_85 rfl (by decide) dX6_takes_206 ?_
                  try simp (disch := omega) only [zs_n, zs_v, zs_k, hx, o70, h12, w0]
                  refine r_iconst dX6_takes_209 (k := ?_)
                  refine r_iadd dX6_takes_210 ?_
                  try rw [zw_id (by omega) (by omega)]
                  refine r_pI (q := 11) rfl pX6_85 rfl dX6_takes_211 ?_
                  refine r_goto (tgt := 140) dX6_takes_214 (by decide) ?_
                  refine ih (x + 1) _ (by omega) (by omega) he ((hk.s (by decide)).s (by decide)) (by simp (disch := omega) only [zs_n, zs_v, zs_k]) (by simp (disch := omega) only [zs_n, zs_v, zs_k]; exact h12) (by simp (disch := omega) only [zs_n, zs_v, zs_k]; exact h13) (by simp (disch := omega) only [zs_n, zs_v, zs_k]; exact h15) (fun e => absurd e (by omega)) (fun e => by simp (disch := omega) only [zs_n, zs_v, zs_k]; rw [x0]; omega) (fun e => absurd e (by omega))
            · by_cases x1 : x = F + 1
              · have w1 := v1 x1
                refine r_aload_n dX6_takes_140 rfl ?_
                refine r_aload_n dX6_takes_141 rfl ?_
                refine r_gI (q := 11) rfl fX6_85 rfl (by decide) dX6_takes_142 ?_
                try simp (disch := omega) only [zs_n, zs_v, zs_k, hx, o70, h12, w1]
                refine r_v1 (c_byteIn _ (by omega) (by omega) (by omega)) kX6_88 rfl dX6_takes_145 ?_
                try simp (disch := omega) only [zs_n, zs_v, zs_k, hx, o70, h12, w1]
                refine r_i2l dX6_takes_148 ?_
                refine r_ldc2 nX6_107 dX6_takes_149 (x := 48) (k := ?_)
                refine r_ldc2 nX6_109 dX6_takes_152 (x := 57) (k := ?_)
                refine r_s3 (c_in _ _ _) kX6_69 dX6_takes_155 ?_
                try simp (disch := omega) only [zs_n, zs_v, zs_k, hx, o70, h12, w1]
                refine r_ifd_eq (tgt := 217) dX6_takes_158 (by decide) (fun h158 => ?_) (fun h158 => ?_)
                · exact absurd c.2 h158
                · refine r_aload_n dX6_takes_161 rfl ?_
                  refine r_aload_n dX6_takes_162 rfl ?_
                  refine r_gI (q := 11) rfl fX6_85 rfl (by decide) dX6_takes_163 ?_
                  try simp (disch := omega) only [zs_n, zs_v, zs_k, hx, o70, h12, w1]
                  refine r_aload_n dX6_takes_166 rfl ?_
                  refine r_gI (q := 12) rfl fX6_79 rfl (by decide) dX6_takes_167 ?_
                  try simp (disch := omega) only [zs_n, zs_v, zs_k, hx, o70, h12, w1]
                  refine r_isub dX6_takes_170 ?_
                  try rw [zw_id (by omega) (by omega)]
                  refine r_iconst dX6_takes_171 (k := ?_)
                  refine r_icmp_ge (tgt := 197) dX6_takes_172 (by decide) (fun h172 => ?_) (fun h172 => ?_)
                  · exfalso; omega
                  · refine r_bipush dX6_takes_175 (k := ?_)
                    refine r_aload_n dX6_takes_177 rfl ?_
                    refine r_gI (q := 14) rfl fX6_111 rfl (by decide) dX6_takes_178 ?_
                    try simp (disch := omega) only [zs_n, zs_v, zs_k, hx, o70, h12, w1]
                    refine r_imul dX6_takes_181 ?_
                    try rw [zw_id (by omega) (by omega)]
                    refine r_aload_n dX6_takes_182 rfl ?_
                    refine r_aload_n dX6_takes_183 rfl ?_
                    refine r_gI (q := 11) rfl fX6_85 rfl (by decide) dX6_takes_184 ?_
                    try simp (disch := omega) only [zs_n, zs_v, zs_k, hx, o70, h12, w1]
                    refine r_v1 (c_byteIn _ (by omega) (by omega) (by omega)) kX6_88 rfl dX6_takes_187 ?_
                    try simp (disch := omega) only [zs_n, zs_v, zs_k, hx, o70, h12, w1]
                    refine r_iadd dX6_takes_190 ?_
                    try rw [zw_id (by omega) (by omega)]
                    refine r_bipush dX6_takes_191 (k := ?_)
                    refine r_isub dX6_takes_193 ?_
                    try rw [zw_id (by omega) (by omega)]
                    refine r_goto (tgt := 201) dX6_takes_194 (by decide) ?_
                    refine r_pI (q := 14) rfl pX6_111 rfl dX6_takes_201 ?_
                    refine r_aload_n dX6_takes_204 rfl ?_
                    refine r_dup dX6_takes_205 rfl ?_
                    refine r_gI (q := 11) rfl fX6_85 rfl (by decide) dX6_takes_206 ?_
                    try simp (disch := omega) only [zs_n, zs_v, zs_k, hx, o70, h12, w1]
                    refine r_iconst dX6_takes_209 (k := ?_)
                    refine r_iadd dX6_takes_210 ?_
                    try rw [zw_id (by omega) (by omega)]
                    refine r_pI (q := 11) rfl pX6_85 rfl dX6_takes_211 ?_
                    refine r_goto (tgt := 140) dX6_takes_214 (by decide) ?_
                    refine ih (x + 1) _ (by omega) (by omega) he ((hk.s (by decide)).s (by decide)) (by simp (disch := omega) only [zs_n, zs_v, zs_k]) (by simp (disch := omega) only [zs_n, zs_v, zs_k]; exact h12) (by simp (disch := omega) only [zs_n, zs_v, zs_k]; exact h13) (by simp (disch := omega) only [zs_n, zs_v, zs_k]; exact h15) (fun e => absurd e (by omega)) (fun e => absurd e (by omega)) (fun e => by simp (disch := omega) only [zs_n, zs_v, zs_k]; rw [x1]; omega)
              · have w2 := v2 (by omega)
                refine r_aload_n dX6_takes_140 rfl ?_
                refine r_aload_n dX6_takes_141 rfl ?_
                refine r_gI (q := 11) rfl fX6_85 rfl (by decide) dX6_takes_142 ?_
                try simp (disch := omega) only [zs_n, zs_v, zs_k, hx, o70, h12]
                refine r_v1 (c_byteIn _ (by omega) (by omega) (by omega)) kX6_88 rfl dX6_takes_145 ?_
                try simp (disch := omega) only [zs_n, zs_v, zs_k, hx, o70, h12]
                refine r_i2l dX6_takes_148 ?_
                refine r_ldc2 nX6_107 dX6_takes_149 (x := 48) (k := ?_)
                refine r_ldc2 nX6_109 dX6_takes_152 (x := 57) (k := ?_)
                refine r_s3 (c_in _ _ _) kX6_69 dX6_takes_155 ?_
                try simp (disch := omega) only [zs_n, zs_v, zs_k, hx, o70, h12]
                refine r_ifd_eq (tgt := 217) dX6_takes_158 (by decide) (fun h158 => ?_) (fun h158 => ?_)
                · exact absurd c.2 h158
                · refine r_aload_n dX6_takes_161 rfl ?_
                  refine r_aload_n dX6_takes_162 rfl ?_
                  refine r_gI (q := 11) rfl fX6_85 rfl (by decide) dX6_takes_163 ?_
                  try simp (disch := omega) only [zs_n, zs_v, zs_k, hx, o70, h12]
                  refine r_aload_n dX6_takes_166 rfl ?_
                  refine r_gI (q := 12) rfl fX6_79 rfl (by decide) dX6_takes_167 ?_
                  try simp (disch := omega) only [zs_n, zs_v, zs_k, hx, o70, h12]
                  refine r_isub dX6_takes_170 ?_
                  try rw [zw_id (by omega) (by omega)]
                  refine r_iconst dX6_takes_171 (k := ?_)
                  refine r_icmp_ge (tgt := 197) dX6_takes_172 (by decide) (fun h172 => ?_) (fun h172 => ?_)
                  · refine r_aload_n dX6_takes_197 rfl ?_
                    refine r_gI (q := 14) rfl fX6_111 rfl (by decide) dX6_takes_198 ?_
                    try simp (disch := omega) only [zs_n, zs_v, zs_k, hx, o70, h12]
                    refine r_pI (q := 14) rfl pX6_111 rfl dX6_takes_201 ?_
                    refine r_aload_n dX6_takes_204 rfl ?_
                    refine r_dup dX6_takes_205 rfl ?_
                    refine r_gI (q := 11) rfl fX6_85 rfl (by decide) dX6_takes_206 ?_
                    try simp (disch := omega) only [zs_n, zs_v, zs_k, hx, o70, h12]
                    refine r_iconst dX6_takes_209 (k := ?_)
                    refine r_iadd dX6_takes_210 ?_
                    try rw [zw_id (by omega) (by omega)]
                    refine r_pI (q := 11) rfl pX6_85 rfl dX6_takes_211 ?_
                    refine r_goto (tgt := 140) dX6_takes_214 (by decide) ?_
                    refine ih (x + 1) _ (by omega) (by omega) he ((hk.s (by decide)).s (by decide)) (by simp (disch := omega) only [zs_n, zs_v, zs_k]) (by simp (disch := omega) only [zs_n, zs_v, zs_k]; exact h12) (by simp (disch := omega) only [zs_n, zs_v, zs_k]; exact h13) (by simp (disch := omega) only [zs_n, zs_v, zs_k]; exact h15) (fun e => absurd e (by omega)) (fun e => absurd e (by omega)) (fun e => by simp (disch := omega) only [zs_n, zs_v, zs_k]; exact w2)
                  · exfalso; omega
          · rw [ze_out c] at he
            refine r_aload_n dX6_takes_140 rfl ?_
            refine r_aload_n dX6_takes_141 rfl ?_
            refine r_gI (q := 11) rfl fX6_85 rfl (by decide) dX6_takes_142 ?_
            try simp (disch := omega) only [zs_n, zs_v, zs_k, hx, o70, h12]
            refine r_v1 (c_byteIn _ (by omega) (by omega) (by omega)) kX6_88 rfl dX6_takes_145 ?_
            try simp (disch := omega) only [zs_n, zs_v, zs_k, hx, o70, h12]
            refine r_i2l dX6_takes_148 ?_
            refine r_ldc2 nX6_107 dX6_takes_149 (x := 48) (k := ?_)
            refine r_ldc2 nX6_109 dX6_takes_152 (x := 57) (k := ?_)
            refine r_s3 (c_in _ _ _) kX6_69 dX6_takes_155 ?_
            try simp (disch := omega) only [zs_n, zs_v, zs_k, hx, o70, h12]
            refine r_ifd_eq (tgt := 217) dX6_takes_158 (by decide) (fun h158 => ?_) (fun h158 => ?_)
            · exact fin m hk (by omega) h12 h13 h15 (fun e => v1 (by omega)) (fun e => v2 (by omega))
            · exact absurd ⟨by omega, h158⟩ c
      refine r_aload_n dX6_takes_34 rfl ?_
      refine r_aload_n dX6_takes_35 rfl ?_
      refine r_gI (q := 11) rfl fX6_85 rfl (by decide) dX6_takes_36 ?_
      try simp (disch := omega) only [zs_n, zs_v, zs_k, hx, o70]
      refine r_pI (q := 12) rfl pX6_79 rfl dX6_takes_39 ?_
      refine r_aload_n dX6_takes_42 rfl ?_
      refine r_aload_n dX6_takes_43 rfl ?_
      refine r_gI (q := 11) rfl fX6_85 rfl (by decide) dX6_takes_44 ?_
      try simp (disch := omega) only [zs_n, zs_v, zs_k, hx, o70]
      refine r_v1 (c_byteIn _ (by omega) (by simp (disch := omega) only [zs_n, zs_v, zs_k]; omega) (by simp (disch := omega) only [zs_n, zs_v, zs_k]; omega)) kX6_88 rfl dX6_takes_47 ?_
      try simp (disch := omega) only [zs_n, zs_v, zs_k, hx, o70]
      refine r_istore_n dX6_takes_50 rfl ?_
      refine r_iload_n dX6_takes_51 rfl ?_
      refine r_if_ge (tgt := 63) dX6_takes_52 (by decide) (fun h52 => ?_) (fun h52 => ?_)
      · refine r_iload_n dX6_takes_63 rfl ?_
        refine r_i2l dX6_takes_64 ?_
        refine r_ldc2 nX6_103 dX6_takes_65 (x := 97) (k := ?_)
        refine r_ldc2 nX6_105 dX6_takes_68 (x := 122) (k := ?_)
        refine r_s3 (c_in _ _ _) kX6_69 dX6_takes_71 ?_
        try simp (disch := omega) only [zs_n, zs_v, zs_k, hx, o70]
        refine r_ifd_eq (tgt := 116) dX6_takes_74 (by decide) (fun h74 => ?_) (fun h74 => ?_)
        · refine r_iload_n dX6_takes_116 rfl ?_
          refine r_i2l dX6_takes_117 ?_
          refine r_ldc2 nX6_107 dX6_takes_118 (x := 48) (k := ?_)
          refine r_ldc2 nX6_109 dX6_takes_121 (x := 57) (k := ?_)
          refine r_s3 (c_in _ _ _) kX6_69 dX6_takes_124 ?_
          try simp (disch := omega) only [zs_n, zs_v, zs_k, hx, o70]
          refine r_ifd_eq (tgt := 243) dX6_takes_127 (by decide) (fun h127 => ?_) (fun h127 => ?_)
          · exact absurd c4 h127
          · refine r_aload_n dX6_takes_130 rfl ?_
            refine r_iconst dX6_takes_131 (k := ?_)
            refine r_pI (q := 13) rfl pX6_100 rfl dX6_takes_132 ?_
            refine r_aload_n dX6_takes_135 rfl ?_
            refine r_iconst dX6_takes_136 (k := ?_)
            refine r_pI (q := 14) rfl pX6_111 rfl dX6_takes_137 ?_
            exact loop (mem 65 10 - F).toNat F _ (by omega) (by omega) hN (((hk.s (by decide)).s (by decide)).s (by decide)) (by simp (disch := omega) only [zs_n, zs_v, zs_k]; exact hx) (by simp (disch := omega) only [zs_n, zs_v, zs_k]) (by simp (disch := omega) only [zs_n, zs_v, zs_k]) (by simp (disch := omega) only [zs_n, zs_v, zs_k]; exact h15) (fun _ => by simp (disch := omega) only [zs_n, zs_v, zs_k]) (fun e => absurd e (by omega)) (fun e => absurd e (by omega))
        · exact absurd h74 c3
      · exfalso; omega
    have n0 := ze_out (t := mem 70) (L := mem 65 10) (lo := 48) (hi := 57) (p := F) (by omega)
    by_cases c5 : mem 70 F = 59
    · have hs : sTk (mem 70) (mem 65 10) (mem 65 11) = .ok (3, F, F + 1, 0) := by unfold sTk; rw [hF, if_neg c1, if_pos c5]
      rw [hs]
      refine r_aload_n dX6_takes_34 rfl ?_
      refine r_aload_n dX6_takes_35 rfl ?_
      refine r_gI (q := 11) rfl fX6_85 rfl (by decide) dX6_takes_36 ?_
      try simp (disch := omega) only [zs_n, zs_v, zs_k, hx, o70]
      refine r_pI (q := 12) rfl pX6_79 rfl dX6_takes_39 ?_
      refine r_aload_n dX6_takes_42 rfl ?_
      refine r_aload_n dX6_takes_43 rfl ?_
      refine r_gI (q := 11) rfl fX6_85 rfl (by decide) dX6_takes_44 ?_
      try simp (disch := omega) only [zs_n, zs_v, zs_k, hx, o70]
      refine r_v1 (c_byteIn _ (by omega) (by simp (disch := omega) only [zs_n, zs_v, zs_k]; omega) (by simp (disch := omega) only [zs_n, zs_v, zs_k]; omega)) kX6_88 rfl dX6_takes_47 ?_
      try simp (disch := omega) only [zs_n, zs_v, zs_k, hx, o70]
      refine r_istore_n dX6_takes_50 rfl ?_
      refine r_iload_n dX6_takes_51 rfl ?_
      refine r_if_ge (tgt := 63) dX6_takes_52 (by decide) (fun h52 => ?_) (fun h52 => ?_)
      · refine r_iload_n dX6_takes_63 rfl ?_
        refine r_i2l dX6_takes_64 ?_
        refine r_ldc2 nX6_103 dX6_takes_65 (x := 97) (k := ?_)
        refine r_ldc2 nX6_105 dX6_takes_68 (x := 122) (k := ?_)
        refine r_s3 (c_in _ _ _) kX6_69 dX6_takes_71 ?_
        try simp (disch := omega) only [zs_n, zs_v, zs_k, hx, o70]
        refine r_ifd_eq (tgt := 116) dX6_takes_74 (by decide) (fun h74 => ?_) (fun h74 => ?_)
        · refine r_iload_n dX6_takes_116 rfl ?_
          refine r_i2l dX6_takes_117 ?_
          refine r_ldc2 nX6_107 dX6_takes_118 (x := 48) (k := ?_)
          refine r_ldc2 nX6_109 dX6_takes_121 (x := 57) (k := ?_)
          refine r_s3 (c_in _ _ _) kX6_69 dX6_takes_124 ?_
          try simp (disch := omega) only [zs_n, zs_v, zs_k, hx, o70]
          refine r_ifd_eq (tgt := 243) dX6_takes_127 (by decide) (fun h127 => ?_) (fun h127 => ?_)
          · refine r_aload_n dX6_takes_243 rfl ?_
            refine r_iconst dX6_takes_244 (k := ?_)
            refine r_pI (q := 13) rfl pX6_100 rfl dX6_takes_245 ?_
            refine r_aload_n dX6_takes_248 rfl ?_
            refine r_iload_n dX6_takes_249 rfl ?_
            refine r_bipush dX6_takes_250 (k := ?_)
            refine r_icmp_ne (tgt := 259) dX6_takes_252 (by decide) (fun h252 => ?_) (fun h252 => ?_)
            · exfalso; omega
            · refine r_iconst dX6_takes_255 (k := ?_)
              refine r_goto (tgt := 260) dX6_takes_256 (by decide) ?_
              refine r_iconst dX6_takes_260 (k := ?_)
              refine r_w2 (c_needs_t _ _ (by decide)) kX6_114 rfl dX6_takes_261 ?_
              try simp (disch := omega) only [zs_n, zs_v, zs_k, hx, o70]
              refine r_aload_n dX6_takes_264 rfl ?_
              refine r_dup dX6_takes_265 rfl ?_
              refine r_gI (q := 11) rfl fX6_85 rfl (by decide) dX6_takes_266 ?_
              try simp (disch := omega) only [zs_n, zs_v, zs_k, hx, o70]
              refine r_iconst dX6_takes_269 (k := ?_)
              refine r_iadd dX6_takes_270 ?_
              try rw [zw_id (by omega) (by omega)]
              refine r_pI (q := 11) rfl pX6_85 rfl dX6_takes_271 ?_
              refine r_vret dX6_takes_274 ?_
              exact ⟨rfl, (by repeat first | assumption | exact kA.rf | refine kA.s ?_ (by decide)), by simp (disch := omega) only [zs_n, zs_v, zs_k]; exact h15, by simp (disch := omega) only [zs_n, zs_v, zs_k], by simp (disch := omega) only [zs_n, zs_v, zs_k], by simp (disch := omega) only [zs_n, zs_v, zs_k], fun h => absurd h (show ¬ ((3 : Int) = 2) by decide)⟩
          · exact absurd h127 c4
        · exact absurd h74 c3
      · exfalso; omega
    · have hs : sTk (mem 70) (mem 65 10) (mem 65 11) = .error (1, F) := by unfold sTk; rw [hF, if_neg c1, if_neg c5, if_neg c3, n0, if_neg (by omega), if_neg (by omega)]
      rw [hs]
      refine r_aload_n dX6_takes_34 rfl ?_
      refine r_aload_n dX6_takes_35 rfl ?_
      refine r_gI (q := 11) rfl fX6_85 rfl (by decide) dX6_takes_36 ?_
      try simp (disch := omega) only [zs_n, zs_v, zs_k, hx, o70]
      refine r_pI (q := 12) rfl pX6_79 rfl dX6_takes_39 ?_
      refine r_aload_n dX6_takes_42 rfl ?_
      refine r_aload_n dX6_takes_43 rfl ?_
      refine r_gI (q := 11) rfl fX6_85 rfl (by decide) dX6_takes_44 ?_
      try simp (disch := omega) only [zs_n, zs_v, zs_k, hx, o70]
      refine r_v1 (c_byteIn _ (by omega) (by simp (disch := omega) only [zs_n, zs_v, zs_k]; omega) (by simp (disch := omega) only [zs_n, zs_v, zs_k]; omega)) kX6_88 rfl dX6_takes_47 ?_
      try simp (disch := omega) only [zs_n, zs_v, zs_k, hx, o70]
      refine r_istore_n dX6_takes_50 rfl ?_
      refine r_iload_n dX6_takes_51 rfl ?_
      refine r_if_ge (tgt := 63) dX6_takes_52 (by decide) (fun h52 => ?_) (fun h52 => ?_)
      · refine r_iload_n dX6_takes_63 rfl ?_
        refine r_i2l dX6_takes_64 ?_
        refine r_ldc2 nX6_103 dX6_takes_65 (x := 97) (k := ?_)
        refine r_ldc2 nX6_105 dX6_takes_68 (x := 122) (k := ?_)
        refine r_s3 (c_in _ _ _) kX6_69 dX6_takes_71 ?_
        try simp (disch := omega) only [zs_n, zs_v, zs_k, hx, o70]
        refine r_ifd_eq (tgt := 116) dX6_takes_74 (by decide) (fun h74 => ?_) (fun h74 => ?_)
        · refine r_iload_n dX6_takes_116 rfl ?_
          refine r_i2l dX6_takes_117 ?_
          refine r_ldc2 nX6_107 dX6_takes_118 (x := 48) (k := ?_)
          refine r_ldc2 nX6_109 dX6_takes_121 (x := 57) (k := ?_)
          refine r_s3 (c_in _ _ _) kX6_69 dX6_takes_124 ?_
          try simp (disch := omega) only [zs_n, zs_v, zs_k, hx, o70]
          refine r_ifd_eq (tgt := 243) dX6_takes_127 (by decide) (fun h127 => ?_) (fun h127 => ?_)
          · refine r_aload_n dX6_takes_243 rfl ?_
            refine r_iconst dX6_takes_244 (k := ?_)
            refine r_pI (q := 13) rfl pX6_100 rfl dX6_takes_245 ?_
            refine r_aload_n dX6_takes_248 rfl ?_
            refine r_iload_n dX6_takes_249 rfl ?_
            refine r_bipush dX6_takes_250 (k := ?_)
            refine r_icmp_ne (tgt := 259) dX6_takes_252 (by decide) (fun h252 => ?_) (fun h252 => ?_)
            · refine r_iconst dX6_takes_259 (k := ?_)
              refine r_iconst dX6_takes_260 (k := ?_)
              refine r_w2 (c_needs_n _ (by simp (disch := omega) only [zs_n, zs_v, zs_k]; exact h15)) kX6_114 rfl dX6_takes_261 ?_
              try simp (disch := omega) only [zs_n, zs_v, zs_k, hx, o70]
              refine r_aload_n dX6_takes_264 rfl ?_
              refine r_dup dX6_takes_265 rfl ?_
              refine r_gI (q := 11) rfl fX6_85 rfl (by decide) dX6_takes_266 ?_
              try simp (disch := omega) only [zs_n, zs_v, zs_k, hx, o70]
              refine r_iconst dX6_takes_269 (k := ?_)
              refine r_iadd dX6_takes_270 ?_
              try rw [zw_id (by omega) (by omega)]
              refine r_pI (q := 11) rfl pX6_85 rfl dX6_takes_271 ?_
              refine r_vret dX6_takes_274 ?_
              exact ⟨rfl, (by repeat first | assumption | exact kA.rf | refine kA.s ?_ (by decide)), by simp (disch := omega) only [zs_n, zs_v, zs_k], by simp (disch := omega) only [zs_n, zs_v, zs_k], (by show (0 : Int) < 1; decide)⟩
            · exfalso; omega
          · exact absurd h127 c4
        · exact absurd h74 c3
      · exfalso; omega
  have loop : ∀ (q : Nat) (x : Int) (m : zM), 0 ≤ x → x + q = mem 65 10 → ze (mem 70) (mem 65 10) 32 32 x = F → kA mem m → m 65 11 = x → m 65 15 = 0 → SW l G (zrm 1) RX6 cX6_takes 2 none (zZ G (zPA (sTk (mem 70) (mem 65 10) (mem 65 11)) mem)) 0 0 (fun _ => True) 8 [zR 65, zU] [] m := by
    intro q
    induction q with
    | zero =>
      intro x m a1 a2 he hk hx h15
      have o10 : m 65 10 = mem 65 10 := hk.2 10 (by decide)
      rw [ze_out (by omega)] at he
      refine r_aload_n dX6_takes_8 rfl ?_
      refine r_aload_n dX6_takes_9 rfl ?_
      refine r_gI (q := 11) rfl fX6_85 rfl (by decide) dX6_takes_10 ?_
      try simp (disch := omega) only [zs_n, zs_v, zs_k, hx]
      refine r_v1 (c_byteOut _ (by omega)) kX6_88 rfl dX6_takes_13 ?_
      try simp (disch := omega) only [zs_n, zs_v, zs_k, hx]
      refine r_bipush dX6_takes_16 (k := ?_)
      refine r_icmp_ne (tgt := 34) dX6_takes_18 (by decide) (fun h18 => ?_) (fun h18 => ?_)
      · exact main m hk (by omega) h15
      · exact absurd h18 (by decide)
    | succ q ih =>
      intro x m a1 a2 he hk hx h15
      have o10 : m 65 10 = mem 65 10 := hk.2 10 (by decide)
      have o70 : m 70 = mem 70 := hk.1 70 (by decide)
      by_cases c : x < mem 65 10 ∧ 32 ≤ mem 70 x ∧ mem 70 x ≤ 32
      · rw [ze_in c] at he
        refine r_aload_n dX6_takes_8 rfl ?_
        refine r_aload_n dX6_takes_9 rfl ?_
        refine r_gI (q := 11) rfl fX6_85 rfl (by decide) dX6_takes_10 ?_
        try simp (disch := omega) only [zs_n, zs_v, zs_k, hx, o70]
        refine r_v1 (c_byteIn _ (by omega) (by omega) (by omega)) kX6_88 rfl dX6_takes_13 ?_
        try simp (disch := omega) only [zs_n, zs_v, zs_k, hx, o70]
        refine r_bipush dX6_takes_16 (k := ?_)
        refine r_icmp_ne (tgt := 34) dX6_takes_18 (by decide) (fun h18 => ?_) (fun h18 => ?_)
        · exfalso; omega
        · refine r_aload_n dX6_takes_21 rfl ?_
          refine r_dup dX6_takes_22 rfl ?_
          refine r_gI (q := 11) rfl fX6_85 rfl (by decide) dX6_takes_23 ?_
          try simp (disch := omega) only [zs_n, zs_v, zs_k, hx, o70]
          refine r_iconst dX6_takes_26 (k := ?_)
          refine r_iadd dX6_takes_27 ?_
          try rw [zw_id (by omega) (by omega)]
          refine r_pI (q := 11) rfl pX6_85 rfl dX6_takes_28 ?_
          refine r_goto (tgt := 8) dX6_takes_31 (by decide) ?_
          refine ih (x + 1) _ (by omega) (by omega) he (hk.s (by decide)) (by simp (disch := omega) only [zs_n, zs_v, zs_k]) (by simp (disch := omega) only [zs_n, zs_v, zs_k]; exact h15)
      · rw [ze_out c] at he
        refine r_aload_n dX6_takes_8 rfl ?_
        refine r_aload_n dX6_takes_9 rfl ?_
        refine r_gI (q := 11) rfl fX6_85 rfl (by decide) dX6_takes_10 ?_
        try simp (disch := omega) only [zs_n, zs_v, zs_k, hx, o70]
        refine r_v1 (c_byteIn _ (by omega) (by omega) (by omega)) kX6_88 rfl dX6_takes_13 ?_
        try simp (disch := omega) only [zs_n, zs_v, zs_k, hx, o70]
        refine r_bipush dX6_takes_16 (k := ?_)
        refine r_icmp_ne (tgt := 34) dX6_takes_18 (by decide) (fun h18 => ?_) (fun h18 => ?_)
        · exact main m hk (by omega) h15
        · exfalso; omega
  refine r_aload_n dX6_takes_0 rfl ?_
  refine r_gI (q := 15) rfl fX6_76 rfl (by decide) dX6_takes_1 ?_
  try simp (disch := omega) only [zs_n, zs_v, zs_k, hx, o70]
  refine r_if_le (tgt := 8) dX6_takes_4 (by decide) (fun h4 => ?_) (fun h4 => ?_)
  · exact loop (mem 65 10 - mem 65 11).toNat (mem 65 11) mem b0 (by omega) hF kA.rf rfl hf
  · exfalso; omega
end
