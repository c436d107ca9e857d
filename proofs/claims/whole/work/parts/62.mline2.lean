/-! ===== the reference: a line, the text ===== -/
def sLb (t : Int → Int) (L : Int) (D : zDr) (c p : Int) : Except zEr (zDr × Int) := if c = 4 then sLc0 t L D p else if c = 5 then sRp t L D p else if c = 6 then sEf t L p D else sEi t L p D c
section
variable {l : Launch} {G : zG} {R : Room} {own : String} {cc : ByteArray} {nL : Nat} {ret : Option FieldType} {Z : List Frame → Array Value → State → State → Prop} {kc ks : Nat} {Ex : State → Prop} {pc : Nat} {ls st : List zV} {mem mem' : zM}
variable {y : MethodName} {bytes : ByteArray} {nL' : Nat} {ret' : Option FieldType} {d index b ci : Nat} {v a1 a2 a3 : zV}
theorem r_wLn0 {t : Int → Int} {L : Int} {x : Except zEr (zDr × Int)} (hM : CT l G y bytes nL' ret' d [zR b] mem (zPLn t L x mem)) (hk : zCl own index y bytes nL' ret' 0 ci) (hL9 : zL b = (ci, zNf ci)) (hd : decode cc pc = .ok (.invokevirtual index, 3)) (kk : ∀ m9, zPLn t L x mem none m9 → SW l G R own cc nL ret Z kc ks Ex (pc + 3) ls st m9) (hR : d + 1 ≤ R.frames ∧ 8 + (nL' + 11) + 100 * d ≤ R.locals := by exact ⟨Nat.le_of_ble_eq_true rfl, Nat.le_of_ble_eq_true rfl⟩) (hw : zwd st ≤ 8 := by exact Nat.le_of_ble_eq_true rfl) : SW l G R own cc nL ret Z kc ks Ex pc ls (zR b :: st) mem := by
  obtain ⟨h1, h2, h3, T, N, h4⟩ := hk
  exact r_callV hM h1 h2 hL9 h3 h4 rfl rfl hR hw hd (fun r m9 h9 => by have h8 := h9; obtain ⟨rfl, -⟩ := h8; exact kk m9 h9)
theorem r_wLn1 {t : Int → Int} {L : Int} {x : Except zEr (zDr × Int)} (hM : CT l G y bytes nL' ret' d [zR b, a1] mem (zPLn t L x mem)) (hk : zCl own index y bytes nL' ret' 1 ci) (hL9 : zL b = (ci, zNf ci)) (hd : decode cc pc = .ok (.invokevirtual index, 3)) (kk : ∀ m9, zPLn t L x mem none m9 → SW l G R own cc nL ret Z kc ks Ex (pc + 3) ls st m9) (hR : d + 1 ≤ R.frames ∧ 8 + (nL' + 11) + 100 * d ≤ R.locals := by exact ⟨Nat.le_of_ble_eq_true rfl, Nat.le_of_ble_eq_true rfl⟩) (hw : zwd st ≤ 8 := by exact Nat.le_of_ble_eq_true rfl) : SW l G R own cc nL ret Z kc ks Ex pc ls (a1 :: zR b :: st) mem := by
  obtain ⟨h1, h2, h3, T, N, h4⟩ := hk
  exact r_callV hM h1 h2 hL9 h3 h4 rfl rfl hR hw hd (fun r m9 h9 => by have h8 := h9; obtain ⟨rfl, -⟩ := h8; exact kk m9 h9)
end
section
variable {l : Launch} {G : zG} {mem : zM} {t : Int → Int} {L p : Int} {D : zDr}
set_option maxRecDepth 100000 in
theorem c_readLineOf (c : Int) (c0 : 0 ≤ c) (c6 : c ≤ 6) (hE : TP t L mem) (p0 : 0 ≤ p) (p1 : p ≤ L) (h : AH (sTk t L p) mem) (hD : DR mem D) (hI : DI D) (hc1 : c < 4 → D.1.1 < 5) (hc2 : c = 5 → dR D < 6) : KX6_readLineOf l G 5 [zR 65, zI c] mem (zPLn t L (sLb t L D c p) mem) := by
  have n5 := hI.2.1
  have r0 := hI.2.2.1
  have r6 := hI.2.2.2.1
  refine CT.of' (own := RX6) (ls0 := [zR 65, zI c]) rfl (by decide +kernel) (Nat.le_of_ble_eq_true rfl) rfl ?_
  refine r_iload_n dX6_readLineOf_0 rfl ?_
  by_cases k4 : c = 4
  · subst k4
    rw [show sLb t L D 4 p = sLc0 t L D p from rfl]
    refine r_tswIn (tgt := 28) dX6_readLineOf_1 (by decide) (by rfl) (by decide) ?_
    refine r_aload_n dX6_readLineOf_28 rfl ?_
    refine r_wLn0 (c_readCross hE p0 p1 h hD n5 r0) kX6_132 rfl dX6_readLineOf_29 (fun m9 h9 => ?_)
    refine r_goto (tgt := 64) dX6_readLineOf_32 (by decide) ?_
    refine r_vret dX6_readLineOf_64 ?_
    exact h9
  by_cases k5 : c = 5
  · subst k5
    rw [show sLb t L D 5 p = sRp t L D p from rfl]
    refine r_tswIn (tgt := 35) dX6_readLineOf_1 (by decide) (by rfl) (by decide) ?_
    refine r_aload_n dX6_readLineOf_35 rfl ?_
    refine r_wLn0 (c_readRope hE p0 p1 h hD n5 r0 (hc2 rfl)) kX6_135 rfl dX6_readLineOf_36 (fun m9 h9 => ?_)
    refine r_goto (tgt := 64) dX6_readLineOf_39 (by decide) ?_
    refine r_vret dX6_readLineOf_64 ?_
    exact h9
  by_cases k6 : c = 6
  · subst k6
    rw [show sLb t L D 6 p = sEf t L p D from rfl]
    refine r_tswIn (tgt := 42) dX6_readLineOf_1 (by decide) (by rfl) (by decide) ?_
    refine r_aload_n dX6_readLineOf_42 rfl ?_
    refine r_getR (q := 69) fX6_20 rfl rfl dX6_readLineOf_43 ?_
    refine r_bipush dX6_readLineOf_46 (k := ?_)
    refine r_aload_n dX6_readLineOf_48 rfl ?_
    refine r_iconst dX6_readLineOf_49 (k := ?_)
    refine r_bipush dX6_readLineOf_50 (k := ?_)
    refine r_vRN (c_readNumber 0 6 hE p0 p1 h) kX6_125 rfl dX6_readLineOf_52 (fun e3 m3 x3 k3 f3 => ?_) (fun a3 m3 x3 k3 ah3 => ?_)
    · have hs : sEf t L p D = .error e3 := by unfold sEf; simp only [x3]
      refine r_iast rfl (by omega) (by omega) dX6_readLineOf_55 ?_
      refine r_goto (tgt := 64) dX6_readLineOf_56 (by decide) ?_
      refine r_vret dX6_readLineOf_64 ?_
      exact zPLn.e hs (k3.d.z) (f3.n (Or.inl (by decide)))
    · have hs : sEf t L p D = .ok (dFeast D a3.1, a3.2.1) := by unfold sEf; simp only [x3]
      refine r_iast rfl (by omega) (by omega) dX6_readLineOf_55 ?_
      refine r_goto (tgt := 64) dX6_readLineOf_56 (by decide) ?_
      refine r_vret dX6_readLineOf_64 ?_
      exact zPLn.k hs (k3.d.z) ah3.d ((hD.k k3).feast n5 r6) (by rw [zs_n (by decide)]; exact k3.2 6 (by decide))
  have hs : sLb t L D c p = sEi t L p D c := by unfold sLb; rw [if_neg k4, if_neg k5, if_neg k6]
  rw [hs]
  refine r_tswOut (tgt := 59) dX6_readLineOf_1 (by omega) (by decide) ?_
  refine r_aload_n dX6_readLineOf_59 rfl ?_
  refine r_iload_n dX6_readLineOf_60 rfl ?_
  refine r_wLn1 (c_readIsle c hE p0 p1 h hD hI.1 (hc1 (by omega))) kX6_138 rfl dX6_readLineOf_61 (fun m9 h9 => ?_)
  refine r_vret dX6_readLineOf_64 ?_
  exact h9
end
theorem sLb_fe {t : Int → Int} {L : Int} {D : zDr} {c p : Int} {b : zDr × Int} (h : sLb t L D c p = .ok b) : b.1.2.2.1 = if c = 6 then 1 else D.2.2.1 := by
  unfold sLb at h
  by_cases k4 : c = 4
  · rw [if_pos k4] at h
    rw [if_neg (by omega)]
    unfold sLc0 at h
    split at h
    · cases h
    · split at h
      · split at h
        · cases h
        · cases h; rfl
      · cases h
  · rw [if_neg k4] at h
    by_cases k5 : c = 5
    · rw [if_pos k5] at h
      rw [if_neg (by omega)]
      unfold sRp at h
      split at h
      · cases h
      · split at h
        · cases h
        · cases h; rfl
    · rw [if_neg k5] at h
      by_cases k6 : c = 6
      · rw [if_pos k6] at h
        rw [if_pos k6]
        unfold sEf at h
        split at h
        · cases h
        · cases h; rfl
      · rw [if_neg k6] at h
        rw [if_neg k6]
        unfold sEi at h
        split at h
        · cases h
        · split at h
          · cases h
          · cases h; rfl
theorem sLb_e {t : Int → Int} {L : Int} {D : zDr} {c p : Int} {e : zEr} (h : sTk t L p = .error e) : sLb t L D c p = .error e := by
  have hn : ∀ lo hi, sNum t L p lo hi = .error e := fun lo hi => by unfold sNum; simp only [h]
  have hp : sPr t L p = .error e := sPr_1 (hn 0 4)
  unfold sLb sLc0 sRp sEf sEi
  simp only [hp, hn]
  split
  · rfl
  · split
    · rfl
    · split <;> rfl
/-- a line by its name, where nothing bars it -/
theorem sLn0_b {t : Int → Int} {L : Int} {D : zDr} {c fn p : Int} (h0 : c ≠ -4) (h1 : c < 4 → D.1.1 < 5) (h2 : c = 5 → dR D < 6) (h3 : c = 6 → D.2.2.1 = 0) (h4 : c ≤ 6) : sLn0 t L D c fn p = sLb t L D c p := by
  unfold sLn0 sLb
  rw [if_neg h0]
  by_cases k4 : c = 4
  · rw [if_pos k4, if_pos k4]
  · rw [if_neg k4, if_neg k4]
    by_cases k5 : c = 5
    · rw [if_pos k5, if_pos k5]
      unfold sLr0 sRp
      rw [if_pos (h2 k5)]
      rfl
    · rw [if_neg k5, if_neg k5]
      by_cases k6 : c = 6
      · rw [if_pos k6, if_pos k6]
        unfold sLf0 sEf
        rw [if_pos (h3 k6)]
        rfl
      · rw [if_neg k6, if_neg k6]
        unfold sLi0 sEi
        rw [if_pos (h1 (by omega))]
        rfl
theorem sLn0_5 {t : Int → Int} {L : Int} {D : zDr} {c fn p : Int} (h : (0 ≤ c ∧ c < 4 ∧ 5 ≤ D.1.1) ∨ (c = 5 ∧ 6 ≤ dR D)) : sLn0 t L D c fn p = .error (5, fn) := by
  unfold sLn0
  rw [if_neg (by omega), if_neg (by omega)]
  by_cases k5 : c = 5
  · rw [if_pos k5]; unfold sLr0; rw [if_neg (by omega)]
  · rw [if_neg k5, if_neg (by omega)]; unfold sLi0; rw [if_neg (by omega)]
theorem sLn0_4 {t : Int → Int} {L : Int} {D : zDr} {fn p : Int} (h : D.2.2.1 ≠ 0) : sLn0 t L D 6 fn p = .error (4, fn) := by
  unfold sLn0
  rw [if_neg (by decide), if_neg (by decide), if_neg (by decide), if_pos rfl]; unfold sLf0; rw [if_neg h]
/-- what a whole line leaves -/
def zPL2 (t : Int → Int) (L : Int) (x : Except zEr (zDr × Int)) (m : zM) : Option zV → zM → Prop := fun r m' => r = none ∧ kD m m' ∧ match x with
  | .error e => fS m' e
  | .ok b => AH (sTk t L b.2) m' ∧ DR m' b.1 ∧ m' 65 6 = b.1.2.2.1
theorem zPL2.e {t : Int → Int} {L : Int} {x : Except zEr (zDr × Int)} {m m' : zM} {e : zEr} (h : x = .error e) (hk : kD m m') (hf : fS m' e) : zPL2 t L x m none m' := by subst h; exact ⟨rfl, hk, hf⟩
theorem zPL2.k {t : Int → Int} {L : Int} {x : Except zEr (zDr × Int)} {m m' : zM} {b : zDr × Int} (h : x = .ok b) (hk : kD m m') (h1 : AH (sTk t L b.2) m') (h2 : DR m' b.1) (h3 : m' 65 6 = b.1.2.2.1) : zPL2 t L x m none m' := by subst h; exact ⟨rfl, hk, h1, h2, h3⟩
section
variable {l : Launch} {G : zG} {mem : zM} {t : Int → Int} {L : Int} {D : zDr}
set_option maxRecDepth 100000 in
theorem c_readLine {a : zTk} (hE : TP t L mem) (q0 : 0 ≤ a.2.1) (q1 : a.2.1 ≤ a.2.2.1) (q2 : a.2.2.1 ≤ L) (h : AH (.ok a) mem) (hD : DR mem D) (hI : DI D) (h6 : mem 65 6 = D.2.2.1) : KX6_readLine l G 6 [zR 65] mem (zPL2 t L (sLn t L D (if a.1 = 1 then sNm t a.2.1 a.2.2.1 else -4) a.2.1 a.2.2.1) mem) := by
  obtain ⟨z15, z11, z12, z13, -⟩ := h
  have n5 := hI.2.1
  have r0 := hI.2.2.1
  have r6 := hI.2.2.2.1
  have hfe := hI.2.2.2.2.2.2.2.2.2.2.1
  have e5 := hD.1
  have e53 := hD.2.2.2.1
  generalize hx : sLn t L D (if a.1 = 1 then sNm t a.2.1 a.2.2.1 else -4) a.2.1 a.2.2.1 = X
  refine CT.of' (own := RX6) (ls0 := [zR 65, zU]) rfl (by decide +kernel) (Nat.le_of_ble_eq_true rfl) rfl ?_
  have T105 : ∀ (e : zEr) (c : Int) (m : zM), X = .error e → kD mem m → fS m e → SW l G (zrm 6) RX6 cX6_readLine 2 none (zZ G (zPL2 t L X mem)) 0 0 (fun _ => True) 105 [zR 65, zI c] [] m := by
    intro e c m hs hk hf
    have f1 := hf.1
    have f3 := hf.2.2
    refine r_aload_n dX6_readLine_105 rfl ?_
    refine r_aload_n dX6_readLine_106 rfl ?_
    refine r_gI (q := 6) rfl fX6_54 rfl (by decide) dX6_readLine_107 ?_
    try simp (disch := omega) only [zs_n, zs_v, zs_k]
    refine r_if_ne (tgt := 119) dX6_readLine_110 (by decide) (fun h110 => ?_) (fun h110 => ?_)
    · refine r_iconst dX6_readLine_119 (k := ?_)
      refine r_goto (tgt := 124) dX6_readLine_120 (by decide) ?_
      refine r_pZ (q := 6) rfl pX6_54 rfl (by decide) dX6_readLine_124 ?_
      refine r_aload_n dX6_readLine_127 rfl ?_
      refine r_w0 (c_takes_f (by simp (disch := omega) only [zs_n, zs_v, zs_k]; omega)) kX6_122 rfl dX6_readLine_128 ?_
      try simp (disch := omega) only [zs_n, zs_v, zs_k]
      refine r_aload_n dX6_readLine_131 rfl ?_
      refine r_gI (q := 15) rfl fX6_76 rfl (by decide) dX6_readLine_132 ?_
      try simp (disch := omega) only [zs_n, zs_v, zs_k]
      refine r_if_le (tgt := 139) dX6_readLine_135 (by decide) (fun h135 => ?_) (fun h135 => ?_)
      · exfalso; omega
      · refine r_vret dX6_readLine_138 ?_
        exact zPL2.e hs (by repeat first | assumption | exact kD.rf | refine kD.s ?_ (by decide) | refine kD.z ?_) (by repeat first | assumption | refine fS.n ?_ (by first | decide | exact Or.inl (by decide)))
    · refine r_iload_n dX6_readLine_113 rfl ?_
      refine r_bipush dX6_readLine_114 (k := ?_)
      refine r_icmp_ne (tgt := 123) dX6_readLine_116 (by decide) (fun h116 => ?_) (fun h116 => ?_)
      · refine r_iconst dX6_readLine_123 (k := ?_)
        refine r_pZ (q := 6) rfl pX6_54 rfl (by decide) dX6_readLine_124 ?_
        refine r_aload_n dX6_readLine_127 rfl ?_
        refine r_w0 (c_takes_f (by simp (disch := omega) only [zs_n, zs_v, zs_k]; omega)) kX6_122 rfl dX6_readLine_128 ?_
        try simp (disch := omega) only [zs_n, zs_v, zs_k]
        refine r_aload_n dX6_readLine_131 rfl ?_
        refine r_gI (q := 15) rfl fX6_76 rfl (by decide) dX6_readLine_132 ?_
        try simp (disch := omega) only [zs_n, zs_v, zs_k]
        refine r_if_le (tgt := 139) dX6_readLine_135 (by decide) (fun h135 => ?_) (fun h135 => ?_)
        · exfalso; omega
        · refine r_vret dX6_readLine_138 ?_
          exact zPL2.e hs (by repeat first | assumption | exact kD.rf | refine kD.s ?_ (by decide) | refine kD.z ?_) (by repeat first | assumption | refine fS.n ?_ (by first | decide | exact Or.inl (by decide)))
      · refine r_iconst dX6_readLine_119 (k := ?_)
        refine r_goto (tgt := 124) dX6_readLine_120 (by decide) ?_
        refine r_pZ (q := 6) rfl pX6_54 rfl (by decide) dX6_readLine_124 ?_
        refine r_aload_n dX6_readLine_127 rfl ?_
        refine r_w0 (c_takes_f (by simp (disch := omega) only [zs_n, zs_v, zs_k]; omega)) kX6_122 rfl dX6_readLine_128 ?_
        try simp (disch := omega) only [zs_n, zs_v, zs_k]
        refine r_aload_n dX6_readLine_131 rfl ?_
        refine r_gI (q := 15) rfl fX6_76 rfl (by decide) dX6_readLine_132 ?_
        try simp (disch := omega) only [zs_n, zs_v, zs_k]
        refine r_if_le (tgt := 139) dX6_readLine_135 (by decide) (fun h135 => ?_) (fun h135 => ?_)
        · exfalso; omega
        · refine r_vret dX6_readLine_138 ?_
          exact zPL2.e hs (by repeat first | assumption | exact kD.rf | refine kD.s ?_ (by decide) | refine kD.z ?_) (by repeat first | assumption | refine fS.n ?_ (by first | decide | exact Or.inl (by decide)))
  have T82 : ∀ (e : zEr) (c : Int) (m : zM), X = .error e → kD mem m → fS m e → SW l G (zrm 6) RX6 cX6_readLine 2 none (zZ G (zPL2 t L X mem)) 0 0 (fun _ => True) 82 [zR 65, zI c] [] m := by
    intro e c m hs hk hf
    have f1 := hf.1
    have f3 := hf.2.2
    refine r_aload_n dX6_readLine_82 rfl ?_
    refine r_iload_n dX6_readLine_83 rfl ?_
    refine r_bipush dX6_readLine_84 (k := ?_)
    refine r_icmp_ne (tgt := 96) dX6_readLine_86 (by decide) (fun h86 => ?_) (fun h86 => ?_)
    · refine r_iconst dX6_readLine_96 (k := ?_)
      refine r_goto (tgt := 101) dX6_readLine_97 (by decide) ?_
      refine r_iconst dX6_readLine_101 (k := ?_)
      refine r_w2 (c_needs_f _ _ (by omega)) kX6_114 rfl dX6_readLine_102 ?_
      try simp (disch := omega) only [zs_n, zs_v, zs_k]
      exact T105 e c m hs hk hf
    · refine r_aload_n dX6_readLine_89 rfl ?_
      refine r_gI (q := 6) rfl fX6_54 rfl (by decide) dX6_readLine_90 ?_
      try simp (disch := omega) only [zs_n, zs_v, zs_k]
      refine r_if_ne (tgt := 100) dX6_readLine_93 (by decide) (fun h93 => ?_) (fun h93 => ?_)
      · refine r_iconst dX6_readLine_100 (k := ?_)
        refine r_iconst dX6_readLine_101 (k := ?_)
        refine r_w2 (c_needs_f _ _ (by omega)) kX6_114 rfl dX6_readLine_102 ?_
        try simp (disch := omega) only [zs_n, zs_v, zs_k]
        exact T105 e c m hs hk hf
      · refine r_iconst dX6_readLine_96 (k := ?_)
        refine r_goto (tgt := 101) dX6_readLine_97 (by decide) ?_
        refine r_iconst dX6_readLine_101 (k := ?_)
        refine r_w2 (c_needs_f _ _ (by omega)) kX6_114 rfl dX6_readLine_102 ?_
        try simp (disch := omega) only [zs_n, zs_v, zs_k]
        exact T105 e c m hs hk hf
  have T34 : ∀ (e : zEr) (c : Int) (m : zM), X = .error e → kD mem m → fS m e → SW l G (zrm 6) RX6 cX6_readLine 2 none (zZ G (zPL2 t L X mem)) 0 0 (fun _ => True) 34 [zR 65, zI c] [] m := by
    intro e c m hs hk hf
    have f1 := hf.1
    have f3 := hf.2.2
    refine r_aload_n dX6_readLine_34 rfl ?_
    refine r_iload_n dX6_readLine_35 rfl ?_
    refine r_iconst dX6_readLine_36 (k := ?_)
    refine r_icmp_ge (tgt := 56) dX6_readLine_37 (by decide) (fun h37 => ?_) (fun h37 => ?_)
    · refine r_iload_n dX6_readLine_56 rfl ?_
      refine r_iconst dX6_readLine_57 (k := ?_)
      refine r_icmp_ne (tgt := 73) dX6_readLine_58 (by decide) (fun h58 => ?_) (fun h58 => ?_)
      · refine r_iconst dX6_readLine_73 (k := ?_)
        refine r_goto (tgt := 78) dX6_readLine_74 (by decide) ?_
        refine r_iconst dX6_readLine_78 (k := ?_)
        refine r_w2 (c_needs_f _ _ (by omega)) kX6_114 rfl dX6_readLine_79 ?_
        try simp (disch := omega) only [zs_n, zs_v, zs_k]
        exact T82 e c m hs hk hf
      · refine r_aload_n dX6_readLine_61 rfl ?_
        refine r_getR (q := 69) fX6_20 rfl rfl dX6_readLine_62 ?_
        try simp (disch := omega) only [zs_n, zs_v, zs_k]
        refine r_bipush dX6_readLine_65 (k := ?_)
        refine r_iald rfl (by omega) (by omega) dX6_readLine_67 ?_
        try simp (disch := omega) only [zs_n, zs_v, zs_k]
        refine r_bipush dX6_readLine_68 (k := ?_)
        refine r_icmp_ge (tgt := 77) dX6_readLine_70 (by decide) (fun h70 => ?_) (fun h70 => ?_)
        · refine r_iconst dX6_readLine_77 (k := ?_)
          refine r_iconst dX6_readLine_78 (k := ?_)
          refine r_w2 (c_needs_f _ _ (by omega)) kX6_114 rfl dX6_readLine_79 ?_
          try simp (disch := omega) only [zs_n, zs_v, zs_k]
          exact T82 e c m hs hk hf
        · refine r_iconst dX6_readLine_73 (k := ?_)
          refine r_goto (tgt := 78) dX6_readLine_74 (by decide) ?_
          refine r_iconst dX6_readLine_78 (k := ?_)
          refine r_w2 (c_needs_f _ _ (by omega)) kX6_114 rfl dX6_readLine_79 ?_
          try simp (disch := omega) only [zs_n, zs_v, zs_k]
          exact T82 e c m hs hk hf
    · refine r_aload_n dX6_readLine_40 rfl ?_
      refine r_gI (q := 5) rfl fX6_50 rfl (by decide) dX6_readLine_41 ?_
      try simp (disch := omega) only [zs_n, zs_v, zs_k]
      refine r_iconst dX6_readLine_44 (k := ?_)
      refine r_icmp_ge (tgt := 52) dX6_readLine_45 (by decide) (fun h45 => ?_) (fun h45 => ?_)
      · refine r_iconst dX6_readLine_52 (k := ?_)
        refine r_goto (tgt := 78) dX6_readLine_53 (by decide) ?_
        refine r_iconst dX6_readLine_78 (k := ?_)
        refine r_w2 (c_needs_f _ _ (by omega)) kX6_114 rfl dX6_readLine_79 ?_
        try simp (disch := omega) only [zs_n, zs_v, zs_k]
        exact T82 e c m hs hk hf
      · refine r_iconst dX6_readLine_48 (k := ?_)
        refine r_goto (tgt := 78) dX6_readLine_49 (by decide) ?_
        refine r_iconst dX6_readLine_78 (k := ?_)
        refine r_w2 (c_needs_f _ _ (by omega)) kX6_114 rfl dX6_readLine_79 ?_
        try simp (disch := omega) only [zs_n, zs_v, zs_k]
        exact T82 e c m hs hk hf
  have T169 : ∀ (e : zEr) (c : Int) (m : zM), X = .error e → kD mem m → fS m e → SW l G (zrm 6) RX6 cX6_readLine 2 none (zZ G (zPL2 t L X mem)) 0 0 (fun _ => True) 169 [zR 65, zI c] [] m := by
    intro e c m hs hk hf
    have f1 := hf.1
    have f3 := hf.2.2
    refine r_aload_n dX6_readLine_169 rfl ?_
    refine r_w0 (c_takes_f (by omega)) kX6_122 rfl dX6_readLine_170 ?_
    try simp (disch := omega) only [zs_n, zs_v, zs_k]
    refine r_vret dX6_readLine_173 ?_
    exact zPL2.e hs hk hf
  have G127 : ∀ (c : Int) (m : zM), sLn0 t L D c a.2.1 a.2.2.1 = sLb t L D c a.2.2.1 → X = sLn t L D c a.2.1 a.2.2.1 → 0 ≤ c → c ≤ 6 → (c < 4 → D.1.1 < 5) → (c = 5 → dR D < 6) → kD mem m → DR m D → m 65 15 = 0 → m 65 11 = a.2.2.1 → m 65 6 = (if c = 6 then 1 else D.2.2.1) → SW l G (zrm 6) RX6 cX6_readLine 2 none (zZ G (zPL2 t L X mem)) 0 0 (fun _ => True) 127 [zR 65, zI c] [] m := by
    intro c m hb hX c0 c6 hc1 hc2 hk hDm y15 y11 y6
    have hX : X = sRs t L (sLb t L D c a.2.2.1) := by rw [hX]; unfold sLn; rw [hb]
    refine r_aload_n dX6_readLine_127 rfl ?_
    refine r_wA0 (c_takes' (p := a.2.2.1) (hE.k hk) y15 y11 (by omega) (by omega)) kX6_122 rfl dX6_readLine_128 (fun m8 k8 ah8 => ?_)
    cases hk8 : sTk t L a.2.2.1 with
    | error e =>
      have hs : X = .error e := by rw [hX]; exact sRs_e (sLb_e hk8)
      rw [hk8] at ah8
      have f1 := ah8.1
      have f3 := ah8.2.2
      refine r_aload_n dX6_readLine_131 rfl ?_
      refine r_gI (q := 15) rfl fX6_76 rfl (by decide) dX6_readLine_132 ?_
      refine r_if_le (tgt := 139) dX6_readLine_135 (by decide) (fun h135 => ?_) (fun h135 => ?_)
      · exfalso; omega
      · refine r_vret dX6_readLine_138 ?_
        exact zPL2.e hs (hk.tr k8.d) ah8
    | ok k =>
      have g15 : m8 65 15 = 0 := by rw [hk8] at ah8; exact ah8.1
      refine r_aload_n dX6_readLine_131 rfl ?_
      refine r_gI (q := 15) rfl fX6_76 rfl (by decide) dX6_readLine_132 ?_
      refine r_if_le (tgt := 139) dX6_readLine_135 (by decide) (fun _ => ?_) (fun h135 => absurd h135 (by omega))
      refine r_aload_n dX6_readLine_139 rfl ?_
      refine r_iload_n dX6_readLine_140 rfl ?_
      refine r_wLn1 (c_readLineOf c c0 c6 ((hE.k hk).a k8) (by omega) q2 ah8 (hDm.k k8) hI hc1 hc2) kX6_145 rfl dX6_readLine_141 (fun m9 h9 => ?_)
      obtain ⟨-, k9, h9⟩ := h9
      have kA9 := (hk.tr k8.d).tr k9
      cases hb9 : sLb t L D c a.2.2.1 with
      | error e =>
        have hs : X = .error e := by rw [hX]; exact sRs_e hb9
        rw [hb9] at h9
        have f1 := h9.1
        have f3 := h9.2.2
        refine r_aload_n dX6_readLine_144 rfl ?_
        refine r_gI (q := 15) rfl fX6_76 rfl (by decide) dX6_readLine_145 ?_
        refine r_if_ne (tgt := 169) dX6_readLine_148 (by decide) (fun h148 => ?_) (fun h148 => ?_)
        · exact T169 e c m9 hs kA9 h9
        · exfalso; omega
      | ok b =>
        rw [hb9] at h9
        obtain ⟨ah9, hD9, h69⟩ := h9
        have hfe9 := sLb_fe hb9
        have o6 : m9 65 6 = b.1.2.2.1 := by rw [h69, k8.2 6 (by decide), y6, hfe9]
        have n9 := sLn0_ok q2 hI (hb.trans hb9)
        cases hk9 : sTk t L b.2 with
        | error e =>
          have hs : X = .error e := by rw [hX]; exact sRs_2 hb9 (by unfold sStp; simp only [hk9])
          rw [hk9] at ah9
          have f1 := ah9.1
          have f3 := ah9.2.2
          refine r_aload_n dX6_readLine_144 rfl ?_
          refine r_gI (q := 15) rfl fX6_76 rfl (by decide) dX6_readLine_145 ?_
          refine r_if_ne (tgt := 169) dX6_readLine_148 (by decide) (fun h148 => ?_) (fun h148 => ?_)
          · exact T169 e c m9 hs kA9 ah9
          · exfalso; omega
        | ok k9t =>
          have nk := sTk_ok n9.2.1 hk9
          rw [hk9] at ah9
          obtain ⟨w15, w11, w12, w13, -⟩ := ah9
          by_cases s3 : k9t.1 = 3
          · have hs : X = .ok (b.1, k9t.2.2.1) := by rw [hX]; exact sRs_k hb9 (by unfold sStp; simp only [hk9]; rw [if_pos s3])
            refine r_aload_n dX6_readLine_144 rfl ?_
            refine r_gI (q := 15) rfl fX6_76 rfl (by decide) dX6_readLine_145 ?_
            try simp only [w15, w13, s3]
            refine r_if_ne (tgt := 169) dX6_readLine_148 (by decide) (fun h148 => absurd h148 (by decide)) (fun h148 => ?_)
            refine r_aload_n dX6_readLine_151 rfl ?_
            refine r_aload_n dX6_readLine_152 rfl ?_
            refine r_gI (q := 13) rfl fX6_100 rfl (by decide) dX6_readLine_153 ?_
            try simp only [w15, w13, s3]
            refine r_iconst dX6_readLine_156 (k := ?_)
            refine r_icmp_ne (tgt := 164) dX6_readLine_157 (by decide) (fun h157 => absurd h157 (by decide)) (fun h157 => ?_)
            refine r_iconst dX6_readLine_160 (k := ?_)
            refine r_goto (tgt := 165) dX6_readLine_161 (by decide) ?_
            refine r_iconst dX6_readLine_165 (k := ?_)
            refine r_w2 (c_needs_t _ _ (by decide)) kX6_114 rfl dX6_readLine_166 ?_
            try simp only [w15, w13, s3]
            refine r_aload_n dX6_readLine_169 rfl ?_
            refine r_wA0 (c_takes' (p := k9t.2.2.1) (hE.k kA9) w15 w11 (by omega) (by omega)) kX6_122 rfl dX6_readLine_170 (fun m7 k7 ah7 => ?_)
            refine r_vret dX6_readLine_173 ?_
            exact zPL2.k hs (kA9.tr k7.d) ah7 (hD9.k k7) (by rw [k7.2 6 (by decide)]; exact o6)
          · have hs : X = .error (2, k9t.2.1) := by rw [hX]; exact sRs_2 hb9 (by unfold sStp; simp only [hk9]; rw [if_neg s3])
            refine r_aload_n dX6_readLine_144 rfl ?_
            refine r_gI (q := 15) rfl fX6_76 rfl (by decide) dX6_readLine_145 ?_
            try simp only [w15, w13]
            refine r_if_ne (tgt := 169) dX6_readLine_148 (by decide) (fun h148 => absurd h148 (by decide)) (fun h148 => ?_)
            refine r_aload_n dX6_readLine_151 rfl ?_
            refine r_aload_n dX6_readLine_152 rfl ?_
            refine r_gI (q := 13) rfl fX6_100 rfl (by decide) dX6_readLine_153 ?_
            try simp only [w15, w13]
            refine r_iconst dX6_readLine_156 (k := ?_)
            refine r_icmp_ne (tgt := 164) dX6_readLine_157 (by decide) (fun h157 => ?_) (fun h157 => ?_)
            · refine r_iconst dX6_readLine_164 (k := ?_)
              refine r_iconst dX6_readLine_165 (k := ?_)
              refine r_w2 (c_needs_n _ w15) kX6_114 rfl dX6_readLine_166 ?_
              try simp only [w15, w13]
              exact T169 (2, k9t.2.1) c _ hs ((kA9.s (by decide)).s (by decide)) ⟨by simp (disch := omega) only [zs_n, zs_v, zs_k], by simp (disch := omega) only [zs_n, zs_v, zs_k]; exact w12, (by show (0 : Int) < 2; decide)⟩
            · exfalso; omega
  have go : ∀ (c : Int) (v1 : zV), (c = -4 ∨ (0 ≤ c ∧ c ≤ 6)) → c = (if a.1 = 1 then sNm t a.2.1 a.2.2.1 else -4) → SW l G (zrm 6) RX6 cX6_readLine 2 none (zZ G (zPL2 t L X mem)) 0 0 (fun _ => True) 17 [zR 65, v1] [zI c] mem := by
    intro c v1 hc hce
    rw [← hce] at hx
    by_cases k : c = -4
    · have hs : X = .error (2, a.2.1) := by rw [← hx, k]; rfl
      refine r_istore_n dX6_readLine_17 rfl ?_
      refine r_aload_n dX6_readLine_18 rfl ?_
      refine r_iload_n dX6_readLine_19 rfl ?_
      refine r_bipush dX6_readLine_20 (k := ?_)
      refine r_icmp_eq (tgt := 29) dX6_readLine_22 (by decide) (fun h22 => ?_) (fun h22 => ?_)
      · refine r_iconst dX6_readLine_29 (k := ?_)
        refine r_iconst dX6_readLine_30 (k := ?_)
        refine r_w2 (c_needs_n _ z15) kX6_114 rfl dX6_readLine_31 ?_
        exact T34 (2, a.2.1) c _ hs ((kD.rf.s (by decide)).s (by decide)) ⟨by simp (disch := omega) only [zs_n, zs_v, zs_k], by simp (disch := omega) only [zs_n, zs_v, zs_k]; exact z12, (by show (0 : Int) < 2; decide)⟩
      · exfalso; omega
    have hc : 0 ≤ c ∧ c ≤ 6 := by omega
    by_cases g5 : (0 ≤ c ∧ c < 4 ∧ 5 ≤ D.1.1) ∨ (c = 5 ∧ 6 ≤ dR D)
    · have hs : X = .error (5, a.2.1) := by rw [← hx]; exact sRs_e (sLn0_5 g5)
      refine r_istore_n dX6_readLine_17 rfl ?_
      refine r_aload_n dX6_readLine_18 rfl ?_
      refine r_iload_n dX6_readLine_19 rfl ?_
      refine r_bipush dX6_readLine_20 (k := ?_)
      refine r_icmp_eq (tgt := 29) dX6_readLine_22 (by decide) (fun h22 => ?_) (fun h22 => ?_)
      · exfalso; omega
      · refine r_iconst dX6_readLine_25 (k := ?_)
        refine r_goto (tgt := 30) dX6_readLine_26 (by decide) ?_
        refine r_iconst dX6_readLine_30 (k := ?_)
        refine r_w2 (c_needs_t _ _ (by decide)) kX6_114 rfl dX6_readLine_31 ?_
        try simp only [e5, e53, h6]
        refine r_aload_n dX6_readLine_34 rfl ?_
        refine r_iload_n dX6_readLine_35 rfl ?_
        refine r_iconst dX6_readLine_36 (k := ?_)
        refine r_icmp_ge (tgt := 56) dX6_readLine_37 (by decide) (fun h37 => ?_) (fun h37 => ?_)
        · refine r_iload_n dX6_readLine_56 rfl ?_
          refine r_iconst dX6_readLine_57 (k := ?_)
          refine r_icmp_ne (tgt := 73) dX6_readLine_58 (by decide) (fun h58 => ?_) (fun h58 => ?_)
          · exfalso; omega
          · refine r_aload_n dX6_readLine_61 rfl ?_
            refine r_getR (q := 69) fX6_20 rfl rfl dX6_readLine_62 ?_
            try simp only [e5, e53, h6]
            refine r_bipush dX6_readLine_65 (k := ?_)
            refine r_iald rfl (by omega) (by omega) dX6_readLine_67 ?_
            try simp only [e5, e53, h6]
            refine r_bipush dX6_readLine_68 (k := ?_)
            refine r_icmp_ge (tgt := 77) dX6_readLine_70 (by decide) (fun h70 => ?_) (fun h70 => ?_)
            · refine r_iconst dX6_readLine_77 (k := ?_)
              refine r_iconst dX6_readLine_78 (k := ?_)
              refine r_w2 (c_needs_n _ z15) kX6_114 rfl dX6_readLine_79 ?_
              try simp only [e5, e53, h6]
              exact T82 (5, a.2.1) c _ hs ((kD.rf.s (by decide)).s (by decide)) ⟨by simp (disch := omega) only [zs_n, zs_v, zs_k], by simp (disch := omega) only [zs_n, zs_v, zs_k]; exact z12, (by show (0 : Int) < 5; decide)⟩
            · exfalso; omega
        · refine r_aload_n dX6_readLine_40 rfl ?_
          refine r_gI (q := 5) rfl fX6_50 rfl (by decide) dX6_readLine_41 ?_
          try simp only [e5, e53, h6]
          refine r_iconst dX6_readLine_44 (k := ?_)
          refine r_icmp_ge (tgt := 52) dX6_readLine_45 (by decide) (fun h45 => ?_) (fun h45 => ?_)
          · refine r_iconst dX6_readLine_52 (k := ?_)
            refine r_goto (tgt := 78) dX6_readLine_53 (by decide) ?_
            refine r_iconst dX6_readLine_78 (k := ?_)
            refine r_w2 (c_needs_n _ z15) kX6_114 rfl dX6_readLine_79 ?_
            try simp only [e5, e53, h6]
            exact T82 (5, a.2.1) c _ hs ((kD.rf.s (by decide)).s (by decide)) ⟨by simp (disch := omega) only [zs_n, zs_v, zs_k], by simp (disch := omega) only [zs_n, zs_v, zs_k]; exact z12, (by show (0 : Int) < 5; decide)⟩
          · exfalso; omega
    have G82 : SW l G (zrm 6) RX6 cX6_readLine 2 none (zZ G (zPL2 t L X mem)) 0 0 (fun _ => True) 82 [zR 65, zI c] [] mem := by
      by_cases g6 : c = 6 ∧ D.2.2.1 ≠ 0
      · have hs : X = .error (4, a.2.1) := by rw [← hx, g6.1]; exact sRs_e (sLn0_4 g6.2)
        refine r_aload_n dX6_readLine_82 rfl ?_
        refine r_iload_n dX6_readLine_83 rfl ?_
        refine r_bipush dX6_readLine_84 (k := ?_)
        refine r_icmp_ne (tgt := 96) dX6_readLine_86 (by decide) (fun h86 => ?_) (fun h86 => ?_)
        · exfalso; omega
        · refine r_aload_n dX6_readLine_89 rfl ?_
          refine r_gI (q := 6) rfl fX6_54 rfl (by decide) dX6_readLine_90 ?_
          try simp only [e5, e53, h6]
          refine r_if_ne (tgt := 100) dX6_readLine_93 (by decide) (fun h93 => ?_) (fun h93 => ?_)
          · refine r_iconst dX6_readLine_100 (k := ?_)
            refine r_iconst dX6_readLine_101 (k := ?_)
            refine r_w2 (c_needs_n _ z15) kX6_114 rfl dX6_readLine_102 ?_
            try simp only [e5, e53, h6]
            exact T105 (4, a.2.1) c _ hs ((kD.rf.s (by decide)).s (by decide)) ⟨by simp (disch := omega) only [zs_n, zs_v, zs_k], by simp (disch := omega) only [zs_n, zs_v, zs_k]; exact z12, (by show (0 : Int) < 4; decide)⟩
          · exfalso; omega
      · have hb := sLn0_b (t := t) (L := L) (D := D) (c := c) (fn := a.2.1) (p := a.2.2.1) k (by omega) (by omega) (by omega) hc.2
        refine r_aload_n dX6_readLine_82 rfl ?_
        refine r_iload_n dX6_readLine_83 rfl ?_
        refine r_bipush dX6_readLine_84 (k := ?_)
        refine r_icmp_ne (tgt := 96) dX6_readLine_86 (by decide) (fun h86 => ?_) (fun h86 => ?_)
        · refine r_iconst dX6_readLine_96 (k := ?_)
          refine r_goto (tgt := 101) dX6_readLine_97 (by decide) ?_
          refine r_iconst dX6_readLine_101 (k := ?_)
          refine r_w2 (c_needs_t _ _ (by decide)) kX6_114 rfl dX6_readLine_102 ?_
          try simp only [e5, e53, h6]
          refine r_aload_n dX6_readLine_105 rfl ?_
          refine r_aload_n dX6_readLine_106 rfl ?_
          refine r_gI (q := 6) rfl fX6_54 rfl (by decide) dX6_readLine_107 ?_
          try simp only [e5, e53, h6]
          refine r_if_ne (tgt := 119) dX6_readLine_110 (by decide) (fun h110 => ?_) (fun h110 => ?_)
          · refine r_iconst dX6_readLine_119 (k := ?_)
            refine r_goto (tgt := 124) dX6_readLine_120 (by decide) ?_
            refine r_pZ (q := 6) rfl pX6_54 rfl (by decide) dX6_readLine_124 ?_
            refine G127 c _ hb hx.symm hc.1 hc.2 (by omega) (by omega) (kD.rf.s (by decide)) ?_ (by simp (disch := omega) only [zs_n, zs_v, zs_k]; exact z15) (by simp (disch := omega) only [zs_n, zs_v, zs_k]; exact z11) ?_
            · unfold DR; simp (disch := omega) only [zs_n, zs_v, zs_k]; exact hD
            · rw [zs_v]; by_cases q : c = 6
              · rw [if_pos q] <;> (exfalso; omega)
              · rw [if_neg q]; first | omega | (rcases hfe with w | w <;> omega)
          · refine r_iload_n dX6_readLine_113 rfl ?_
            refine r_bipush dX6_readLine_114 (k := ?_)
            refine r_icmp_ne (tgt := 123) dX6_readLine_116 (by decide) (fun h116 => ?_) (fun h116 => ?_)
            · refine r_iconst dX6_readLine_123 (k := ?_)
              refine r_pZ (q := 6) rfl pX6_54 rfl (by decide) dX6_readLine_124 ?_
              refine G127 c _ hb hx.symm hc.1 hc.2 (by omega) (by omega) (kD.rf.s (by decide)) ?_ (by simp (disch := omega) only [zs_n, zs_v, zs_k]; exact z15) (by simp (disch := omega) only [zs_n, zs_v, zs_k]; exact z11) ?_
              · unfold DR; simp (disch := omega) only [zs_n, zs_v, zs_k]; exact hD
              · rw [zs_v]; by_cases q : c = 6
                · rw [if_pos q] <;> (exfalso; omega)
                · rw [if_neg q]; first | omega | (rcases hfe with w | w <;> omega)
            · refine r_iconst dX6_readLine_119 (k := ?_)
              refine r_goto (tgt := 124) dX6_readLine_120 (by decide) ?_
              refine r_pZ (q := 6) rfl pX6_54 rfl (by decide) dX6_readLine_124 ?_
              refine G127 c _ hb hx.symm hc.1 hc.2 (by omega) (by omega) (kD.rf.s (by decide)) ?_ (by simp (disch := omega) only [zs_n, zs_v, zs_k]; exact z15) (by simp (disch := omega) only [zs_n, zs_v, zs_k]; exact z11) ?_
              · unfold DR; simp (disch := omega) only [zs_n, zs_v, zs_k]; exact hD
              · rw [zs_v]; by_cases q : c = 6
                · rw [if_pos q] <;> (exfalso; omega)
                · rw [if_neg q]; first | omega | (rcases hfe with w | w <;> omega)
        · refine r_aload_n dX6_readLine_89 rfl ?_
          refine r_gI (q := 6) rfl fX6_54 rfl (by decide) dX6_readLine_90 ?_
          try simp only [e5, e53, h6]
          refine r_if_ne (tgt := 100) dX6_readLine_93 (by decide) (fun h93 => ?_) (fun h93 => ?_)
          · exfalso; omega
          · refine r_iconst dX6_readLine_96 (k := ?_)
            refine r_goto (tgt := 101) dX6_readLine_97 (by decide) ?_
            refine r_iconst dX6_readLine_101 (k := ?_)
            refine r_w2 (c_needs_t _ _ (by decide)) kX6_114 rfl dX6_readLine_102 ?_
            try simp only [e5, e53, h6]
            refine r_aload_n dX6_readLine_105 rfl ?_
            refine r_aload_n dX6_readLine_106 rfl ?_
            refine r_gI (q := 6) rfl fX6_54 rfl (by decide) dX6_readLine_107 ?_
            try simp only [e5, e53, h6]
            refine r_if_ne (tgt := 119) dX6_readLine_110 (by decide) (fun h110 => ?_) (fun h110 => ?_)
            · refine r_iconst dX6_readLine_119 (k := ?_)
              refine r_goto (tgt := 124) dX6_readLine_120 (by decide) ?_
              refine r_pZ (q := 6) rfl pX6_54 rfl (by decide) dX6_readLine_124 ?_
              refine G127 c _ hb hx.symm hc.1 hc.2 (by omega) (by omega) (kD.rf.s (by decide)) ?_ (by simp (disch := omega) only [zs_n, zs_v, zs_k]; exact z15) (by simp (disch := omega) only [zs_n, zs_v, zs_k]; exact z11) ?_
              · unfold DR; simp (disch := omega) only [zs_n, zs_v, zs_k]; exact hD
              · rw [zs_v]; by_cases q : c = 6
                · rw [if_pos q] <;> (exfalso; omega)
                · rw [if_neg q]; first | omega | (rcases hfe with w | w <;> omega)
            · refine r_iload_n dX6_readLine_113 rfl ?_
              refine r_bipush dX6_readLine_114 (k := ?_)
              refine r_icmp_ne (tgt := 123) dX6_readLine_116 (by decide) (fun h116 => ?_) (fun h116 => ?_)
              · refine r_iconst dX6_readLine_123 (k := ?_)
                refine r_pZ (q := 6) rfl pX6_54 rfl (by decide) dX6_readLine_124 ?_
                refine G127 c _ hb hx.symm hc.1 hc.2 (by omega) (by omega) (kD.rf.s (by decide)) ?_ (by simp (disch := omega) only [zs_n, zs_v, zs_k]; exact z15) (by simp (disch := omega) only [zs_n, zs_v, zs_k]; exact z11) ?_
                · unfold DR; simp (disch := omega) only [zs_n, zs_v, zs_k]; exact hD
                · rw [zs_v]; by_cases q : c = 6
                  · rw [if_pos q] <;> (exfalso; omega)
                  · rw [if_neg q]; first | omega | (rcases hfe with w | w <;> omega)
              · refine r_iconst dX6_readLine_119 (k := ?_)
                refine r_goto (tgt := 124) dX6_readLine_120 (by decide) ?_
                refine r_pZ (q := 6) rfl pX6_54 rfl (by decide) dX6_readLine_124 ?_
                refine G127 c _ hb hx.symm hc.1 hc.2 (by omega) (by omega) (kD.rf.s (by decide)) ?_ (by simp (disch := omega) only [zs_n, zs_v, zs_k]; exact z15) (by simp (disch := omega) only [zs_n, zs_v, zs_k]; exact z11) ?_
                · unfold DR; simp (disch := omega) only [zs_n, zs_v, zs_k]; exact hD
                · rw [zs_v]; by_cases q : c = 6
                  · rw [if_pos q] <;> (exfalso; omega)
                  · rw [if_neg q]; first | omega | (rcases hfe with w | w <;> omega)
    refine r_istore_n dX6_readLine_17 rfl ?_
    refine r_aload_n dX6_readLine_18 rfl ?_
    refine r_iload_n dX6_readLine_19 rfl ?_
    refine r_bipush dX6_readLine_20 (k := ?_)
    refine r_icmp_eq (tgt := 29) dX6_readLine_22 (by decide) (fun h22 => ?_) (fun h22 => ?_)
    · exfalso; omega
    · refine r_iconst dX6_readLine_25 (k := ?_)
      refine r_goto (tgt := 30) dX6_readLine_26 (by decide) ?_
      refine r_iconst dX6_readLine_30 (k := ?_)
      refine r_w2 (c_needs_t _ _ (by decide)) kX6_114 rfl dX6_readLine_31 ?_
      try simp only [e5, e53, h6]
      refine r_aload_n dX6_readLine_34 rfl ?_
      refine r_iload_n dX6_readLine_35 rfl ?_
      refine r_iconst dX6_readLine_36 (k := ?_)
      refine r_icmp_ge (tgt := 56) dX6_readLine_37 (by decide) (fun h37 => ?_) (fun h37 => ?_)
      · refine r_iload_n dX6_readLine_56 rfl ?_
        refine r_iconst dX6_readLine_57 (k := ?_)
        refine r_icmp_ne (tgt := 73) dX6_readLine_58 (by decide) (fun h58 => ?_) (fun h58 => ?_)
        · refine r_iconst dX6_readLine_73 (k := ?_)
          refine r_goto (tgt := 78) dX6_readLine_74 (by decide) ?_
          refine r_iconst dX6_readLine_78 (k := ?_)
          refine r_w2 (c_needs_t _ _ (by decide)) kX6_114 rfl dX6_readLine_79 ?_
          try simp only [e5, e53, h6]
          exact G82
        · refine r_aload_n dX6_readLine_61 rfl ?_
          refine r_getR (q := 69) fX6_20 rfl rfl dX6_readLine_62 ?_
          try simp only [e5, e53, h6]
          refine r_bipush dX6_readLine_65 (k := ?_)
          refine r_iald rfl (by omega) (by omega) dX6_readLine_67 ?_
          try simp only [e5, e53, h6]
          refine r_bipush dX6_readLine_68 (k := ?_)
          refine r_icmp_ge (tgt := 77) dX6_readLine_70 (by decide) (fun h70 => ?_) (fun h70 => ?_)
          · exfalso; omega
          · refine r_iconst dX6_readLine_73 (k := ?_)
            refine r_goto (tgt := 78) dX6_readLine_74 (by decide) ?_
            refine r_iconst dX6_readLine_78 (k := ?_)
            refine r_w2 (c_needs_t _ _ (by decide)) kX6_114 rfl dX6_readLine_79 ?_
            try simp only [e5, e53, h6]
            exact G82
      · refine r_aload_n dX6_readLine_40 rfl ?_
        refine r_gI (q := 5) rfl fX6_50 rfl (by decide) dX6_readLine_41 ?_
        try simp only [e5, e53, h6]
        refine r_iconst dX6_readLine_44 (k := ?_)
        refine r_icmp_ge (tgt := 52) dX6_readLine_45 (by decide) (fun h45 => ?_) (fun h45 => ?_)
        · exfalso; omega
        · refine r_iconst dX6_readLine_48 (k := ?_)
          refine r_goto (tgt := 78) dX6_readLine_49 (by decide) ?_
          refine r_iconst dX6_readLine_78 (k := ?_)
          refine r_w2 (c_needs_t _ _ (by decide)) kX6_114 rfl dX6_readLine_79 ?_
          try simp only [e5, e53, h6]
          exact G82
  by_cases c1 : a.1 = 1
  · have fin := go (sNm t a.2.1 a.2.2.1) zU sNm_b (by rw [if_pos c1])
    refine r_aload_n dX6_readLine_0 rfl ?_
    refine r_gI (q := 13) rfl fX6_100 rfl (by decide) dX6_readLine_1 ?_
    refine r_iconst dX6_readLine_4 (k := ?_)
    refine r_icmp_ne (tgt := 15) dX6_readLine_5 (by decide) (fun h5 => ?_) (fun h5 => ?_)
    · exfalso; omega
    · refine r_aload_n dX6_readLine_8 rfl ?_
      refine r_v0 (c_lineNow (f := a.2.1) (q := a.2.2.1) hE z11 z12 q0 q1 q2) kX6_141 rfl dX6_readLine_9 ?_
      refine r_goto (tgt := 17) dX6_readLine_12 (by decide) ?_
      exact fin
  · have fin := go (-4) zU (Or.inl rfl) (by rw [if_neg c1])
    refine r_aload_n dX6_readLine_0 rfl ?_
    refine r_gI (q := 13) rfl fX6_100 rfl (by decide) dX6_readLine_1 ?_
    refine r_iconst dX6_readLine_4 (k := ?_)
    refine r_icmp_ne (tgt := 15) dX6_readLine_5 (by decide) (fun h5 => ?_) (fun h5 => ?_)
    · refine r_bipush dX6_readLine_15 (k := ?_)
      exact fin
    · exfalso; omega
end
