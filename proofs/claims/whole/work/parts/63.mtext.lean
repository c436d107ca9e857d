/-! ===== the reference: the text ===== -/
def zFD (m : zM) : zM := zs (zs (zs (zs (zr m 69 (zfil (m 69) 0 76)) 65 5 0) 65 6 0) 65 7 0) 65 8 (-4)
def zKD (m : zM) : zM := zs (zs (zs (zr m 66 (zcp (m 69) (m 66) 0 0 76)) 65 3 (m 65 5)) 68 0 0) 68 1 0
section
variable {l : Launch} {G : zG} {mem : zM}
set_option maxRecDepth 100000 in
theorem c_firstDraft : KX6_firstDraft l G 0 [zR 65] mem (zP0 (zFD mem)) := by
  refine CT.of' (own := RX6) (ls0 := [zR 65, zU]) rfl (by decide +kernel) (Nat.le_of_ble_eq_true rfl) rfl ?_
  have loop : ∀ (q : Nat) (x : Int), 0 ≤ x → x + q = 76 → SW l G (zrm 0) RX6 cX6_firstDraft 2 none (zZ G (zP0 (zFD mem))) 0 0 (fun _ => True) 2 [zR 65, zI x] [] (zr mem 69 (zfil (mem 69) 0 x)) := by
    intro q
    induction q with
    | zero =>
      intro x h0 h1
      obtain rfl : x = 76 := by omega
      refine r_iload_n dX6_firstDraft_2 rfl ?_
      refine r_bipush dX6_firstDraft_3 (k := ?_)
      refine r_icmp_ge (tgt := 21) dX6_firstDraft_5 (by decide) (fun h5 => ?_) (fun h5 => ?_)
      · refine r_aload_n dX6_firstDraft_21 rfl ?_
        refine r_iconst dX6_firstDraft_22 (k := ?_)
        refine r_pI (q := 5) rfl pX6_50 rfl dX6_firstDraft_23 ?_
        refine r_aload_n dX6_firstDraft_26 rfl ?_
        refine r_iconst dX6_firstDraft_27 (k := ?_)
        refine r_pZ (q := 6) rfl pX6_54 rfl (by decide) dX6_firstDraft_28 ?_
        refine r_aload_n dX6_firstDraft_31 rfl ?_
        refine r_iconst dX6_firstDraft_32 (k := ?_)
        refine r_pI (q := 7) rfl pX6_58 rfl dX6_firstDraft_33 ?_
        refine r_aload_n dX6_firstDraft_36 rfl ?_
        refine r_bipush dX6_firstDraft_37 (k := ?_)
        refine r_pI (q := 8) rfl pX6_61 rfl dX6_firstDraft_39 ?_
        refine r_vret dX6_firstDraft_42 ?_
        exact zP0.i
      · exfalso; omega
    | succ q ih =>
      intro x h0 h1
      refine r_iload_n dX6_firstDraft_2 rfl ?_
      refine r_bipush dX6_firstDraft_3 (k := ?_)
      refine r_icmp_ge (tgt := 21) dX6_firstDraft_5 (by decide) (fun h5 => ?_) (fun h5 => ?_)
      · exfalso; omega
      · refine r_aload_n dX6_firstDraft_8 rfl ?_
        refine r_getR (q := 69) fX6_20 rfl rfl dX6_firstDraft_9 ?_
        refine r_iload_n dX6_firstDraft_12 rfl ?_
        refine r_iconst dX6_firstDraft_13 (k := ?_)
        refine r_iast rfl (by omega) (by omega) dX6_firstDraft_14 ?_
        refine r_iinc dX6_firstDraft_15 rfl rfl ?_
        try rw [zw_id (by omega) (by omega)]
        refine r_goto (tgt := 2) dX6_firstDraft_18 (by decide) ?_
        rw [zs_zr, zfil_s h0]
        exact ih _ (by omega) (by omega)
  have fin := loop 76 0 (by omega) (by omega)
  rw [zfil_0, zr_id rfl] at fin
  refine r_iconst dX6_firstDraft_0 (k := ?_)
  refine r_istore_n dX6_firstDraft_1 rfl ?_
  exact fin
set_option maxRecDepth 100000 in
theorem c_keepDraft : KX6_keepDraft l G 0 [zR 65] mem (zP0 (zKD mem)) := by
  refine CT.of' (own := RX6) (ls0 := [zR 65, zU]) rfl (by decide +kernel) (Nat.le_of_ble_eq_true rfl) rfl ?_
  have loop : ∀ (q : Nat) (x : Int), 0 ≤ x → x + q = 76 → SW l G (zrm 0) RX6 cX6_keepDraft 2 none (zZ G (zP0 (zKD mem))) 0 0 (fun _ => True) 2 [zR 65, zI x] [] (zr mem 66 (zcp (mem 69) (mem 66) 0 0 x)) := by
    intro q
    induction q with
    | zero =>
      intro x h0 h1
      obtain rfl : x = 76 := by omega
      refine r_iload_n dX6_keepDraft_2 rfl ?_
      refine r_bipush dX6_keepDraft_3 (k := ?_)
      refine r_icmp_ge (tgt := 26) dX6_keepDraft_5 (by decide) (fun h5 => ?_) (fun h5 => ?_)
      · refine r_aload_n dX6_keepDraft_26 rfl ?_
        refine r_aload_n dX6_keepDraft_27 rfl ?_
        refine r_gI (q := 5) rfl fX6_50 rfl (by decide) dX6_keepDraft_28 ?_
        try simp (disch := decide) only [zr_n]
        refine r_pI (q := 3) rfl pX6_64 rfl dX6_keepDraft_31 ?_
        refine r_aload_n dX6_keepDraft_34 rfl ?_
        refine r_getR (q := 68) fX6_16 rfl rfl dX6_keepDraft_35 ?_
        try simp (disch := decide) only [zr_n]
        refine r_iconst dX6_keepDraft_38 (k := ?_)
        refine r_iconst dX6_keepDraft_39 (k := ?_)
        refine r_zast rfl (by omega) (by omega) (by decide) dX6_keepDraft_40 ?_
        refine r_aload_n dX6_keepDraft_41 rfl ?_
        refine r_getR (q := 68) fX6_16 rfl rfl dX6_keepDraft_42 ?_
        try simp (disch := decide) only [zr_n]
        refine r_iconst dX6_keepDraft_45 (k := ?_)
        refine r_iconst dX6_keepDraft_46 (k := ?_)
        refine r_zast rfl (by omega) (by omega) (by decide) dX6_keepDraft_47 ?_
        refine r_vret dX6_keepDraft_48 ?_
        exact zP0.i
      · exfalso; omega
    | succ q ih =>
      intro x h0 h1
      refine r_iload_n dX6_keepDraft_2 rfl ?_
      refine r_bipush dX6_keepDraft_3 (k := ?_)
      refine r_icmp_ge (tgt := 26) dX6_keepDraft_5 (by decide) (fun h5 => ?_) (fun h5 => ?_)
      · exfalso; omega
      · refine r_aload_n dX6_keepDraft_8 rfl ?_
        refine r_getR (q := 66) fX6_7 rfl rfl dX6_keepDraft_9 ?_
        try simp (disch := decide) only [zr_n]
        refine r_iload_n dX6_keepDraft_12 rfl ?_
        refine r_aload_n dX6_keepDraft_13 rfl ?_
        refine r_getR (q := 69) fX6_20 rfl rfl dX6_keepDraft_14 ?_
        try simp (disch := decide) only [zr_n]
        refine r_iload_n dX6_keepDraft_17 rfl ?_
        refine r_iald rfl (by omega) (by omega) dX6_keepDraft_18 ?_
        try simp (disch := decide) only [zr_n]
        refine r_iast rfl (by omega) (by omega) dX6_keepDraft_19 ?_
        refine r_iinc dX6_keepDraft_20 rfl rfl ?_
        try rw [zw_id (by omega) (by omega)]
        refine r_goto (tgt := 2) dX6_keepDraft_23 (by decide) ?_
        rw [zs_zr, zcp_s h0]
        exact ih _ (by omega) (by omega)
  have fin := loop 76 0 (by omega) (by omega)
  rw [zcp_0, zr_id rfl] at fin
  refine r_iconst dX6_keepDraft_0 (k := ?_)
  refine r_istore_n dX6_keepDraft_1 rfl ?_
  exact fin
section
variable {R : Room} {own : String} {cc : ByteArray} {nL : Nat} {ret : Option FieldType} {Z : List Frame → Array Value → State → State → Prop} {kc ks : Nat} {Ex : State → Prop} {pc : Nat} {ls st : List zV}
variable {y : MethodName} {bytes : ByteArray} {nL' : Nat} {ret' : Option FieldType} {d index b ci : Nat}
theorem r_wL2 {t : Int → Int} {L : Int} {x : Except zEr (zDr × Int)} (hM : CT l G y bytes nL' ret' d [zR b] mem (zPL2 t L x mem)) (hk : zCl own index y bytes nL' ret' 0 ci) (hL9 : zL b = (ci, zNf ci)) (hd : decode cc pc = .ok (.invokevirtual index, 3)) (kk : ∀ m9, zPL2 t L x mem none m9 → SW l G R own cc nL ret Z kc ks Ex (pc + 3) ls st m9) (hR : d + 1 ≤ R.frames ∧ 8 + (nL' + 11) + 100 * d ≤ R.locals := by exact ⟨Nat.le_of_ble_eq_true rfl, Nat.le_of_ble_eq_true rfl⟩) (hw : zwd st ≤ 8 := by exact Nat.le_of_ble_eq_true rfl) : SW l G R own cc nL ret Z kc ks Ex pc ls (zR b :: st) mem := by
  obtain ⟨h1, h2, h3, T, N, h4⟩ := hk
  exact r_callV hM h1 h2 hL9 h3 h4 rfl rfl hR hw hd (fun r m9 h9 => by have h8 := h9; obtain ⟨rfl, -⟩ := h8; exact kk m9 h9)
end
/-- what text() leaves and answers, the reference's -/
def zPTm (x : Except zEr (zDr × Int)) (m : zM) : Option zV → zM → Prop := fun r m' => ∃ m1, kD m m1 ∧ match x with
  | .error e => m1 65 15 = e.1 ∧ m' = zs m1 65 10 0 ∧ r = some (zI (zw (-10 - e.2)))
  | .ok b => DR m1 b.1 ∧ m1 65 15 = 0 ∧ m' = zKD (zs m1 65 10 0) ∧ r = some (zI b.2)
theorem zPTm.e {x : Except zEr (zDr × Int)} {m m1 : zM} {e : zEr} {v : Int} (h : x = .error e) (hk : kD m m1) (h4 : m1 65 15 = e.1) (hv : v = zw (-10 - e.2)) : zPTm x m (some (zI v)) (zs m1 65 10 0) := by
  subst h hv
  exact ⟨m1, hk, h4, rfl, rfl⟩
theorem zPTm.k {x : Except zEr (zDr × Int)} {m m1 : zM} {b : zDr × Int} {v : Int} (h : x = .ok b) (hk : kD m m1) (hq : DR m1 b.1) (h0 : m1 65 15 = 0) (hv : v = b.2) : zPTm x m (some (zI v)) (zKD (zs m1 65 10 0)) := by
  subst h hv
  exact ⟨m1, hk, hq, h0, rfl, rfl⟩
theorem zFD_k {m : zM} : kD m (zFD m) := by
  unfold zFD
  refine (((((?_ : kD m (zr m 69 _)).s (by decide)).s (by decide)).s (by decide)).s (by decide))
  exact ⟨fun o x y => zr_n y, fun j x y => by rw [zr_n (by decide)]⟩
theorem zFD_D {m : zM} {D : zDr} (n0 : D.1.1 = 0) (r0 : dR D = 0) (g0 : ∀ k, 0 ≤ k → k < 25 → D.1.2.2.1 k = 0) (h0 : D.1.2.2.2.2.2.2.2.1 = 0) (hi : D.2.2.2 = -1) (td : ∀ k, 0 ≤ k → k < 25 → D.2.1 k = 0) : DR (zFD m) D := by
  have z : ∀ k : Int, 0 ≤ k → k < 76 → zFD m 69 k = 0 := fun k a b => by
    unfold zFD
    simp (disch := decide) only [zs_n, zr_s]
    unfold zfil
    rw [if_pos ⟨a, b⟩]
  have e5 : zFD m 65 5 = 0 := by unfold zFD; simp (disch := decide) only [zs_n, zs_v, zs_k]
  have e7 : zFD m 65 7 = 0 := by unfold zFD; simp (disch := decide) only [zs_n, zs_v, zs_k]
  have e8 : zFD m 65 8 = -4 := by unfold zFD; simp (disch := decide) only [zs_n, zs_v, zs_k]
  refine ⟨by rw [e5, n0], fun i a b => by omega, fun k a b => by rw [z _ (by omega) (by omega), g0 k a b], by rw [z _ (by decide) (by decide), r0], fun k a b => by omega, by rw [z _ (by decide) (by decide), h0], ⟨z _ (by decide) (by decide), z _ (by decide) (by decide), z _ (by decide) (by decide)⟩, by rw [e8, hi]; decide, 0, e7, by decide, fun k hk => ?_⟩
  rw [td k (by omega) (by omega), Nat.zero_testBit]
  rfl
set_option maxRecDepth 100000 in
theorem c_X6_text {D0 : zDr} (hE : TP (mem 70) (mem 65 10) mem) (hI0 : DI D0) (hn : D0.1.1 = 0) (hr : dR D0 = 0) (hg : ∀ k, 0 ≤ k → k < 25 → D0.1.2.2.1 k = 0) (hh : D0.1.2.2.2.2.2.2.2.1 = 0) (hhi : D0.2.2.2 = -1) (htd : ∀ k, 0 ≤ k → k < 25 → D0.2.1 k = 0) (hfe : D0.2.2.1 = 0) : KX6_text l G 7 [zR 65] mem (zPTm (sTx (mem 70) (mem 65 10) 161 D0 0 0) mem) := by
  generalize ht : mem 70 = t at hE ⊢
  generalize hl : mem 65 10 = L at hE ⊢
  obtain ⟨-, -, l0, l1, lb⟩ := id hE
  generalize hX : sTx t L 161 D0 0 0 = X
  refine CT.of' (own := RX6) (ls0 := [zR 65, zU]) rfl (by decide +kernel) (Nat.le_of_ble_eq_true rfl) rfl ?_
  have T73 : ∀ (e : zEr) (x : Int) (m : zM), X = .error e → kD mem m → fS m e → SW l G (zrm 7) RX6 cX6_text 2 (some .int) (zZ G (zPTm X mem)) 0 0 (fun _ => True) 73 [zR 65, zI x] [] m := by
    intro e x m hs hk hf
    have f1 := hf.1
    have f2 := hf.2.1
    have f3 := hf.2.2
    refine r_aload_n dX6_text_73 rfl ?_
    refine r_iconst dX6_text_74 (k := ?_)
    refine r_pI (q := 10) rfl pX6_73 rfl dX6_text_75 ?_
    refine r_aload_n dX6_text_78 rfl ?_
    refine r_gI (q := 15) rfl fX6_76 rfl (by decide) dX6_text_79 ?_
    try simp (disch := omega) only [zs_n, zs_v, zs_k]
    refine r_if_le (tgt := 93) dX6_text_82 (by decide) (fun h82 => ?_) (fun h82 => ?_)
    · exfalso; omega
    · refine r_bipush dX6_text_85 (k := ?_)
      refine r_aload_n dX6_text_87 rfl ?_
      refine r_gI (q := 16) rfl fX6_82 rfl (by decide) dX6_text_88 ?_
      try simp (disch := omega) only [zs_n, zs_v, zs_k]
      refine r_isub dX6_text_91 ?_
      try rw [zw_id (by omega) (by omega)]
      refine r_iret dX6_text_92 ?_
      exact zPTm.e hs hk f1 (by rw [f2])
  have T20 : ∀ (e : zEr) (x : Int) (m : zM), X = .error e → kD mem m → fS m e → SW l G (zrm 7) RX6 cX6_text 2 (some .int) (zZ G (zPTm X mem)) 0 0 (fun _ => True) 20 [zR 65, zI x] [] m := by
    intro e x m hs hk hf
    have f1 := hf.1
    have f3 := hf.2.2
    refine r_aload_n dX6_text_20 rfl ?_
    refine r_gI (q := 15) rfl fX6_76 rfl (by decide) dX6_text_21 ?_
    refine r_if_ne (tgt := 44) dX6_text_24 (by decide) (fun h24 => ?_) (fun h24 => ?_)
    · refine r_aload_n dX6_text_44 rfl ?_
      refine r_gI (q := 15) rfl fX6_76 rfl (by decide) dX6_text_45 ?_
      refine r_if_ne (tgt := 73) dX6_text_48 (by decide) (fun h48 => ?_) (fun h48 => ?_)
      · exact T73 e x m hs hk hf
      · exfalso; omega
    · exfalso; omega
  have loop : ∀ (k : Nat) (x p : Int) (m : zM) (D : zDr), 0 ≤ p → p ≤ L → L - p < k → 0 ≤ x → x + k = 161 → kD mem m → AH (sTk t L p) m → DR m D → DI D → m 65 6 = D.2.2.1 → sTx t L k D p x = X → SW l G (zrm 7) RX6 cX6_text 2 (some .int) (zZ G (zPTm X mem)) 0 0 (fun _ => True) 20 [zR 65, zI x] [] m := by
    intro k
    induction k with
    | zero => intro x p m D a1 a2 a3 a4 a5 a6 a7 a8 a9 a10 he; exact absurd a3 (by omega)
    | succ k ih =>
      intro x p m D p0 p1 a3 x0 x1 hk ah hD hI h6 he
      rw [sTx] at he
      cases hk8 : sTk t L p with
      | error e =>
        rw [hk8] at ah he
        exact T20 e x m he.symm hk ah
      | ok a =>
        have n := sTk_ok p1 hk8
        rw [hk8] at ah he
        dsimp only at he
        have ah' := ah
        obtain ⟨z15, z11, z12, z13, -⟩ := ah'
        by_cases c0 : a.1 = 0
        · rw [if_pos c0] at he
          have e8 := hD.2.2.2.2.2.2.2.1
          have e5 := hD.1
          have b5 := hI.1
          by_cases c1 : D.2.2.2 < D.1.1
          · rw [if_pos c1] at he
            refine r_aload_n dX6_text_20 rfl ?_
            refine r_gI (q := 15) rfl fX6_76 rfl (by decide) dX6_text_21 ?_
            try simp (disch := omega) only [zs_n, zs_v, zs_k, z15, z13, c0, e5]
            refine r_if_ne (tgt := 44) dX6_text_24 (by decide) (fun h24 => absurd h24 (by decide)) (fun h24 => ?_)
            refine r_aload_n dX6_text_27 rfl ?_
            refine r_gI (q := 13) rfl fX6_100 rfl (by decide) dX6_text_28 ?_
            try simp (disch := omega) only [zs_n, zs_v, zs_k, z15, z13, c0, e5]
            refine r_if_eq (tgt := 44) dX6_text_31 (by decide) (fun h31 => ?_) (fun h31 => absurd h31 (by decide))
            refine r_aload_n dX6_text_44 rfl ?_
            refine r_gI (q := 15) rfl fX6_76 rfl (by decide) dX6_text_45 ?_
            try simp (disch := omega) only [zs_n, zs_v, zs_k, z15, z13, c0, e5]
            refine r_if_ne (tgt := 73) dX6_text_48 (by decide) (fun h48 => absurd h48 (by decide)) (fun h48 => ?_)
            refine r_aload_n dX6_text_51 rfl ?_
            refine r_aload_n dX6_text_52 rfl ?_
            refine r_gI (q := 8) rfl fX6_61 rfl (by decide) dX6_text_53 ?_
            try simp (disch := omega) only [zs_n, zs_v, zs_k, z15, z13, c0, e5]
            refine r_aload_n dX6_text_56 rfl ?_
            refine r_gI (q := 5) rfl fX6_50 rfl (by decide) dX6_text_57 ?_
            try simp (disch := omega) only [zs_n, zs_v, zs_k, z15, z13, c0, e5]
            refine r_icmp_ge (tgt := 67) dX6_text_60 (by decide) (fun h60 => ?_) (fun h60 => ?_)
            · exfalso; omega
            · refine r_iconst dX6_text_63 (k := ?_)
              refine r_goto (tgt := 68) dX6_text_64 (by decide) ?_
              refine r_bipush dX6_text_68 (k := ?_)
              refine r_w2 (c_needs_t _ _ (by decide)) kX6_114 rfl dX6_text_70 ?_
              try simp (disch := omega) only [zs_n, zs_v, zs_k, z15, z13, c0, e5]
              refine r_aload_n dX6_text_73 rfl ?_
              refine r_iconst dX6_text_74 (k := ?_)
              refine r_pI (q := 10) rfl pX6_73 rfl dX6_text_75 ?_
              refine r_aload_n dX6_text_78 rfl ?_
              refine r_gI (q := 15) rfl fX6_76 rfl (by decide) dX6_text_79 ?_
              try simp (disch := omega) only [zs_n, zs_v, zs_k, z15, z13, c0, e5]
              refine r_if_le (tgt := 93) dX6_text_82 (by decide) (fun h82 => ?_) (fun h82 => absurd h82 (by decide))
              refine r_aload_n dX6_text_93 rfl ?_
              refine r_w0 (c_keepDraft) kX6_47 rfl dX6_text_94 ?_
              try simp (disch := omega) only [zs_n, zs_v, zs_k, z15, z13, c0, e5]
              refine r_iload_n dX6_text_97 rfl ?_
              refine r_iret dX6_text_98 ?_
              exact zPTm.k he.symm hk hD z15 rfl
          · rw [if_neg c1] at he
            refine r_aload_n dX6_text_20 rfl ?_
            refine r_gI (q := 15) rfl fX6_76 rfl (by decide) dX6_text_21 ?_
            try simp (disch := omega) only [zs_n, zs_v, zs_k, z15, z13, c0, e5]
            refine r_if_ne (tgt := 44) dX6_text_24 (by decide) (fun h24 => absurd h24 (by decide)) (fun h24 => ?_)
            refine r_aload_n dX6_text_27 rfl ?_
            refine r_gI (q := 13) rfl fX6_100 rfl (by decide) dX6_text_28 ?_
            try simp (disch := omega) only [zs_n, zs_v, zs_k, z15, z13, c0, e5]
            refine r_if_eq (tgt := 44) dX6_text_31 (by decide) (fun h31 => ?_) (fun h31 => absurd h31 (by decide))
            refine r_aload_n dX6_text_44 rfl ?_
            refine r_gI (q := 15) rfl fX6_76 rfl (by decide) dX6_text_45 ?_
            try simp (disch := omega) only [zs_n, zs_v, zs_k, z15, z13, c0, e5]
            refine r_if_ne (tgt := 73) dX6_text_48 (by decide) (fun h48 => absurd h48 (by decide)) (fun h48 => ?_)
            refine r_aload_n dX6_text_51 rfl ?_
            refine r_aload_n dX6_text_52 rfl ?_
            refine r_gI (q := 8) rfl fX6_61 rfl (by decide) dX6_text_53 ?_
            try simp (disch := omega) only [zs_n, zs_v, zs_k, z15, z13, c0, e5]
            refine r_aload_n dX6_text_56 rfl ?_
            refine r_gI (q := 5) rfl fX6_50 rfl (by decide) dX6_text_57 ?_
            try simp (disch := omega) only [zs_n, zs_v, zs_k, z15, z13, c0, e5]
            refine r_icmp_ge (tgt := 67) dX6_text_60 (by decide) (fun h60 => ?_) (fun h60 => ?_)
            · refine r_iconst dX6_text_67 (k := ?_)
              refine r_bipush dX6_text_68 (k := ?_)
              refine r_w2 (c_needs_n _ z15) kX6_114 rfl dX6_text_70 ?_
              try simp (disch := omega) only [zs_n, zs_v, zs_k, z15, z13, c0, e5]
              exact T73 (6, a.2.1) x _ he.symm ((hk.s (by decide)).s (by decide)) ⟨by simp (disch := omega) only [zs_n, zs_v, zs_k], by simp (disch := omega) only [zs_n, zs_v, zs_k]; exact z12, (by show (0 : Int) < 6; decide)⟩
            · exfalso; omega
        · rw [if_neg c0] at he
          refine r_aload_n dX6_text_20 rfl ?_
          refine r_gI (q := 15) rfl fX6_76 rfl (by decide) dX6_text_21 ?_
          try simp only [z15, z13]
          refine r_if_ne (tgt := 44) dX6_text_24 (by decide) (fun h24 => absurd h24 (by decide)) (fun h24 => ?_)
          refine r_aload_n dX6_text_27 rfl ?_
          refine r_gI (q := 13) rfl fX6_100 rfl (by decide) dX6_text_28 ?_
          try simp only [z15, z13]
          refine r_if_eq (tgt := 44) dX6_text_31 (by decide) (fun h31 => absurd h31 c0) (fun _ => ?_)
          refine r_aload_n dX6_text_34 rfl ?_
          refine r_wL2 (c_readLine (t := t) (L := L) (a := a) (hE.k hk) (by omega) (by omega) (by omega) ah hD hI h6) kX6_148 rfl dX6_text_35 (fun m9 h9 => ?_)
          obtain ⟨-, k9, h9⟩ := h9
          cases hl9 : sLn t L D (if a.1 = 1 then sNm t a.2.1 a.2.2.1 else -4) a.2.1 a.2.2.1 with
          | error e =>
            rw [hl9] at h9 he
            refine r_iinc dX6_text_38 rfl rfl ?_
            try rw [zw_id (by omega) (by omega)]
            refine r_goto (tgt := 20) dX6_text_41 (by decide) ?_
            exact T20 e _ m9 he.symm (hk.tr k9) h9
          | ok b =>
            rw [hl9] at h9 he
            obtain ⟨ah9, hD9, h69⟩ := h9
            have n9 := sLn_ok (by omega) hI hl9
            refine r_iinc dX6_text_38 rfl rfl ?_
            try rw [zw_id (by omega) (by omega)]
            refine r_goto (tgt := 20) dX6_text_41 (by decide) ?_
            exact ih (x + 1) b.2 m9 b.1 (by omega) (by omega) (by omega) (by omega) (by omega) (hk.tr k9) ah9 hD9 n9.2.2 h69 he
  have kD0 : kD mem (zFD (zs (zs mem 65 15 0) 65 11 0)) := ((kD.rf.s (by decide)).s (by decide)).tr zFD_k
  have z15 : zFD (zs (zs mem 65 15 0) 65 11 0) 65 15 = 0 := by unfold zFD; simp (disch := decide) only [zs_n, zs_v, zs_k, zr_n]
  have z11 : zFD (zs (zs mem 65 15 0) 65 11 0) 65 11 = 0 := by unfold zFD; simp (disch := decide) only [zs_n, zs_v, zs_k, zr_n]
  have z6 : zFD (zs (zs mem 65 15 0) 65 11 0) 65 6 = 0 := by unfold zFD; simp (disch := decide) only [zs_n, zs_v, zs_k, zr_n]
  refine r_iconst dX6_text_0 (k := ?_)
  refine r_istore_n dX6_text_1 rfl ?_
  refine r_aload_n dX6_text_2 rfl ?_
  refine r_iconst dX6_text_3 (k := ?_)
  refine r_pI (q := 15) rfl pX6_76 rfl dX6_text_4 ?_
  refine r_aload_n dX6_text_7 rfl ?_
  refine r_iconst dX6_text_8 (k := ?_)
  refine r_pI (q := 11) rfl pX6_85 rfl dX6_text_9 ?_
  refine r_aload_n dX6_text_12 rfl ?_
  refine r_w0 (c_firstDraft) kX6_44 rfl dX6_text_13 ?_
  refine r_aload_n dX6_text_16 rfl ?_
  refine r_wA0 (c_takes' (p := 0) (hE.k kD0) z15 z11 (by omega) (by omega)) kX6_122 rfl dX6_text_17 (fun m8 k8 ah8 => ?_)
  exact loop 161 0 0 m8 D0 (by omega) (by omega) (by omega) (by omega) (by omega) (kD0.tr k8.d) ah8 ((zFD_D hn hr hg hh hhi htd).k k8) hI0 (by rw [k8.2 6 (by decide), z6, hfe]) hX
end
