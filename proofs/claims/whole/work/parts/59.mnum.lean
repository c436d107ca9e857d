/-! ===== the reference: numbers, names ===== -/
/-- the tape that is read, and how long it is -/
def TP (t : Int → Int) (L : Int) (m : zM) : Prop := m 70 = t ∧ m 65 10 = L ∧ 0 ≤ L ∧ L ≤ 160 ∧ ∀ j, 0 ≤ j → j < L → 0 ≤ t j ∧ t j ≤ 127
theorem TP.k {t : Int → Int} {L : Int} {m m' : zM} (h : TP t L m) (hk : kD m m') : TP t L m' := ⟨(hk.1 70 (by decide) (by decide)).trans h.1, (hk.2 10 (by decide) (by decide)).trans h.2.1, h.2.2⟩
theorem TP.a {t : Int → Int} {L : Int} {m m' : zM} (h : TP t L m) (hk : kA m m') : TP t L m' := h.k hk.d
section
variable {l : Launch} {G : zG} {mem : zM} {t : Int → Int} {L p : Int}
theorem c_takes' (h : TP t L mem) (hf : mem 65 15 = 0) (hp : mem 65 11 = p) (h0 : 0 ≤ p) (h1 : p ≤ L) : KX6_takes l G 1 [zR 65] mem (zPA (sTk t L p) mem) := by
  obtain ⟨rfl, rfl, a, b, c⟩ := h
  subst hp
  exact c_takes ⟨h0, h1, b⟩ c hf
set_option maxRecDepth 100000 in
theorem c_looked {x : Except zEr zTk} (lo hi : Int) (h : AH x mem) : KX6_looked l G 1 [zR 65, zI lo, zI hi] mem (zPLk (sNumX x lo hi) mem) := by
  refine CT.of' (own := RX6) (ls0 := [zR 65, zI lo, zI hi]) rfl (by decide +kernel) (Nat.le_of_ble_eq_true rfl) rfl ?_
  cases x with
  | error e =>
    obtain ⟨a1, a2, a3⟩ := h
    refine r_aload_n dX6_looked_0 rfl ?_
    refine r_gI (q := 15) rfl fX6_76 rfl (by decide) dX6_looked_1 ?_
    refine r_if_ne (tgt := 25) dX6_looked_4 (by decide) (fun h4 => ?_) (fun h4 => ?_)
    · refine r_aload_n dX6_looked_25 rfl ?_
      refine r_gI (q := 15) rfl fX6_76 rfl (by decide) dX6_looked_26 ?_
      refine r_if_ne (tgt := 49) dX6_looked_29 (by decide) (fun h29 => ?_) (fun h29 => ?_)
      · refine r_aload_n dX6_looked_49 rfl ?_
        refine r_gI (q := 15) rfl fX6_76 rfl (by decide) dX6_looked_50 ?_
        refine r_if_ne (tgt := 63) dX6_looked_53 (by decide) (fun h53 => ?_) (fun h53 => ?_)
        · refine r_iconst dX6_looked_63 (k := ?_)
          refine r_iret dX6_looked_64 ?_
          exact zPLk.e rfl kA.rf ⟨a1, a2, a3⟩
        · exfalso; omega
      · exfalso; omega
    · exfalso; omega
  | ok k =>
    obtain ⟨a15, a11, a12, a13, a14⟩ := h
    by_cases c2 : k.1 = 2
    · have v := a14 c2
      by_cases c3 : lo ≤ k.2.2.2 ∧ k.2.2.2 ≤ hi
      · have hs : sNumX (.ok k) lo hi = .ok (k.2.2.2, k.2.2.1, k.2.1) := by unfold sNumX; dsimp only; rw [if_pos c2, if_pos c3]
        refine r_aload_n dX6_looked_0 rfl ?_
        refine r_gI (q := 15) rfl fX6_76 rfl (by decide) dX6_looked_1 ?_
        try simp (disch := omega) only [zs_n, zs_v, zs_k, a15, a13, c2, v]
        refine r_if_ne (tgt := 25) dX6_looked_4 (by decide) (fun h4 => absurd h4 (by decide)) (fun h4 => ?_)
        refine r_aload_n dX6_looked_7 rfl ?_
        refine r_aload_n dX6_looked_8 rfl ?_
        refine r_gI (q := 13) rfl fX6_100 rfl (by decide) dX6_looked_9 ?_
        try simp (disch := omega) only [zs_n, zs_v, zs_k, a15, a13, c2, v]
        refine r_iconst dX6_looked_12 (k := ?_)
        refine r_icmp_ne (tgt := 20) dX6_looked_13 (by decide) (fun h13 => absurd h13 (by decide)) (fun h13 => ?_)
        refine r_iconst dX6_looked_16 (k := ?_)
        refine r_goto (tgt := 21) dX6_looked_17 (by decide) ?_
        refine r_iconst dX6_looked_21 (k := ?_)
        refine r_w2 (c_needs_t _ _ (by decide)) kX6_114 rfl dX6_looked_22 ?_
        try simp (disch := omega) only [zs_n, zs_v, zs_k, a15, a13, c2, v]
        refine r_aload_n dX6_looked_25 rfl ?_
        refine r_gI (q := 15) rfl fX6_76 rfl (by decide) dX6_looked_26 ?_
        try simp (disch := omega) only [zs_n, zs_v, zs_k, a15, a13, c2, v]
        refine r_if_ne (tgt := 49) dX6_looked_29 (by decide) (fun h29 => absurd h29 (by decide)) (fun h29 => ?_)
        refine r_aload_n dX6_looked_32 rfl ?_
        refine r_aload_n dX6_looked_33 rfl ?_
        refine r_gI (q := 14) rfl fX6_111 rfl (by decide) dX6_looked_34 ?_
        try simp (disch := omega) only [zs_n, zs_v, zs_k, a15, a13, c2, v]
        refine r_i2l dX6_looked_37 ?_
        refine r_iload_n dX6_looked_38 rfl ?_
        refine r_i2l dX6_looked_39 ?_
        refine r_iload_n dX6_looked_40 rfl ?_
        refine r_i2l dX6_looked_41 ?_
        refine r_s3 (c_in _ _ _) kX6_69 dX6_looked_42 ?_
        try simp (disch := omega) only [zs_n, zs_v, zs_k, a15, a13, c2, v]
        rw [← zb_1 c3]
        refine r_iconst dX6_looked_45 (k := ?_)
        refine r_w2 (c_needs_t _ _ (by decide)) kX6_114 rfl dX6_looked_46 ?_
        try simp (disch := omega) only [zs_n, zs_v, zs_k, a15, a13, c2, v]
        refine r_aload_n dX6_looked_49 rfl ?_
        refine r_gI (q := 15) rfl fX6_76 rfl (by decide) dX6_looked_50 ?_
        try simp (disch := omega) only [zs_n, zs_v, zs_k, a15, a13, c2, v]
        refine r_if_ne (tgt := 63) dX6_looked_53 (by decide) (fun h53 => absurd h53 (by decide)) (fun h53 => ?_)
        refine r_aload_n dX6_looked_56 rfl ?_
        refine r_gI (q := 14) rfl fX6_111 rfl (by decide) dX6_looked_57 ?_
        try simp (disch := omega) only [zs_n, zs_v, zs_k, a15, a13, c2, v]
        refine r_goto (tgt := 64) dX6_looked_60 (by decide) ?_
        refine r_iret dX6_looked_64 ?_
        exact zPLk.k hs rfl a15 a11 a12
      · have hs : sNumX (.ok k) lo hi = .error (3, k.2.1) := by unfold sNumX; dsimp only; rw [if_pos c2, if_neg c3]
        refine r_aload_n dX6_looked_0 rfl ?_
        refine r_gI (q := 15) rfl fX6_76 rfl (by decide) dX6_looked_1 ?_
        try simp (disch := omega) only [zs_n, zs_v, zs_k, a15, a13, c2, v]
        refine r_if_ne (tgt := 25) dX6_looked_4 (by decide) (fun h4 => absurd h4 (by decide)) (fun h4 => ?_)
        refine r_aload_n dX6_looked_7 rfl ?_
        refine r_aload_n dX6_looked_8 rfl ?_
        refine r_gI (q := 13) rfl fX6_100 rfl (by decide) dX6_looked_9 ?_
        try simp (disch := omega) only [zs_n, zs_v, zs_k, a15, a13, c2, v]
        refine r_iconst dX6_looked_12 (k := ?_)
        refine r_icmp_ne (tgt := 20) dX6_looked_13 (by decide) (fun h13 => absurd h13 (by decide)) (fun h13 => ?_)
        refine r_iconst dX6_looked_16 (k := ?_)
        refine r_goto (tgt := 21) dX6_looked_17 (by decide) ?_
        refine r_iconst dX6_looked_21 (k := ?_)
        refine r_w2 (c_needs_t _ _ (by decide)) kX6_114 rfl dX6_looked_22 ?_
        try simp (disch := omega) only [zs_n, zs_v, zs_k, a15, a13, c2, v]
        refine r_aload_n dX6_looked_25 rfl ?_
        refine r_gI (q := 15) rfl fX6_76 rfl (by decide) dX6_looked_26 ?_
        try simp (disch := omega) only [zs_n, zs_v, zs_k, a15, a13, c2, v]
        refine r_if_ne (tgt := 49) dX6_looked_29 (by decide) (fun h29 => absurd h29 (by decide)) (fun h29 => ?_)
        refine r_aload_n dX6_looked_32 rfl ?_
        refine r_aload_n dX6_looked_33 rfl ?_
        refine r_gI (q := 14) rfl fX6_111 rfl (by decide) dX6_looked_34 ?_
        try simp (disch := omega) only [zs_n, zs_v, zs_k, a15, a13, c2, v]
        refine r_i2l dX6_looked_37 ?_
        refine r_iload_n dX6_looked_38 rfl ?_
        refine r_i2l dX6_looked_39 ?_
        refine r_iload_n dX6_looked_40 rfl ?_
        refine r_i2l dX6_looked_41 ?_
        refine r_s3 (c_in _ _ _) kX6_69 dX6_looked_42 ?_
        try simp (disch := omega) only [zs_n, zs_v, zs_k, a15, a13, c2, v]
        rw [← zb_0 c3]
        refine r_iconst dX6_looked_45 (k := ?_)
        refine r_w2 (c_needs_n _ a15) kX6_114 rfl dX6_looked_46 ?_
        try simp (disch := omega) only [zs_n, zs_v, zs_k, a15, a13, c2, v]
        refine r_aload_n dX6_looked_49 rfl ?_
        refine r_gI (q := 15) rfl fX6_76 rfl (by decide) dX6_looked_50 ?_
        try simp (disch := omega) only [zs_n, zs_v, zs_k, a15, a13, c2, v]
        refine r_if_ne (tgt := 63) dX6_looked_53 (by decide) (fun h53 => ?_) (fun h53 => absurd h53 (by decide))
        refine r_iconst dX6_looked_63 (k := ?_)
        refine r_iret dX6_looked_64 ?_
        exact zPLk.e hs (by repeat first | assumption | exact kA.rf | refine kA.s ?_ (by decide)) ⟨by simp (disch := omega) only [zs_n, zs_v, zs_k], by simp (disch := omega) only [zs_n, zs_v, zs_k]; exact a12, (by show (0 : Int) < 3; decide)⟩
    · have hs : sNumX (.ok k) lo hi = .error (2, k.2.1) := by unfold sNumX; dsimp only; rw [if_neg c2]
      refine r_aload_n dX6_looked_0 rfl ?_
      refine r_gI (q := 15) rfl fX6_76 rfl (by decide) dX6_looked_1 ?_
      try simp (disch := omega) only [zs_n, zs_v, zs_k, a15, a13]
      refine r_if_ne (tgt := 25) dX6_looked_4 (by decide) (fun h4 => absurd h4 (by decide)) (fun h4 => ?_)
      refine r_aload_n dX6_looked_7 rfl ?_
      refine r_aload_n dX6_looked_8 rfl ?_
      refine r_gI (q := 13) rfl fX6_100 rfl (by decide) dX6_looked_9 ?_
      try simp (disch := omega) only [zs_n, zs_v, zs_k, a15, a13]
      refine r_iconst dX6_looked_12 (k := ?_)
      refine r_icmp_ne (tgt := 20) dX6_looked_13 (by decide) (fun h13 => ?_) (fun h13 => ?_)
      · refine r_iconst dX6_looked_20 (k := ?_)
        refine r_iconst dX6_looked_21 (k := ?_)
        refine r_w2 (c_needs_n _ a15) kX6_114 rfl dX6_looked_22 ?_
        try simp (disch := omega) only [zs_n, zs_v, zs_k, a15, a13]
        refine r_aload_n dX6_looked_25 rfl ?_
        refine r_gI (q := 15) rfl fX6_76 rfl (by decide) dX6_looked_26 ?_
        try simp (disch := omega) only [zs_n, zs_v, zs_k, a15, a13]
        refine r_if_ne (tgt := 49) dX6_looked_29 (by decide) (fun h29 => ?_) (fun h29 => absurd h29 (by decide))
        refine r_aload_n dX6_looked_49 rfl ?_
        refine r_gI (q := 15) rfl fX6_76 rfl (by decide) dX6_looked_50 ?_
        try simp (disch := omega) only [zs_n, zs_v, zs_k, a15, a13]
        refine r_if_ne (tgt := 63) dX6_looked_53 (by decide) (fun h53 => ?_) (fun h53 => absurd h53 (by decide))
        refine r_iconst dX6_looked_63 (k := ?_)
        refine r_iret dX6_looked_64 ?_
        exact zPLk.e hs (by repeat first | assumption | exact kA.rf | refine kA.s ?_ (by decide)) ⟨by simp (disch := omega) only [zs_n, zs_v, zs_k], by simp (disch := omega) only [zs_n, zs_v, zs_k]; exact a12, (by show (0 : Int) < 2; decide)⟩
      · exfalso; omega
set_option maxRecDepth 100000 in
theorem c_looked_f (lo hi : Int) (h : 0 < mem 65 15) : KX6_looked l G 1 [zR 65, zI lo, zI hi] mem (zP1 (zI 0) mem) := by
  refine CT.of' (own := RX6) (ls0 := [zR 65, zI lo, zI hi]) rfl (by decide +kernel) (Nat.le_of_ble_eq_true rfl) rfl ?_
  refine r_aload_n dX6_looked_0 rfl ?_
  refine r_gI (q := 15) rfl fX6_76 rfl (by decide) dX6_looked_1 ?_
  refine r_if_ne (tgt := 25) dX6_looked_4 (by decide) (fun h4 => ?_) (fun h4 => ?_)
  · refine r_aload_n dX6_looked_25 rfl ?_
    refine r_gI (q := 15) rfl fX6_76 rfl (by decide) dX6_looked_26 ?_
    refine r_if_ne (tgt := 49) dX6_looked_29 (by decide) (fun h29 => ?_) (fun h29 => ?_)
    · refine r_aload_n dX6_looked_49 rfl ?_
      refine r_gI (q := 15) rfl fX6_76 rfl (by decide) dX6_looked_50 ?_
      refine r_if_ne (tgt := 63) dX6_looked_53 (by decide) (fun h53 => ?_) (fun h53 => ?_)
      · refine r_iconst dX6_looked_63 (k := ?_)
        refine r_iret dX6_looked_64 ?_
        exact zP1.i
      · exfalso; omega
    · exfalso; omega
  · exfalso; omega
set_option maxRecDepth 100000 in
theorem c_readNumber_f (lo hi : Int) (h : 0 < mem 65 15) : KX6_readNumber l G 2 [zR 65, zI lo, zI hi] mem (zP1 (zI 0) mem) := by
  refine CT.of' (own := RX6) (ls0 := [zR 65, zI lo, zI hi, zU]) rfl (by decide +kernel) (Nat.le_of_ble_eq_true rfl) rfl ?_
  refine r_aload_n dX6_readNumber_0 rfl ?_
  refine r_iload_n dX6_readNumber_1 rfl ?_
  refine r_iload_n dX6_readNumber_2 rfl ?_
  refine r_v2 (c_looked_f _ _ h) kX6_118 rfl dX6_readNumber_3 ?_
  refine r_istore_n dX6_readNumber_6 rfl ?_
  refine r_aload_n dX6_readNumber_7 rfl ?_
  refine r_w0 (c_takes_f h) kX6_122 rfl dX6_readNumber_8 ?_
  refine r_iload_n dX6_readNumber_11 rfl ?_
  refine r_iret dX6_readNumber_12 ?_
  exact zP1.i
set_option maxRecDepth 100000 in
theorem c_readNumber (lo hi : Int) (hE : TP t L mem) (p0 : 0 ≤ p) (p1 : p ≤ L) (h : AH (sTk t L p) mem) : KX6_readNumber l G 2 [zR 65, zI lo, zI hi] mem (zPRN t L (sNum t L p lo hi) mem) := by
  refine CT.of' (own := RX6) (ls0 := [zR 65, zI lo, zI hi, zU]) rfl (by decide +kernel) (Nat.le_of_ble_eq_true rfl) rfl ?_
  rw [← sNumX_e]
  refine r_aload_n dX6_readNumber_0 rfl ?_
  refine r_iload_n dX6_readNumber_1 rfl ?_
  refine r_iload_n dX6_readNumber_2 rfl ?_
  refine r_vL (c_looked _ _ h) kX6_118 rfl dX6_readNumber_3 (fun e3 m3 x3 k3 f3 => ?_) (fun a3 x3 y15 y11 y12 => ?_)
  · rw [x3]
    refine r_istore_n dX6_readNumber_6 rfl ?_
    refine r_aload_n dX6_readNumber_7 rfl ?_
    refine r_w0 (c_takes_f (by rw [f3.1]; exact f3.2.2)) kX6_122 rfl dX6_readNumber_8 ?_
    refine r_iload_n dX6_readNumber_11 rfl ?_
    refine r_iret dX6_readNumber_12 ?_
    exact ⟨k3, rfl, f3⟩
  · have n := sNum_ok (t := t) p1 x3
    rw [x3]
    refine r_istore_n dX6_readNumber_6 rfl ?_
    refine r_aload_n dX6_readNumber_7 rfl ?_
    refine r_wA0 (c_takes' hE y15 y11 (by omega) (by omega)) kX6_122 rfl dX6_readNumber_8 (fun m8 k8 ah8 => ?_)
    refine r_iload_n dX6_readNumber_11 rfl ?_
    refine r_iret dX6_readNumber_12 ?_
    exact ⟨k8, rfl, ah8⟩
set_option maxRecDepth 100000 in
theorem c_noteHighest (i : Int) : KX6_noteHighest l G 0 [zR 65, zI i] mem (zP0 (zs mem 65 8 (max (mem 65 8) i))) := by
  refine CT.of' (own := RX6) (ls0 := [zR 65, zI i]) rfl (by decide +kernel) (Nat.le_of_ble_eq_true rfl) rfl ?_
  refine r_aload_n dX6_noteHighest_0 rfl ?_
  refine r_iload_n dX6_noteHighest_1 rfl ?_
  refine r_aload_n dX6_noteHighest_2 rfl ?_
  refine r_gI (q := 8) rfl fX6_61 rfl (by decide) dX6_noteHighest_3 ?_
  refine r_icmp_le (tgt := 13) dX6_noteHighest_6 (by decide) (fun h6 => ?_) (fun h6 => ?_)
  · refine r_aload_n dX6_noteHighest_13 rfl ?_
    refine r_gI (q := 8) rfl fX6_61 rfl (by decide) dX6_noteHighest_14 ?_
    refine r_pI (q := 8) rfl pX6_61 rfl dX6_noteHighest_17 ?_
    refine r_vret dX6_noteHighest_20 ?_
    first
      | (rw [show max (mem 65 8) i = i by omega]; exact zP0.i)
      | (rw [show max (mem 65 8) i = mem 65 8 by omega]; exact zP0.i)
  · refine r_iload_n dX6_noteHighest_9 rfl ?_
    refine r_goto (tgt := 17) dX6_noteHighest_10 (by decide) ?_
    refine r_pI (q := 8) rfl pX6_61 rfl dX6_noteHighest_17 ?_
    refine r_vret dX6_noteHighest_20 ?_
    first
      | (rw [show max (mem 65 8) i = i by omega]; exact zP0.i)
      | (rw [show max (mem 65 8) i = mem 65 8 by omega]; exact zP0.i)
set_option maxRecDepth 100000 in
theorem c_is {f q : Int} (n a b c d : Int) (hn : 4 ≤ n) (hE : TP t L mem) (h11 : mem 65 11 = q) (h12 : mem 65 12 = f) (f0 : 0 ≤ f) (fq0 : f ≤ q) (q1 : q ≤ L) : KX6_is l G 1 [zR 65, zI n, zI a, zI b, zI c, zI d] mem (zP1 (zI (zb (decide (q - f = n ∧ t f = a ∧ t (f + 1) = b ∧ t (f + 2) = c ∧ t (f + 3) = d)))) mem) := by
  obtain ⟨e70, e10, l0, l1, -⟩ := hE
  refine CT.of' (own := RX6) (ls0 := [zR 65, zI n, zI a, zI b, zI c, zI d]) rfl (by decide +kernel) (Nat.le_of_ble_eq_true rfl) rfl ?_
  by_cases fq : q - f = n
  · refine r_aload_n dX6_is_0 rfl ?_
    refine r_gI (q := 11) rfl fX6_85 rfl (by decide) dX6_is_1 ?_
    try simp only [h11, h12, e70]
    refine r_aload_n dX6_is_4 rfl ?_
    refine r_gI (q := 12) rfl fX6_79 rfl (by decide) dX6_is_5 ?_
    try simp only [h11, h12, e70]
    refine r_isub dX6_is_8 ?_
    try rw [zw_id (by omega) (by omega)]
    refine r_iload_n dX6_is_9 rfl ?_
    refine r_icmp_ne (tgt := 73) dX6_is_10 (by decide) (fun h10 => ?_) (fun h10 => ?_)
    · refine r_iconst dX6_is_73 (k := ?_)
      refine r_zret dX6_is_74 (by decide) ?_
      first
        | exact zP1.ofI (zb_1 (by omega))
        | exact zP1.ofI (zb_0 (by omega))
    · refine r_aload_n dX6_is_13 rfl ?_
      refine r_aload_n dX6_is_14 rfl ?_
      refine r_gI (q := 12) rfl fX6_79 rfl (by decide) dX6_is_15 ?_
      try simp only [h11, h12, e70]
      refine r_v1 (c_byteIn _ (by omega) (by omega) (by omega)) kX6_88 rfl dX6_is_18 ?_
      try simp only [h11, h12, e70]
      refine r_iload_n dX6_is_21 rfl ?_
      refine r_icmp_ne (tgt := 73) dX6_is_22 (by decide) (fun h22 => ?_) (fun h22 => ?_)
      · refine r_iconst dX6_is_73 (k := ?_)
        refine r_zret dX6_is_74 (by decide) ?_
        first
          | exact zP1.ofI (zb_1 (by omega))
          | exact zP1.ofI (zb_0 (by omega))
      · refine r_aload_n dX6_is_25 rfl ?_
        refine r_aload_n dX6_is_26 rfl ?_
        refine r_gI (q := 12) rfl fX6_79 rfl (by decide) dX6_is_27 ?_
        try simp only [h11, h12, e70]
        refine r_iconst dX6_is_30 (k := ?_)
        refine r_iadd dX6_is_31 ?_
        try rw [zw_id (by omega) (by omega)]
        refine r_v1 (c_byteIn _ (by omega) (by omega) (by omega)) kX6_88 rfl dX6_is_32 ?_
        try simp only [h11, h12, e70]
        refine r_iload_n dX6_is_35 rfl ?_
        refine r_icmp_ne (tgt := 73) dX6_is_36 (by decide) (fun h36 => ?_) (fun h36 => ?_)
        · refine r_iconst dX6_is_73 (k := ?_)
          refine r_zret dX6_is_74 (by decide) ?_
          first
            | exact zP1.ofI (zb_1 (by omega))
            | exact zP1.ofI (zb_0 (by omega))
        · refine r_aload_n dX6_is_39 rfl ?_
          refine r_aload_n dX6_is_40 rfl ?_
          refine r_gI (q := 12) rfl fX6_79 rfl (by decide) dX6_is_41 ?_
          try simp only [h11, h12, e70]
          refine r_iconst dX6_is_44 (k := ?_)
          refine r_iadd dX6_is_45 ?_
          try rw [zw_id (by omega) (by omega)]
          refine r_v1 (c_byteIn _ (by omega) (by omega) (by omega)) kX6_88 rfl dX6_is_46 ?_
          try simp only [h11, h12, e70]
          refine r_iload dX6_is_49 rfl ?_
          refine r_icmp_ne (tgt := 73) dX6_is_51 (by decide) (fun h51 => ?_) (fun h51 => ?_)
          · refine r_iconst dX6_is_73 (k := ?_)
            refine r_zret dX6_is_74 (by decide) ?_
            first
              | exact zP1.ofI (zb_1 (by omega))
              | exact zP1.ofI (zb_0 (by omega))
          · refine r_aload_n dX6_is_54 rfl ?_
            refine r_aload_n dX6_is_55 rfl ?_
            refine r_gI (q := 12) rfl fX6_79 rfl (by decide) dX6_is_56 ?_
            try simp only [h11, h12, e70]
            refine r_iconst dX6_is_59 (k := ?_)
            refine r_iadd dX6_is_60 ?_
            try rw [zw_id (by omega) (by omega)]
            refine r_v1 (c_byteIn _ (by omega) (by omega) (by omega)) kX6_88 rfl dX6_is_61 ?_
            try simp only [h11, h12, e70]
            refine r_iload dX6_is_64 rfl ?_
            refine r_icmp_ne (tgt := 73) dX6_is_66 (by decide) (fun h66 => ?_) (fun h66 => ?_)
            · refine r_iconst dX6_is_73 (k := ?_)
              refine r_zret dX6_is_74 (by decide) ?_
              first
                | exact zP1.ofI (zb_1 (by omega))
                | exact zP1.ofI (zb_0 (by omega))
            · refine r_iconst dX6_is_69 (k := ?_)
              refine r_goto (tgt := 74) dX6_is_70 (by decide) ?_
              refine r_zret dX6_is_74 (by decide) ?_
              first
                | exact zP1.ofI (zb_1 (by omega))
                | exact zP1.ofI (zb_0 (by omega))
  · refine r_aload_n dX6_is_0 rfl ?_
    refine r_gI (q := 11) rfl fX6_85 rfl (by decide) dX6_is_1 ?_
    try simp only [h11, h12, e70]
    refine r_aload_n dX6_is_4 rfl ?_
    refine r_gI (q := 12) rfl fX6_79 rfl (by decide) dX6_is_5 ?_
    try simp only [h11, h12, e70]
    refine r_isub dX6_is_8 ?_
    try rw [zw_id (by omega) (by omega)]
    refine r_iload_n dX6_is_9 rfl ?_
    refine r_icmp_ne (tgt := 73) dX6_is_10 (by decide) (fun h10 => ?_) (fun h10 => ?_)
    · refine r_iconst dX6_is_73 (k := ?_)
      refine r_zret dX6_is_74 (by decide) ?_
      first
        | exact zP1.ofI (zb_0 (by omega))
    · exfalso; omega
set_option maxRecDepth 100000 in
theorem c_endsIn {f q : Int} (a : Int) (hE : TP t L mem) (h12 : mem 65 12 = f) (f0 : 0 ≤ f) (q1 : f + 4 < L) : KX6_endsIn l G 1 [zR 65, zI a] mem (zP1 (zI (zb (decide (t (f + 4) = a)))) mem) := by
  obtain ⟨e70, e10, l0, l1, -⟩ := hE
  refine CT.of' (own := RX6) (ls0 := [zR 65, zI a]) rfl (by decide +kernel) (Nat.le_of_ble_eq_true rfl) rfl ?_
  refine r_aload_n dX6_endsIn_0 rfl ?_
  refine r_aload_n dX6_endsIn_1 rfl ?_
  refine r_gI (q := 12) rfl fX6_79 rfl (by decide) dX6_endsIn_2 ?_
  try simp only [h12, e70]
  refine r_iconst dX6_endsIn_5 (k := ?_)
  refine r_iadd dX6_endsIn_6 ?_
  try rw [zw_id (by omega) (by omega)]
  refine r_v1 (c_byteIn _ (by omega) (by omega) (by omega)) kX6_88 rfl dX6_endsIn_7 ?_
  try simp only [h12, e70]
  refine r_iload_n dX6_endsIn_10 rfl ?_
  refine r_icmp_ne (tgt := 18) dX6_endsIn_11 (by decide) (fun h11 => ?_) (fun h11 => ?_)
  · refine r_iconst dX6_endsIn_18 (k := ?_)
    refine r_zret dX6_endsIn_19 (by decide) ?_
    first
      | exact zP1.ofI (zb_1 (by omega))
      | exact zP1.ofI (zb_0 (by omega))
  · refine r_iconst dX6_endsIn_14 (k := ?_)
    refine r_goto (tgt := 19) dX6_endsIn_15 (by decide) ?_
    refine r_zret dX6_endsIn_19 (by decide) ?_
    first
      | exact zP1.ofI (zb_1 (by omega))
      | exact zP1.ofI (zb_0 (by omega))
set_option maxRecDepth 100000 in
theorem c_lineNow {f q : Int} (hE : TP t L mem) (h11 : mem 65 11 = q) (h12 : mem 65 12 = f) (f0 : 0 ≤ f) (fq0 : f ≤ q) (q1 : q ≤ L) : KX6_lineNow l G 2 [zR 65] mem (zP1 (zI (sNm t f q)) mem) := by
  refine CT.of' (own := RX6) (ls0 := [zR 65]) rfl (by decide +kernel) (Nat.le_of_ble_eq_true rfl) rfl ?_
  have w7 : (c0 : ¬ (q - f = 5 ∧ t f = 112 ∧ t (f + 1) = 108 ∧ t (f + 2) = 97 ∧ t (f + 3) = 105 ∧ t (f + 4) = 110)) → (c1 : ¬ (q - f = 5 ∧ t f = 112 ∧ t (f + 1) = 114 ∧ t (f + 2) = 111 ∧ t (f + 3) = 117 ∧ t (f + 4) = 100)) → (c2 : ¬ (q - f = 4 ∧ t f = 102 ∧ t (f + 1) = 111 ∧ t (f + 2) = 110 ∧ t (f + 3) = 100)) → (c3 : ¬ (q - f = 5 ∧ t f = 119 ∧ t (f + 1) = 105 ∧ t (f + 2) = 100 ∧ t (f + 3) = 111 ∧ t (f + 4) = 119)) → (c4 : ¬ (q - f = 5 ∧ t f = 99 ∧ t (f + 1) = 114 ∧ t (f + 2) = 111 ∧ t (f + 3) = 115 ∧ t (f + 4) = 115)) → (c5 : ¬ (q - f = 4 ∧ t f = 114 ∧ t (f + 1) = 111 ∧ t (f + 2) = 112 ∧ t (f + 3) = 101)) → (c6 : ¬ (q - f = 5 ∧ t f = 102 ∧ t (f + 1) = 101 ∧ t (f + 2) = 97 ∧ t (f + 3) = 115 ∧ t (f + 4) = 116)) → SW l G (zrm 2) RX6 cX6_lineNow 1 (some .int) (zZ G (zP1 (zI (sNm t f q)) mem)) 0 0 (fun _ => True) 176 [zR 65] [] mem := by
    intro c0 c1 c2 c3 c4 c5 c6
    refine r_bipush dX6_lineNow_176 (k := ?_)
    refine r_iret dX6_lineNow_178 ?_
    exact zP1.ofI (by unfold sNm; rw [if_neg c0, if_neg c1, if_neg c2, if_neg c3, if_neg c4, if_neg c5, if_neg c6])
  have w6 : (c0 : ¬ (q - f = 5 ∧ t f = 112 ∧ t (f + 1) = 108 ∧ t (f + 2) = 97 ∧ t (f + 3) = 105 ∧ t (f + 4) = 110)) → (c1 : ¬ (q - f = 5 ∧ t f = 112 ∧ t (f + 1) = 114 ∧ t (f + 2) = 111 ∧ t (f + 3) = 117 ∧ t (f + 4) = 100)) → (c2 : ¬ (q - f = 4 ∧ t f = 102 ∧ t (f + 1) = 111 ∧ t (f + 2) = 110 ∧ t (f + 3) = 100)) → (c3 : ¬ (q - f = 5 ∧ t f = 119 ∧ t (f + 1) = 105 ∧ t (f + 2) = 100 ∧ t (f + 3) = 111 ∧ t (f + 4) = 119)) → (c4 : ¬ (q - f = 5 ∧ t f = 99 ∧ t (f + 1) = 114 ∧ t (f + 2) = 111 ∧ t (f + 3) = 115 ∧ t (f + 4) = 115)) → (c5 : ¬ (q - f = 4 ∧ t f = 114 ∧ t (f + 1) = 111 ∧ t (f + 2) = 112 ∧ t (f + 3) = 101)) → SW l G (zrm 2) RX6 cX6_lineNow 1 (some .int) (zZ G (zP1 (zI (sNm t f q)) mem)) 0 0 (fun _ => True) 146 [zR 65] [] mem := by
    intro c0 c1 c2 c3 c4 c5
    refine r_aload_n dX6_lineNow_146 rfl ?_
    refine r_iconst dX6_lineNow_147 (k := ?_)
    refine r_bipush dX6_lineNow_148 (k := ?_)
    refine r_bipush dX6_lineNow_150 (k := ?_)
    refine r_bipush dX6_lineNow_152 (k := ?_)
    refine r_bipush dX6_lineNow_154 (k := ?_)
    refine r_v5 (c_is _ _ _ _ _ (by decide) hE h11 h12 f0 fq0 q1) kX6_92 rfl dX6_lineNow_156 ?_
    refine r_ifd_eq (tgt := 176) dX6_lineNow_159 (by decide) (fun h159 => ?_) (fun h159 => ?_)
    · exact w7 c0 c1 c2 c3 c4 c5 (by omega)
    · refine r_aload_n dX6_lineNow_162 rfl ?_
      refine r_bipush dX6_lineNow_163 (k := ?_)
      refine r_v1 (c_endsIn (q := q) _ hE h12 f0 (by omega)) kX6_96 rfl dX6_lineNow_165 ?_
      refine r_ifd_eq (tgt := 176) dX6_lineNow_168 (by decide) (fun h168 => ?_) (fun h168 => ?_)
      · exact w7 c0 c1 c2 c3 c4 c5 (by omega)
      · refine r_bipush dX6_lineNow_171 (k := ?_)
        refine r_goto (tgt := 178) dX6_lineNow_173 (by decide) ?_
        refine r_iret dX6_lineNow_178 ?_
        exact zP1.ofI (by unfold sNm; rw [if_neg c0, if_neg c1, if_neg c2, if_neg c3, if_neg c4, if_neg c5, if_pos (by omega)])
  have w5 : (c0 : ¬ (q - f = 5 ∧ t f = 112 ∧ t (f + 1) = 108 ∧ t (f + 2) = 97 ∧ t (f + 3) = 105 ∧ t (f + 4) = 110)) → (c1 : ¬ (q - f = 5 ∧ t f = 112 ∧ t (f + 1) = 114 ∧ t (f + 2) = 111 ∧ t (f + 3) = 117 ∧ t (f + 4) = 100)) → (c2 : ¬ (q - f = 4 ∧ t f = 102 ∧ t (f + 1) = 111 ∧ t (f + 2) = 110 ∧ t (f + 3) = 100)) → (c3 : ¬ (q - f = 5 ∧ t f = 119 ∧ t (f + 1) = 105 ∧ t (f + 2) = 100 ∧ t (f + 3) = 111 ∧ t (f + 4) = 119)) → (c4 : ¬ (q - f = 5 ∧ t f = 99 ∧ t (f + 1) = 114 ∧ t (f + 2) = 111 ∧ t (f + 3) = 115 ∧ t (f + 4) = 115)) → SW l G (zrm 2) RX6 cX6_lineNow 1 (some .int) (zZ G (zP1 (zI (sNm t f q)) mem)) 0 0 (fun _ => True) 126 [zR 65] [] mem := by
    intro c0 c1 c2 c3 c4
    refine r_aload_n dX6_lineNow_126 rfl ?_
    refine r_iconst dX6_lineNow_127 (k := ?_)
    refine r_bipush dX6_lineNow_128 (k := ?_)
    refine r_bipush dX6_lineNow_130 (k := ?_)
    refine r_bipush dX6_lineNow_132 (k := ?_)
    refine r_bipush dX6_lineNow_134 (k := ?_)
    refine r_v5 (c_is _ _ _ _ _ (by decide) hE h11 h12 f0 fq0 q1) kX6_92 rfl dX6_lineNow_136 ?_
    refine r_ifd_eq (tgt := 146) dX6_lineNow_139 (by decide) (fun h139 => ?_) (fun h139 => ?_)
    · exact w6 c0 c1 c2 c3 c4 (by omega)
    · refine r_iconst dX6_lineNow_142 (k := ?_)
      refine r_goto (tgt := 178) dX6_lineNow_143 (by decide) ?_
      refine r_iret dX6_lineNow_178 ?_
      exact zP1.ofI (by unfold sNm; rw [if_neg c0, if_neg c1, if_neg c2, if_neg c3, if_neg c4, if_pos (by omega)])
  have w4 : (c0 : ¬ (q - f = 5 ∧ t f = 112 ∧ t (f + 1) = 108 ∧ t (f + 2) = 97 ∧ t (f + 3) = 105 ∧ t (f + 4) = 110)) → (c1 : ¬ (q - f = 5 ∧ t f = 112 ∧ t (f + 1) = 114 ∧ t (f + 2) = 111 ∧ t (f + 3) = 117 ∧ t (f + 4) = 100)) → (c2 : ¬ (q - f = 4 ∧ t f = 102 ∧ t (f + 1) = 111 ∧ t (f + 2) = 110 ∧ t (f + 3) = 100)) → (c3 : ¬ (q - f = 5 ∧ t f = 119 ∧ t (f + 1) = 105 ∧ t (f + 2) = 100 ∧ t (f + 3) = 111 ∧ t (f + 4) = 119)) → SW l G (zrm 2) RX6 cX6_lineNow 1 (some .int) (zZ G (zP1 (zI (sNm t f q)) mem)) 0 0 (fun _ => True) 99 [zR 65] [] mem := by
    intro c0 c1 c2 c3
    refine r_aload_n dX6_lineNow_99 rfl ?_
    refine r_iconst dX6_lineNow_100 (k := ?_)
    refine r_bipush dX6_lineNow_101 (k := ?_)
    refine r_bipush dX6_lineNow_103 (k := ?_)
    refine r_bipush dX6_lineNow_105 (k := ?_)
    refine r_bipush dX6_lineNow_107 (k := ?_)
    refine r_v5 (c_is _ _ _ _ _ (by decide) hE h11 h12 f0 fq0 q1) kX6_92 rfl dX6_lineNow_109 ?_
    refine r_ifd_eq (tgt := 126) dX6_lineNow_112 (by decide) (fun h112 => ?_) (fun h112 => ?_)
    · exact w5 c0 c1 c2 c3 (by omega)
    · refine r_aload_n dX6_lineNow_115 rfl ?_
      refine r_bipush dX6_lineNow_116 (k := ?_)
      refine r_v1 (c_endsIn (q := q) _ hE h12 f0 (by omega)) kX6_96 rfl dX6_lineNow_118 ?_
      refine r_ifd_eq (tgt := 126) dX6_lineNow_121 (by decide) (fun h121 => ?_) (fun h121 => ?_)
      · exact w5 c0 c1 c2 c3 (by omega)
      · refine r_iconst dX6_lineNow_124 (k := ?_)
        refine r_iret dX6_lineNow_125 ?_
        exact zP1.ofI (by unfold sNm; rw [if_neg c0, if_neg c1, if_neg c2, if_neg c3, if_pos (by omega)])
  have w3 : (c0 : ¬ (q - f = 5 ∧ t f = 112 ∧ t (f + 1) = 108 ∧ t (f + 2) = 97 ∧ t (f + 3) = 105 ∧ t (f + 4) = 110)) → (c1 : ¬ (q - f = 5 ∧ t f = 112 ∧ t (f + 1) = 114 ∧ t (f + 2) = 111 ∧ t (f + 3) = 117 ∧ t (f + 4) = 100)) → (c2 : ¬ (q - f = 4 ∧ t f = 102 ∧ t (f + 1) = 111 ∧ t (f + 2) = 110 ∧ t (f + 3) = 100)) → SW l G (zrm 2) RX6 cX6_lineNow 1 (some .int) (zZ G (zP1 (zI (sNm t f q)) mem)) 0 0 (fun _ => True) 72 [zR 65] [] mem := by
    intro c0 c1 c2
    refine r_aload_n dX6_lineNow_72 rfl ?_
    refine r_iconst dX6_lineNow_73 (k := ?_)
    refine r_bipush dX6_lineNow_74 (k := ?_)
    refine r_bipush dX6_lineNow_76 (k := ?_)
    refine r_bipush dX6_lineNow_78 (k := ?_)
    refine r_bipush dX6_lineNow_80 (k := ?_)
    refine r_v5 (c_is _ _ _ _ _ (by decide) hE h11 h12 f0 fq0 q1) kX6_92 rfl dX6_lineNow_82 ?_
    refine r_ifd_eq (tgt := 99) dX6_lineNow_85 (by decide) (fun h85 => ?_) (fun h85 => ?_)
    · exact w4 c0 c1 c2 (by omega)
    · refine r_aload_n dX6_lineNow_88 rfl ?_
      refine r_bipush dX6_lineNow_89 (k := ?_)
      refine r_v1 (c_endsIn (q := q) _ hE h12 f0 (by omega)) kX6_96 rfl dX6_lineNow_91 ?_
      refine r_ifd_eq (tgt := 99) dX6_lineNow_94 (by decide) (fun h94 => ?_) (fun h94 => ?_)
      · exact w4 c0 c1 c2 (by omega)
      · refine r_iconst dX6_lineNow_97 (k := ?_)
        refine r_iret dX6_lineNow_98 ?_
        exact zP1.ofI (by unfold sNm; rw [if_neg c0, if_neg c1, if_neg c2, if_pos (by omega)])
  have w2 : (c0 : ¬ (q - f = 5 ∧ t f = 112 ∧ t (f + 1) = 108 ∧ t (f + 2) = 97 ∧ t (f + 3) = 105 ∧ t (f + 4) = 110)) → (c1 : ¬ (q - f = 5 ∧ t f = 112 ∧ t (f + 1) = 114 ∧ t (f + 2) = 111 ∧ t (f + 3) = 117 ∧ t (f + 4) = 100)) → SW l G (zrm 2) RX6 cX6_lineNow 1 (some .int) (zZ G (zP1 (zI (sNm t f q)) mem)) 0 0 (fun _ => True) 54 [zR 65] [] mem := by
    intro c0 c1
    refine r_aload_n dX6_lineNow_54 rfl ?_
    refine r_iconst dX6_lineNow_55 (k := ?_)
    refine r_bipush dX6_lineNow_56 (k := ?_)
    refine r_bipush dX6_lineNow_58 (k := ?_)
    refine r_bipush dX6_lineNow_60 (k := ?_)
    refine r_bipush dX6_lineNow_62 (k := ?_)
    refine r_v5 (c_is _ _ _ _ _ (by decide) hE h11 h12 f0 fq0 q1) kX6_92 rfl dX6_lineNow_64 ?_
    refine r_ifd_eq (tgt := 72) dX6_lineNow_67 (by decide) (fun h67 => ?_) (fun h67 => ?_)
    · exact w3 c0 c1 (by omega)
    · refine r_iconst dX6_lineNow_70 (k := ?_)
      refine r_iret dX6_lineNow_71 ?_
      exact zP1.ofI (by unfold sNm; rw [if_neg c0, if_neg c1, if_pos (by omega)])
  have w1 : (c0 : ¬ (q - f = 5 ∧ t f = 112 ∧ t (f + 1) = 108 ∧ t (f + 2) = 97 ∧ t (f + 3) = 105 ∧ t (f + 4) = 110)) → SW l G (zrm 2) RX6 cX6_lineNow 1 (some .int) (zZ G (zP1 (zI (sNm t f q)) mem)) 0 0 (fun _ => True) 27 [zR 65] [] mem := by
    intro c0
    refine r_aload_n dX6_lineNow_27 rfl ?_
    refine r_iconst dX6_lineNow_28 (k := ?_)
    refine r_bipush dX6_lineNow_29 (k := ?_)
    refine r_bipush dX6_lineNow_31 (k := ?_)
    refine r_bipush dX6_lineNow_33 (k := ?_)
    refine r_bipush dX6_lineNow_35 (k := ?_)
    refine r_v5 (c_is _ _ _ _ _ (by decide) hE h11 h12 f0 fq0 q1) kX6_92 rfl dX6_lineNow_37 ?_
    refine r_ifd_eq (tgt := 54) dX6_lineNow_40 (by decide) (fun h40 => ?_) (fun h40 => ?_)
    · exact w2 c0 (by omega)
    · refine r_aload_n dX6_lineNow_43 rfl ?_
      refine r_bipush dX6_lineNow_44 (k := ?_)
      refine r_v1 (c_endsIn (q := q) _ hE h12 f0 (by omega)) kX6_96 rfl dX6_lineNow_46 ?_
      refine r_ifd_eq (tgt := 54) dX6_lineNow_49 (by decide) (fun h49 => ?_) (fun h49 => ?_)
      · exact w2 c0 (by omega)
      · refine r_iconst dX6_lineNow_52 (k := ?_)
        refine r_iret dX6_lineNow_53 ?_
        exact zP1.ofI (by unfold sNm; rw [if_neg c0, if_pos (by omega)])
  have w0 : SW l G (zrm 2) RX6 cX6_lineNow 1 (some .int) (zZ G (zP1 (zI (sNm t f q)) mem)) 0 0 (fun _ => True) 0 [zR 65] [] mem := by
    refine r_aload_n dX6_lineNow_0 rfl ?_
    refine r_iconst dX6_lineNow_1 (k := ?_)
    refine r_bipush dX6_lineNow_2 (k := ?_)
    refine r_bipush dX6_lineNow_4 (k := ?_)
    refine r_bipush dX6_lineNow_6 (k := ?_)
    refine r_bipush dX6_lineNow_8 (k := ?_)
    refine r_v5 (c_is _ _ _ _ _ (by decide) hE h11 h12 f0 fq0 q1) kX6_92 rfl dX6_lineNow_10 ?_
    refine r_ifd_eq (tgt := 27) dX6_lineNow_13 (by decide) (fun h13 => ?_) (fun h13 => ?_)
    · exact w1  (by omega)
    · refine r_aload_n dX6_lineNow_16 rfl ?_
      refine r_bipush dX6_lineNow_17 (k := ?_)
      refine r_v1 (c_endsIn (q := q) _ hE h12 f0 (by omega)) kX6_96 rfl dX6_lineNow_19 ?_
      refine r_ifd_eq (tgt := 27) dX6_lineNow_22 (by decide) (fun h22 => ?_) (fun h22 => ?_)
      · exact w1  (by omega)
      · refine r_iconst dX6_lineNow_25 (k := ?_)
        refine r_iret dX6_lineNow_26 ?_
        exact zP1.ofI (by unfold sNm; rw [if_pos (by omega)])
  exact w0
end
