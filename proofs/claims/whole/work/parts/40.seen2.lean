/-! ===== what was seen: the reference ===== -/
/-- an answer, with where all were on each day -/
def zPW (W : zVw) (v : zV) (m : zM) : Option zV → zM → Prop := fun r m' => r = some v ∧ ∃ X Y, m' = zr (zr m 67 X) 71 Y ∧ ∀ k j, 0 ≤ k → k ≤ 20 → 0 ≤ j → j < W.1 → Y (5 * k + j) = vPl W k j
section
variable {l : Launch} {G : zG} {R : Room} {own : String} {cc : ByteArray} {nL : Nat} {ret : Option FieldType} {Z : List Frame → Array Value → State → State → Prop} {kc ks : Nat} {Ex : State → Prop} {pc : Nat} {ls st : List zV} {mem mem' : zM}
variable {y : MethodName} {bytes : ByteArray} {nL' : Nat} {ret' : Option FieldType} {d index b ci : Nat} {v a1 a2 a3 : zV}
theorem r_vW2 {W : zVw} (hM : CT l G y bytes nL' ret' d (zR b :: [a1, a2]) mem (zPW W v mem)) (hk : zCl own index y bytes nL' ret' 2 ci) (hL9 : zL b = (ci, zNf ci)) (hd : decode cc pc = .ok (.invokevirtual index, 3)) (kk : ∀ X Y, (∀ k j, 0 ≤ k → k ≤ 20 → 0 ≤ j → j < W.1 → Y (5 * k + j) = vPl W k j) → SW l G R own cc nL ret Z kc ks Ex (pc + 3) ls (v :: st) (zr (zr mem 67 X) 71 Y)) (hR : d + 1 ≤ R.frames ∧ 8 + (nL' + 11) + 100 * d ≤ R.locals := by exact ⟨Nat.le_of_ble_eq_true rfl, Nat.le_of_ble_eq_true rfl⟩) (hw : zwd st ≤ 8 := by exact Nat.le_of_ble_eq_true rfl) : SW l G R own cc nL ret Z kc ks Ex pc ls (a2 :: a1 :: zR b :: st) mem := by
  obtain ⟨h1, h2, h3, T, N, h4⟩ := hk
  exact r_callV hM h1 h2 hL9 h3 h4 rfl rfl hR hw hd (fun r m9 h9 => by obtain ⟨rfl, X, Y, rfl, hY⟩ := h9; exact kk X Y hY)
end
theorem vDays_out {n : Int} {T : Int → Int} {k : Nat} (hn0 : 0 ≤ n) (hn5 : n ≤ 5) : mOut T (vDays (vM n T) k).1 := by
  induction k with
  | zero => exact mOut.s
  | succ k ih => rw [vDays_s]; exact sDay_out hn0 hn5 ih
def sb3 (c : Int → Int) (s : Int) : Int := c (58 + 3 * s)
def sw3 (c : Int → Int) (s : Int) : Int := c (59 + 3 * s)
def sp3 (c : Int → Int) (s : Int) : Int := c (60 + 3 * s)
section
variable {l : Launch} {G : zG} {mem : zM}
set_option maxRecDepth 100000 in
theorem c_isSoWith {W : zVw} (k v : Int) (hk0 : 0 ≤ k) (hk1 : k < 76) (hI : mI (mem 65 3) (zu (zcp (mem 66) (mem 67) 0 0 76) k v)) (hv : VEQ (vM (mem 65 3) (zu (zcp (mem 66) (mem 67) 0 0 76) k v)) W) (hs : sSB W.1 (mem 66 57) (sb3 (mem 66)) (sw3 (mem 66))) : KX6_isSoWith l G 5 [zR 65, zI k, zI v] mem (zPW W (zI (zb (sSo W (mem 66 57) (sb3 (mem 66)) (sw3 (mem 66)) (sp3 (mem 66))))) mem) := by
  have hn0 := hI.1
  have hn5 := hI.2.1
  have ew : mem 65 3 = W.1 := hv.1
  rw [← hv.so (by rw [show (vM (mem 65 3) (zu (zcp (mem 66) (mem 67) 0 0 76) k v)).1 = W.1 from ew]; exact hs)]
  have hpl : ∀ k i, 0 ≤ i → i < mem 65 3 → vPl (vM (mem 65 3) (zu (zcp (mem 66) (mem 67) 0 0 76) k v)) k i = vPl (vM (mem 65 3) (zu (zcp (mem 66) (mem 67) 0 0 76) k v)) k i := fun _ _ _ _ => rfl
  obtain ⟨s0, s6, sB⟩ := hs
  rw [← ew] at sB
  generalize hT : zu (zcp (mem 66) (mem 67) 0 0 76) k v = T at *
  generalize hA : sSo (vM (mem 65 3) T) (mem 66 57) (sb3 (mem 66)) (sw3 (mem 66)) (sp3 (mem 66)) = A
  refine CT.of' (own := RX6) (ls0 := [zR 65, zI k, zI v, zU, zU, zU]) rfl (by decide +kernel) (Nat.le_of_ble_eq_true rfl) rfl ?_
  have chk : ∀ (X Y : Int → Int), (∀ k j, 0 ≤ k → k ≤ 20 → 0 ≤ j → j < mem 65 3 → Y (5 * k + j) = vPl (vM (mem 65 3) T) k j) → ∀ (q : Nat) (x : Int) (b : Bool) (v5 : zV), 0 ≤ x → x + q = mem 66 57 → (b && !zany (fun s => decide (vPl (vM (mem 65 3) T) (sb3 (mem 66) s) (sw3 (mem 66) s) ≠ sp3 (mem 66) s)) x q) = A → SW l G (zrm 5) RX6 cX6_isSoWith 6 (some .boolean) (zZ G (zPW W (zI (zb A)) mem)) 0 0 (fun _ => True) 70 [zR 65, zI k, zI v, zI (zb b), zI x, v5] [] (zr (zr mem 67 X) 71 Y) := by
    intro X Y hY q
    induction q with
    | zero =>
      intro x b v5 h0 h1 he
      rw [zany, Bool.not_false, Bool.and_true] at he
      refine r_iload dX6_isSoWith_70 rfl ?_
      refine r_aload_n dX6_isSoWith_72 rfl ?_
      refine r_getR (q := 66) fX6_7 rfl rfl dX6_isSoWith_73 ?_
      try simp (disch := decide) only [zr_s, zr_n]
      refine r_bipush dX6_isSoWith_76 (k := ?_)
      refine r_iald rfl (by omega) (by omega) dX6_isSoWith_78 ?_
      try simp (disch := decide) only [zr_s, zr_n]
      refine r_icmp_ge (tgt := 143) dX6_isSoWith_79 (by decide) (fun h79 => ?_) (fun h79 => ?_)
      · refine r_iload_n dX6_isSoWith_143 rfl ?_
        refine r_zret dX6_isSoWith_144 (zb_01 _) ?_
        rw [he]
        exact ⟨rfl, X, Y, rfl, fun k j a b c d => (hY k j a b c (by omega)).trans (hv.pl c (show j < mem 65 3 by omega))⟩
      · exact absurd (by omega) h79
    | succ q ih =>
      intro x b v5 h0 h1 he
      rw [zany] at he
      obtain ⟨q1, q2, q3, q4⟩ := sB x h0 (by omega)
      have q1' : 0 ≤ mem 66 (58 + 3 * x) := q1
      have q2' : mem 66 (58 + 3 * x) ≤ 20 := q2
      have q3' : 0 ≤ mem 66 (59 + 3 * x) := q3
      have q4' : mem 66 (59 + 3 * x) < mem 65 3 := q4
      have eY := hY _ _ q1' q2' q3' q4'
      have e7 : ∀ z, z = mem 66 57 → z ≤ 6 := fun z h => by omega
      refine r_iload dX6_isSoWith_70 rfl ?_
      refine r_aload_n dX6_isSoWith_72 rfl ?_
      refine r_getR (q := 66) fX6_7 rfl rfl dX6_isSoWith_73 ?_
      try simp (disch := decide) only [zr_s, zr_n]
      refine r_bipush dX6_isSoWith_76 (k := ?_)
      refine r_iald rfl (by omega) (by omega) dX6_isSoWith_78 ?_
      try simp (disch := decide) only [zr_s, zr_n]
      refine r_icmp_ge (tgt := 143) dX6_isSoWith_79 (by decide) (fun h79 => ?_) (fun h79 => ?_)
      · exact absurd h79 (by omega)
      · refine r_bipush dX6_isSoWith_82 (k := ?_)
        refine r_iconst dX6_isSoWith_84 (k := ?_)
        refine r_iload dX6_isSoWith_85 rfl ?_
        refine r_imul dX6_isSoWith_87 ?_
        try rw [zw_id (by omega) (by omega)]
        refine r_iadd dX6_isSoWith_88 ?_
        try rw [zw_id (by omega) (by omega)]
        refine r_istore dX6_isSoWith_89 rfl ?_
        refine r_iload_n dX6_isSoWith_91 rfl ?_
        refine r_ifb_eq (tgt := 135) dX6_isSoWith_92 (by decide) (fun h92 => ?_) (fun h92 => ?_)
        · refine r_iconst dX6_isSoWith_135 (k := ?_)
          refine r_istore_n dX6_isSoWith_136 rfl ?_
          refine r_iinc dX6_isSoWith_137 rfl rfl ?_
          try rw [zw_id (by omega) (by omega)]
          refine r_goto (tgt := 70) dX6_isSoWith_140 (by decide) ?_
          first
            | exact ih _ false _ (by omega) (by omega) (by rw [← he, h92]; rfl)
            | exact ih _ false _ (by omega) (by omega) (by rw [← he, decide_eq_true (show vPl (vM (mem 65 3) T) (sb3 (mem 66) x) (sw3 (mem 66) x) ≠ sp3 (mem 66) x from h128), Bool.true_or, Bool.not_true, Bool.and_false, Bool.false_and])
            | exact ih _ true _ (by omega) (by omega) (by rw [← he, h92, decide_eq_false (show ¬ (vPl (vM (mem 65 3) T) (sb3 (mem 66) x) (sw3 (mem 66) x) ≠ sp3 (mem 66) x) from not_not_intro h128), Bool.false_or])
        · refine r_aload_n dX6_isSoWith_95 rfl ?_
          refine r_getR (q := 71) fX6_26 rfl rfl dX6_isSoWith_96 ?_
          try simp (disch := decide) only [zr_s, zr_n]
          refine r_iconst dX6_isSoWith_99 (k := ?_)
          refine r_aload_n dX6_isSoWith_100 rfl ?_
          refine r_getR (q := 66) fX6_7 rfl rfl dX6_isSoWith_101 ?_
          try simp (disch := decide) only [zr_s, zr_n]
          refine r_iload dX6_isSoWith_104 rfl ?_
          refine r_iald rfl (by omega) (by omega) dX6_isSoWith_106 ?_
          try simp (disch := decide) only [zr_s, zr_n]
          refine r_imul dX6_isSoWith_107 ?_
          try rw [zw_id (by omega) (by omega)]
          refine r_aload_n dX6_isSoWith_108 rfl ?_
          refine r_getR (q := 66) fX6_7 rfl rfl dX6_isSoWith_109 ?_
          try simp (disch := decide) only [zr_s, zr_n]
          refine r_iload dX6_isSoWith_112 rfl ?_
          refine r_iconst dX6_isSoWith_114 (k := ?_)
          refine r_iadd dX6_isSoWith_115 ?_
          try rw [zw_id (by omega) (by omega)]
          rw [show 58 + 3 * x + 1 = 59 + 3 * x by omega]
          refine r_iald rfl (by omega) (by omega) dX6_isSoWith_116 ?_
          try simp (disch := decide) only [zr_s, zr_n]
          refine r_iadd dX6_isSoWith_117 ?_
          try rw [zw_id (by omega) (by omega)]
          refine r_iald rfl (by omega) (by omega) dX6_isSoWith_118 ?_
          try simp (disch := decide) only [zr_s, zr_n]
          rw [eY]
          refine r_aload_n dX6_isSoWith_119 rfl ?_
          refine r_getR (q := 66) fX6_7 rfl rfl dX6_isSoWith_120 ?_
          try simp (disch := decide) only [zr_s, zr_n]
          refine r_iload dX6_isSoWith_123 rfl ?_
          refine r_iconst dX6_isSoWith_125 (k := ?_)
          refine r_iadd dX6_isSoWith_126 ?_
          try rw [zw_id (by omega) (by omega)]
          rw [show 58 + 3 * x + 2 = 60 + 3 * x by omega]
          refine r_iald rfl (by omega) (by omega) dX6_isSoWith_127 ?_
          try simp (disch := decide) only [zr_s, zr_n]
          refine r_icmp_ne (tgt := 135) dX6_isSoWith_128 (by decide) (fun h128 => ?_) (fun h128 => ?_)
          · refine r_iconst dX6_isSoWith_135 (k := ?_)
            refine r_istore_n dX6_isSoWith_136 rfl ?_
            refine r_iinc dX6_isSoWith_137 rfl rfl ?_
            try rw [zw_id (by omega) (by omega)]
            refine r_goto (tgt := 70) dX6_isSoWith_140 (by decide) ?_
            first
              | exact ih _ false _ (by omega) (by omega) (by rw [← he, h92]; rfl)
              | exact ih _ false _ (by omega) (by omega) (by rw [← he, decide_eq_true (show vPl (vM (mem 65 3) T) (sb3 (mem 66) x) (sw3 (mem 66) x) ≠ sp3 (mem 66) x from h128), Bool.true_or, Bool.not_true, Bool.and_false, Bool.false_and])
              | exact ih _ true _ (by omega) (by omega) (by rw [← he, h92, decide_eq_false (show ¬ (vPl (vM (mem 65 3) T) (sb3 (mem 66) x) (sw3 (mem 66) x) ≠ sp3 (mem 66) x) from not_not_intro h128), Bool.false_or])
          · refine r_iconst dX6_isSoWith_131 (k := ?_)
            refine r_goto (tgt := 136) dX6_isSoWith_132 (by decide) ?_
            refine r_istore_n dX6_isSoWith_136 rfl ?_
            refine r_iinc dX6_isSoWith_137 rfl rfl ?_
            try rw [zw_id (by omega) (by omega)]
            refine r_goto (tgt := 70) dX6_isSoWith_140 (by decide) ?_
            first
              | exact ih _ false _ (by omega) (by omega) (by rw [← he, h92]; rfl)
              | exact ih _ false _ (by omega) (by omega) (by rw [← he, decide_eq_true (show vPl (vM (mem 65 3) T) (sb3 (mem 66) x) (sw3 (mem 66) x) ≠ sp3 (mem 66) x from h128), Bool.true_or, Bool.not_true, Bool.and_false, Bool.false_and])
              | exact ih _ true _ (by omega) (by omega) (by rw [← he, h92, decide_eq_false (show ¬ (vPl (vM (mem 65 3) T) (sb3 (mem 66) x) (sw3 (mem 66) x) ≠ sp3 (mem 66) x) from not_not_intro h128), Bool.false_or])
  have sPc : ∀ k : Nat, sPB (mem 65 3) (vDays (vM (mem 65 3) T) k).1 := fun k => vDays_bd (W := vM (mem 65 3) T) hn0 hI.2.2.2.2.1
  have loop : ∀ (q : Nat) (x : Nat) (Y : Int → Int) (v4 : zV), x + q = 21 → (∀ k j : Int, 0 ≤ k → k < x → 0 ≤ j → j < mem 65 3 → Y (5 * k + j) = vPl (vM (mem 65 3) T) k j) → SW l G (zrm 5) RX6 cX6_isSoWith 6 (some .boolean) (zZ G (zPW W (zI (zb A)) mem)) 0 0 (fun _ => True) 13 [zR 65, zI k, zI v, zI x, v4, zU] [] (zr (zr mem 67 (mR T (vDays (vM (mem 65 3) T) x))) 71 Y) := by
    intro q
    induction q with
    | zero =>
      intro x Y v4 h1 hY
      refine r_iload_n dX6_isSoWith_13 rfl ?_
      refine r_bipush dX6_isSoWith_14 (k := ?_)
      refine r_icmp_gt (tgt := 65) dX6_isSoWith_16 (by decide) (fun h16 => ?_) (fun h16 => ?_)
      · refine r_iconst dX6_isSoWith_65 (k := ?_)
        refine r_istore_n dX6_isSoWith_66 rfl ?_
        refine r_iconst dX6_isSoWith_67 (k := ?_)
        refine r_istore dX6_isSoWith_68 rfl ?_
        refine chk _ Y (fun k j a b c d => hY k j a (by omega) c d) (mem 66 57).toNat 0 true _ (by omega) (by omega) ?_
        rw [Bool.true_and, ← hA]
        rfl
      · exact absurd (by omega) h16
    | succ q ih =>
      intro x Y v4 h1 hY
      have hmo : mOut T (vDays (vM (mem 65 3) T) x).1 := vDays_out hn0 hn5
      have inner : ∀ (p : Nat) (y : Int) (Y : Int → Int), 0 ≤ y → y + p = mem 65 3 → (∀ k j : Int, 0 ≤ k → k < x → 0 ≤ j → j < mem 65 3 → Y (5 * k + j) = vPl (vM (mem 65 3) T) k j) → (∀ j : Int, 0 ≤ j → j < y → Y (5 * x + j) = vPl (vM (mem 65 3) T) x j) → SW l G (zrm 5) RX6 cX6_isSoWith 6 (some .boolean) (zZ G (zPW W (zI (zb A)) mem)) 0 0 (fun _ => True) 22 [zR 65, zI k, zI v, zI x, zI y, zU] [] (zr (zr mem 67 (mR T (vDays (vM (mem 65 3) T) x))) 71 Y) := by
        intro p
        induction p with
        | zero =>
          intro y Y a0 a1 a2 a3
          have hJ : mI (zr (zr mem 67 (mR T (vDays (vM (mem 65 3) T) x))) 71 Y 65 3) (zr (zr mem 67 (mR T (vDays (vM (mem 65 3) T) x))) 71 Y 67) := by
            rw [zr_n (by decide), zr_n (by decide), zr_n (by decide), zr_s]; exact hI.r hmo (sPc x)
          have e9 := vDays_s (W := vM (mem 65 3) T) (k := x)
          have fin := ih (x + 1) Y (zI y) (by omega) (fun k j b0 b1 b2 b3 => by
            by_cases e : k = x
            · rw [e]; exact a3 j b2 (by omega)
            · exact a2 k j b0 (by omega) b2 b3)
          rw [e9] at fin
          refine r_iload dX6_isSoWith_22 rfl ?_
          refine r_aload_n dX6_isSoWith_24 rfl ?_
          refine r_gI (q := 3) rfl fX6_64 rfl (by decide) dX6_isSoWith_25 ?_
          try simp (disch := decide) only [zr_s, zr_n, mR_P hmo, mR_T, mR_G, mR_1, mR_2, mR_3, mR_53, mR_55, mR_56, mR_54]
          refine r_icmp_ge (tgt := 54) dX6_isSoWith_28 (by decide) (fun h28 => ?_) (fun h28 => ?_)
          · refine r_aload_n dX6_isSoWith_54 rfl ?_
            refine r_iconst dX6_isSoWith_55 (k := ?_)
            refine r_w1 (c_dayGoes hJ false) kX6_190 rfl dX6_isSoWith_56 ?_
            try simp (disch := decide) only [zr_s, zr_n, mR_P hmo, mR_T, mR_G, mR_1, mR_2, mR_3, mR_53, mR_55, mR_56, mR_54]
            rw [if_neg (by decide), mR_mR, zr_cm (by decide), zr_zr]
            refine r_iinc dX6_isSoWith_59 rfl rfl ?_
            try rw [zw_id (by omega) (by omega)]
            refine r_goto (tgt := 13) dX6_isSoWith_62 (by decide) ?_
            exact fin
          · exact absurd (by omega) h28
        | succ p ihp =>
          intro y Y a0 a1 a2 a3
          refine r_iload dX6_isSoWith_22 rfl ?_
          refine r_aload_n dX6_isSoWith_24 rfl ?_
          refine r_gI (q := 3) rfl fX6_64 rfl (by decide) dX6_isSoWith_25 ?_
          try simp (disch := decide) only [zr_s, zr_n, mR_P hmo, mR_T, mR_G, mR_1, mR_2, mR_3, mR_53, mR_55, mR_56, mR_54]
          refine r_icmp_ge (tgt := 54) dX6_isSoWith_28 (by decide) (fun h28 => ?_) (fun h28 => ?_)
          · exact absurd h28 (by omega)
          · refine r_aload_n dX6_isSoWith_31 rfl ?_
            refine r_getR (q := 71) fX6_26 rfl rfl dX6_isSoWith_32 ?_
            try simp (disch := decide) only [zr_s, zr_n, mR_P hmo, mR_T, mR_G, mR_1, mR_2, mR_3, mR_53, mR_55, mR_56, mR_54]
            refine r_iconst dX6_isSoWith_35 (k := ?_)
            refine r_iload_n dX6_isSoWith_36 rfl ?_
            refine r_imul dX6_isSoWith_37 ?_
            try rw [zw_id (by omega) (by omega)]
            refine r_iload dX6_isSoWith_38 rfl ?_
            refine r_iadd dX6_isSoWith_40 ?_
            try rw [zw_id (by omega) (by omega)]
            refine r_aload_n dX6_isSoWith_41 rfl ?_
            refine r_iload dX6_isSoWith_42 rfl ?_
            refine r_v1 (c_place _ (by omega) (by omega)) kX6_156 rfl dX6_isSoWith_44 ?_
            try simp (disch := decide) only [zr_s, zr_n, mR_P hmo, mR_T, mR_G, mR_1, mR_2, mR_3, mR_53, mR_55, mR_56, mR_54]
            refine r_iast rfl (by omega) (by omega) dX6_isSoWith_47 ?_
            refine r_iinc dX6_isSoWith_48 rfl rfl ?_
            try rw [zw_id (by omega) (by omega)]
            refine r_goto (tgt := 22) dX6_isSoWith_51 (by decide) ?_
            rw [zs_zr]
            refine ihp _ _ (by omega) (by omega) (fun k j b0 b1 b2 b3 => ?_) (fun j b0 b1 => ?_)
            · rw [zu_n (by omega)]; exact a2 k j b0 b1 b2 b3
            · by_cases e : j = y
              · rw [e, zu_s]; unfold vPl; rw [Int.toNat_natCast]
              · rw [zu_n (by omega)]; exact a3 j b0 (by omega)
      refine r_iload_n dX6_isSoWith_13 rfl ?_
      refine r_bipush dX6_isSoWith_14 (k := ?_)
      refine r_icmp_gt (tgt := 65) dX6_isSoWith_16 (by decide) (fun h16 => ?_) (fun h16 => ?_)
      · exact absurd h16 (by omega)
      · refine r_iconst dX6_isSoWith_19 (k := ?_)
        refine r_istore dX6_isSoWith_20 rfl ?_
        exact inner (mem 65 3).toNat 0 Y (by omega) (by omega) hY (fun j b0 b1 => absurd b1 (by omega))
  have fin := loop 21 0 (mem 71) zU (by omega) (fun k j b0 b1 b2 b3 => absurd b1 (by omega))
  rw [vDays_0, show mR T (vS0 (vM (mem 65 3) T)) = T from mR_self, zr_id (m := zr mem 67 T) (by rw [zr_n (by decide)])] at fin
  refine r_aload_n dX6_isSoWith_0 rfl ?_
  refine r_w0 (c_starts) kX6_194 rfl dX6_isSoWith_1 ?_
  try simp (disch := decide) only [zr_s, zr_n]
  refine r_aload_n dX6_isSoWith_4 rfl ?_
  refine r_getR (q := 67) fX6_13 rfl rfl dX6_isSoWith_5 ?_
  try simp (disch := decide) only [zr_s, zr_n]
  refine r_iload_n dX6_isSoWith_8 rfl ?_
  refine r_iload_n dX6_isSoWith_9 rfl ?_
  refine r_iast rfl (by omega) (by omega) dX6_isSoWith_10 ?_
  rw [zs_zr, hT]
  refine r_iconst dX6_isSoWith_11 (k := ?_)
  refine r_istore_n dX6_isSoWith_12 rfl ?_
  exact fin
end
