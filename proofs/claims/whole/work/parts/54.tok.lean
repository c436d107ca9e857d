/-! ===== the class: tokens ===== -/
def kT (m m' : zM) : Prop := (∀ o, o ≠ 53 → ¬ (55 ≤ o ∧ o ≤ 62) → m' o = m o) ∧ m' 53 1 = m 53 1
def kK (m m' : zM) : Prop := (∀ o, o ≠ 53 → m' o = m o) ∧ ∀ j, j ≠ 9 → j ≠ 10 → j ≠ 11 → j ≠ 12 → m' 53 j = m 53 j
theorem kT.rf {m : zM} : kT m m := ⟨fun _ _ _ => rfl, rfl⟩
theorem kK.rf {m : zM} : kK m m := ⟨fun _ _ => rfl, fun _ _ _ _ _ => rfl⟩
theorem kT.tr {a b c : zM} (h1 : kT a b) (h2 : kT b c) : kT a c := ⟨fun o x y => (h2.1 o x y).trans (h1.1 o x y), h2.2.trans h1.2⟩
theorem kK.tr {a b c : zM} (h1 : kK a b) (h2 : kK b c) : kK a c := ⟨fun o x => (h2.1 o x).trans (h1.1 o x), fun j x y z w => (h2.2 j x y z w).trans (h1.2 j x y z w)⟩
theorem kK.t {a b : zM} (h : kK a b) : kT a b := ⟨fun o x _ => h.1 o x, h.2 1 (by decide) (by decide) (by decide) (by decide)⟩
theorem kT.s {a b : zM} {k v : Int} (h : kT a b) (hk : k ≠ 1) : kT a (zs b 53 k v) := ⟨fun o x y => by rw [zs_n x]; exact h.1 o x y, by rw [zs_k (fun e => hk e.symm)]; exact h.2⟩
theorem kT.z {a b : zM} {o : Nat} {k v : Int} (h : kT a b) (ho : 55 ≤ o ∧ o ≤ 62) : kT a (zs b o k v) := ⟨fun o' x y => by rw [zs_n (by omega)]; exact h.1 o' x y, by rw [zs_n (by omega)]; exact h.2⟩
theorem kK.s {a b : zM} {k v : Int} (h : kK a b) (hk : k = 9 ∨ k = 10 ∨ k = 11 ∨ k = 12) : kK a (zs b 53 k v) := ⟨fun o x => by rw [zs_n x]; exact h.1 o x, fun j x y z w => by rw [zs_k (by omega)]; exact h.2 j x y z w⟩
theorem zs_w {mem : zM} {o : Nat} {k v w : Int} : zs (zs mem o k v) o k w = zs mem o k w := by
  unfold zs
  rw [zr_zr]
  congr 1
  funext j
  rw [zr_s]
  unfold zu
  split <;> rfl
def zPX {α : Type} (x : Except zEr α) (Q : α → zM → Prop) (m : zM) : Option zV → zM → Prop := fun r m' => kT m m' ∧ match x with
  | .error e => r = some (zI 0) ∧ m' 53 4 = e.1 ∧ m' 53 5 = e.2
  | .ok a => r = some (zI 1) ∧ Q a m'
theorem zPX.e {α : Type} {x : Except zEr α} {Q : α → zM → Prop} {m m' : zM} {e : zEr} (h : x = .error e) (hk : kT m m') (h4 : m' 53 4 = e.1) (h5 : m' 53 5 = e.2) : zPX x Q m (some (zI 0)) m' := by
  subst h
  exact ⟨hk, rfl, h4, h5⟩
theorem zPX.k {α : Type} {x : Except zEr α} {Q : α → zM → Prop} {m m' : zM} {a : α} (h : x = .ok a) (hk : kT m m') (hQ : Q a m') : zPX x Q m (some (zI 1)) m' := by
  subst h
  exact ⟨hk, rfl, hQ⟩
section
variable {l : Launch} {G : zG} {R : Room} {own : String} {cc : ByteArray} {nL : Nat} {ret : Option FieldType} {Z : List Frame → Array Value → State → State → Prop} {kc ks : Nat} {Ex : State → Prop} {pc : Nat} {ls st : List zV} {mem mem' : zM}
variable {y : MethodName} {bytes : ByteArray} {nL' : Nat} {ret' : Option FieldType} {d index b ci : Nat} {v a1 a2 a3 : zV}
theorem r_vX0 {α : Type} {x : Except zEr α} {Q : α → zM → Prop} (hM : CT l G y bytes nL' ret' d (zR b :: []) mem (zPX x Q mem)) (hk : zCl own index y bytes nL' ret' 0 ci) (hL9 : zL b = (ci, zNf ci)) (hd : decode cc pc = .ok (.invokevirtual index, 3)) (ke : ∀ e m9, x = .error e → kT mem m9 → m9 53 4 = e.1 → m9 53 5 = e.2 → SW l G R own cc nL ret Z kc ks Ex (pc + 3) ls (zI 0 :: st) m9) (kk : ∀ a m9, x = .ok a → kT mem m9 → Q a m9 → SW l G R own cc nL ret Z kc ks Ex (pc + 3) ls (zI 1 :: st) m9) (hR : d + 1 ≤ R.frames ∧ 8 + (nL' + 11) + 100 * d ≤ R.locals := by exact ⟨Nat.le_of_ble_eq_true rfl, Nat.le_of_ble_eq_true rfl⟩) (hw : zwd st ≤ 8 := by exact Nat.le_of_ble_eq_true rfl) : SW l G R own cc nL ret Z kc ks Ex pc ls (zR b :: st) mem := by
  obtain ⟨h1, h2, h3, T, N, h4⟩ := hk
  refine r_callV hM h1 h2 hL9 h3 h4 rfl rfl hR hw hd (fun r m9 h9 => ?_)
  cases x with
  | error e => obtain ⟨h9, rfl, h10, h11⟩ := h9; exact ke e m9 rfl h9 h10 h11
  | ok a => obtain ⟨h9, rfl, h10⟩ := h9; exact kk a m9 rfl h9 h10
theorem r_vX1 {α : Type} {x : Except zEr α} {Q : α → zM → Prop} (hM : CT l G y bytes nL' ret' d (zR b :: [a1]) mem (zPX x Q mem)) (hk : zCl own index y bytes nL' ret' 1 ci) (hL9 : zL b = (ci, zNf ci)) (hd : decode cc pc = .ok (.invokevirtual index, 3)) (ke : ∀ e m9, x = .error e → kT mem m9 → m9 53 4 = e.1 → m9 53 5 = e.2 → SW l G R own cc nL ret Z kc ks Ex (pc + 3) ls (zI 0 :: st) m9) (kk : ∀ a m9, x = .ok a → kT mem m9 → Q a m9 → SW l G R own cc nL ret Z kc ks Ex (pc + 3) ls (zI 1 :: st) m9) (hR : d + 1 ≤ R.frames ∧ 8 + (nL' + 11) + 100 * d ≤ R.locals := by exact ⟨Nat.le_of_ble_eq_true rfl, Nat.le_of_ble_eq_true rfl⟩) (hw : zwd st ≤ 8 := by exact Nat.le_of_ble_eq_true rfl) : SW l G R own cc nL ret Z kc ks Ex pc ls (a1 :: zR b :: st) mem := by
  obtain ⟨h1, h2, h3, T, N, h4⟩ := hk
  refine r_callV hM h1 h2 hL9 h3 h4 rfl rfl hR hw hd (fun r m9 h9 => ?_)
  cases x with
  | error e => obtain ⟨h9, rfl, h10, h11⟩ := h9; exact ke e m9 rfl h9 h10 h11
  | ok a => obtain ⟨h9, rfl, h10⟩ := h9; exact kk a m9 rfl h9 h10
theorem r_vX2 {α : Type} {x : Except zEr α} {Q : α → zM → Prop} (hM : CT l G y bytes nL' ret' d (zR b :: [a1, a2]) mem (zPX x Q mem)) (hk : zCl own index y bytes nL' ret' 2 ci) (hL9 : zL b = (ci, zNf ci)) (hd : decode cc pc = .ok (.invokevirtual index, 3)) (ke : ∀ e m9, x = .error e → kT mem m9 → m9 53 4 = e.1 → m9 53 5 = e.2 → SW l G R own cc nL ret Z kc ks Ex (pc + 3) ls (zI 0 :: st) m9) (kk : ∀ a m9, x = .ok a → kT mem m9 → Q a m9 → SW l G R own cc nL ret Z kc ks Ex (pc + 3) ls (zI 1 :: st) m9) (hR : d + 1 ≤ R.frames ∧ 8 + (nL' + 11) + 100 * d ≤ R.locals := by exact ⟨Nat.le_of_ble_eq_true rfl, Nat.le_of_ble_eq_true rfl⟩) (hw : zwd st ≤ 8 := by exact Nat.le_of_ble_eq_true rfl) : SW l G R own cc nL ret Z kc ks Ex pc ls (a2 :: a1 :: zR b :: st) mem := by
  obtain ⟨h1, h2, h3, T, N, h4⟩ := hk
  refine r_callV hM h1 h2 hL9 h3 h4 rfl rfl hR hw hd (fun r m9 h9 => ?_)
  cases x with
  | error e => obtain ⟨h9, rfl, h10, h11⟩ := h9; exact ke e m9 rfl h9 h10 h11
  | ok a => obtain ⟨h9, rfl, h10⟩ := h9; exact kk a m9 rfl h9 h10
end
/-- what stands behind a token that was taken -/
def qTk (m : zM) (k : zTk) (m' : zM) : Prop := kK m m' ∧ m' 53 9 = k.2.2.1 ∧ m' 53 10 = k.1 ∧ m' 53 11 = k.2.1 ∧ (k.1 = 2 → m' 53 12 = k.2.2.2)
def qNum (m : zM) (a : Int × Int × Int) (m' : zM) : Prop := kK m m' ∧ m' 53 9 = a.2.1 ∧ m' 53 11 = a.2.2 ∧ m' 53 12 = a.1
def qStp (m : zM) (q : Int) (m' : zM) : Prop := kK m m' ∧ m' 53 9 = q
def kL (m : zM) : Prop := 0 ≤ m 53 9 ∧ m 53 9 ≤ m 53 1 ∧ m 53 1 ≤ 160
section
variable {l : Launch} {G : zG} {mem : zM}
set_option maxRecDepth 100000 in
theorem c_fail (k : Int) : KX2_fail l G 0 [zR 53, zI k] mem (zP1 (zI 0) (zs (zs mem 53 4 k) 53 5 (mem 53 11))) := by
  refine CT.of' (own := RX2) (ls0 := [zR 53, zI k]) rfl (by decide +kernel) (Nat.le_of_ble_eq_true rfl) rfl ?_
  refine r_aload_n dX2_fail_0 rfl ?_
  refine r_iload_n dX2_fail_1 rfl ?_
  refine r_pI (q := 4) rfl pX2_29 rfl dX2_fail_2 ?_
  refine r_aload_n dX2_fail_5 rfl ?_
  refine r_aload_n dX2_fail_6 rfl ?_
  refine r_gI (q := 11) rfl fX2_52 rfl (by decide) dX2_fail_7 ?_
  try simp (disch := omega) only [zs_n, zs_v, zs_k]
  refine r_pI (q := 5) rfl pX2_32 rfl dX2_fail_10 ?_
  refine r_iconst dX2_fail_13 (k := ?_)
  refine r_zret dX2_fail_14 (by decide) ?_
  exact zP1.i
set_option maxRecDepth 100000 in
theorem c_pass (lo hi : Int) (hL : kL mem) : KX2_pass l G 0 [zR 53, zI lo, zI hi] mem (zP1 (zI (ze (mem 54) (mem 53 1) lo hi (mem 53 9) - mem 53 9)) (zs mem 53 9 (ze (mem 54) (mem 53 1) lo hi (mem 53 9)))) := by
  obtain ⟨b0, b1, b2⟩ := hL
  refine CT.of' (own := RX2) (ls0 := [zR 53, zI lo, zI hi, zU]) rfl (by decide +kernel) (Nat.le_of_ble_eq_true rfl) rfl ?_
  have loop : ∀ (q : Nat) (x : Int), 0 ≤ x → x + q = mem 53 1 → ze (mem 54) (mem 53 1) lo hi x = ze (mem 54) (mem 53 1) lo hi (mem 53 9) → SW l G (zrm 0) RX2 cX2_pass 4 (some .int) (zZ G (zP1 (zI (ze (mem 54) (mem 53 1) lo hi (mem 53 9) - mem 53 9)) (zs mem 53 9 (ze (mem 54) (mem 53 1) lo hi (mem 53 9))))) 0 0 (fun _ => True) 5 [zR 53, zI lo, zI hi, zI (mem 53 9)] [] (zs mem 53 9 x) := by
    intro q
    induction q with
    | zero =>
      intro x h0 h1 he
      rw [ze_out (by omega)] at he
      refine r_aload_n dX2_pass_5 rfl ?_
      refine r_gI (q := 9) rfl fX2_46 rfl (by decide) dX2_pass_6 ?_
      try simp (disch := omega) only [zs_n, zs_v, zs_k]
      refine r_aload_n dX2_pass_9 rfl ?_
      refine r_gI (q := 1) rfl fX2_15 rfl (by decide) dX2_pass_10 ?_
      try simp (disch := omega) only [zs_n, zs_v, zs_k]
      refine r_icmp_ge (tgt := 55) dX2_pass_13 (by decide) (fun h13 => ?_) (fun h13 => ?_)
      · refine r_aload_n dX2_pass_55 rfl ?_
        refine r_gI (q := 9) rfl fX2_46 rfl (by decide) dX2_pass_56 ?_
        try simp (disch := omega) only [zs_n, zs_v, zs_k]
        refine r_iload_n dX2_pass_59 rfl ?_
        refine r_isub dX2_pass_60 ?_
        try rw [zw_id (by omega) (by omega)]
        refine r_iret dX2_pass_61 ?_
        rw [← he]
        exact zP1.i
      · refine r_aload_n dX2_pass_16 rfl ?_
        refine r_getR (q := 54) fX2_9 rfl rfl dX2_pass_17 ?_
        try simp (disch := omega) only [zs_n, zs_v, zs_k]
        refine r_aload_n dX2_pass_20 rfl ?_
        refine r_gI (q := 9) rfl fX2_46 rfl (by decide) dX2_pass_21 ?_
        try simp (disch := omega) only [zs_n, zs_v, zs_k]
        refine r_bald rfl (by omega) (by omega) dX2_pass_24 ?_
        try simp (disch := omega) only [zs_n, zs_v, zs_k]
        refine r_iload_n dX2_pass_25 rfl ?_
        refine r_icmp_lt (tgt := 55) dX2_pass_26 (by decide) (fun h26 => ?_) (fun h26 => ?_)
        · refine r_aload_n dX2_pass_55 rfl ?_
          refine r_gI (q := 9) rfl fX2_46 rfl (by decide) dX2_pass_56 ?_
          try simp (disch := omega) only [zs_n, zs_v, zs_k]
          refine r_iload_n dX2_pass_59 rfl ?_
          refine r_isub dX2_pass_60 ?_
          try rw [zw_id (by omega) (by omega)]
          refine r_iret dX2_pass_61 ?_
          rw [← he]
          exact zP1.i
        · refine r_aload_n dX2_pass_29 rfl ?_
          refine r_getR (q := 54) fX2_9 rfl rfl dX2_pass_30 ?_
          try simp (disch := omega) only [zs_n, zs_v, zs_k]
          refine r_aload_n dX2_pass_33 rfl ?_
          refine r_gI (q := 9) rfl fX2_46 rfl (by decide) dX2_pass_34 ?_
          try simp (disch := omega) only [zs_n, zs_v, zs_k]
          refine r_bald rfl (by omega) (by omega) dX2_pass_37 ?_
          try simp (disch := omega) only [zs_n, zs_v, zs_k]
          refine r_iload_n dX2_pass_38 rfl ?_
          refine r_icmp_gt (tgt := 55) dX2_pass_39 (by decide) (fun h39 => ?_) (fun h39 => ?_)
          · refine r_aload_n dX2_pass_55 rfl ?_
            refine r_gI (q := 9) rfl fX2_46 rfl (by decide) dX2_pass_56 ?_
            try simp (disch := omega) only [zs_n, zs_v, zs_k]
            refine r_iload_n dX2_pass_59 rfl ?_
            refine r_isub dX2_pass_60 ?_
            try rw [zw_id (by omega) (by omega)]
            refine r_iret dX2_pass_61 ?_
            rw [← he]
            exact zP1.i
          · exfalso; omega
    | succ q ih =>
      intro x h0 h1 he
      by_cases hc : x < mem 53 1 ∧ lo ≤ mem 54 x ∧ mem 54 x ≤ hi
      · rw [ze_in hc] at he
        refine r_aload_n dX2_pass_5 rfl ?_
        refine r_gI (q := 9) rfl fX2_46 rfl (by decide) dX2_pass_6 ?_
        try simp (disch := omega) only [zs_n, zs_v, zs_k]
        refine r_aload_n dX2_pass_9 rfl ?_
        refine r_gI (q := 1) rfl fX2_15 rfl (by decide) dX2_pass_10 ?_
        try simp (disch := omega) only [zs_n, zs_v, zs_k]
        refine r_icmp_ge (tgt := 55) dX2_pass_13 (by decide) (fun h13 => ?_) (fun h13 => ?_)
        · exfalso; omega
        · refine r_aload_n dX2_pass_16 rfl ?_
          refine r_getR (q := 54) fX2_9 rfl rfl dX2_pass_17 ?_
          try simp (disch := omega) only [zs_n, zs_v, zs_k]
          refine r_aload_n dX2_pass_20 rfl ?_
          refine r_gI (q := 9) rfl fX2_46 rfl (by decide) dX2_pass_21 ?_
          try simp (disch := omega) only [zs_n, zs_v, zs_k]
          refine r_bald rfl (by omega) (by omega) dX2_pass_24 ?_
          try simp (disch := omega) only [zs_n, zs_v, zs_k]
          refine r_iload_n dX2_pass_25 rfl ?_
          refine r_icmp_lt (tgt := 55) dX2_pass_26 (by decide) (fun h26 => ?_) (fun h26 => ?_)
          · exfalso; omega
          · refine r_aload_n dX2_pass_29 rfl ?_
            refine r_getR (q := 54) fX2_9 rfl rfl dX2_pass_30 ?_
            try simp (disch := omega) only [zs_n, zs_v, zs_k]
            refine r_aload_n dX2_pass_33 rfl ?_
            refine r_gI (q := 9) rfl fX2_46 rfl (by decide) dX2_pass_34 ?_
            try simp (disch := omega) only [zs_n, zs_v, zs_k]
            refine r_bald rfl (by omega) (by omega) dX2_pass_37 ?_
            try simp (disch := omega) only [zs_n, zs_v, zs_k]
            refine r_iload_n dX2_pass_38 rfl ?_
            refine r_icmp_gt (tgt := 55) dX2_pass_39 (by decide) (fun h39 => ?_) (fun h39 => ?_)
            · exfalso; omega
            · refine r_aload_n dX2_pass_42 rfl ?_
              refine r_dup dX2_pass_43 rfl ?_
              refine r_gI (q := 9) rfl fX2_46 rfl (by decide) dX2_pass_44 ?_
              try simp (disch := omega) only [zs_n, zs_v, zs_k]
              refine r_iconst dX2_pass_47 (k := ?_)
              refine r_iadd dX2_pass_48 ?_
              try rw [zw_id (by omega) (by omega)]
              refine r_pI (q := 9) rfl pX2_46 rfl dX2_pass_49 ?_
              refine r_goto (tgt := 5) dX2_pass_52 (by decide) ?_
              rw [zs_w]
              exact ih _ (by omega) (by omega) he
      · rw [ze_out hc] at he
        refine r_aload_n dX2_pass_5 rfl ?_
        refine r_gI (q := 9) rfl fX2_46 rfl (by decide) dX2_pass_6 ?_
        try simp (disch := omega) only [zs_n, zs_v, zs_k]
        refine r_aload_n dX2_pass_9 rfl ?_
        refine r_gI (q := 1) rfl fX2_15 rfl (by decide) dX2_pass_10 ?_
        try simp (disch := omega) only [zs_n, zs_v, zs_k]
        refine r_icmp_ge (tgt := 55) dX2_pass_13 (by decide) (fun h13 => ?_) (fun h13 => ?_)
        · refine r_aload_n dX2_pass_55 rfl ?_
          refine r_gI (q := 9) rfl fX2_46 rfl (by decide) dX2_pass_56 ?_
          try simp (disch := omega) only [zs_n, zs_v, zs_k]
          refine r_iload_n dX2_pass_59 rfl ?_
          refine r_isub dX2_pass_60 ?_
          try rw [zw_id (by omega) (by omega)]
          refine r_iret dX2_pass_61 ?_
          rw [← he]
          exact zP1.i
        · refine r_aload_n dX2_pass_16 rfl ?_
          refine r_getR (q := 54) fX2_9 rfl rfl dX2_pass_17 ?_
          try simp (disch := omega) only [zs_n, zs_v, zs_k]
          refine r_aload_n dX2_pass_20 rfl ?_
          refine r_gI (q := 9) rfl fX2_46 rfl (by decide) dX2_pass_21 ?_
          try simp (disch := omega) only [zs_n, zs_v, zs_k]
          refine r_bald rfl (by omega) (by omega) dX2_pass_24 ?_
          try simp (disch := omega) only [zs_n, zs_v, zs_k]
          refine r_iload_n dX2_pass_25 rfl ?_
          refine r_icmp_lt (tgt := 55) dX2_pass_26 (by decide) (fun h26 => ?_) (fun h26 => ?_)
          · refine r_aload_n dX2_pass_55 rfl ?_
            refine r_gI (q := 9) rfl fX2_46 rfl (by decide) dX2_pass_56 ?_
            try simp (disch := omega) only [zs_n, zs_v, zs_k]
            refine r_iload_n dX2_pass_59 rfl ?_
            refine r_isub dX2_pass_60 ?_
            try rw [zw_id (by omega) (by omega)]
            refine r_iret dX2_pass_61 ?_
            rw [← he]
            exact zP1.i
          · refine r_aload_n dX2_pass_29 rfl ?_
            refine r_getR (q := 54) fX2_9 rfl rfl dX2_pass_30 ?_
            try simp (disch := omega) only [zs_n, zs_v, zs_k]
            refine r_aload_n dX2_pass_33 rfl ?_
            refine r_gI (q := 9) rfl fX2_46 rfl (by decide) dX2_pass_34 ?_
            try simp (disch := omega) only [zs_n, zs_v, zs_k]
            refine r_bald rfl (by omega) (by omega) dX2_pass_37 ?_
            try simp (disch := omega) only [zs_n, zs_v, zs_k]
            refine r_iload_n dX2_pass_38 rfl ?_
            refine r_icmp_gt (tgt := 55) dX2_pass_39 (by decide) (fun h39 => ?_) (fun h39 => ?_)
            · refine r_aload_n dX2_pass_55 rfl ?_
              refine r_gI (q := 9) rfl fX2_46 rfl (by decide) dX2_pass_56 ?_
              try simp (disch := omega) only [zs_n, zs_v, zs_k]
              refine r_iload_n dX2_pass_59 rfl ?_
              refine r_isub dX2_pass_60 ?_
              try rw [zw_id (by omega) (by omega)]
              refine r_iret dX2_pass_61 ?_
              rw [← he]
              exact zP1.i
            · exfalso; omega
  have fin := loop (mem 53 1 - mem 53 9).toNat (mem 53 9) b0 (by omega) rfl
  rw [zs_u rfl] at fin
  refine r_aload_n dX2_pass_0 rfl ?_
  refine r_gI (q := 9) rfl fX2_46 rfl (by decide) dX2_pass_1 ?_
  try simp (disch := omega) only [zs_n, zs_v, zs_k]
  refine r_istore_n dX2_pass_4 rfl ?_
  exact fin
end
theorem sNum_e {t : Int → Int} {L p lo hi : Int} {e : zEr} (h : sTk t L p = .error e) : sNum t L p lo hi = .error e := by unfold sNum; simp only [h]
theorem sNum_2 {t : Int → Int} {L p lo hi : Int} {k : zTk} (h : sTk t L p = .ok k) (h2 : ¬ k.1 = 2) : sNum t L p lo hi = .error (2, k.2.1) := by unfold sNum; simp only [h]; rw [if_neg h2]
theorem sNum_3 {t : Int → Int} {L p lo hi : Int} {k : zTk} (h : sTk t L p = .ok k) (h2 : k.1 = 2) (h3 : ¬ (lo ≤ k.2.2.2 ∧ k.2.2.2 ≤ hi)) : sNum t L p lo hi = .error (3, k.2.1) := by unfold sNum; simp only [h]; rw [if_pos h2, if_neg h3]
theorem sNum_k {t : Int → Int} {L p lo hi : Int} {k : zTk} (h : sTk t L p = .ok k) (h2 : k.1 = 2) (h3 : lo ≤ k.2.2.2 ∧ k.2.2.2 ≤ hi) : sNum t L p lo hi = .ok (k.2.2.2, k.2.2.1, k.2.1) := by unfold sNum; simp only [h]; rw [if_pos h2, if_pos h3]
theorem sStp_e {t : Int → Int} {L p : Int} {e : zEr} (h : sTk t L p = .error e) : sStp t L p = .error e := by unfold sStp; simp only [h]
theorem sStp_2 {t : Int → Int} {L p : Int} {k : zTk} (h : sTk t L p = .ok k) (h2 : ¬ k.1 = 3) : sStp t L p = .error (2, k.2.1) := by unfold sStp; simp only [h]; rw [if_neg h2]
theorem sStp_k {t : Int → Int} {L p : Int} {k : zTk} (h : sTk t L p = .ok k) (h2 : k.1 = 3) : sStp t L p = .ok k.2.2.1 := by unfold sStp; simp only [h]; rw [if_pos h2]
theorem sPr_1 {t : Int → Int} {L p : Int} {e : zEr} (h : sNum t L p 0 4 = .error e) : sPr t L p = .error e := by unfold sPr; simp only [h]
theorem sPr_2 {t : Int → Int} {L p : Int} {a : Int × Int × Int} {e : zEr} (h : sNum t L p 0 4 = .ok a) (h2 : sNum t L a.2.1 0 4 = .error e) : sPr t L p = .error e := by unfold sPr; simp only [h, h2]
theorem sPr_3 {t : Int → Int} {L p : Int} {a b : Int × Int × Int} (h : sNum t L p 0 4 = .ok a) (h2 : sNum t L a.2.1 0 4 = .ok b) (h3 : a.1 = b.1) : sPr t L p = .error (3, b.2.2) := by unfold sPr; simp only [h, h2]; rw [if_pos h3]
theorem sPr_k {t : Int → Int} {L p : Int} {a b : Int × Int × Int} (h : sNum t L p 0 4 = .ok a) (h2 : sNum t L a.2.1 0 4 = .ok b) (h3 : ¬ a.1 = b.1) : sPr t L p = .ok (a.1, b.1, b.2.1, b.2.2) := by unfold sPr; simp only [h, h2]; rw [if_neg h3]
section
variable {l : Launch} {G : zG} {mem : zM}
set_option maxRecDepth 100000 in
theorem c_takeToken (hL : kL mem) : KX2_takeToken l G 1 [zR 53] mem (zPX (sTk (mem 54) (mem 53 1) (mem 53 9)) (qTk mem) mem) := by
  obtain ⟨b0, b1, b2⟩ := id hL
  have f1 := ze_ge (t := mem 54) (L := mem 53 1) (lo := 32) (hi := 32) (p := mem 53 9)
  have f2 := ze_le (t := mem 54) (L := mem 53 1) (lo := 32) (hi := 32) b1
  generalize hF : ze (mem 54) (mem 53 1) 32 32 (mem 53 9) = F at f1 f2
  have g1 := ze_ge (t := mem 54) (L := mem 53 1) (lo := 97) (hi := 122) (p := F)
  have g2 := ze_le (t := mem 54) (L := mem 53 1) (lo := 97) (hi := 122) f2
  have d1 := ze_ge (t := mem 54) (L := mem 53 1) (lo := 48) (hi := 57) (p := F)
  have d2 := ze_le (t := mem 54) (L := mem 53 1) (lo := 48) (hi := 57) f2
  have d3 := fun j a b => ze_at (t := mem 54) (L := mem 53 1) (lo := 48) (hi := 57) (p := F) (j := j) a b
  have hL2 : kL (zs (zs mem 53 9 F) 53 11 F) := by unfold kL; simp (disch := omega) only [zs_n, zs_v, zs_k]; omega
  have hL3 : kL (zs (zs (zs mem 53 9 F) 53 11 F) 53 9 F) := by unfold kL; simp (disch := omega) only [zs_n, zs_v, zs_k]; omega
  refine CT.of' (own := RX2) (ls0 := [zR 53, zU]) rfl (by decide +kernel) (Nat.le_of_ble_eq_true rfl) rfl ?_
  refine r_aload_n dX2_takeToken_0 rfl ?_
  refine r_bipush dX2_takeToken_1 (k := ?_)
  refine r_bipush dX2_takeToken_3 (k := ?_)
  refine r_v2 (c_pass _ _ hL) kX2_166 rfl dX2_takeToken_5 ?_
  try simp (disch := omega) only [zs_n, zs_v, zs_k]
  rw [hF]
  refine r_pop dX2_takeToken_8 rfl ?_
  refine r_aload_n dX2_takeToken_9 rfl ?_
  refine r_aload_n dX2_takeToken_10 rfl ?_
  refine r_gI (q := 9) rfl fX2_46 rfl (by decide) dX2_takeToken_11 ?_
  try simp (disch := omega) only [zs_n, zs_v, zs_k]
  refine r_pI (q := 11) rfl pX2_52 rfl dX2_takeToken_14 ?_
  by_cases c1 : mem 53 1 ≤ F
  · have hs : sTk (mem 54) (mem 53 1) (mem 53 9) = .ok (0, F, F, 0) := by unfold sTk; rw [hF, if_pos c1]
    refine r_aload_n dX2_takeToken_17 rfl ?_
    refine r_gI (q := 9) rfl fX2_46 rfl (by decide) dX2_takeToken_18 ?_
    try simp (disch := omega) only [zs_n, zs_v, zs_k]
    refine r_aload_n dX2_takeToken_21 rfl ?_
    refine r_gI (q := 1) rfl fX2_15 rfl (by decide) dX2_takeToken_22 ?_
    try simp (disch := omega) only [zs_n, zs_v, zs_k]
    refine r_icmp_lt (tgt := 35) dX2_takeToken_25 (by decide) (fun h25 => ?_) (fun h25 => ?_)
    · exfalso; omega
    · refine r_aload_n dX2_takeToken_28 rfl ?_
      refine r_iconst dX2_takeToken_29 (k := ?_)
      refine r_pI (q := 10) rfl pX2_49 rfl dX2_takeToken_30 ?_
      refine r_iconst dX2_takeToken_33 (k := ?_)
      refine r_zret dX2_takeToken_34 (by decide) ?_
      exact zPX.k hs (kK.t (by repeat first | exact kK.rf | refine kK.s ?_ (by decide))) ⟨(by repeat first | exact kK.rf | refine kK.s ?_ (by decide)), by simp (disch := omega) only [zs_n, zs_v, zs_k], by simp (disch := omega) only [zs_n, zs_v, zs_k], by simp (disch := omega) only [zs_n, zs_v, zs_k], fun h => absurd h (show ¬ ((0 : Int) = 2) by decide)⟩
  by_cases c2 : mem 54 F = 59
  · have hs : sTk (mem 54) (mem 53 1) (mem 53 9) = .ok (3, F, F + 1, 0) := by unfold sTk; rw [hF, if_neg c1, if_pos c2]
    refine r_aload_n dX2_takeToken_17 rfl ?_
    refine r_gI (q := 9) rfl fX2_46 rfl (by decide) dX2_takeToken_18 ?_
    try simp (disch := omega) only [zs_n, zs_v, zs_k]
    refine r_aload_n dX2_takeToken_21 rfl ?_
    refine r_gI (q := 1) rfl fX2_15 rfl (by decide) dX2_takeToken_22 ?_
    try simp (disch := omega) only [zs_n, zs_v, zs_k]
    refine r_icmp_lt (tgt := 35) dX2_takeToken_25 (by decide) (fun h25 => ?_) (fun h25 => ?_)
    · refine r_aload_n dX2_takeToken_35 rfl ?_
      refine r_getR (q := 54) fX2_9 rfl rfl dX2_takeToken_36 ?_
      try simp (disch := omega) only [zs_n, zs_v, zs_k]
      refine r_aload_n dX2_takeToken_39 rfl ?_
      refine r_gI (q := 9) rfl fX2_46 rfl (by decide) dX2_takeToken_40 ?_
      try simp (disch := omega) only [zs_n, zs_v, zs_k]
      refine r_bald rfl (by omega) (by omega) dX2_takeToken_43 ?_
      try simp (disch := omega) only [zs_n, zs_v, zs_k]
      refine r_bipush dX2_takeToken_44 (k := ?_)
      refine r_icmp_ne (tgt := 66) dX2_takeToken_46 (by decide) (fun h46 => ?_) (fun h46 => ?_)
      · exfalso; omega
      · refine r_aload_n dX2_takeToken_49 rfl ?_
        refine r_dup dX2_takeToken_50 rfl ?_
        refine r_gI (q := 9) rfl fX2_46 rfl (by decide) dX2_takeToken_51 ?_
        try simp (disch := omega) only [zs_n, zs_v, zs_k]
        refine r_iconst dX2_takeToken_54 (k := ?_)
        refine r_iadd dX2_takeToken_55 ?_
        try rw [zw_id (by omega) (by omega)]
        refine r_pI (q := 9) rfl pX2_46 rfl dX2_takeToken_56 ?_
        refine r_aload_n dX2_takeToken_59 rfl ?_
        refine r_iconst dX2_takeToken_60 (k := ?_)
        refine r_pI (q := 10) rfl pX2_49 rfl dX2_takeToken_61 ?_
        refine r_iconst dX2_takeToken_64 (k := ?_)
        refine r_zret dX2_takeToken_65 (by decide) ?_
        exact zPX.k hs (kK.t (by repeat first | exact kK.rf | refine kK.s ?_ (by decide))) ⟨(by repeat first | exact kK.rf | refine kK.s ?_ (by decide)), by simp (disch := omega) only [zs_n, zs_v, zs_k], by simp (disch := omega) only [zs_n, zs_v, zs_k], by simp (disch := omega) only [zs_n, zs_v, zs_k], fun h => absurd h (show ¬ ((3 : Int) = 2) by decide)⟩
    · exfalso; omega
  by_cases c3 : 97 ≤ mem 54 F ∧ mem 54 F ≤ 122
  · have hs : sTk (mem 54) (mem 53 1) (mem 53 9) = .ok (1, F, ze (mem 54) (mem 53 1) 97 122 F, 0) := by unfold sTk; rw [hF, if_neg c1, if_neg c2, if_pos c3]
    have g4 := ze_in (t := mem 54) (L := mem 53 1) (lo := 97) (hi := 122) (p := F) ⟨by omega, c3.1, c3.2⟩
    have g5 := ze_ge (t := mem 54) (L := mem 53 1) (lo := 97) (hi := 122) (p := F + 1)
    refine r_aload_n dX2_takeToken_17 rfl ?_
    refine r_gI (q := 9) rfl fX2_46 rfl (by decide) dX2_takeToken_18 ?_
    try simp (disch := omega) only [zs_n, zs_v, zs_k]
    refine r_aload_n dX2_takeToken_21 rfl ?_
    refine r_gI (q := 1) rfl fX2_15 rfl (by decide) dX2_takeToken_22 ?_
    try simp (disch := omega) only [zs_n, zs_v, zs_k]
    refine r_icmp_lt (tgt := 35) dX2_takeToken_25 (by decide) (fun h25 => ?_) (fun h25 => ?_)
    · refine r_aload_n dX2_takeToken_35 rfl ?_
      refine r_getR (q := 54) fX2_9 rfl rfl dX2_takeToken_36 ?_
      try simp (disch := omega) only [zs_n, zs_v, zs_k]
      refine r_aload_n dX2_takeToken_39 rfl ?_
      refine r_gI (q := 9) rfl fX2_46 rfl (by decide) dX2_takeToken_40 ?_
      try simp (disch := omega) only [zs_n, zs_v, zs_k]
      refine r_bald rfl (by omega) (by omega) dX2_takeToken_43 ?_
      try simp (disch := omega) only [zs_n, zs_v, zs_k]
      refine r_bipush dX2_takeToken_44 (k := ?_)
      refine r_icmp_ne (tgt := 66) dX2_takeToken_46 (by decide) (fun h46 => ?_) (fun h46 => ?_)
      · refine r_aload_n dX2_takeToken_66 rfl ?_
        refine r_bipush dX2_takeToken_67 (k := ?_)
        refine r_bipush dX2_takeToken_69 (k := ?_)
        refine r_v2 (c_pass _ _ hL2) kX2_166 rfl dX2_takeToken_71 ?_
        try simp (disch := omega) only [zs_n, zs_v, zs_k]
        refine r_if_le (tgt := 84) dX2_takeToken_74 (by decide) (fun h74 => ?_) (fun h74 => ?_)
        · exfalso; omega
        · refine r_aload_n dX2_takeToken_77 rfl ?_
          refine r_iconst dX2_takeToken_78 (k := ?_)
          refine r_pI (q := 10) rfl pX2_49 rfl dX2_takeToken_79 ?_
          refine r_iconst dX2_takeToken_82 (k := ?_)
          refine r_zret dX2_takeToken_83 (by decide) ?_
          exact zPX.k hs (kK.t (by repeat first | exact kK.rf | refine kK.s ?_ (by decide))) ⟨(by repeat first | exact kK.rf | refine kK.s ?_ (by decide)), by simp (disch := omega) only [zs_n, zs_v, zs_k], by simp (disch := omega) only [zs_n, zs_v, zs_k], by simp (disch := omega) only [zs_n, zs_v, zs_k], fun h => absurd h (show ¬ ((1 : Int) = 2) by decide)⟩
      · exfalso; omega
    · exfalso; omega
  have g6 := ze_out (t := mem 54) (L := mem 53 1) (lo := 97) (hi := 122) (p := F) (by omega)
  generalize hN : ze (mem 54) (mem 53 1) 48 57 F = N at d1 d2 d3
  by_cases c4 : N - F = 1
  · have a1 := d3 F (by omega) (by omega)
    have hs : sTk (mem 54) (mem 53 1) (mem 53 9) = .ok (2, F, F + 1, mem 54 F - 48) := by unfold sTk; rw [hF, if_neg c1, if_neg c2, if_neg c3, hN, if_pos c4]
    obtain rfl : N = F + 1 := by omega
    have e1 : F + 1 - 1 = F := by omega
    refine r_aload_n dX2_takeToken_17 rfl ?_
    refine r_gI (q := 9) rfl fX2_46 rfl (by decide) dX2_takeToken_18 ?_
    try simp (disch := omega) only [zs_n, zs_v, zs_k]
    refine r_aload_n dX2_takeToken_21 rfl ?_
    refine r_gI (q := 1) rfl fX2_15 rfl (by decide) dX2_takeToken_22 ?_
    try simp (disch := omega) only [zs_n, zs_v, zs_k]
    refine r_icmp_lt (tgt := 35) dX2_takeToken_25 (by decide) (fun h25 => ?_) (fun h25 => ?_)
    · refine r_aload_n dX2_takeToken_35 rfl ?_
      refine r_getR (q := 54) fX2_9 rfl rfl dX2_takeToken_36 ?_
      try simp (disch := omega) only [zs_n, zs_v, zs_k]
      refine r_aload_n dX2_takeToken_39 rfl ?_
      refine r_gI (q := 9) rfl fX2_46 rfl (by decide) dX2_takeToken_40 ?_
      try simp (disch := omega) only [zs_n, zs_v, zs_k]
      refine r_bald rfl (by omega) (by omega) dX2_takeToken_43 ?_
      try simp (disch := omega) only [zs_n, zs_v, zs_k]
      refine r_bipush dX2_takeToken_44 (k := ?_)
      refine r_icmp_ne (tgt := 66) dX2_takeToken_46 (by decide) (fun h46 => ?_) (fun h46 => ?_)
      · refine r_aload_n dX2_takeToken_66 rfl ?_
        refine r_bipush dX2_takeToken_67 (k := ?_)
        refine r_bipush dX2_takeToken_69 (k := ?_)
        refine r_v2 (c_pass _ _ hL2) kX2_166 rfl dX2_takeToken_71 ?_
        try simp (disch := omega) only [zs_n, zs_v, zs_k]
        rw [g6]
        refine r_if_le (tgt := 84) dX2_takeToken_74 (by decide) (fun h74 => ?_) (fun h74 => ?_)
        · refine r_aload_n dX2_takeToken_84 rfl ?_
          refine r_bipush dX2_takeToken_85 (k := ?_)
          refine r_bipush dX2_takeToken_87 (k := ?_)
          refine r_v2 (c_pass _ _ hL3) kX2_166 rfl dX2_takeToken_89 ?_
          try simp (disch := omega) only [zs_n, zs_v, zs_k]
          rw [hN]
          refine r_istore_n dX2_takeToken_92 rfl ?_
          refine r_iload_n dX2_takeToken_93 rfl ?_
          refine r_iconst dX2_takeToken_94 (k := ?_)
          refine r_icmp_lt (tgt := 103) dX2_takeToken_95 (by decide) (fun h95 => ?_) (fun h95 => ?_)
          · exfalso; omega
          · refine r_iload_n dX2_takeToken_98 rfl ?_
            refine r_iconst dX2_takeToken_99 (k := ?_)
            refine r_icmp_le (tgt := 109) dX2_takeToken_100 (by decide) (fun h100 => ?_) (fun h100 => ?_)
            · refine r_aload_n dX2_takeToken_109 rfl ?_
              refine r_iconst dX2_takeToken_110 (k := ?_)
              refine r_pI (q := 10) rfl pX2_49 rfl dX2_takeToken_111 ?_
              refine r_aload_n dX2_takeToken_114 rfl ?_
              refine r_aload_n dX2_takeToken_115 rfl ?_
              refine r_getR (q := 54) fX2_9 rfl rfl dX2_takeToken_116 ?_
              try simp (disch := omega) only [zs_n, zs_v, zs_k]
              refine r_aload_n dX2_takeToken_119 rfl ?_
              refine r_gI (q := 9) rfl fX2_46 rfl (by decide) dX2_takeToken_120 ?_
              try simp (disch := omega) only [zs_n, zs_v, zs_k]
              refine r_iconst dX2_takeToken_123 (k := ?_)
              refine r_isub dX2_takeToken_124 ?_
              try rw [zw_id (by omega) (by omega)]
              rw [e1]
              refine r_bald rfl (by omega) (by omega) dX2_takeToken_125 ?_
              try simp (disch := omega) only [zs_n, zs_v, zs_k]
              refine r_bipush dX2_takeToken_126 (k := ?_)
              refine r_isub dX2_takeToken_128 ?_
              try rw [zw_id (by omega) (by omega)]
              refine r_iload_n dX2_takeToken_129 rfl ?_
              refine r_iconst dX2_takeToken_130 (k := ?_)
              refine r_icmp_ne (tgt := 152) dX2_takeToken_131 (by decide) (fun h131 => ?_) (fun h131 => ?_)
              · refine r_iconst dX2_takeToken_152 (k := ?_)
                refine r_iadd dX2_takeToken_153 ?_
                try rw [zw_id (by omega) (by omega)]
                refine r_pI (q := 12) rfl pX2_55 rfl dX2_takeToken_154 ?_
                refine r_iconst dX2_takeToken_157 (k := ?_)
                refine r_zret dX2_takeToken_158 (by decide) ?_
                exact zPX.k hs (kK.t (by repeat first | exact kK.rf | refine kK.s ?_ (by decide))) ⟨(by repeat first | exact kK.rf | refine kK.s ?_ (by decide)), by simp (disch := omega) only [zs_n, zs_v, zs_k], by simp (disch := omega) only [zs_n, zs_v, zs_k], by simp (disch := omega) only [zs_n, zs_v, zs_k], fun _ => by simp (disch := omega) only [zs_n, zs_v, zs_k]; omega⟩
              · exfalso; omega
            · exfalso; omega
        · exfalso; omega
      · exfalso; omega
    · exfalso; omega
  by_cases c5 : N - F = 2
  · have a1 := d3 F (by omega) (by omega)
    have a2 := d3 (F + 1) (by omega) (by omega)
    have hs : sTk (mem 54) (mem 53 1) (mem 53 9) = .ok (2, F, F + 2, 10 * (mem 54 F - 48) + (mem 54 (F + 1) - 48)) := by unfold sTk; rw [hF, if_neg c1, if_neg c2, if_neg c3, hN, if_neg c4, if_pos c5]
    obtain rfl : N = F + 2 := by omega
    have e1 : F + 2 - 1 = F + 1 := by omega
    refine r_aload_n dX2_takeToken_17 rfl ?_
    refine r_gI (q := 9) rfl fX2_46 rfl (by decide) dX2_takeToken_18 ?_
    try simp (disch := omega) only [zs_n, zs_v, zs_k]
    refine r_aload_n dX2_takeToken_21 rfl ?_
    refine r_gI (q := 1) rfl fX2_15 rfl (by decide) dX2_takeToken_22 ?_
    try simp (disch := omega) only [zs_n, zs_v, zs_k]
    refine r_icmp_lt (tgt := 35) dX2_takeToken_25 (by decide) (fun h25 => ?_) (fun h25 => ?_)
    · refine r_aload_n dX2_takeToken_35 rfl ?_
      refine r_getR (q := 54) fX2_9 rfl rfl dX2_takeToken_36 ?_
      try simp (disch := omega) only [zs_n, zs_v, zs_k]
      refine r_aload_n dX2_takeToken_39 rfl ?_
      refine r_gI (q := 9) rfl fX2_46 rfl (by decide) dX2_takeToken_40 ?_
      try simp (disch := omega) only [zs_n, zs_v, zs_k]
      refine r_bald rfl (by omega) (by omega) dX2_takeToken_43 ?_
      try simp (disch := omega) only [zs_n, zs_v, zs_k]
      refine r_bipush dX2_takeToken_44 (k := ?_)
      refine r_icmp_ne (tgt := 66) dX2_takeToken_46 (by decide) (fun h46 => ?_) (fun h46 => ?_)
      · refine r_aload_n dX2_takeToken_66 rfl ?_
        refine r_bipush dX2_takeToken_67 (k := ?_)
        refine r_bipush dX2_takeToken_69 (k := ?_)
        refine r_v2 (c_pass _ _ hL2) kX2_166 rfl dX2_takeToken_71 ?_
        try simp (disch := omega) only [zs_n, zs_v, zs_k]
        rw [g6]
        refine r_if_le (tgt := 84) dX2_takeToken_74 (by decide) (fun h74 => ?_) (fun h74 => ?_)
        · refine r_aload_n dX2_takeToken_84 rfl ?_
          refine r_bipush dX2_takeToken_85 (k := ?_)
          refine r_bipush dX2_takeToken_87 (k := ?_)
          refine r_v2 (c_pass _ _ hL3) kX2_166 rfl dX2_takeToken_89 ?_
          try simp (disch := omega) only [zs_n, zs_v, zs_k]
          rw [hN]
          refine r_istore_n dX2_takeToken_92 rfl ?_
          refine r_iload_n dX2_takeToken_93 rfl ?_
          refine r_iconst dX2_takeToken_94 (k := ?_)
          refine r_icmp_lt (tgt := 103) dX2_takeToken_95 (by decide) (fun h95 => ?_) (fun h95 => ?_)
          · exfalso; omega
          · refine r_iload_n dX2_takeToken_98 rfl ?_
            refine r_iconst dX2_takeToken_99 (k := ?_)
            refine r_icmp_le (tgt := 109) dX2_takeToken_100 (by decide) (fun h100 => ?_) (fun h100 => ?_)
            · refine r_aload_n dX2_takeToken_109 rfl ?_
              refine r_iconst dX2_takeToken_110 (k := ?_)
              refine r_pI (q := 10) rfl pX2_49 rfl dX2_takeToken_111 ?_
              refine r_aload_n dX2_takeToken_114 rfl ?_
              refine r_aload_n dX2_takeToken_115 rfl ?_
              refine r_getR (q := 54) fX2_9 rfl rfl dX2_takeToken_116 ?_
              try simp (disch := omega) only [zs_n, zs_v, zs_k]
              refine r_aload_n dX2_takeToken_119 rfl ?_
              refine r_gI (q := 9) rfl fX2_46 rfl (by decide) dX2_takeToken_120 ?_
              try simp (disch := omega) only [zs_n, zs_v, zs_k]
              refine r_iconst dX2_takeToken_123 (k := ?_)
              refine r_isub dX2_takeToken_124 ?_
              try rw [zw_id (by omega) (by omega)]
              rw [e1]
              refine r_bald rfl (by omega) (by omega) dX2_takeToken_125 ?_
              try simp (disch := omega) only [zs_n, zs_v, zs_k]
              refine r_bipush dX2_takeToken_126 (k := ?_)
              refine r_isub dX2_takeToken_128 ?_
              try rw [zw_id (by omega) (by omega)]
              refine r_iload_n dX2_takeToken_129 rfl ?_
              refine r_iconst dX2_takeToken_130 (k := ?_)
              refine r_icmp_ne (tgt := 152) dX2_takeToken_131 (by decide) (fun h131 => ?_) (fun h131 => ?_)
              · exfalso; omega
              · refine r_bipush dX2_takeToken_134 (k := ?_)
                refine r_aload_n dX2_takeToken_136 rfl ?_
                refine r_getR (q := 54) fX2_9 rfl rfl dX2_takeToken_137 ?_
                try simp (disch := omega) only [zs_n, zs_v, zs_k]
                refine r_aload_n dX2_takeToken_140 rfl ?_
                refine r_gI (q := 11) rfl fX2_52 rfl (by decide) dX2_takeToken_141 ?_
                try simp (disch := omega) only [zs_n, zs_v, zs_k]
                refine r_bald rfl (by omega) (by omega) dX2_takeToken_144 ?_
                try simp (disch := omega) only [zs_n, zs_v, zs_k]
                refine r_bipush dX2_takeToken_145 (k := ?_)
                refine r_isub dX2_takeToken_147 ?_
                try rw [zw_id (by omega) (by omega)]
                refine r_imul dX2_takeToken_148 ?_
                try rw [zw_id (by omega) (by omega)]
                refine r_goto (tgt := 153) dX2_takeToken_149 (by decide) ?_
                refine r_iadd dX2_takeToken_153 ?_
                try rw [zw_id (by omega) (by omega)]
                refine r_pI (q := 12) rfl pX2_55 rfl dX2_takeToken_154 ?_
                refine r_iconst dX2_takeToken_157 (k := ?_)
                refine r_zret dX2_takeToken_158 (by decide) ?_
                exact zPX.k hs (kK.t (by repeat first | exact kK.rf | refine kK.s ?_ (by decide))) ⟨(by repeat first | exact kK.rf | refine kK.s ?_ (by decide)), by simp (disch := omega) only [zs_n, zs_v, zs_k], by simp (disch := omega) only [zs_n, zs_v, zs_k], by simp (disch := omega) only [zs_n, zs_v, zs_k], fun _ => by simp (disch := omega) only [zs_n, zs_v, zs_k]; omega⟩
            · exfalso; omega
        · exfalso; omega
      · exfalso; omega
    · exfalso; omega
  · have hs : sTk (mem 54) (mem 53 1) (mem 53 9) = .error (1, F) := by unfold sTk; rw [hF, if_neg c1, if_neg c2, if_neg c3, hN, if_neg c4, if_neg c5]
    refine r_aload_n dX2_takeToken_17 rfl ?_
    refine r_gI (q := 9) rfl fX2_46 rfl (by decide) dX2_takeToken_18 ?_
    try simp (disch := omega) only [zs_n, zs_v, zs_k]
    refine r_aload_n dX2_takeToken_21 rfl ?_
    refine r_gI (q := 1) rfl fX2_15 rfl (by decide) dX2_takeToken_22 ?_
    try simp (disch := omega) only [zs_n, zs_v, zs_k]
    refine r_icmp_lt (tgt := 35) dX2_takeToken_25 (by decide) (fun h25 => ?_) (fun h25 => ?_)
    · refine r_aload_n dX2_takeToken_35 rfl ?_
      refine r_getR (q := 54) fX2_9 rfl rfl dX2_takeToken_36 ?_
      try simp (disch := omega) only [zs_n, zs_v, zs_k]
      refine r_aload_n dX2_takeToken_39 rfl ?_
      refine r_gI (q := 9) rfl fX2_46 rfl (by decide) dX2_takeToken_40 ?_
      try simp (disch := omega) only [zs_n, zs_v, zs_k]
      refine r_bald rfl (by omega) (by omega) dX2_takeToken_43 ?_
      try simp (disch := omega) only [zs_n, zs_v, zs_k]
      refine r_bipush dX2_takeToken_44 (k := ?_)
      refine r_icmp_ne (tgt := 66) dX2_takeToken_46 (by decide) (fun h46 => ?_) (fun h46 => ?_)
      · refine r_aload_n dX2_takeToken_66 rfl ?_
        refine r_bipush dX2_takeToken_67 (k := ?_)
        refine r_bipush dX2_takeToken_69 (k := ?_)
        refine r_v2 (c_pass _ _ hL2) kX2_166 rfl dX2_takeToken_71 ?_
        try simp (disch := omega) only [zs_n, zs_v, zs_k]
        rw [g6]
        refine r_if_le (tgt := 84) dX2_takeToken_74 (by decide) (fun h74 => ?_) (fun h74 => ?_)
        · refine r_aload_n dX2_takeToken_84 rfl ?_
          refine r_bipush dX2_takeToken_85 (k := ?_)
          refine r_bipush dX2_takeToken_87 (k := ?_)
          refine r_v2 (c_pass _ _ hL3) kX2_166 rfl dX2_takeToken_89 ?_
          try simp (disch := omega) only [zs_n, zs_v, zs_k]
          rw [hN]
          refine r_istore_n dX2_takeToken_92 rfl ?_
          refine r_iload_n dX2_takeToken_93 rfl ?_
          refine r_iconst dX2_takeToken_94 (k := ?_)
          refine r_icmp_lt (tgt := 103) dX2_takeToken_95 (by decide) (fun h95 => ?_) (fun h95 => ?_)
          · refine r_aload_n dX2_takeToken_103 rfl ?_
            refine r_iconst dX2_takeToken_104 (k := ?_)
            refine r_v1 (c_fail _) kX2_74 rfl dX2_takeToken_105 ?_
            try simp (disch := omega) only [zs_n, zs_v, zs_k]
            refine r_zret dX2_takeToken_108 (by decide) ?_
            exact zPX.e hs (by repeat first | assumption | exact kT.rf | refine kT.s ?_ (by decide) | refine kT.z ?_ (by decide)) (by simp (disch := omega) only [zs_n, zs_v, zs_k]) (by simp (disch := omega) only [zs_n, zs_v, zs_k])
          · refine r_iload_n dX2_takeToken_98 rfl ?_
            refine r_iconst dX2_takeToken_99 (k := ?_)
            refine r_icmp_le (tgt := 109) dX2_takeToken_100 (by decide) (fun h100 => ?_) (fun h100 => ?_)
            · exfalso; omega
            · refine r_aload_n dX2_takeToken_103 rfl ?_
              refine r_iconst dX2_takeToken_104 (k := ?_)
              refine r_v1 (c_fail _) kX2_74 rfl dX2_takeToken_105 ?_
              try simp (disch := omega) only [zs_n, zs_v, zs_k]
              refine r_zret dX2_takeToken_108 (by decide) ?_
              exact zPX.e hs (by repeat first | assumption | exact kT.rf | refine kT.s ?_ (by decide) | refine kT.z ?_ (by decide)) (by simp (disch := omega) only [zs_n, zs_v, zs_k]) (by simp (disch := omega) only [zs_n, zs_v, zs_k])
        · exfalso; omega
      · exfalso; omega
    · exfalso; omega
theorem c_tok {t : Int → Int} {L p : Int} (hL : kL mem) (ht : mem 54 = t) (hl : mem 53 1 = L) (hp : mem 53 9 = p) : KX2_takeToken l G 1 [zR 53] mem (zPX (sTk t L p) (qTk mem) mem) := by
  subst ht hl hp; exact c_takeToken hL
set_option maxRecDepth 100000 in
theorem c_takeNumber {t : Int → Int} {L p : Int} (lo hi : Int) (hL : kL mem) (ht : mem 54 = t) (hl : mem 53 1 = L) (hp : mem 53 9 = p) : KX2_takeNumber l G 2 [zR 53, zI lo, zI hi] mem (zPX (sNum t L p lo hi) (qNum mem) mem) := by
  refine CT.of' (own := RX2) (ls0 := [zR 53, zI lo, zI hi]) rfl (by decide +kernel) (Nat.le_of_ble_eq_true rfl) rfl ?_
  refine r_aload_n dX2_takeNumber_0 rfl ?_
  refine r_vX0 (c_tok hL ht hl hp) kX2_67 rfl dX2_takeNumber_1 (fun e1 m1 x1 k1 f1 g1 => ?_) (fun a1 m1 x1 k1 q1 => ?_)
  ·
    refine r_if_ne (tgt := 9) dX2_takeNumber_4 (by decide) (fun h4 => absurd h4 (by decide)) (fun h4 => ?_)
    refine r_iconst dX2_takeNumber_7 (k := ?_)
    refine r_zret dX2_takeNumber_8 (by decide) ?_
    exact zPX.e (sNum_e x1) k1 f1 g1
  · obtain ⟨hk, q9, q10, q11, q12⟩ := q1
    refine r_if_ne (tgt := 9) dX2_takeNumber_4 (by decide) (fun h4 => ?_) (fun h4 => absurd h4 (by decide))
    refine r_aload_n dX2_takeNumber_9 rfl ?_
    refine r_gI (q := 10) rfl fX2_49 rfl (by decide) dX2_takeNumber_10 ?_
    refine r_iconst dX2_takeNumber_13 (k := ?_)
    refine r_icmp_eq (tgt := 23) dX2_takeNumber_14 (by decide) (fun h14 => ?_) (fun h14 => ?_)
    · refine r_aload_n dX2_takeNumber_23 rfl ?_
      refine r_gI (q := 12) rfl fX2_55 rfl (by decide) dX2_takeNumber_24 ?_
      refine r_iload_n dX2_takeNumber_27 rfl ?_
      refine r_iload_n dX2_takeNumber_28 rfl ?_
      refine r_sN3 (c_isWithin _ _ _) YX5_isWithin dX2_takeNumber_29 ?_
      refine r_ifd_ne (tgt := 43) dX2_takeNumber_32 (by decide) (fun h32 => ?_) (fun h32 => ?_)
      · refine r_iconst dX2_takeNumber_43 (k := ?_)
        refine r_goto (tgt := 48) dX2_takeNumber_44 (by decide) ?_
        refine r_zret dX2_takeNumber_48 (by decide) ?_
        first
          | exact zPX.k (sNum_k x1 (by omega) (by have := q12 (by omega); omega)) k1 ⟨hk, q9, q11, q12 (by omega)⟩
          | exact zPX.e (sNum_3 x1 (by omega) (by have := q12 (by omega); omega)) (by repeat first | assumption | exact kT.rf | refine kT.s ?_ (by decide) | refine kT.z ?_ (by decide)) (by simp (disch := omega) only [zs_n, zs_v, zs_k]) (by simp (disch := omega) only [zs_n, zs_v, zs_k]; exact q11)
      · refine r_aload_n dX2_takeNumber_35 rfl ?_
        refine r_iconst dX2_takeNumber_36 (k := ?_)
        refine r_v1 (c_fail _) kX2_74 rfl dX2_takeNumber_37 ?_
        refine r_if_eq (tgt := 47) dX2_takeNumber_40 (by decide) (fun h40 => ?_) (fun h40 => absurd h40 (by decide))
        refine r_iconst dX2_takeNumber_47 (k := ?_)
        refine r_zret dX2_takeNumber_48 (by decide) ?_
        first
          | exact zPX.k (sNum_k x1 (by omega) (by have := q12 (by omega); omega)) k1 ⟨hk, q9, q11, q12 (by omega)⟩
          | exact zPX.e (sNum_3 x1 (by omega) (by have := q12 (by omega); omega)) (by repeat first | assumption | exact kT.rf | refine kT.s ?_ (by decide) | refine kT.z ?_ (by decide)) (by simp (disch := omega) only [zs_n, zs_v, zs_k]) (by simp (disch := omega) only [zs_n, zs_v, zs_k]; exact q11)
    · refine r_aload_n dX2_takeNumber_17 rfl ?_
      refine r_iconst dX2_takeNumber_18 (k := ?_)
      refine r_v1 (c_fail _) kX2_74 rfl dX2_takeNumber_19 ?_
      refine r_zret dX2_takeNumber_22 (by decide) ?_
      exact zPX.e (sNum_2 x1 (by omega)) (by repeat first | assumption | exact kT.rf | refine kT.s ?_ (by decide) | refine kT.z ?_ (by decide)) (by simp (disch := omega) only [zs_n, zs_v, zs_k]) (by simp (disch := omega) only [zs_n, zs_v, zs_k]; exact q11)
set_option maxRecDepth 100000 in
theorem c_takeStop {t : Int → Int} {L p : Int} (hL : kL mem) (ht : mem 54 = t) (hl : mem 53 1 = L) (hp : mem 53 9 = p) : KX2_takeStop l G 2 [zR 53] mem (zPX (sStp t L p) (qStp mem) mem) := by
  refine CT.of' (own := RX2) (ls0 := [zR 53]) rfl (by decide +kernel) (Nat.le_of_ble_eq_true rfl) rfl ?_
  refine r_aload_n dX2_takeStop_0 rfl ?_
  refine r_vX0 (c_tok hL ht hl hp) kX2_67 rfl dX2_takeStop_1 (fun e1 m1 x1 k1 f1 g1 => ?_) (fun a1 m1 x1 k1 q1 => ?_)
  ·
    refine r_if_eq (tgt := 27) dX2_takeStop_4 (by decide) (fun h4 => ?_) (fun h4 => absurd h4 (by decide))
    refine r_iconst dX2_takeStop_27 (k := ?_)
    refine r_zret dX2_takeStop_28 (by decide) ?_
    exact zPX.e (sStp_e x1) k1 f1 g1
  · obtain ⟨hk, q9, q10, q11, q12⟩ := q1
    refine r_if_eq (tgt := 27) dX2_takeStop_4 (by decide) (fun h4 => absurd h4 (by decide)) (fun h4 => ?_)
    refine r_aload_n dX2_takeStop_7 rfl ?_
    refine r_gI (q := 10) rfl fX2_49 rfl (by decide) dX2_takeStop_8 ?_
    refine r_iconst dX2_takeStop_11 (k := ?_)
    refine r_icmp_eq (tgt := 23) dX2_takeStop_12 (by decide) (fun h12 => ?_) (fun h12 => ?_)
    · refine r_iconst dX2_takeStop_23 (k := ?_)
      refine r_goto (tgt := 28) dX2_takeStop_24 (by decide) ?_
      refine r_zret dX2_takeStop_28 (by decide) ?_
      first
        | exact zPX.k (sStp_k x1 (by omega)) k1 ⟨hk, q9⟩
        | exact zPX.e (sStp_2 x1 (by omega)) (by repeat first | assumption | exact kT.rf | refine kT.s ?_ (by decide) | refine kT.z ?_ (by decide)) (by simp (disch := omega) only [zs_n, zs_v, zs_k]) (by simp (disch := omega) only [zs_n, zs_v, zs_k]; exact q11)
    · refine r_aload_n dX2_takeStop_15 rfl ?_
      refine r_iconst dX2_takeStop_16 (k := ?_)
      refine r_v1 (c_fail _) kX2_74 rfl dX2_takeStop_17 ?_
      refine r_if_eq (tgt := 27) dX2_takeStop_20 (by decide) (fun h20 => ?_) (fun h20 => absurd h20 (by decide))
      refine r_iconst dX2_takeStop_27 (k := ?_)
      refine r_zret dX2_takeStop_28 (by decide) ?_
      first
        | exact zPX.k (sStp_k x1 (by omega)) k1 ⟨hk, q9⟩
        | exact zPX.e (sStp_2 x1 (by omega)) (by repeat first | assumption | exact kT.rf | refine kT.s ?_ (by decide) | refine kT.z ?_ (by decide)) (by simp (disch := omega) only [zs_n, zs_v, zs_k]) (by simp (disch := omega) only [zs_n, zs_v, zs_k]; exact q11)
end
