/-! ===== the reference's constructor ===== -/
def zP6 (G : zG) (base : Nat) : Array Value → State → Prop := fun v U => v = ([.ref (G.2.2.1 65)] : List Value).toArray ∧ zNs U ∧ zX G U ∧ va_K (zD G) vwCl (zTy G) U ∧ U.heap.size = base + 66 ∧ zCells G (va_up (zE0 G) 65 (.inr (6, zd6))) 0 66 U.heap
def zQ6 (G : zG) (base : Nat) : Array Value → State → Outcome → State → Prop := fun _ st oc t => oc = .returned none ∧ va_F (zRg base 0) st t ∧ ∃ mem, SIM mem ∧ zokM mem ∧ va_P (zD G) vwCl (zC G mem) t.heap
theorem zP6_blind {G : zG} {base : Nat} : FrameBlind (zP6 G base) := by
  intro a U g mk h
  obtain ⟨h1, h2, hX, h3, h4, h5⟩ := h
  exact ⟨h1, h2.same rfl, ⟨vk_S.moved (u := U) (U := U.calling g mk a) (Vm.Alike.refl U.vm) hX.1, fun i hi => vk_R.same (u := U) (U := U.calling g mk a) rfl (hX.2.1 i hi), ⟨va_Z.moved (u := U) (U := U.calling g mk a) (Vm.Alike.refl U.vm) hX.2.2.1.1, zXf.moved (u := U) (U := U.calling g mk a) (Vm.Alike.refl U.vm) hX.2.2.1.2⟩, va_Nw.same (u := U) (U := U.calling g mk a) rfl rfl hX.2.2.2⟩, va_K.moved (u := U) (U := U.calling g mk a) (Vm.Alike.refl U.vm) h3, h4, h5⟩
theorem mem0_b (o : Nat) (k : Int) : -4 ≤ mem0 o k ∧ mem0 o k ≤ 0 := by
  unfold mem0
  split
  · dsimp only; split <;> omega
  · split
    · dsimp only; split <;> omega
    · dsimp only; omega
theorem mem0_ok : zokM mem0 := by
  intro o k
  have b := mem0_b o k
  exact ⟨fun _ => by unfold zin64; omega, fun _ => by unfold zin32; omega⟩
theorem zA_rg {G : zG} {base : Nat} (hG : zGb G base) (q : Nat) : zA G q ↔ zRg base 0 q := by
  constructor
  · rintro ⟨o, h1, rfl⟩
    rw [hG o h1]
    exact ⟨by omega, by have : o < 77 := h1; omega⟩
  · intro h
    obtain ⟨h1, h2⟩ := h
    exact ⟨q - base, show q - base < 77 by omega, by rw [hG _ (by omega)]; omega⟩
theorem zInj_of {G : zG} {base : Nat} (hG : zGb G base) : zInj G := fun i j hi hj e => by
  rw [hG i hi, hG j hj] at e
  omega
theorem NW.sw {l : Launch} {G : zG} {base : Nat} {R : Room} {own : String} {cc : ByteArray} {nL : Nat} {ret : Option FieldType} {Z : List Frame → Array Value → State → State → Prop} {kc ks : Nat} {ini : Bool} {Ex : State → Prop} {pc : Nat} {ll : List (Nat × Value)} {ls : List zV} {E : Nat → va_E} (hG : zGb G base) (hEE : ∀ o, o < 77 → ∀ H : Heap, va_at (zD G) vwCl (G.2.2.1 o, E o) H → va_at (zD G) vwCl (G.2.2.1 o, zE0 G o) H) (hll : ∀ (i : Nat) (v : zV), ls[i]? = some v → v ≠ zU → (i, zv G v) ∈ ll) (hlen : ls.length = nL) (hol : zokL ls) (h : SW l G R own cc nL ret Z kc ks Ex pc ls [] mem0) : NW l G base R own cc nL ret Z kc ks ini (fun s => Ex s ∧ zX G s) 0 pc ll [] 77 E := by
  intro p e s m args below meth c H locs lsA C9 hi0 hE hN hK hz hc hS hl
  refine h p e s m args below meth c H locs lsA C9 hE.1 hE.2 hK (zInj_of hG) (fun k q hk => ?_) ⟨hS.1, fun q h1 h2 => hS.2.1 q h1 (fun z => h2 ((zA_rg hG q).mpr z)), fun q hq => (zA_rg hG _).mpr (hS.2.2 q hq)⟩ ⟨hlen, hl.1, hl.2.1, fun i v hi hv => hl.2.2 _ (hll i v hi hv)⟩ hol zokL.nil mem0_ok
  have hi : k < zN := by rw [← zC_len (G := G) (mem := mem0)]; exact (List.getElem?_eq_some_iff.mp hk).1
  rw [zC_get hi] at hk
  cases hk
  exact hEE k hi H (hc k (Nat.zero_le _) hi)
theorem r_vret6 {l : Launch} {G : zG} {base : Nat} {R : Room} {own : String} {cc : ByteArray} {nL kc ks : Nat} {Ex : State → Prop} {pc : Nat} {ls : List zV} {mem : zM} (hG : zGb G base) (hsim : SIM mem) (hd : decode cc pc = .ok (.return_, 1)) : SW l G R own cc nL none (fun below args s => MQ below (zQ6 G base) args s kc ks (zRg base 0)) kc ks Ex pc ls [] mem := by
  intro p e s m args below meth c H locs lsA C hE hX hK hI hP hS hL ol os om
  exact W.vret C.1 C.2.1 C.2.2.2.2.2.1 (fun t ht hW => ⟨rfl, ⟨by rw [ht]; exact hS.1, fun q h1 h2 => by rw [ht]; exact hS.2.1 q h1 (fun z => h2 ((zA_rg hG q).mp z))⟩, mem, hsim, om, by rw [ht]; exact hP⟩) (fun q hq => (zA_rg hG _).mp (hS.2.2 q hq)) hd (hlocks := C.2.2.2.2.2.2.1)
theorem sim0 : SIM (zKD (zFD (zr mem0 73 (zfil (mem0 73) (-4) 4)))) := by
  have k0 : ∀ o : Nat, o ≠ 65 → o ≠ 66 → o ≠ 68 → o ≠ 69 → o ≠ 73 → zKD (zFD (zr mem0 73 (zfil (mem0 73) (-4) 4))) o = mem0 o := fun o a b c d e => by
    unfold zKD zFD
    rw [zs_n c, zs_n c, zs_n a, zr_n b, zs_n a, zs_n a, zs_n a, zs_n a, zr_n d, zr_n e]
  have c0 : ∀ k : Int, 0 ≤ k → k < 76 → zKD (zFD (zr mem0 73 (zfil (mem0 73) (-4) 4))) 66 k = 0 := fun k a b => by
    unfold zKD zFD
    simp (disch := decide) only [zs_n, zr_s]
    rw [zcp_at a b]
    unfold zfil
    rw [if_pos ⟨a, b⟩]
  have e3 : zKD (zFD (zr mem0 73 (zfil (mem0 73) (-4) 4))) 65 3 = 0 := by
    unfold zKD zFD
    simp (disch := decide) only [zs_n, zs_v, zs_k, zr_n]
  have e65 : ∀ j : Int, j = 10 ∨ j = 15 ∨ j = 27 → zKD (zFD (zr mem0 73 (zfil (mem0 73) (-4) 4))) 65 j = 0 := fun j hj => by
    unfold zKD zFD
    rcases hj with rfl | rfl | rfl <;> (simp (disch := decide) only [zs_n, zs_v, zs_k, zr_n]; rfl)
  have e68 : zKD (zFD (zr mem0 73 (zfil (mem0 73) (-4) 4))) 68 0 = 0 ∧ zKD (zFD (zr mem0 73 (zfil (mem0 73) (-4) 4))) 68 1 = 0 := by
    unfold zKD
    simp (disch := decide) only [zs_v, zs_k]
    exact ⟨trivial, trivial⟩
  have e73 : ∀ k : Int, 0 ≤ k → k ≤ 3 → zKD (zFD (zr mem0 73 (zfil (mem0 73) (-4) 4))) 73 k = -4 := fun k a b => by
    unfold zKD zFD
    simp (disch := decide) only [zs_n, zr_n, zr_s]
    unfold zfil
    rw [if_pos ⟨a, by omega⟩]
  generalize zKD (zFD (zr mem0 73 (zfil (mem0 73) (-4) 4))) = M at *
  have z : ∀ o : Nat, ¬ (45 ≤ o ∧ o ≤ 51) → o ≠ 53 → o ≠ 65 → o ≠ 66 → o ≠ 68 → o ≠ 69 → o ≠ 73 → M o = fun _ => 0 := fun o a b c d e f g => by
    rw [k0 o c d e f g]
    unfold mem0
    rw [if_neg (by omega), if_neg b]
  have Z : ∀ o : Nat, o ≤ 44 → M o = fun _ => 0 := fun o h => z o (by omega) (by omega) (by omega) (by omega) (by omega) (by omega) (by omega)
  refine ⟨⟨?_, ?_⟩, ⟨?_, ?_, fun q => ?_⟩, ⟨?_, ?_, fun q => ?_⟩, ⟨?_, ?_, ?_, ?_, fun j => ?_⟩, ?_, ?_, fun k a b => ?_⟩
  · rw [e3]
    exact ⟨⟨Int.le_refl 0, by decide⟩, by rw [c0 53 (by decide) (by decide)]; exact ⟨by decide, by decide⟩, by rw [c0 54 (by decide) (by decide)]; exact ⟨by decide, by decide⟩, fun i i0 i1 => absurd i1 (by omega), fun i j i0 i1 => absurd i1 (by omega), fun k k0 k1 => by rw [c0 (10 + k) (by omega) (by omega)]; exact ⟨by decide, by decide⟩, fun i j i0 i1 j0 j1 hz => absurd (c0 _ (by omega) (by omega)) hz, fun k k0 k1 => by rw [c0 53 (by decide) (by decide)] at k1; omega, by rw [c0 57 (by decide) (by decide)]; exact ⟨by decide, by decide⟩, fun k k0 k1 => by rw [c0 57 (by decide) (by decide)] at k1; omega⟩
  · rw [e3]
    refine ⟨by rw [Z 1 (by decide)], by rw [Z 1 (by decide), c0 53 (by decide) (by decide)], by rw [Z 1 (by decide), c0 55 (by decide) (by decide)], by rw [Z 1 (by decide), c0 54 (by decide) (by decide)], by rw [Z 1 (by decide), c0 56 (by decide) (by decide)], fun i i0 i1 => absurd i1 (by omega), fun k k0 k1 => by rw [Z (1 + 3) (by decide), c0 (10 + k) (by omega) (by omega)], fun k k0 k1 => by rw [c0 53 (by decide) (by decide)] at k1; omega, by rw [Z 15 (by decide), c0 57 (by decide) (by decide)], fun k k0 k1 => by rw [c0 57 (by decide) (by decide)] at k1; omega⟩
  · rw [Z 20 (by decide), e68.1]
  · exact Or.inl e68.1
  · rw [e68.1] at q; cases q
  · rw [Z 32 (by decide), e68.2]
  · exact Or.inl e68.2
  · rw [e68.2] at q; cases q
  · rw [z 54 (by decide) (by decide) (by decide) (by decide) (by decide) (by decide) (by decide), z 70 (by decide) (by decide) (by decide) (by decide) (by decide) (by decide) (by decide)]
  · rw [e65 10 (by decide), k0 53 (by decide) (by decide) (by decide) (by decide) (by decide)]; rfl
  · rw [e65 10 (by decide)]; decide
  · rw [e65 10 (by decide)]; decide
  · rw [z 70 (by decide) (by decide) (by decide) (by decide) (by decide) (by decide) (by decide)]; exact ⟨show (0 : Int) ≤ 0 by decide, show (0 : Int) ≤ 127 by decide⟩
  · rw [e65 15 (by decide), k0 53 (by decide) (by decide) (by decide) (by decide) (by decide)]; rfl
  · rw [e65 27 (by decide), Z 0 (by decide)]
  · have b2 := shp_b a b
    have sk : shp k = 45 + 2 * k.toNat := rfl
    rw [e73 k a b, z 74 (by decide) (by decide) (by decide) (by decide) (by decide) (by decide) (by decide), z 75 (by decide) (by decide) (by decide) (by decide) (by decide) (by decide) (by decide), k0 (shp k) (by omega) (by omega) (by omega) (by omega) (by omega), k0 (shp k + 1) (by omega) (by omega) (by omega) (by omega) (by omega)]
    rcases (show k = 0 ∨ k = 1 ∨ k = 2 ∨ k = 3 by omega) with rfl | rfl | rfl | rfl
    all_goals exact ⟨rfl, rfl, by decide, by decide, fun i _ _ => rfl⟩
abbrev zrmX6 : Room := { frames := 2, cells := 11, slots := 1311, locals := 200 }
section
variable {l : Launch} {G : zG} {base : Nat}
set_option maxRecDepth 100000 in
theorem k_X6_t (hG : zGb G base) : SW l G zrmX6 RX6 cX6_init 2 none (fun below args s => MQ below (zQ6 G base) args s 11 1311 (zRg base 0)) 11 1311 (fun _ => True) 93 [zR 65, zU] [] mem0 := by
  have loop : ∀ (q : Nat) (x : Int), 0 ≤ x → x + q = 4 → SW l G zrmX6 RX6 cX6_init 2 none (fun below args s => MQ below (zQ6 G base) args s 11 1311 (zRg base 0)) 11 1311 (fun _ => True) 95 [zR 65, zI x] [] (zr mem0 73 (zfil (mem0 73) (-4) x)) := by
    intro q
    induction q with
    | zero =>
      intro x h0 h1
      obtain rfl : x = 4 := by omega
      refine r_iload_n dX6_init_95 rfl ?_
      refine r_iconst dX6_init_96 (k := ?_)
      refine r_icmp_ge (tgt := 114) dX6_init_97 (by decide) (fun _ => ?_) (fun h97 => absurd h97 (by decide))
      refine r_aload_n dX6_init_114 rfl ?_
      refine r_w0 (c_firstDraft) kX6_44 rfl dX6_init_115 ?_
      refine r_aload_n dX6_init_118 rfl ?_
      refine r_w0 (c_keepDraft) kX6_47 rfl dX6_init_119 ?_
      exact r_vret6 hG sim0 dX6_init_122
    | succ q ih =>
      intro x h0 h1
      refine r_iload_n dX6_init_95 rfl ?_
      refine r_iconst dX6_init_96 (k := ?_)
      refine r_icmp_ge (tgt := 114) dX6_init_97 (by decide) (fun h97 => absurd h97 (by omega)) (fun _ => ?_)
      refine r_aload_n dX6_init_100 rfl ?_
      refine r_getR (q := 73) fX6_32 rfl rfl dX6_init_101 ?_
      refine r_iload_n dX6_init_104 rfl ?_
      refine r_bipush dX6_init_105 (k := ?_)
      refine r_iast rfl (by omega) (by omega) dX6_init_107 ?_
      refine r_iinc dX6_init_108 rfl rfl ?_
      try rw [zw_id (by omega) (by omega)]
      refine r_goto (tgt := 95) dX6_init_111 (by decide) ?_
      rw [zs_zr, zfil_s h0]
      exact ih _ (by omega) (by omega)
  have fin := loop 4 0 (by omega) (by omega)
  rw [zfil_0, zr_id rfl] at fin
  refine r_iconst dX6_init_93 (k := ?_)
  refine r_istore_n dX6_init_94 rfl ?_
  exact fin
set_option maxRecDepth 100000 in
theorem k_X6 (hG : zGb G base) : Met l yX6_init (Cond.code yX6_init cX6_init 2 none :: ztb) zrmX6 (zP6 G base) (zQ6 G base) 11 1311 (zRg base 0) := by
  have main : NW l G base zrmX6 RX6 cX6_init 2 none (fun below args s => MQ below (zQ6 G base) args s 11 1311 (zRg base 0)) 0 0 true (fun s => True ∧ zX G s) 0 0 [(0, .ref (G.2.2.1 65))] [] 66 (va_up (zE0 G) 65 (.inr (6, zd6))) := by
    refine n_aload (i := 0) dX6_init_0 rfl ?_
    refine n_obj oi_6 oi_i oi_c dX6_init_1 (Nat.le_of_ble_eq_true rfl) (Nat.le_of_ble_eq_true rfl) ?_
    refine n_aload (i := 0) dX6_init_4 rfl ?_
    refine n_sipush dX6_init_5 rfl ?_
    refine n_newa (t := 0) (n := 228) (ty := .int) hG ac_int rfl rfl (fun _ _ h => h) rfl (by decide) (by decide) (by decide) (Nat.le_of_ble_eq_true rfl) (Nat.le_of_ble_eq_true rfl) (Nat.le_of_ble_eq_true rfl) dX6_init_8 ?_
    refine n_putF (th := 65) (ci := 6) rfl hG (Nat.le_of_ble_eq_true rfl) (Nat.le_of_ble_eq_true rfl) (Nat.le_of_ble_eq_true rfl) rfl inX6z tyX6 tyX6_ok nmX6 rfl (k := 0) (by decide) pf_6_7 rfl rfl (tyX6_ok 0 (by decide)) rfl rfl (Nat.le_of_ble_eq_true rfl) dX6_init_10 ?_
    refine n_aload (i := 0) dX6_init_13 rfl ?_
    refine n_bipush dX6_init_14 rfl ?_
    refine n_newa (t := 0) (n := 76) (ty := .int) hG ac_int rfl rfl (fun _ _ h => h) rfl (by decide) (by decide) (by decide) (Nat.le_of_ble_eq_true rfl) (Nat.le_of_ble_eq_true rfl) (Nat.le_of_ble_eq_true rfl) dX6_init_16 ?_
    refine n_putF (th := 65) (ci := 6) rfl hG (Nat.le_of_ble_eq_true rfl) (Nat.le_of_ble_eq_true rfl) (Nat.le_of_ble_eq_true rfl) rfl inX6z tyX6 tyX6_ok nmX6 rfl (k := 1) (by decide) pf_6_13 rfl rfl (tyX6_ok 1 (by decide)) rfl rfl (Nat.le_of_ble_eq_true rfl) dX6_init_18 ?_
    refine n_aload (i := 0) dX6_init_21 rfl ?_
    refine n_iconst dX6_init_22 rfl ?_
    refine n_newa (t := 2) (n := 2) (ty := .boolean) hG ac_boolean rfl rfl (fun _ _ h => h) rfl (by decide) (by decide) (by decide) (Nat.le_of_ble_eq_true rfl) (Nat.le_of_ble_eq_true rfl) (Nat.le_of_ble_eq_true rfl) dX6_init_23 ?_
    refine n_putF (th := 65) (ci := 6) rfl hG (Nat.le_of_ble_eq_true rfl) (Nat.le_of_ble_eq_true rfl) (Nat.le_of_ble_eq_true rfl) rfl inX6z tyX6 tyX6_ok nmX6 rfl (k := 2) (by decide) pf_6_16 rfl rfl (tyX6_ok 2 (by decide)) rfl rfl (Nat.le_of_ble_eq_true rfl) dX6_init_25 ?_
    refine n_aload (i := 0) dX6_init_28 rfl ?_
    refine n_bipush dX6_init_29 rfl ?_
    refine n_newa (t := 0) (n := 76) (ty := .int) hG ac_int rfl rfl (fun _ _ h => h) rfl (by decide) (by decide) (by decide) (Nat.le_of_ble_eq_true rfl) (Nat.le_of_ble_eq_true rfl) (Nat.le_of_ble_eq_true rfl) dX6_init_31 ?_
    refine n_putF (th := 65) (ci := 6) rfl hG (Nat.le_of_ble_eq_true rfl) (Nat.le_of_ble_eq_true rfl) (Nat.le_of_ble_eq_true rfl) rfl inX6z tyX6 tyX6_ok nmX6 rfl (k := 4) (by decide) pf_6_20 rfl rfl (tyX6_ok 4 (by decide)) rfl rfl (Nat.le_of_ble_eq_true rfl) dX6_init_33 ?_
    refine n_aload (i := 0) dX6_init_36 rfl ?_
    refine n_sipush dX6_init_37 rfl ?_
    refine n_newa (t := 0) (n := 160) (ty := .int) hG ac_int rfl rfl (fun _ _ h => h) rfl (by decide) (by decide) (by decide) (Nat.le_of_ble_eq_true rfl) (Nat.le_of_ble_eq_true rfl) (Nat.le_of_ble_eq_true rfl) dX6_init_40 ?_
    refine n_putF (th := 65) (ci := 6) rfl hG (Nat.le_of_ble_eq_true rfl) (Nat.le_of_ble_eq_true rfl) (Nat.le_of_ble_eq_true rfl) rfl inX6z tyX6 tyX6_ok nmX6 rfl (k := 9) (by decide) pf_6_23 rfl rfl (tyX6_ok 9 (by decide)) rfl rfl (Nat.le_of_ble_eq_true rfl) dX6_init_42 ?_
    refine n_aload (i := 0) dX6_init_45 rfl ?_
    refine n_bipush dX6_init_46 rfl ?_
    refine n_newa (t := 0) (n := 105) (ty := .int) hG ac_int rfl rfl (fun _ _ h => h) rfl (by decide) (by decide) (by decide) (Nat.le_of_ble_eq_true rfl) (Nat.le_of_ble_eq_true rfl) (Nat.le_of_ble_eq_true rfl) dX6_init_48 ?_
    refine n_putF (th := 65) (ci := 6) rfl hG (Nat.le_of_ble_eq_true rfl) (Nat.le_of_ble_eq_true rfl) (Nat.le_of_ble_eq_true rfl) rfl inX6z tyX6 tyX6_ok nmX6 rfl (k := 22) (by decide) pf_6_26 rfl rfl (tyX6_ok 22 (by decide)) rfl rfl (Nat.le_of_ble_eq_true rfl) dX6_init_50 ?_
    refine n_aload (i := 0) dX6_init_53 rfl ?_
    refine n_sipush dX6_init_54 rfl ?_
    refine n_newa (t := 0) (n := 420) (ty := .int) hG ac_int rfl rfl (fun _ _ h => h) rfl (by decide) (by decide) (by decide) (Nat.le_of_ble_eq_true rfl) (Nat.le_of_ble_eq_true rfl) (Nat.le_of_ble_eq_true rfl) dX6_init_57 ?_
    refine n_putF (th := 65) (ci := 6) rfl hG (Nat.le_of_ble_eq_true rfl) (Nat.le_of_ble_eq_true rfl) (Nat.le_of_ble_eq_true rfl) rfl inX6z tyX6 tyX6_ok nmX6 rfl (k := 23) (by decide) pf_6_29 rfl rfl (tyX6_ok 23 (by decide)) rfl rfl (Nat.le_of_ble_eq_true rfl) dX6_init_59 ?_
    refine n_aload (i := 0) dX6_init_62 rfl ?_
    refine n_iconst dX6_init_63 rfl ?_
    refine n_newa (t := 0) (n := 4) (ty := .int) hG ac_int rfl rfl (fun _ _ h => h) rfl (by decide) (by decide) (by decide) (Nat.le_of_ble_eq_true rfl) (Nat.le_of_ble_eq_true rfl) (Nat.le_of_ble_eq_true rfl) dX6_init_64 ?_
    refine n_putF (th := 65) (ci := 6) rfl hG (Nat.le_of_ble_eq_true rfl) (Nat.le_of_ble_eq_true rfl) (Nat.le_of_ble_eq_true rfl) rfl inX6z tyX6 tyX6_ok nmX6 rfl (k := 24) (by decide) pf_6_32 rfl rfl (tyX6_ok 24 (by decide)) rfl rfl (Nat.le_of_ble_eq_true rfl) dX6_init_66 ?_
    refine n_aload (i := 0) dX6_init_69 rfl ?_
    refine n_iconst dX6_init_70 rfl ?_
    refine n_newa (t := 0) (n := 4) (ty := .int) hG ac_int rfl rfl (fun _ _ h => h) rfl (by decide) (by decide) (by decide) (Nat.le_of_ble_eq_true rfl) (Nat.le_of_ble_eq_true rfl) (Nat.le_of_ble_eq_true rfl) dX6_init_71 ?_
    refine n_putF (th := 65) (ci := 6) rfl hG (Nat.le_of_ble_eq_true rfl) (Nat.le_of_ble_eq_true rfl) (Nat.le_of_ble_eq_true rfl) rfl inX6z tyX6 tyX6_ok nmX6 rfl (k := 25) (by decide) pf_6_35 rfl rfl (tyX6_ok 25 (by decide)) rfl rfl (Nat.le_of_ble_eq_true rfl) dX6_init_73 ?_
    refine n_aload (i := 0) dX6_init_76 rfl ?_
    refine n_sipush dX6_init_77 rfl ?_
    refine n_newa (t := 0) (n := 160) (ty := .int) hG ac_int rfl rfl (fun _ _ h => h) rfl (by decide) (by decide) (by decide) (Nat.le_of_ble_eq_true rfl) (Nat.le_of_ble_eq_true rfl) (Nat.le_of_ble_eq_true rfl) dX6_init_80 ?_
    refine n_putF (th := 65) (ci := 6) rfl hG (Nat.le_of_ble_eq_true rfl) (Nat.le_of_ble_eq_true rfl) (Nat.le_of_ble_eq_true rfl) rfl inX6z tyX6 tyX6_ok nmX6 rfl (k := 26) (by decide) pf_6_38 rfl rfl (tyX6_ok 26 (by decide)) rfl rfl (Nat.le_of_ble_eq_true rfl) dX6_init_82 ?_
    refine n_aload (i := 0) dX6_init_85 rfl ?_
    refine n_bipush dX6_init_86 rfl ?_
    refine n_newa (t := 0) (n := 76) (ty := .int) hG ac_int rfl rfl (fun _ _ h => h) rfl (by decide) (by decide) (by decide) (Nat.le_of_ble_eq_true rfl) (Nat.le_of_ble_eq_true rfl) (Nat.le_of_ble_eq_true rfl) dX6_init_88 ?_
    refine n_putF (th := 65) (ci := 6) rfl hG (Nat.le_of_ble_eq_true rfl) (Nat.le_of_ble_eq_true rfl) (Nat.le_of_ble_eq_true rfl) rfl inX6z tyX6 tyX6_ok nmX6 rfl (k := 28) (by decide) pf_6_41 rfl rfl (tyX6_ok 28 (by decide)) rfl rfl (Nat.le_of_ble_eq_true rfl) dX6_init_90 ?_
    refine NW.sw (ls := [zR 65, zU]) hG ?_ ?_ rfl ?_ (k_X6_t hG)
    · intro o h2 H h
      rcases (show o = 0 ∨ o = 1 ∨ o = 2 ∨ o = 3 ∨ o = 4 ∨ o = 5 ∨ o = 6 ∨ o = 7 ∨ o = 8 ∨ o = 9 ∨ o = 10 ∨ o = 11 ∨ o = 12 ∨ o = 13 ∨ o = 14 ∨ o = 15 ∨ o = 16 ∨ o = 17 ∨ o = 18 ∨ o = 19 ∨ o = 20 ∨ o = 21 ∨ o = 22 ∨ o = 23 ∨ o = 24 ∨ o = 25 ∨ o = 26 ∨ o = 27 ∨ o = 28 ∨ o = 29 ∨ o = 30 ∨ o = 31 ∨ o = 32 ∨ o = 33 ∨ o = 34 ∨ o = 35 ∨ o = 36 ∨ o = 37 ∨ o = 38 ∨ o = 39 ∨ o = 40 ∨ o = 41 ∨ o = 42 ∨ o = 43 ∨ o = 44 ∨ o = 45 ∨ o = 46 ∨ o = 47 ∨ o = 48 ∨ o = 49 ∨ o = 50 ∨ o = 51 ∨ o = 52 ∨ o = 53 ∨ o = 54 ∨ o = 55 ∨ o = 56 ∨ o = 57 ∨ o = 58 ∨ o = 59 ∨ o = 60 ∨ o = 61 ∨ o = 62 ∨ o = 63 ∨ o = 64 ∨ o = 65 ∨ o = 66 ∨ o = 67 ∨ o = 68 ∨ o = 69 ∨ o = 70 ∨ o = 71 ∨ o = 72 ∨ o = 73 ∨ o = 74 ∨ o = 75 ∨ o = 76 by omega) with rfl | rfl | rfl | rfl | rfl | rfl | rfl | rfl | rfl | rfl | rfl | rfl | rfl | rfl | rfl | rfl | rfl | rfl | rfl | rfl | rfl | rfl | rfl | rfl | rfl | rfl | rfl | rfl | rfl | rfl | rfl | rfl | rfl | rfl | rfl | rfl | rfl | rfl | rfl | rfl | rfl | rfl | rfl | rfl | rfl | rfl | rfl | rfl | rfl | rfl | rfl | rfl | rfl | rfl | rfl | rfl | rfl | rfl | rfl | rfl | rfl | rfl | rfl | rfl | rfl | rfl | rfl | rfl | rfl | rfl | rfl | rfl | rfl | rfl | rfl | rfl | rfl
      all_goals exact h
    · intro i v hi hv
      match i, hi with
      | 0, hi => cases hi; exact List.mem_cons_self
      | 1, hi => cases hi; exact absurd rfl hv
      | i + 2, hi => simp at hi
    · exact (zokL.nil.co (v := zU) trivial).co trivial
  refine Met.ofW (cc := cX6_init) (maxL := 2) (ret := none) (by decide +kernel) rfl ?_
  intro p e s m args below meth c s₁ B hml hv
  obtain ⟨rfl, hN, hX, hK, hz, hc⟩ := hv
  have hts := atoms_spec (ws := Cond.code yX6_init cX6_init 2 none :: ztb) B.pre
  have hl := lv_entry ([.ref (G.2.2.1 65)]) (n := 2) (Nat.le_of_ble_eq_true rfl)
  rw [lg_entry_eq]
  generalize (lg_sl ([.ref (G.2.2.1 65)]) ++ List.replicate (2 - (lg_sl ([.ref (G.2.2.1 65)])).length) Slot.unset).toArray = ls at hl ⊢
  have hl : lv_has ls 2 [(0, .ref (G.2.2.1 65))] := hl
  exact main p e s m _ below meth c s.heap [] ls ⟨B.exec, B.bytes, hml, findClass_of_methodNamed B.named, fun w hw => hts w (List.mem_cons_of_mem _ hw), B.returns, B.notSynchronized, Nat.zero_le _, Nat.zero_le _⟩ (fun _ => (name_of_methodNamed B.named B.method).1.trans rfl) ⟨trivial, hX⟩ hN hK hz hc va_S.rf hl
end
