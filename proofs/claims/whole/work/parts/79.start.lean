/-! ===== the law's start ===== -/
section
variable {l : Launch} {G : zG} {base : Nat} {R : Room} {own : String} {cc : ByteArray} {nL : Nat} {ret' : Option FieldType} {Z : List Frame → Array Value → State → State → Prop} {kc ks : Nat} {ini : Bool} {Ex : State → Prop} {lo pc : Nat} {ll : List (Nat × Value)} {st : List Value} {N : Nat} {E : Nat → va_E}
theorem n_astore {j : Fin 4} {i a : Nat} {ll' : List (Nat × Value)} (hd : decode cc pc = .ok (.astore_n j, 1)) (hi : (j : Nat) = i) (hn : i < nL) (hl9 : (i, Value.ref a) :: ll.filter (fun q => !(q.1 == i) && !(q.1 + 1 == i && q.2.category == 2)) = ll') (k : NW l G base R own cc nL ret' Z kc ks ini Ex lo (pc + 1) ll' st N E) : NW l G base R own cc nL ret' Z kc ks ini Ex lo pc ll (.ref a :: st) N E := by
  intro p e s m args below meth c H locs lsA C9 hi0 hE hN hK hz hc hS hl
  exact lv_astore_n C9.1 C9.2.1 hd hi hl hn hl9 (fun ls' h' => k p e s m args below meth c H locs ls' C9 hi0 hE hN hK hz hc hS h')
/-- the reference's constructor is called: all 77 cells stand behind it -/
theorem n_call6 {index : Nat} {ls sts : List zV} (hG : zGb G base) (hM : Met l yX6_init (Cond.code yX6_init cX6_init 2 none :: ztb) zrmX6 (zP6 G base) (zQ6 G base) 11 1311 (zRg base 0)) (hln : Cond.methodLink own index yX6_init ∈ ztb) (hcd : Cond.code yX6_init cX6_init 2 none ∈ ztb) (hiz : Cond.initialized yX6_init.cls ∈ ztb) (him : Cond.instanceMethod yX6_init ∈ ztb) (hEE : ∀ o, o < 66 → E o = va_up (zE0 G) 65 (.inr (6, zd6)) o) (hR : zrmX6.frames + 1 ≤ R.frames ∧ 8 + (2 + 11) + zrmX6.locals ≤ R.locals) (hcells : kc + 11 ≤ R.cells) (hslots : ks + 1311 ≤ R.slots) (hw : (st.map fun v => v.category).sum ≤ 8) (hd : decode cc pc = .ok (.invokespecial index, 3)) (hst : st = sts.map (zv G)) (hos : zokL sts) (hll : ∀ (i : Nat) (v : zV), ls[i]? = some v → v ≠ zU → (i, zv G v) ∈ ll) (hlen : ls.length = nL) (hol : zokL ls) (k : ∀ mem, SIM mem → SW l G R own cc nL ret' Z (kc + 11) (ks + 1311) Ex (pc + 3) ls sts mem) : NW l G base R own cc nL ret' Z kc ks ini (fun s => Ex s ∧ zX G s) 0 pc ll (.ref (G.2.2.1 65) :: st) 66 E := by
  subst hst
  intro p e s m args below meth c H locs lsA C9 hi0 hE hN hK hz hc hS hl
  have hts := C9.2.2.2.2.1
  have cw : CallB R s args own index yX6_init cX6_init 2 none (Cond.code yX6_init cX6_init 2 none :: ztb) zrmX6 11 1311 0 ∧ yX6_init.name = "<init>" ∧ (Cond.instanceMethod yX6_init).before args s = true := ⟨callB_of 0 hts (zgoodIn hcd) rfl rfl rfl (hts _ hiz) (hts _ hln) ⟨by decide +kernel, by decide +kernel, by decide +kernel⟩ hR, rfl, hts _ him⟩
  have hr := va_runI (l := l) (e := e) (H := H) (below := below) (meth := meth) (locs := locs) (cells := kc) (slots := ks) (g := F0 m pc lsA (.ref (G.2.2.1 65) :: sts.map (zv G))) (As := []) (rest := sts.map (zv G)) (b := G.2.2.1 65) ⟨C9.1, C9.2.1, C9.2.2.1, C9.2.2.2.1, hts⟩ hM cw ⟨zP6_blind, fun U hU hW => ⟨rfl, hN.go hW, hE.2.go (fun q h1 h2 => by rw [hU]; exact hS.2.1 q h1 (fun z => h2 ((zA_rg hG q).mpr z))) hW, va_K.moved hW.alike hK, by rw [hU, hz], fun o o1 o2 => by rw [hU, ← hEE o o2]; exact hc o o1 o2⟩⟩ rfl rfl hl.1 rfl (lv_room hw) hd ⟨hcells, hslots⟩
  intro T hT X
  obtain ⟨v, st₀, t, T', L, h0, X', hL, e1, e2, ⟨hv, hF, mem, hsim, om, hP⟩, stp⟩ := hr T hT X
  cases hv
  have hkeep : ∀ q : Nat, q < H.size → ¬ zA G q → T'.heap[q]? = H[q]? := fun q h1 h2 => by
    rw [e1, hF.2 q (by rw [h0]; exact h1) (fun z => h2 ((zA_rg hG q).mpr z)), h0]
  have hsz2 : H.size ≤ T'.heap.size := by have := hF.1; rw [h0] at this; rw [e1]; exact this
  obtain ⟨t2, a1, b1⟩ := k mem hsim p e s m args below meth c T'.heap (locs ++ L) lsA (C9.up hcells hslots) hE.1 hE.2 hK (zInj_of hG) (by rw [e1]; exact hP) ⟨Nat.le_trans hS.1 hsz2, fun q h1 h2 => by
    rw [hkeep q (Nat.lt_of_lt_of_le h1 hS.1) h2]; exact hS.2.1 q h1 (fun z => h2 ((zA_rg hG q).mpr z)), fun q hq => by
    rcases List.mem_append.mp hq with h | h
    · exact (zA_rg hG _).mpr (hS.2.2 q h)
    · exact (zA_rg hG _).mpr (hL q h)⟩ ⟨hlen, hl.1, hl.2.1, fun i v hi hv => hl.2.2 _ (hll i v hi hv)⟩ hol hos om T' rfl X'
  exact ⟨t2, stp t2 a1, b1⟩
end
theorem ml_5 : Cond.methodLink RL 9 yX5_init ∈ ztb := (ztb_at 89 (by decide +kernel) (by decide +kernel))
theorem ml_6 : Cond.methodLink RL 12 yX6_init ∈ ztb := (ztb_at 796 (by decide +kernel) (by decide +kernel))
theorem cd_6 : Cond.code yX6_init cX6_init 2 none ∈ ztb := (ztb_at 798 (by decide +kernel) (by decide +kernel))
theorem im_6 : Cond.instanceMethod yX6_init ∈ ztb := (ztb_at 797 (by decide +kernel) (by decide +kernel))
set_option maxRecDepth 100000 in
theorem law_new {l : Launch} {G : zG} {base L : Nat} {xs : Nat → Int32} (hG : zGb G base) (hL : L ≤ 2560) : NW l G base room_1 RL cL_law 4 ret (fun below args s => lw_Z below args s) 0 0 false (fun s => zEx G L xs s ∧ zX G s) 0 0 [(0, .ref (G.2.2.1 200))] [] 0 (fun _ => .inr (5, zd5)) := by
  refine n_new (ci := 5) (fs := zd5) hG cl_L_7 is_5 iz_5 inX5z tyX5 tyX5_ok rfl zdf5 (Nat.le_of_ble_eq_true rfl) (Nat.le_of_ble_eq_true rfl) (Nat.le_of_ble_eq_true rfl) dL_law_0 ?_
  refine n_dup dL_law_3 ?_
  refine n_callI (b := 0) hG (k_X5_0 hG) YiX5 ⟨rfl, rfl⟩ ml_5 (Nat.le_of_ble_eq_true rfl) (Nat.le_of_ble_eq_true rfl) rfl rfl ⟨Nat.le_of_ble_eq_true rfl, Nat.le_of_ble_eq_true rfl⟩ (Nat.le_of_ble_eq_true rfl) (Nat.le_of_ble_eq_true rfl) (Nat.le_of_ble_eq_true rfl) dL_law_4 ?_
  refine n_astore (i := 1) (ll' := [(1, .ref (G.2.2.1 0)), (0, .ref (G.2.2.1 200))]) dL_law_7 rfl (by decide) rfl ?_
  refine n_new (ci := 6) (fs := zd6) hG cl_L_10 is_6 iz_6 inX6z tyX6 tyX6_ok rfl zdf6 (Nat.le_of_ble_eq_true rfl) (Nat.le_of_ble_eq_true rfl) (Nat.le_of_ble_eq_true rfl) dL_law_8 ?_
  refine n_dup dL_law_11 ?_
  refine n_call6 (ls := [zR 200, zR 0, zU, zU]) (sts := [zR 65]) hG (k_X6 hG) ml_6 cd_6 iz_6 im_6 ?_ ⟨Nat.le_of_ble_eq_true rfl, Nat.le_of_ble_eq_true rfl⟩ (Nat.le_of_ble_eq_true rfl) (Nat.le_of_ble_eq_true rfl) (Nat.le_of_ble_eq_true rfl) dL_law_12 rfl (zokL.nil.co trivial) ?_ rfl ?_ (fun mem h => ?_)
  · intro o h
    by_cases q : o = 65
    · subst q; rfl
    · show va_up _ 65 _ o = _
      rw [va_up_ne _ _ q, va_up_ne _ _ q]
      show (if 0 ≤ o then zE0 G o else _) = _
      rw [if_pos (Nat.zero_le o)]
  · intro i v hi hv
    match i, hi with
    | 0, hi => cases hi; exact List.mem_cons_of_mem _ List.mem_cons_self
    | 1, hi => cases hi; exact List.mem_cons_self
    | 2, hi => cases hi; exact absurd rfl hv
    | 3, hi => cases hi; exact absurd rfl hv
    | i + 4, hi => simp at hi
  · exact (((zokL.nil.co (v := zU) trivial).co (v := zU) trivial).co (v := zR 0) trivial).co trivial
  · refine r_astore_n dL_law_15 rfl ?_
    refine r_iconst dL_law_16 (k := ?_)
    refine r_istore_n dL_law_17 rfl ?_
    exact lw_loop hL (Nat.le_of_ble_eq_true rfl) (Nat.le_of_ble_eq_true rfl) (L + 1) 0 mem (by omega) (by omega) (by omega) h
theorem zAc {args : Array Value} {s : State} {ty : FieldType} (h : (Cond.arrayClass ty).before args s = true) (hp : ∀ cA : ClassId, s.vm.findClass ("[" ++ ty.toString) = some cA → va_RA s cA ty) : ∃ cA : ClassId, ArrOfT s cA ty ∧ va_RA s cA ty := by
  obtain ⟨cA, kA, comp, h1, h2, h3⟩ := Cond.arrayClass_spec h
  exact ⟨cA, fun n z => ⟨fun k h => (by cases h), kA, h2, comp, h3⟩, hp cA h1⟩
theorem zAo {args : Array Value} {s : State} {C : String} (h : (Cond.arrayOver (.object C)).before args s = true) : ∃ cA : ClassId, ArrOfT s cA (.object C) ∧ va_RA s cA (.object C) := by
  obtain ⟨comp, cA, kA, h1, h2, h3, h4, h5⟩ := Cond.arrayOver_spec h
  exact ⟨cA, fun n z => ⟨fun k h => (by cases h), kA, h3, comp, h4⟩, kA, comp, h3, h4, h1, h5⟩
set_option maxRecDepth 100000 in
theorem start_S {s : State} {b : Nat} (hgv : (Jvm.Cond.and given_1 narrow_1).before #[Value.ref b] s = true) : ∃ adK adV : Nat → Nat, vk_S 7 zSl zSb adK adV (fun q => s.heap.size ≤ q) s s.heap ∧ ∀ i : Nat, i < 7 → (Term.string RX2 (zSk.getD i 0)).eval #[Value.ref b] s none [] s = some (.ref (adK i)) := by
  have hs := flat_of_before _ hgv
  refine vk_Sof (tm := fun i => Term.string RX2 (zSk.getD i 0)) (fun i hi => zsl_b hi) (fun i hi => ?_) (fun i hi => ?_) (fun i hi => ?_) (fun i hi => ?_) (fun i hi j hj => ?_) (fun i j hi hj hij => ?_) (fun a h => Nat.not_le.mpr h)
  · rcases (show i = 0 ∨ i = 1 ∨ i = 2 ∨ i = 3 ∨ i = 4 ∨ i = 5 ∨ i = 6 by omega) with rfl | rfl | rfl | rfl | rfl | rfl | rfl <;> exact hs _ (by decide +kernel)
  · rcases (show i = 0 ∨ i = 1 ∨ i = 2 ∨ i = 3 ∨ i = 4 ∨ i = 5 ∨ i = 6 by omega) with rfl | rfl | rfl | rfl | rfl | rfl | rfl <;> exact hs _ (by decide +kernel)
  · rcases (show i = 0 ∨ i = 1 ∨ i = 2 ∨ i = 3 ∨ i = 4 ∨ i = 5 ∨ i = 6 by omega) with rfl | rfl | rfl | rfl | rfl | rfl | rfl <;> exact hs _ (by decide +kernel)
  · rcases (show i = 0 ∨ i = 1 ∨ i = 2 ∨ i = 3 ∨ i = 4 ∨ i = 5 ∨ i = 6 by omega) with rfl | rfl | rfl | rfl | rfl | rfl | rfl <;> exact hs _ (by decide +kernel)
  · rcases (show i = 0 ∨ i = 1 ∨ i = 2 ∨ i = 3 ∨ i = 4 ∨ i = 5 ∨ i = 6 by omega) with rfl | rfl | rfl | rfl | rfl | rfl | rfl
    · have hj : j < 5 := hj
      rcases (show j = 0 ∨ j = 1 ∨ j = 2 ∨ j = 3 ∨ j = 4 by omega) with rfl | rfl | rfl | rfl | rfl <;> exact hs _ (by decide +kernel)
    · have hj : j < 5 := hj
      rcases (show j = 0 ∨ j = 1 ∨ j = 2 ∨ j = 3 ∨ j = 4 by omega) with rfl | rfl | rfl | rfl | rfl <;> exact hs _ (by decide +kernel)
    · have hj : j < 4 := hj
      rcases (show j = 0 ∨ j = 1 ∨ j = 2 ∨ j = 3 by omega) with rfl | rfl | rfl | rfl <;> exact hs _ (by decide +kernel)
    · have hj : j < 5 := hj
      rcases (show j = 0 ∨ j = 1 ∨ j = 2 ∨ j = 3 ∨ j = 4 by omega) with rfl | rfl | rfl | rfl | rfl <;> exact hs _ (by decide +kernel)
    · have hj : j < 5 := hj
      rcases (show j = 0 ∨ j = 1 ∨ j = 2 ∨ j = 3 ∨ j = 4 by omega) with rfl | rfl | rfl | rfl | rfl <;> exact hs _ (by decide +kernel)
    · have hj : j < 4 := hj
      rcases (show j = 0 ∨ j = 1 ∨ j = 2 ∨ j = 3 by omega) with rfl | rfl | rfl | rfl <;> exact hs _ (by decide +kernel)
    · have hj : j < 5 := hj
      rcases (show j = 0 ∨ j = 1 ∨ j = 2 ∨ j = 3 ∨ j = 4 by omega) with rfl | rfl | rfl | rfl | rfl <;> exact hs _ (by decide +kernel)
  · rcases (show i = 0 ∨ i = 1 ∨ i = 2 ∨ i = 3 ∨ i = 4 ∨ i = 5 ∨ i = 6 by omega) with rfl | rfl | rfl | rfl | rfl | rfl | rfl
    · rcases (show j = 0 ∨ j = 1 ∨ j = 2 ∨ j = 3 ∨ j = 4 ∨ j = 5 ∨ j = 6 by omega) with rfl | rfl | rfl | rfl | rfl | rfl | rfl
      · exact absurd rfl hij
      · exact Or.inl (hs _ (by decide +kernel))
      · exact Or.inl (hs _ (by decide +kernel))
      · exact Or.inl (hs _ (by decide +kernel))
      · exact Or.inl (hs _ (by decide +kernel))
      · exact Or.inl (hs _ (by decide +kernel))
      · exact Or.inl (hs _ (by decide +kernel))
    · rcases (show j = 0 ∨ j = 1 ∨ j = 2 ∨ j = 3 ∨ j = 4 ∨ j = 5 ∨ j = 6 by omega) with rfl | rfl | rfl | rfl | rfl | rfl | rfl
      · exact Or.inr (hs _ (by decide +kernel))
      · exact absurd rfl hij
      · exact Or.inl (hs _ (by decide +kernel))
      · exact Or.inl (hs _ (by decide +kernel))
      · exact Or.inl (hs _ (by decide +kernel))
      · exact Or.inl (hs _ (by decide +kernel))
      · exact Or.inl (hs _ (by decide +kernel))
    · rcases (show j = 0 ∨ j = 1 ∨ j = 2 ∨ j = 3 ∨ j = 4 ∨ j = 5 ∨ j = 6 by omega) with rfl | rfl | rfl | rfl | rfl | rfl | rfl
      · exact Or.inr (hs _ (by decide +kernel))
      · exact Or.inr (hs _ (by decide +kernel))
      · exact absurd rfl hij
      · exact Or.inl (hs _ (by decide +kernel))
      · exact Or.inl (hs _ (by decide +kernel))
      · exact Or.inl (hs _ (by decide +kernel))
      · exact Or.inl (hs _ (by decide +kernel))
    · rcases (show j = 0 ∨ j = 1 ∨ j = 2 ∨ j = 3 ∨ j = 4 ∨ j = 5 ∨ j = 6 by omega) with rfl | rfl | rfl | rfl | rfl | rfl | rfl
      · exact Or.inr (hs _ (by decide +kernel))
      · exact Or.inr (hs _ (by decide +kernel))
      · exact Or.inr (hs _ (by decide +kernel))
      · exact absurd rfl hij
      · exact Or.inl (hs _ (by decide +kernel))
      · exact Or.inl (hs _ (by decide +kernel))
      · exact Or.inl (hs _ (by decide +kernel))
    · rcases (show j = 0 ∨ j = 1 ∨ j = 2 ∨ j = 3 ∨ j = 4 ∨ j = 5 ∨ j = 6 by omega) with rfl | rfl | rfl | rfl | rfl | rfl | rfl
      · exact Or.inr (hs _ (by decide +kernel))
      · exact Or.inr (hs _ (by decide +kernel))
      · exact Or.inr (hs _ (by decide +kernel))
      · exact Or.inr (hs _ (by decide +kernel))
      · exact absurd rfl hij
      · exact Or.inl (hs _ (by decide +kernel))
      · exact Or.inl (hs _ (by decide +kernel))
    · rcases (show j = 0 ∨ j = 1 ∨ j = 2 ∨ j = 3 ∨ j = 4 ∨ j = 5 ∨ j = 6 by omega) with rfl | rfl | rfl | rfl | rfl | rfl | rfl
      · exact Or.inr (hs _ (by decide +kernel))
      · exact Or.inr (hs _ (by decide +kernel))
      · exact Or.inr (hs _ (by decide +kernel))
      · exact Or.inr (hs _ (by decide +kernel))
      · exact Or.inr (hs _ (by decide +kernel))
      · exact absurd rfl hij
      · exact Or.inl (hs _ (by decide +kernel))
    · rcases (show j = 0 ∨ j = 1 ∨ j = 2 ∨ j = 3 ∨ j = 4 ∨ j = 5 ∨ j = 6 by omega) with rfl | rfl | rfl | rfl | rfl | rfl | rfl
      · exact Or.inr (hs _ (by decide +kernel))
      · exact Or.inr (hs _ (by decide +kernel))
      · exact Or.inr (hs _ (by decide +kernel))
      · exact Or.inr (hs _ (by decide +kernel))
      · exact Or.inr (hs _ (by decide +kernel))
      · exact Or.inr (hs _ (by decide +kernel))
      · exact absurd rfl hij
set_option maxRecDepth 100000 in
theorem start_G {p : Program} {s : State} {m : MethodId} {meth : Method} {c : Code} {b L : Nat} {xs : Nat → Int32} (C0 : lw_At p s m meth c b L xs) : ∃ G : zG, zGb G s.heap.size ∧ G.2.2.1 200 = b ∧ va_K (zD G) vwCl (zTy G) s ∧ zX G s ∧ zNs s := by
  obtain ⟨hx, hb, hr, hml, hown, hts, hX, hbl, hlocks, hgv⟩ := id C0
  have hs := flat_of_before _ hgv
  have htz : ∀ w ∈ ztb, w.before #[Value.ref b] s = true := fun w hw => hts w (List.mem_filter.mp hw).1
  obtain ⟨c0, iS0, hKn0⟩ := u_known (C := RX0) (T := TX0) (N := 11) (n := 11) htz inX0z (htz _ is_0)
  obtain ⟨c1, iS1, hKn1⟩ := u_known (C := RX1) (T := TX1) (N := 3) (n := 3) htz inX1z (htz _ is_1)
  obtain ⟨c2, iS2, hKn2⟩ := u_known (C := RX2) (T := TX2) (N := 15) (n := 15) htz inX2z (htz _ is_2)
  obtain ⟨c3, iS3, hKn3⟩ := u_known (C := RX3) (T := TX3) (N := 3) (n := 3) htz inX3z (htz _ is_3)
  obtain ⟨c4, iS4, hKn4⟩ := u_known (C := RX4) (T := TX4) (N := 4) (n := 4) htz inX4z (htz _ is_4)
  obtain ⟨c5, iS5, hKn5⟩ := u_known (C := RX5) (T := TX5) (N := 9) (n := 9) htz inX5z (htz _ is_5)
  obtain ⟨c6, iS6, hKn6⟩ := u_known (C := RX6) (T := TX6) (N := 29) (n := 29) htz inX6z (htz _ is_6)
  obtain ⟨a0, A0, B0⟩ := zAc (htz _ ac_int) (fun _ h => h)
  obtain ⟨a1, A1, B1⟩ := zAc (htz _ ac_byte) (fun _ h => h)
  obtain ⟨a2, A2, B2⟩ := zAc (htz _ ac_boolean) (fun _ h => h)
  have hao3 := (hts (.arrayOver (.object "TemperIsles$Image")) (List.mem_of_getElem? (i := 171) (by decide +kernel)))
  have hao4 := (hts (.arrayOver (.object "TemperIsles$Sheet")) (List.mem_of_getElem? (i := 195) (by decide +kernel)))
  obtain ⟨a3, A3, B3⟩ := zAo hao3
  obtain ⟨a4, A4, B4⟩ := zAo hao4
  obtain ⟨adK, adV, hVS, hev⟩ := start_S hgv
  have hAA : ∀ a : Nat, a < s.heap.size → ¬ (fun q => s.heap.size ≤ q) a := fun a h => Nat.not_le.mpr h
  have hZ1 := va_Zof (A := fun q => s.heap.size ≤ q) (hts (.laysStatic "java/lang/String" "COMPACT_STRINGS" "Z") (List.mem_of_getElem? (i := 361) (by decide +kernel))) (hts (.initialized "java/lang/String") (List.mem_of_getElem? (i := 80) (by decide +kernel))) (va_eqt (hs (.eq (.static "java/lang/String" "COMPACT_STRINGS" "Z") (.int 1)) (by decide +kernel))) hAA
  have hZ2 := va_Zqof (A := fun q => s.heap.size ≤ q) (hts (.laysStatic "jdk/internal/util/Preconditions" "SIOOBE_FORMATTER" "Ljava/util/function/BiFunction;") (List.mem_of_getElem? (i := 377) (by decide +kernel))) (hts (.initialized "jdk/internal/util/Preconditions") (List.mem_of_getElem? (i := 82) (by decide +kernel))) (hs (.isRef (.static "jdk/internal/util/Preconditions" "SIOOBE_FORMATTER" "Ljava/util/function/BiFunction;")) (by decide +kernel)) hAA
  obtain ⟨ft, hft⟩ : ∃ ft : Nat, va_Z "jdk/internal/util/Preconditions" "SIOOBE_FORMATTER" "Ljava/util/function/BiFunction;" (.ref ft) (fun q => s.heap.size ≤ q) s s.heap ∨ va_Z "jdk/internal/util/Preconditions" "SIOOBE_FORMATTER" "Ljava/util/function/BiFunction;" .null (fun q => s.heap.size ≤ q) s s.heap := by
    rcases hZ2 with h | ⟨t, h⟩
    · exact ⟨0, Or.inr h⟩
    · exact ⟨t, Or.inl h⟩
  refine ⟨(fun k => match k with | 0 => c0 | 1 => c1 | 2 => c2 | 3 => c3 | 4 => c4 | 5 => c5 | _ => c6, fun k => match k with | 0 => iS0 | 1 => iS1 | 2 => iS2 | 3 => iS3 | 4 => iS4 | 5 => iS5 | _ => iS6, fun o => if o < 77 then s.heap.size + o else if o < 84 then adK (o - 77) else if o < 91 then adV (o - 84) else if o = 91 then ft else b, fun t => match t with | 0 => a0 | 1 => a1 | 2 => a2 | 3 => a3 | _ => a4), fun o ho => if_pos ho, rfl, ⟨?_, ?_⟩, ?_, ?_⟩
  · intro k q hq
    match k, hq with
    | 0, hq => cases hq; exact hKn0
    | 1, hq => cases hq; exact hKn1
    | 2, hq => cases hq; exact hKn2
    | 3, hq => cases hq; exact hKn3
    | 4, hq => cases hq; exact hKn4
    | 5, hq => cases hq; exact hKn5
    | 6, hq => cases hq; exact hKn6
    | k + 7, hq => simp [vwCl] at hq
  · intro k q hq
    match k, hq with
    | 0, hq => cases hq; exact ⟨A0, B0⟩
    | 1, hq => cases hq; exact ⟨A1, B1⟩
    | 2, hq => cases hq; exact ⟨A2, B2⟩
    | 3, hq => cases hq; exact ⟨A3, B3⟩
    | 4, hq => cases hq; exact ⟨A4, B4⟩
    | k + 5, hq => simp [zTy] at hq
  · generalize hGG : ((fun k => match k with | 0 => c0 | 1 => c1 | 2 => c2 | 3 => c3 | 4 => c4 | 5 => c5 | _ => c6, fun k => match k with | 0 => iS0 | 1 => iS1 | 2 => iS2 | 3 => iS3 | 4 => iS4 | 5 => iS5 | _ => iS6, fun o => if o < 77 then s.heap.size + o else if o < 84 then adK (o - 77) else if o < 91 then adV (o - 84) else if o = 91 then ft else b, fun t => match t with | 0 => a0 | 1 => a1 | 2 => a2 | 3 => a3 | _ => a4) : zG) = G
    have gk : ∀ i : Nat, i < 7 → G.2.2.1 (zN + i) = adK i := fun i hi => by
      rw [← hGG]
      show (if 77 + i < 77 then _ else if 77 + i < 84 then adK (77 + i - 77) else _) = _
      rw [if_neg (by omega), if_pos (by omega), show 77 + i - 77 = i by omega]
    have gv : ∀ i : Nat, i < 7 → G.2.2.1 (zN + 7 + i) = adV i := fun i hi => by
      rw [← hGG]
      show (if 77 + 7 + i < 77 then _ else if 77 + 7 + i < 84 then _ else if 77 + 7 + i < 91 then adV (77 + 7 + i - 84) else _) = _
      rw [if_neg (by omega), if_neg (by omega), if_pos (by omega), show 77 + 7 + i - 84 = i by omega]
    have gf : G.2.2.1 (zN + 14) = ft := by rw [← hGG]; rfl
    have gA : ∀ q, zA G q → s.heap.size ≤ q := by
      rintro q ⟨o, ho, rfl⟩
      rw [← hGG]
      show s.heap.size ≤ (if o < 77 then s.heap.size + o else _)
      rw [if_pos ho]
      omega
    refine ⟨?_, fun i hi => ?_, ⟨hZ1.narrow gA, ?_⟩, ?_⟩
    · have w := hVS.narrow gA
      refine ⟨fun i hi => ?_, fun i j hi hj e => ?_⟩
      · dsimp only
        rw [gk i hi, gv i hi]
        exact w.1 i hi
      · dsimp only at e
        rw [gk i hi, gk j hj] at e
        exact w.2 i j hi hj e
    · rw [gk i hi]
      have hsr : ∀ i : Nat, i < 7 → (Cond.stringRef RX2 (zSk.getD i 0) (zSt.getD i "")).before #[Value.ref b] s = true := by
        intro i hi
        rcases (show i = 0 ∨ i = 1 ∨ i = 2 ∨ i = 3 ∨ i = 4 ∨ i = 5 ∨ i = 6 by omega) with rfl | rfl | rfl | rfl | rfl | rfl | rfl
        · exact hts _ (List.mem_of_getElem? (i := 347) (by decide +kernel))
        · exact hts _ (List.mem_of_getElem? (i := 400) (by decide +kernel))
        · exact hts _ (List.mem_of_getElem? (i := 401) (by decide +kernel))
        · exact hts _ (List.mem_of_getElem? (i := 402) (by decide +kernel))
        · exact hts _ (List.mem_of_getElem? (i := 403) (by decide +kernel))
        · exact hts _ (List.mem_of_getElem? (i := 404) (by decide +kernel))
        · exact hts _ (List.mem_of_getElem? (i := 405) (by decide +kernel))
      exact vk_R.of (hsr i hi) (hev i hi)
    · unfold zXf
      rw [gf]
      rcases hft with h | h
      · exact Or.inl (h.narrow gA)
      · exact Or.inr (h.narrow gA)
    · exact va_Nw.of rfl (hts (.methodLinkNest RX2 162 yX5_isWithin RX5) (List.mem_of_getElem? (i := 418) (by decide +kernel)))
  · exact ⟨⟨va_Nw.of rfl (hts (.methodLinkNest RX1 15 yX0_init RX5) (List.mem_of_getElem? (i := 178) (by decide +kernel))), va_Nw.of rfl (hts (.methodLinkNest RX1 22 yX4_init RX5) (List.mem_of_getElem? (i := 180) (by decide +kernel))), va_Nw.of rfl (hts (.methodLinkNest RX2 21 yX0_init RX5) (List.mem_of_getElem? (i := 221) (by decide +kernel))), va_Nw.of rfl (hts (.methodLinkNest RX5 9 yX0_init RX5) (List.mem_of_getElem? (i := 97) (by decide +kernel))), va_Nw.of rfl (hts (.methodLinkNest RX5 21 yX4_init RX5) (List.mem_of_getElem? (i := 152) (by decide +kernel))), va_Nw.of rfl (hts (.methodLinkNest RX5 28 yX1_init RX5) (List.mem_of_getElem? (i := 173) (by decide +kernel))), va_Nw.of rfl (hts (.methodLinkNest RX5 35 yX3_init RX5) (List.mem_of_getElem? (i := 197) (by decide +kernel))), va_Nw.of rfl (hts (.methodLinkNest RX5 42 yX2_init RX5) (List.mem_of_getElem? (i := 216) (by decide +kernel)))⟩, va_AO.of hao3, va_AO.of hao4⟩
theorem whole_start {p : Program} {e : Env} {s : State} {m : MethodId} {below : List Frame} {meth : Method} {c : Code} (l : Launch) {b L : Nat} {xs : Nat → Int32} (hL : L ≤ 2560) (C0 : lw_At p s m meth c b L xs) : W p l e room_1 s m #[Value.ref b] below meth c s.heap [] 0 0 (lw_Z below #[Value.ref b] s) (entryFrame m ([Value.ref b] : List Value).toArray 4) := by
  obtain ⟨G, hG, h200, hK, hXG, hNs⟩ := start_G C0
  obtain ⟨hx, hb, hr, hml, hown, hts, hX, hbl, hlocks, hgv⟩ := id C0
  have gA : ∀ q, zA G q → s.heap.size ≤ q := fun q z => by have := ((zA_rg hG q).mp z).1; omega
  have hEx : zEx G L xs s := ⟨by rw [h200]; exact hX, by rw [h200]; exact hbl, fun z => by rw [h200] at z; have := gA b z; omega, gA⟩
  have main := law_new (l := l) (L := L) (xs := xs) hG hL
  rw [h200] at main
  have hl := lv_entry ([.ref b]) (n := 4) (Nat.le_of_ble_eq_true rfl)
  rw [lg_entry_eq]
  generalize (lg_sl ([.ref b]) ++ List.replicate (4 - (lg_sl ([.ref b])).length) Slot.unset).toArray = ls at hl ⊢
  have hl : lv_has ls 4 [(0, .ref b)] := hl
  exact main p e s m #[Value.ref b] below meth c s.heap [] ls ⟨hx, hb, hml, hown, fun w hw => hts w (List.mem_filter.mp hw).1, hr, hlocks, Nat.zero_le _, Nat.zero_le _⟩ (fun h => by cases h) ⟨hEx, hXG⟩ hNs hK rfl (fun o o1 o2 => absurd o2 (Nat.not_lt_zero _)) va_S.rf hl
