/-! ===== ends, entries, calls ===== -/
theorem zgood : ztb.all goodWord = true := List.all_eq_true.mpr (fun w hw => (List.mem_filter.mp hw).2)
theorem zgoodIn {y : MethodName} {cc : ByteArray} {nL : Nat} {ret : Option FieldType} (h : Cond.code y cc nL ret ∈ ztb) : GoodIn ztb (Cond.code y cc nL ret :: ztb) := by
  intro w hw
  have hm : w ∈ ztb := (List.mem_cons.mp hw).elim (fun e => by rw [e]; exact h) id
  exact ⟨hm, good_of_word (List.all_eq_true.mp zgood w hm)⟩
theorem zWd.end {G : zG} {mem : zM} {s t : State} {H : Heap} {locs : List Loc} (hX : zX G s) (hK : va_K (zD G) vwCl (zTy G) s) (hI : zInj G) (hP : va_P (zD G) vwCl (zC G mem) H) (hS : va_S (zA G) s.heap H locs) (om : zokM mem) (ht : t.heap = H) (hW : s.WarmedH t.vm) : zWd G mem t :=
  ⟨hI, om, by rw [ht]; exact hP, va_K.moved hW.alike hK, hX.go (by rw [ht]; exact hS.2.1) hW⟩
section
variable {l : Launch} {G : zG} {R : Room} {own : String} {cc : ByteArray} {nL : Nat} {post : Option zV → zM → Prop} {Ex : State → Prop} {pc : Nat} {ls : List zV} {mem : zM}
theorem r_iret {x : Int} (hd : decode cc pc = .ok (.ireturn, 1)) (h : post (some (zI x)) mem) : SW l G R own cc nL (some .int) (zZ G post) 0 0 Ex pc ls [zI x] mem := by
  intro p e s m args below meth c H locs lsA C hE hX hK hI hP hS hL ol os om
  exact W.iret (v := Int32.ofInt x) C.1 C.2.1 C.2.2.2.2.2.1 (fun t ht hW => ⟨⟨some (zI x), mem, rfl, h, fun v hv => by cases hv; exact os.hd, zWd.end hX hK hI hP hS om ht hW⟩, hS.F ht⟩) hS.2.2 hd (hlocks := C.2.2.2.2.2.2.1)
theorem r_zret {x : Int} (hd : decode cc pc = .ok (.ireturn, 1)) (h01 : x = 0 ∨ x = 1) (h : post (some (zI x)) mem) : SW l G R own cc nL (some .boolean) (zZ G post) 0 0 Ex pc ls [zI x] mem := by
  intro p e s m args below meth c H locs lsA C hE hX hK hI hP hS hL ol os om
  exact W.zret (v := Int32.ofInt x) C.1 C.2.1 C.2.2.2.2.2.1 (by rcases h01 with rfl | rfl <;> decide) (fun t ht hW => ⟨⟨some (zI x), mem, rfl, h, fun v hv => by cases hv; exact os.hd, zWd.end hX hK hI hP hS om ht hW⟩, hS.F ht⟩) hS.2.2 hd (hlocks := C.2.2.2.2.2.2.1)
theorem r_lret {x : Int} (hd : decode cc pc = .ok (.lreturn, 1)) (h : post (some (zJ x)) mem) : SW l G R own cc nL (some .long) (zZ G post) 0 0 Ex pc ls [zJ x] mem := by
  intro p e s m args below meth c H locs lsA C hE hX hK hI hP hS hL ol os om
  exact W.lret (v := Int64.ofInt x) C.1 C.2.1 C.2.2.2.2.2.1 (fun t ht hW => ⟨⟨some (zJ x), mem, rfl, h, fun v hv => by cases hv; exact os.hd, zWd.end hX hK hI hP hS om ht hW⟩, hS.F ht⟩) hS.2.2 hd (hlocks := C.2.2.2.2.2.2.1)
theorem r_aret {o : Nat} {nm : String} (hd : decode cc pc = .ok (.areturn, 1)) (h : post (some (zR o)) mem) : SW l G R own cc nL (some (.object nm)) (zZ G post) 0 0 Ex pc ls [zR o] mem := by
  intro p e s m args below meth c H locs lsA C hE hX hK hI hP hS hL ol os om
  exact W.aret (v := .ref (G.2.2.1 o)) C.1 C.2.1 C.2.2.2.2.2.1 (Or.inl ⟨nm, rfl⟩) (Or.inr ⟨_, rfl⟩) (fun t ht hW => ⟨⟨some (zR o), mem, rfl, h, fun v hv => by cases hv; exact trivial, zWd.end hX hK hI hP hS om ht hW⟩, hS.F ht⟩) hS.2.2 hd (hlocks := C.2.2.2.2.2.2.1)
theorem r_vret (hd : decode cc pc = .ok (.return_, 1)) (h : post none mem) : SW l G R own cc nL none (zZ G post) 0 0 Ex pc ls [] mem := by
  intro p e s m args below meth c H locs lsA C hE hX hK hI hP hS hL ol os om
  exact W.vret C.1 C.2.1 C.2.2.2.2.2.1 (fun t ht hW => ⟨⟨none, mem, rfl, h, (fun v hv => by cases hv), zWd.end hX hK hI hP hS om ht hW⟩, hS.F ht⟩) hS.2.2 hd (hlocks := C.2.2.2.2.2.2.1)
end
def zent : List zV → List zV
  | [] => []
  | .inr (.inl x) :: t => zJ x :: zU :: zent t
  | v :: t => v :: zent t
def zent0 (As : List zV) (nL : Nat) : List zV := zent As ++ List.replicate (nL - (zent As).length) zU
theorem zent_args {G : zG} : ∀ (As : List zV) (k i : Nat) (v : zV), (zent As)[i]? = some v → v ≠ zU → (k + i, zv G v) ∈ lv_args k (As.map (zv G))
  | [], k, i, v, h, _ => by simp [zent] at h
  | .inl x :: t, k, i, v, h, hv => by
    cases i with
    | zero => simp [zent] at h; subst h; exact List.mem_cons_self
    | succ i =>
      have h2 : (zent t)[i]? = some v := by simpa [zent] using h
      have := zent_args (G := G) t (k + 1) i v h2 hv
      rw [show k + (i + 1) = k + 1 + i by omega]
      exact List.mem_cons_of_mem _ this
  | .inr (.inl x) :: t, k, i, v, h, hv => by
    match i with
    | 0 => simp [zent] at h; subst h; exact List.mem_cons_self
    | 1 => simp [zent] at h; subst h; exact absurd rfl hv
    | i + 2 =>
      have h2 : (zent t)[i]? = some v := by simpa [zent] using h
      have := zent_args (G := G) t (k + 2) i v h2 hv
      rw [show k + (i + 2) = k + 2 + i by omega]
      exact List.mem_cons_of_mem _ this
  | .inr (.inr (.inl x)) :: t, k, i, v, h, hv => by
    cases i with
    | zero => simp [zent] at h; subst h; exact List.mem_cons_self
    | succ i =>
      have h2 : (zent t)[i]? = some v := by simpa [zent] using h
      have := zent_args (G := G) t (k + 1) i v h2 hv
      rw [show k + (i + 1) = k + 1 + i by omega]
      exact List.mem_cons_of_mem _ this
  | .inr (.inr (.inr ())) :: t, k, i, v, h, hv => by
    cases i with
    | zero => simp [zent] at h; subst h; exact absurd rfl hv
    | succ i =>
      have h2 : (zent t)[i]? = some v := by simpa [zent] using h
      have := zent_args (G := G) t (k + 1) i v h2 hv
      rw [show k + (i + 1) = k + 1 + i by omega]
      exact List.mem_cons_of_mem _ this
theorem zent_len {G : zG} : ∀ (As : List zV), (lg_sl (As.map (zv G))).length = (zent As).length
  | [] => rfl
  | .inl x :: t => by have := zent_len (G := G) t; simp [lg_sl, zent, zv, Value.category] at this ⊢; omega
  | .inr (.inl x) :: t => by have := zent_len (G := G) t; simp [lg_sl, zent, zv, Value.category] at this ⊢; omega
  | .inr (.inr (.inl x)) :: t => by have := zent_len (G := G) t; simp [lg_sl, zent, zv, Value.category] at this ⊢; omega
  | .inr (.inr (.inr ())) :: t => by have := zent_len (G := G) t; simp [lg_sl, zent, zv, Value.category] at this ⊢; omega
theorem zent_ok : ∀ (As : List zV), zokL As → zokL (zent As)
  | [], h => h
  | .inl x :: t, h => (zent_ok t h.tl).co h.hd
  | .inr (.inl x) :: t, h => ((zent_ok t h.tl).co (v := zU) trivial).co h.hd
  | .inr (.inr (.inl x)) :: t, h => (zent_ok t h.tl).co h.hd
  | .inr (.inr (.inr ())) :: t, h => (zent_ok t h.tl).co h.hd
theorem zent0_ls {G : zG} {As : List zV} {nL : Nat} (h : (zent As).length ≤ nL) : zLs G ((lg_sl (As.map (zv G)) ++ List.replicate (nL - (lg_sl (As.map (zv G))).length) Slot.unset).toArray) nL (zent0 As nL) := by
  have he := lv_entry (As.map (zv G)) (n := nL) (by rw [zent_len]; exact h)
  refine ⟨by simp [zent0]; omega, he.1, he.2.1, fun i v hi hv => ?_⟩
  unfold zent0 at hi
  by_cases hl : i < (zent As).length
  · rw [List.getElem?_append_left hl] at hi
    have := zent_args (G := G) As 0 i v hi hv
    rw [Nat.zero_add] at this
    exact he.2.2 _ this
  · rw [List.getElem?_append_right (by omega)] at hi
    have := List.eq_of_mem_replicate (List.mem_of_getElem? hi)
    exact absurd this hv
theorem CT.of {l : Launch} {G : zG} {y : MethodName} {cc : ByteArray} {nL : Nat} {ret : Option FieldType} {d : Nat} {As : List zV} {mem : zM} {post : Option zV → zM → Prop} (hy : plainName y.cls = true) (hn : (zent As).length ≤ nL) (h : SW l G (zrm d) y.cls cc nL ret (zZ G post) 0 0 (fun _ => True) 0 (zent0 As nL) [] mem) : CT l G y cc nL ret d As mem post := by
  refine Met.ofW (cc := cc) (maxL := nL) (ret := ret) hy rfl ?_
  intro p e s m args below meth c s₁ B hml hv
  obtain ⟨rfl, ⟨hI, om, hP, hK, hX⟩, hA⟩ := hv
  have hts := atoms_spec (ws := Cond.code y cc nL ret :: ztb) B.pre
  rw [lg_entry_eq]
  refine h p e s m _ below meth c s.heap [] _ ⟨B.exec, B.bytes, hml, findClass_of_methodNamed B.named, fun w hw => hts w (List.mem_cons_of_mem _ hw), B.returns, B.notSynchronized, Nat.zero_le _, Nat.zero_le _⟩ trivial hX hK hI hP va_S.rf (zent0_ls hn) ?_ zokL.nil om
  intro v hv
  rcases List.mem_append.mp hv with q | q
  · exact zent_ok As hA v q
  · rw [List.eq_of_mem_replicate q]; exact trivial
/-- less is asked of a contract -/
theorem CT.imp {l : Launch} {G : zG} {y : MethodName} {cc : ByteArray} {nL : Nat} {ret : Option FieldType} {d : Nat} {As : List zV} {mem : zM} {post post' : Option zV → zM → Prop} (h : CT l G y cc nL ret d As mem post) (hp : ∀ r m, post r m → post' r m) : CT l G y cc nL ret d As mem post' := by
  intro p e ha hc hk s m args below hf happ hP hT
  obtain ⟨k, o, h1, h2, h3, ⟨⟨r, m', e1, e2, e3⟩, hF⟩, hL⟩ := h p e ha hc hk s m args below hf happ hP hT
  exact ⟨k, o, h1, h2, h3, ⟨⟨r, m', e1, hp _ _ e2, e3⟩, hF⟩, hL⟩
theorem zPc_blind {G : zG} {As : List zV} {mem : zM} : FrameBlind (zPc G As mem) := by
  intro a U g mk h
  obtain ⟨h1, ⟨hI, om, hP, hK, hX⟩, h3⟩ := h
  exact ⟨h1, ⟨hI, om, hP, va_K.moved (u := U) (U := U.calling g mk a) (Vm.Alike.refl U.vm) hK, ⟨vk_S.moved (u := U) (U := U.calling g mk a) (Vm.Alike.refl U.vm) hX.1, fun i hi => vk_R.same (u := U) (U := U.calling g mk a) rfl (hX.2.1 i hi), ⟨va_Z.moved (u := U) (U := U.calling g mk a) (Vm.Alike.refl U.vm) hX.2.2.1.1, zXf.moved (u := U) (U := U.calling g mk a) (Vm.Alike.refl U.vm) hX.2.2.1.2⟩, va_Nw.same (u := U) (U := U.calling g mk a) rfl rfl hX.2.2.2⟩⟩, h3⟩
def zwd : List zV → Nat
  | [] => 0
  | .inr (.inl _) :: t => 2 + zwd t
  | _ :: t => 1 + zwd t
theorem zwd_eq {G : zG} : ∀ (st : List zV), ((st.map (zv G)).map fun v => v.category).sum = zwd st
  | [] => rfl
  | .inl x :: t => by simp [zwd, zv, Value.category, ← zwd_eq (G := G) t]
  | .inr (.inl x) :: t => by simp [zwd, zv, Value.category, ← zwd_eq (G := G) t]
  | .inr (.inr (.inl x)) :: t => by simp [zwd, zv, Value.category, ← zwd_eq (G := G) t]
  | .inr (.inr (.inr ())) :: t => by simp [zwd, zv, Value.category, ← zwd_eq (G := G) t]
section
variable {p : Program} {l : Launch} {e : Env} {R : Room} {s : State} {m : MethodId} {args : Array Value} {below : List Frame} {meth : Method} {c : Code} {H : Heap} {locs : List Loc} {cells slots : Nat} {Q : State → Prop}
theorem z_call {G : zG} {post : Option zV → zM → Prop} {pc : Nat} {lsA : Array Slot} {st0 rest : List Value} {a : Array Value} (hr : va_Run p l e R s m args below meth c H locs cells slots 0 0 (F0 m pc lsA st0) rest (zQC G post a) (zA G)) (hS : va_S (zA G) s.heap H locs)
    (kk : ∀ (r : Option zV) (mem' : zM) (H1 : Heap) (locs1 : List Loc), post r mem' → zokO r → zokM mem' → va_P (zD G) vwCl (zC G mem') H1 → va_S (zA G) s.heap H1 locs1 → W p l e R s m args below meth c H1 locs1 cells slots Q (F0 m (pc + 3) lsA ((r.map (zv G)).toList ++ rest))) : W p l e R s m args below meth c H locs cells slots Q (F0 m pc lsA st0) := by
  intro T hT X
  obtain ⟨v, st₀, t, T', L, h0, X', hL, e1, e2, ⟨⟨r, mem', hv, hp, hok, hI, om, hP, hK, hX⟩, hz, hk⟩, st⟩ := hr T hT X
  have hv : v = r.map (zv G) := by cases hv; rfl
  subst hv
  rw [h0] at hz hk
  obtain ⟨t2, a1, b1⟩ := kk r mem' T'.heap (locs ++ L) hp hok om (by rw [e1]; exact hP)
    ⟨Nat.le_trans hS.1 (by rw [e1]; exact hz), fun q h1 h2 => by rw [e1, hk q (Nat.lt_of_lt_of_le h1 hS.1) h2]; exact hS.2.1 q h1 h2, fun q hq => by
      rcases List.mem_append.mp hq with h | h
      · exact hS.2.2 q h
      · exact hL q h⟩ T' rfl X'
  exact ⟨t2, st t2 a1, b1⟩
end
/-- what the tables say of a method that is called on an object of its own class -/
def zYv (y : MethodName) (cc : ByteArray) (nL : Nat) (ret : Option FieldType) (n : Nat) : Prop := Cond.code y cc nL ret ∈ ztb ∧ Cond.initialized y.cls ∈ ztb ∧ (y.cls ≠ "java/lang/invoke/MethodHandle" ∧ y.cls ≠ "java/lang/invoke/VarHandle") ∧ (parseMethodDescriptor y.desc).map (fun d => d.parameters.length) = some n ∧ Cond.instanceMethod y ∈ ztb ∧ Cond.selects y.cls y y ∈ ztb
/-- of a static one -/
def zYs (y : MethodName) (cc : ByteArray) (nL : Nat) (ret : Option FieldType) (n : Nat) : Prop := Cond.code y cc nL ret ∈ ztb ∧ Cond.initialized y.cls ∈ ztb ∧ (y.cls ≠ "java/lang/invoke/MethodHandle" ∧ y.cls ≠ "java/lang/invoke/VarHandle") ∧ (parseMethodDescriptor y.desc).map (fun d => d.parameters.length) = some n ∧ Cond.static y ∈ ztb
section
variable {l : Launch} {G : zG} {R : Room} {own : String} {cc : ByteArray} {nL : Nat} {ret : Option FieldType} {Z : List Frame → Array Value → State → State → Prop} {kc ks : Nat} {Ex : State → Prop} {pc : Nat} {ls st : List zV} {mem : zM}
theorem z_go {s U : State} {H : Heap} {locs : List Loc} {As : List zV} (hX : zX G s) (hK : va_K (zD G) vwCl (zTy G) s) (hI : zInj G) (hP : va_P (zD G) vwCl (zC G mem) H) (hS : va_S (zA G) s.heap H locs) (om : zokM mem) (hA : zokL As) (hU : U.heap = H) (hW : s.WarmedH U.vm) : zPc G As mem (As.map (zv G)).toArray U :=
  ⟨rfl, zWd.end hX hK hI hP hS om hU hW, hA⟩
theorem zokL.app {a b : List zV} (ha : zokL a) (hb : zokL b) : zokL (a ++ b) := fun v hv => (List.mem_append.mp hv).elim (ha v) (hb v)
/-- a call of an object's method, by its contract -/
theorem r_callV {y : MethodName} {bytes : ByteArray} {nL' : Nat} {ret' : Option FieldType} {d n index b ci : Nat} {As rest : List zV} {post : Option zV → zM → Prop} {T : u_T} {N : Nat} (hM : CT l G y bytes nL' ret' d (zR b :: As) mem post) (hY : zYv y bytes nL' ret' n) (hl : Cond.methodLink own index y ∈ ztb) (hL9 : zL b = (ci, zNf ci)) (hc9 : ci < 7) (hcl : vwCl[ci]? = some (y.cls, T, N)) (hn : As.length = n) (hst : st = As.reverse ++ zR b :: rest) (hR : d + 1 ≤ R.frames ∧ 8 + (nL' + 11) + 100 * d ≤ R.locals) (hw : zwd rest ≤ 8) (hd : decode cc pc = .ok (.invokevirtual index, 3))
    (kk : ∀ (r : Option zV) (mem' : zM), post r mem' → SW l G R own cc nL ret Z kc ks Ex (pc + 3) ls (r.toList ++ rest) mem') : SW l G R own cc nL ret Z kc ks Ex pc ls st mem := by
  intro p e s m args below meth c H locs lsA C hE hX hK hI hP hS hL ol os om
  obtain ⟨y1, y2, y3, y4, y5, y6⟩ := hY
  have hlt := zL_lt hL9 (by omega)
  have hAs : zokL As := fun v hv => os v (by rw [hst]; exact List.mem_append_left _ (List.mem_reverse.mpr hv))
  have hrs : zokL rest := fun v hv => os v (by rw [hst]; exact List.mem_append_right _ (List.mem_cons_of_mem _ hv))
  have cw : CallW R s args own y.cls index y bytes nL' ret' (Cond.code y bytes nL' ret' :: ztb) (zrm d) 0 0 n := ⟨callB_of n C.2.2.2.2.1 (zgoodIn y1) rfl rfl rfl (C.2.2.2.2.1 _ y2) (C.2.2.2.2.1 _ hl) ⟨y3.1, y3.2, y4⟩ hR, C.2.2.2.2.1 _ y5, C.2.2.2.2.1 _ y6⟩
  refine z_call (va_runV (As := As.map (zv G)) (rest := rest.map (zv G)) (b := G.2.2.1 b) (Ts := ztb) ⟨C.1, C.2.1, C.2.2.1, C.2.2.2.1, C.2.2.2.2.1⟩ hM cw ⟨zPc_blind, va_recv hK hP hcl (q0 := b) (by rw [zC_get hlt, zE_obj hL9 hc9]), fun U hU hW => z_go hX hK hI hP hS om (As := zR b :: As) (hAs.co trivial) hU hW⟩ rfl (by rw [List.length_map]; exact hn) hL.2.1 (by rw [hst]; simp [zv]) (lv_room (by rw [zwd_eq]; exact hw)) hd ⟨C.2.2.2.2.2.2.2.1, C.2.2.2.2.2.2.2.2⟩) hS (fun r mem' H1 locs1 hp hok om1 hP1 hS1 => ?_)
  have k9 := kk r mem' hp p e s m args below meth c H1 locs1 lsA C hE hX hK hI hP1 hS1 hL ol (zokL.app (fun v hv => hok v (by cases r with | none => simp at hv | some w => simp at hv; rw [hv])) hrs) om1
  rw [List.map_append] at k9
  have : (r.map (zv G)).toList = r.toList.map (zv G) := by cases r <;> rfl
  rw [this]
  exact k9
/-- a call of a static method -/
theorem r_callS {y : MethodName} {bytes : ByteArray} {nL' : Nat} {ret' : Option FieldType} {d n index : Nat} {As rest : List zV} {post : Option zV → zM → Prop} (hM : CT l G y bytes nL' ret' d As mem post) (hY : zYs y bytes nL' ret' n) (hl : Cond.methodLink own index y ∈ ztb) (hn : As.length = n) (hst : st = As.reverse ++ rest) (hR : d + 1 ≤ R.frames ∧ 8 + (nL' + 11) + 100 * d ≤ R.locals) (hw : zwd rest ≤ 8) (hd : decode cc pc = .ok (.invokestatic index, 3))
    (kk : ∀ (r : Option zV) (mem' : zM), post r mem' → SW l G R own cc nL ret Z kc ks Ex (pc + 3) ls (r.toList ++ rest) mem') : SW l G R own cc nL ret Z kc ks Ex pc ls st mem := by
  intro p e s m args below meth c H locs lsA C hE hX hK hI hP hS hL ol os om
  obtain ⟨y1, y2, y3, y4, y5⟩ := hY
  have hAs : zokL As := fun v hv => os v (by rw [hst]; exact List.mem_append_left _ (List.mem_reverse.mpr hv))
  have hrs : zokL rest := fun v hv => os v (by rw [hst]; exact List.mem_append_right _ hv)
  have cw : CallB R s args own index y bytes nL' ret' (Cond.code y bytes nL' ret' :: ztb) (zrm d) 0 0 n ∧ (Cond.static y).before args s = true := ⟨callB_of n C.2.2.2.2.1 (zgoodIn y1) rfl rfl rfl (C.2.2.2.2.1 _ y2) (C.2.2.2.2.1 _ hl) ⟨y3.1, y3.2, y4⟩ hR, C.2.2.2.2.1 _ y5⟩
  refine z_call (va_runS (As := As.map (zv G)) (rest := rest.map (zv G)) (Ts := ztb) ⟨C.1, C.2.1, C.2.2.1, C.2.2.2.1, C.2.2.2.2.1⟩ hM cw ⟨zPc_blind, fun U hU hW => z_go hX hK hI hP hS om (As := As) hAs hU hW⟩ rfl (by rw [List.length_map]; exact hn) hL.2.1 (by rw [hst]; simp) (lv_room (by rw [zwd_eq]; exact hw)) hd ⟨C.2.2.2.2.2.2.2.1, C.2.2.2.2.2.2.2.2⟩) hS (fun r mem' H1 locs1 hp hok om1 hP1 hS1 => ?_)
  have k9 := kk r mem' hp p e s m args below meth c H1 locs1 lsA C hE hX hK hI hP1 hS1 hL ol (zokL.app (fun v hv => hok v (by cases r with | none => simp at hv | some w => simp at hv; rw [hv])) hrs) om1
  rw [List.map_append] at k9
  have : (r.map (zv G)).toList = r.toList.map (zv G) := by cases r <;> rfl
  rw [this]
  exact k9
/-- a static method of a nest mate -/
theorem r_callSN {y : MethodName} {bytes : ByteArray} {nL' : Nat} {ret' : Option FieldType} {d n index : Nat} {host : String} {As rest : List zV} {post : Option zV → zM → Prop} (hM : CT l G y bytes nL' ret' d As mem post) (hY : zYs y bytes nL' ret' n) (hl : ∀ s, zX G s → va_Nw (.methodLinkNest own index y host) s) (hn : As.length = n) (hst : st = As.reverse ++ rest) (hR : d + 1 ≤ R.frames ∧ 8 + (nL' + 11) + 100 * d ≤ R.locals) (hw : zwd rest ≤ 8) (hd : decode cc pc = .ok (.invokestatic index, 3))
    (kk : ∀ (r : Option zV) (mem' : zM), post r mem' → SW l G R own cc nL ret Z kc ks Ex (pc + 3) ls (r.toList ++ rest) mem') : SW l G R own cc nL ret Z kc ks Ex pc ls st mem := by
  intro p e s m args below meth c H locs lsA C hE hX hK hI hP hS hL ol os om
  obtain ⟨y1, y2, y3, y4, y5⟩ := hY
  have hAs : zokL As := fun v hv => os v (by rw [hst]; exact List.mem_append_left _ (List.mem_reverse.mpr hv))
  have hrs : zokL rest := fun v hv => os v (by rw [hst]; exact List.mem_append_right _ hv)
  have cw : va_CN R s args own index y host bytes nL' ret' (Cond.code y bytes nL' ret' :: ztb) (zrm d) 0 0 n ∧ (Cond.static y).before args s = true ∧ True := ⟨va_cnB n C.2.2.2.2.1 (zgoodIn y1) rfl rfl rfl (hl s hX) (C.2.2.2.2.1 _ y2) ⟨y3.1, y3.2, y4⟩ hR, C.2.2.2.2.1 _ y5, trivial⟩
  refine z_call (va_runSN (As := As.map (zv G)) (rest := rest.map (zv G)) (Ts := ztb) ⟨C.1, C.2.1, C.2.2.1, C.2.2.2.1, C.2.2.2.2.1⟩ hM cw ⟨zPc_blind, fun U hU hW => z_go hX hK hI hP hS om (As := As) hAs hU hW⟩ rfl (by rw [List.length_map]; exact hn) hL.2.1 (by rw [hst]; simp) (lv_room (by rw [zwd_eq]; exact hw)) hd ⟨C.2.2.2.2.2.2.2.1, C.2.2.2.2.2.2.2.2⟩) hS (fun r mem' H1 locs1 hp hok om1 hP1 hS1 => ?_)
  have k9 := kk r mem' hp p e s m args below meth c H1 locs1 lsA C hE hX hK hI hP1 hS1 hL ol (zokL.app (fun v hv => hok v (by cases r with | none => simp at hv | some w => simp at hv; rw [hv])) hrs) om1
  rw [List.map_append] at k9
  have : (r.map (zv G)).toList = r.toList.map (zv G) := by cases r <;> rfl
  rw [this]
  exact k9
end
