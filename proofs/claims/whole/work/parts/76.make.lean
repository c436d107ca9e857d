/-! ===== making: constructors, place by place ===== -/
/-- the places lie one behind another -/
def zGb (G : zG) (base : Nat) : Prop := ∀ o, o < 77 → G.2.2.1 o = base + o
def zRg (base lo : Nat) : Nat → Prop := fun q => base + lo ≤ q ∧ q < base + 77
def zCells (G : zG) (E : Nat → va_E) (lo N : Nat) (H : Heap) : Prop := ∀ o, lo ≤ o → o < N → va_at (zD G) vwCl (G.2.2.1 o, E o) H
/-- what the tables say of the nest's constructors and of the arrays of objects -/
def zNs (U : State) : Prop := (va_Nw (.methodLinkNest RX1 15 yX0_init RX5) U ∧ va_Nw (.methodLinkNest RX1 22 yX4_init RX5) U ∧ va_Nw (.methodLinkNest RX2 21 yX0_init RX5) U ∧ va_Nw (.methodLinkNest RX5 9 yX0_init RX5) U ∧ va_Nw (.methodLinkNest RX5 21 yX4_init RX5) U ∧ va_Nw (.methodLinkNest RX5 28 yX1_init RX5) U ∧ va_Nw (.methodLinkNest RX5 35 yX3_init RX5) U ∧ va_Nw (.methodLinkNest RX5 42 yX2_init RX5) U) ∧ va_AO "TemperIsles$Image" U ∧ va_AO "TemperIsles$Sheet" U
theorem zNs.go {s U : State} (h : zNs s) (hW : s.WarmedH U.vm) : zNs U := by
  obtain ⟨⟨a, b, c, d, e, f, g, i⟩, j, k⟩ := h
  exact ⟨⟨a.warmM hW, b.warmM hW, c.warmM hW, d.warmM hW, e.warmM hW, f.warmM hW, g.warmM hW, i.warmM hW⟩, j.moved hW.alike, k.moved hW.alike⟩
theorem zNs.same {u U : State} (h : zNs u) (hv : u.vm = U.vm) : zNs U := by
  obtain ⟨⟨a, b, c, d, e, f, g, i⟩, j, k⟩ := h
  exact ⟨⟨a.same rfl hv, b.same rfl hv, c.same rfl hv, d.same rfl hv, e.same rfl hv, f.same rfl hv, g.same rfl hv, i.same rfl hv⟩, j.moved (by rw [hv]; exact Vm.Alike.refl _), k.moved (by rw [hv]; exact Vm.Alike.refl _)⟩
def NW (l : Launch) (G : zG) (base : Nat) (R : Room) (own : String) (cc : ByteArray) (nL : Nat) (ret : Option FieldType) (Z : List Frame → Array Value → State → State → Prop) (kc ks : Nat) (ini : Bool) (Ex : State → Prop) (lo : Nat) (pc : Nat) (ll : List (Nat × Value)) (st : List Value) (N : Nat) (E : Nat → va_E) : Prop :=
  ∀ (p : Program) (e : Env) (s : State) (m : MethodId) (args : Array Value) (below : List Frame) (meth : Method) (c : Code) (H : Heap) (locs : List Loc) (lsA : Array Slot), zCx R kc ks p s m args meth c own cc nL ret → (ini = true → meth.name = "<init>") → Ex s → zNs s → va_K (zD G) vwCl (zTy G) s → H.size = base + N → zCells G E lo N H → va_S (zRg base lo) s.heap H locs → lv_has lsA nL ll →
    W p l e R s m args below meth c H locs kc ks (Z below args s) (F0 m pc lsA st)
theorem zCx.up {R : Room} {kc ks kc' ks' : Nat} {p : Program} {s : State} {m : MethodId} {args : Array Value} {meth : Method} {c : Code} {own : String} {cc : ByteArray} {nL : Nat} {ret : Option FieldType} (h : zCx R kc ks p s m args meth c own cc nL ret) (h1 : kc' ≤ R.cells) (h2 : ks' ≤ R.slots) : zCx R kc' ks' p s m args meth c own cc nL ret :=
  ⟨h.1, h.2.1, h.2.2.1, h.2.2.2.1, h.2.2.2.2.1, h.2.2.2.2.2.1, h.2.2.2.2.2.2.1, h1, h2⟩
section
variable {l : Launch} {G : zG} {base : Nat} {R : Room} {own : String} {cc : ByteArray} {nL : Nat} {ret : Option FieldType} {Z : List Frame → Array Value → State → State → Prop} {kc ks : Nat} {ini : Bool} {Ex : State → Prop} {lo pc : Nat} {ll : List (Nat × Value)} {st : List Value} {N : Nat} {E : Nat → va_E}
theorem n_aload {j : Fin 4} {i a : Nat} (hd : decode cc pc = .ok (.aload_n j, 1)) (hi : ll[i]? = some ((j : Nat), .ref a)) (k : NW l G base R own cc nL ret Z kc ks ini Ex lo (pc + 1) ll (.ref a :: st) N E) : NW l G base R own cc nL ret Z kc ks ini Ex lo pc ll st N E := by
  intro p e s m args below meth c H locs lsA C hi0 hE hN hK hz hc hS hl
  exact lv_aload_n C.1 C.2.1 hd rfl (lv_at hl i hi) (k p e s m args below meth c H locs lsA C hi0 hE hN hK hz hc hS hl)
theorem n_iconst {n : Int} {v : Int32} (hd : decode cc pc = .ok (.iconst n, 1)) (hv : Int32.ofInt n = v) (k : NW l G base R own cc nL ret Z kc ks ini Ex lo (pc + 1) ll (.int v :: st) N E) : NW l G base R own cc nL ret Z kc ks ini Ex lo pc ll st N E := by
  intro p e s m args below meth c H locs lsA C hi0 hE hN hK hz hc hS hl
  exact lv_iconst C.1 C.2.1 hd hv (k p e s m args below meth c H locs lsA C hi0 hE hN hK hz hc hS hl)
theorem n_bipush {n : Int} {v : Int32} (hd : decode cc pc = .ok (.bipush n, 2)) (hv : (Int8.ofInt n).toInt32 = v) (k : NW l G base R own cc nL ret Z kc ks ini Ex lo (pc + 2) ll (.int v :: st) N E) : NW l G base R own cc nL ret Z kc ks ini Ex lo pc ll st N E := by
  intro p e s m args below meth c H locs lsA C hi0 hE hN hK hz hc hS hl
  exact lv_bipush C.1 C.2.1 hd hv (k p e s m args below meth c H locs lsA C hi0 hE hN hK hz hc hS hl)
theorem n_sipush {n : Int} {v : Int32} (hd : decode cc pc = .ok (.sipush n, 3)) (hv : (Int16.ofInt n).toInt32 = v) (k : NW l G base R own cc nL ret Z kc ks ini Ex lo (pc + 3) ll (.int v :: st) N E) : NW l G base R own cc nL ret Z kc ks ini Ex lo pc ll st N E := by
  intro p e s m args below meth c H locs lsA C hi0 hE hN hK hz hc hS hl
  exact lv_sipush C.1 C.2.1 hd hv (k p e s m args below meth c H locs lsA C hi0 hE hN hK hz hc hS hl)
theorem n_dup {a : Nat} (hd : decode cc pc = .ok (.dup, 1)) (k : NW l G base R own cc nL ret Z kc ks ini Ex lo (pc + 1) ll (.ref a :: .ref a :: st) N E) : NW l G base R own cc nL ret Z kc ks ini Ex lo pc ll (.ref a :: st) N E := by
  intro p e s m args below meth c H locs lsA C hi0 hE hN hK hz hc hS hl
  exact lv_dup C.1 C.2.1 hd rfl (k p e s m args below meth c H locs lsA C hi0 hE hN hK hz hc hS hl)
theorem n_obj {a idx : Nat} (h1 : Cond.methodLink own idx Lib.objectInit ∈ ztb) (h2 : Cond.instanceMethod Lib.objectInit ∈ ztb) (h3 : Cond.code Lib.objectInit ⟨#[0xb1]⟩ 1 none ∈ ztb) (hd : decode cc pc = .ok (.invokespecial idx, 3)) (hR : 1 ≤ R.frames) (hR2 : 12 ≤ R.locals) (k : NW l G base R own cc nL ret Z kc ks ini Ex lo (pc + 3) ll [] N E) : NW l G base R own cc nL ret Z kc ks ini Ex lo pc ll [.ref a] N E := by
  intro p e s m args below meth c H locs lsA C hi0 hE hN hK hz hc hS hl
  refine W.objInit C.1 C.2.1 C.2.2.2.1 (C.2.2.2.2.1 _ h1) (C.2.2.2.2.1 _ h2) (C.2.2.2.2.1 _ h3) rfl (by rw [C.2.2.1]; exact hl.1) rfl hd hR (by show 2 * 0 + 0 + 12 ≤ R.locals; omega) ?_
  exact k p e s m args below meth c H locs lsA C hi0 hE hN hK hz hc hS hl
theorem zCells.push {H H1 : Heap} {x : va_E} (hc : zCells G E lo N H) (o1 : ∀ q : Nat, q < H.size → H1[q]? = H[q]?) (hx : va_at (zD G) vwCl (G.2.2.1 N, x) H1) : zCells G (va_up E N x) lo (N + 1) H1 := by
  intro o h1 h2
  by_cases e : o = N
  · subst e
    rw [va_up_self]
    exact hx
  · rw [va_up_ne _ _ e]
    have q := hc o h1 (by omega)
    exact q.kept (o1 _ q.lt)
theorem zS.push {A : Nat → Prop} {H0 H H1 : Heap} {locs : List Loc} (hS : va_S A H0 H locs) (z : H1.size = H.size + 1) (o1 : ∀ q : Nat, q < H.size → H1[q]? = H[q]?) : va_S A H0 H1 locs :=
  ⟨Nat.le_trans hS.1 (by omega), fun x h1 h2 => (o1 x (Nat.lt_of_lt_of_le h1 hS.1)).trans (hS.2.1 x h1 h2), hS.2.2⟩
theorem n_new {ci index n : Nat} {C : String} {T : u_T} {fs : List Value} (hG : zGb G base) (h1 : Cond.classLink own index C ∈ ztb) (h2 : Cond.instantiable C n ∈ ztb) (h3 : Cond.initialized C ∈ ztb) (hin : ∀ w ∈ u_ws C T n, w ∈ ztb) (ty : Nat → FieldType) (hty : ∀ k, k < n → parseFieldDescriptor (T k).2.2.1 = some (ty k)) (hcl : vwCl[ci]? = some (C, T, n)) (hfs : ∀ j, j < n → defaultValue (ty j) = vp_V fs j) (hN7 : N < 77) (hcells : kc + 1 ≤ R.cells) (hslots : ks + n ≤ R.slots) (hd : decode cc pc = .ok (.new index, 3)) (k : NW l G base R own cc nL ret Z (kc + 1) (ks + n) ini Ex lo (pc + 3) ll (.ref (G.2.2.1 N) :: st) (N + 1) (va_up E N (.inr (ci, fs)))) : NW l G base R own cc nL ret Z kc ks ini Ex lo pc ll st N E := by
  intro p e s m args below meth c H locs lsA C9 hi0 hE hN hK hz hc hS hl
  have hKn := hK.1 ci _ hcl
  have ea : G.2.2.1 N = H.size := by rw [hG N hN7, hz]
  refine W.newcK C9.1 C9.2.1 C9.2.2.2.1 (C9.2.2.2.2.1 _ h1) (C9.2.2.2.2.1 _ h2) (C9.2.2.2.2.1 _ h3) rfl hd hcells hslots hKn.2.1 rfl fun H1 kC hkC e1 z1 o1 => ?_
  have k9 := k p e s m args below meth c H1 locs lsA (C9.up hcells hslots) hi0 hE hN hK (by rw [z1, hz]; omega) (hc.push o1 (by rw [ea]; exact ⟨_, hcl, (u_born ty C9.2.2.2.2.1 hin hKn hkC e1 hty).to hfs⟩)) (zS.push hS z1 o1) hl
  rw [ea] at k9
  exact k9
theorem n_newa {atype : ArrayType} {t n : Nat} {ty : FieldType} {v : Int32} (hG : zGb G base) (harr : Cond.arrayClass ty ∈ ztb) (hty : newarray.typeOf atype = ty) (ht : (zTy G)[t]? = some (G.2.2.2 t, ty)) (hp : ∀ (U : State) (cA : ClassId), va_RA U cA ty → U.vm.findClass ("[" ++ ty.toString) = some cA) (hdef : defaultValue ty = .int 0) (hn : ¬ v < 0) (hv : v.toNatClampNeg = n) (hby : n * componentBytes ty ≤ 536870912) (hN7 : N < 77) (hcells : kc + 1 ≤ R.cells) (hslots : ks + n ≤ R.slots) (hd : decode cc pc = .ok (.newarray atype, 2)) (k : NW l G base R own cc nL ret Z (kc + 1) (ks + n) ini Ex lo (pc + 2) ll (.ref (G.2.2.1 N) :: st) (N + 1) (va_up E N (.inl (G.2.2.2 t, n, .inl (fun _ => 0))))) : NW l G base R own cc nL ret Z kc ks ini Ex lo pc ll (.int v :: st) N E := by
  subst hty
  intro p e s m args below meth c H locs lsA C9 hi0 hE hN hK hz hc hS hl
  have ea : G.2.2.1 N = H.size := by rw [hG N hN7, hz]
  refine va_newaK C9.1 C9.2.1 (C9.2.2.2.2.1 _ harr) rfl hd rfl hn hv hby hcells hslots rfl fun H1 cA e1 z1 o1 hAr hNm => ?_
  have ec : cA = G.2.2.2 t := Option.some.inj (hNm.symm.trans (hp s _ (hK.2 t _ ht).2))
  subst ec
  have k9 := k p e s m args below meth c H1 locs lsA (C9.up hcells hslots) hi0 hE hN hK (by rw [z1, hz]; omega) (hc.push o1 (by rw [ea]; show H1[H.size]? = some (vp_cell _ _); rw [e1, hdef]; rfl)) (zS.push hS z1 o1) hl
  rw [ea] at k9
  exact k9
theorem n_newq {index t n : Nat} {C : String} {v : Int32} (hG : zGb G base) (hcl : Cond.classLink own index C ∈ ztb) (hao : ∀ s, zNs s → va_AO C s) (ht : (zTy G)[t]? = some (G.2.2.2 t, .object C)) (hn : ¬ v < 0) (hv : v.toNatClampNeg = n) (hby : n * 4 ≤ 536870912) (hN7 : N < 77) (hcells : kc + 1 ≤ R.cells) (hslots : ks + n ≤ R.slots) (hd : decode cc pc = .ok (.anewarray index, 3)) (k : NW l G base R own cc nL ret Z (kc + 1) (ks + n) ini Ex lo (pc + 3) ll (.ref (G.2.2.1 N) :: st) (N + 1) (va_up E N (.inl (G.2.2.2 t, n, .inr (.inr (.inr (.inr (fun _ => none)))))))) : NW l G base R own cc nL ret Z kc ks ini Ex lo pc ll (.int v :: st) N E := by
  subst hv
  intro p e s m args below meth c H locs lsA C9 hi0 hE hN hK hz hc hS hl
  have ea : G.2.2.1 N = H.size := by rw [hG N hN7, hz]
  refine W.anew C9.1 C9.2.1 C9.2.2.2.1 (C9.2.2.2.2.1 _ hcl) (va_AO.use (hao s hN)) rfl hd rfl hn hby hcells hslots fun cA kA comp f1 f2 f3 f4 => ?_
  generalize hH1 : H.push ({ cls := cA, slots := Array.replicate v.toNatClampNeg .null, vm := .none } : Cell) = H1
  have z1 : H1.size = H.size + 1 := by rw [← hH1, Array.size_push]
  have e1 : H1[H.size]? = some (arrV cA v.toNatClampNeg (fun _ => .null)) := by rw [← hH1, Array.getElem?_push_size, ← arrV_new]
  have o1 : ∀ q : Nat, q < H.size → H1[q]? = H[q]? := fun q hq => by rw [← hH1, Array.getElem?_push, if_neg (Nat.ne_of_lt hq)]
  obtain ⟨kA', comp', g1, g2, g3, g4⟩ := (hK.2 t _ ht).2
  have ec : cA = G.2.2.2 t := Option.some.inj (f1.symm.trans g4)
  subst ec
  have k9 := k p e s m args below meth c H1 locs lsA (C9.up hcells hslots) hi0 hE hN hK (by rw [z1, hz]; omega) (hc.push o1 (by rw [ea]; show H1[H.size]? = some (vp_cell _ _); rw [e1]; rfl)) (zS.push hS z1 o1) hl
  rw [ea] at k9
  exact k9
theorem zCells.set {H H1 : Heap} {x : va_E} {th : Nat} (hG : zGb G base) (hc : zCells G E lo N H) (hN : N ≤ 77) (h1 : lo ≤ th) (h2 : th < N) (oq : ∀ q : Nat, q ≠ G.2.2.1 th → H1[q]? = H[q]?) (hx : va_at (zD G) vwCl (G.2.2.1 th, x) H1) : zCells G (va_up E th x) lo N H1 := by
  intro o a b
  by_cases e : o = th
  · subst e
    rw [va_up_self]
    exact hx
  · rw [va_up_ne _ _ e]
    exact (hc o a b).kept (oq _ (by rw [hG o (by omega), hG th (by omega)]; omega))
theorem n_put {th ci index k n : Nat} {C : String} {T : u_T} {fs : List Value} {v : Value} {ty : FieldType} (hG : zGb G base) (hN7 : N ≤ 77) (ht1 : lo ≤ th) (ht2 : th < N) (hEt : E th = .inr (ci, fs)) (hin : ∀ w ∈ u_ws C T n, w ∈ ztb) (ty0 : Nat → FieldType) (hty : ∀ k, k < n → parseFieldDescriptor (T k).2.2.1 = some (ty0 k)) (hnm : ∀ a, a < n → ∀ b, b < n → a ≠ b → (T a).2.1 ≠ (T b).2.1) (hcl : vwCl[ci]? = some (C, T, n)) (hk : k < n) (hlink : Cond.fieldLink own index (T k).1 (T k).2.1 (T k).2.2.1 ∈ ztb) (hfin : (T k).2.2.2 = false) (hd2 : parseFieldDescriptor (T k).2.2.1 = some ty) (hn : narrow ty v = v) (hfit : fits ty v = true) (hl9 : k < fs.length) (hd : decode cc pc = .ok (.putfield index, 3)) (kk : NW l G base R own cc nL ret Z kc ks ini Ex lo (pc + 3) ll st N (va_up E th (.inr (ci, fs.set k v)))) : NW l G base R own cc nL ret Z kc ks ini Ex lo pc ll (v :: .ref (G.2.2.1 th) :: st) N E := by
  intro p e s m args below meth c H locs lsA C9 hi0 hE hN hK hz hc hS0 hl
  have hts := C9.2.2.2.2.1
  have hown := C9.2.2.2.1
  have hap := va_apart (own := own) hts hin ty0 hty hnm hK hcl
  have hat := hc th ht1 ht2
  rw [hEt] at hat
  obtain ⟨r, h1, cell, q1, q2, q3, q4⟩ := hat
  have hr : r = (C, T, n) := Option.some.inj (h1.symm.trans hcl)
  subst hr
  obtain ⟨hS, hfc, kC, hkC, hkind⟩ := hK.1 ci _ hcl
  obtain ⟨cf, kf, fi, f, hi, hsl⟩ := hS k hk
  have hlay := hts _ (hin _ (u_in_lay hk))
  unfold u_lay at hlay
  rw [if_neg (by rw [hfin]; decide)] at hlay
  have hst := (u_facts hfc hkC (u_lays hts hin hk) hi).1
  have h6 := u_store hfc hkC hkind hlay hi hd2 hn hfit
  refine W.putK C9.1 C9.2.1 (f := f) ⟨hown, hts _ hlink, ⟨_, _, _, hi⟩, hst⟩ (by rw [q2]; exact h6) q1 q3 (by rw [hsl]; exact k2_hasslot (q4 k hk)) rfl rfl hd fun H' e1 e2 e3 => ?_
  rw [hsl] at e1 ⊢
  exact kk p e s m args below meth c H' _ lsA C9 hi0 hE hN hK (by rw [e2, hz]) (hc.set hG hN7 ht1 ht2 e3 ⟨_, hcl, t_OB.to (V := updV (vp_V fs) k v) ⟨_, e1, q2, q3, t_set q4 hap hk v⟩ (fun j _ => vp_updV_set hl9 v j)⟩) (hS0.put e2 e3 ⟨by rw [hG th (by omega)]; omega, by rw [hG th (by omega)]; omega⟩) hl
theorem n_putF {th ci index k n : Nat} {C : String} {T : u_T} {fs : List Value} {v : Value} {ty : FieldType} (hini : ini = true) (hG : zGb G base) (hN7 : N ≤ 77) (ht1 : lo ≤ th) (ht2 : th < N) (hEt : E th = .inr (ci, fs)) (hin : ∀ w ∈ u_ws C T n, w ∈ ztb) (ty0 : Nat → FieldType) (hty : ∀ k, k < n → parseFieldDescriptor (T k).2.2.1 = some (ty0 k)) (hnm : ∀ a, a < n → ∀ b, b < n → a ≠ b → (T a).2.1 ≠ (T b).2.1) (hcl : vwCl[ci]? = some (C, T, n)) (hk : k < n) (hlink : Cond.fieldLink own index (T k).1 (T k).2.1 (T k).2.2.1 ∈ ztb) (hfin : (T k).2.2.2 = true) (hdecl : (T k).1 = own) (hd2 : parseFieldDescriptor (T k).2.2.1 = some ty) (hn : narrow ty v = v) (hfit : fits ty v = true) (hl9 : k < fs.length) (hd : decode cc pc = .ok (.putfield index, 3)) (kk : NW l G base R own cc nL ret Z kc ks ini Ex lo (pc + 3) ll st N (va_up E th (.inr (ci, fs.set k v)))) : NW l G base R own cc nL ret Z kc ks ini Ex lo pc ll (v :: .ref (G.2.2.1 th) :: st) N E := by
  intro p e s m args below meth c H locs lsA C9 hi0 hE hN hK hz hc hS0 hl
  have hts := C9.2.2.2.2.1
  have hown := C9.2.2.2.1
  have hap := va_apart (own := own) hts hin ty0 hty hnm hK hcl
  have hat := hc th ht1 ht2
  rw [hEt] at hat
  obtain ⟨r, h1, cell, q1, q2, q3, q4⟩ := hat
  have hr : r = (C, T, n) := Option.some.inj (h1.symm.trans hcl)
  subst hr
  obtain ⟨hS, hfc, kC, hkC, hkind⟩ := hK.1 ci _ hcl
  obtain ⟨cf, kf, fi, f, hi, hsl⟩ := hS k hk
  have hlay := hts _ (hin _ (u_in_lay hk))
  unfold u_lay at hlay
  rw [if_pos hfin] at hlay
  have hst := (u_facts hfc hkC (u_lays hts hin hk) hi).1
  have hcf : m.cls = cf := by
    obtain ⟨_, _, c', _, _, _, -, -, hf', -, -, -, hown2, -⟩ := Cond.laysFinal_spec hlay
    have e1 : c' = cf := by have := hi.symm.trans hf'; simp at this; exact this.1.symm
    rw [hdecl] at hown2
    rw [← e1]; exact Option.some.inj (hown.symm.trans hown2)
  have h6 := u_fits hfc hkC hkind (Or.inr hlay) hi hd2 hn hfit
  refine W.putFinK C9.1 C9.2.1 hown (hts _ hlink) hi hst hcf (hi0 hini) (by rw [q2]; exact h6) q1 q3 (by rw [hsl]; exact k2_hasslot (q4 k hk)) rfl rfl hd fun H' e1 e2 e3 => ?_
  rw [hsl] at e1 ⊢
  exact kk p e s m args below meth c H' _ lsA C9 hi0 hE hN hK (by rw [e2, hz]) (hc.set hG hN7 ht1 ht2 e3 ⟨_, hcl, t_OB.to (V := updV (vp_V fs) k v) ⟨_, e1, q2, q3, t_set q4 hap hk v⟩ (fun j _ => vp_updV_set hl9 v j)⟩) (hS0.put e2 e3 ⟨by rw [hG th (by omega)]; omega, by rw [hG th (by omega)]; omega⟩) hl
theorem n_astq {a q t n ci : Nat} {r : vw_C} {vs : List Value} {f : Nat → Option Nat} {i : Int32} (hG : zGb G base) (hN7 : N ≤ 77) (ha1 : lo ≤ a) (ha2 : a < N) (hq1 : lo ≤ q) (hq2 : q < N) (hEa : E a = .inl (G.2.2.2 t, n, .inr (.inr (.inr (.inr f))))) (hEq : E q = .inr (ci, vs)) (ht : (zTy G)[t]? = some (G.2.2.2 t, .object r.1)) (hcl : vwCl[ci]? = some r) (hin : vp_in i n) (hd : decode cc pc = .ok (.aastore, 1)) (kk : NW l G base R own cc nL ret Z kc ks ini Ex lo (pc + 1) ll st N (va_up E a (.inl (G.2.2.2 t, n, .inr (.inr (.inr (.inr (va_up f i.toNatClampNeg (some (G.2.2.1 q)))))))))) : NW l G base R own cc nL ret Z kc ks ini Ex lo pc ll (.ref (G.2.2.1 q) :: .int i :: .ref (G.2.2.1 a) :: st) N E := by
  intro p e s m args below meth c H locs lsA C9 hi0 hE hN hK hz hc hS0 hl
  have hlt : i.toNatClampNeg < n := Nat.not_le.mp fun q => hin (Or.inr q)
  have h0 : ¬ i < 0 := fun q => hin (Or.inl q)
  have hata := hc a ha1 ha2
  rw [hEa] at hata
  have hatq := hc q hq1 hq2
  rw [hEq] at hatq
  obtain ⟨r', hr', cellV, g1, g2, g3, -⟩ := hatq
  have hcls := (hK.1 ci r hcl).2
  obtain ⟨kA, comp, k1, k2, k3, -⟩ := (hK.2 t _ ht).2
  have hcomp : comp = (zD G).1 ci := Option.some.inj (k3.symm.trans hcls.1)
  subst hcomp
  obtain ⟨kC, hkC, -⟩ := hcls.2
  refine W.aast C9.1 C9.2.1 hata (fun q h => by cases h) (fun h => by cases h) k1 k2 rfl hkC ⟨h0, by show _ < (arrV _ _ _).slots.size; rw [arrV_size]; exact hlt⟩ g1 (fun q h => by rw [g3] at h; cases h) (by rw [g2]; exact hkC) (by rw [g2]; exact va_assign hcls) rfl rfl hd fun H1 e1 z oq => ?_
  refine kk p e s m args below meth c H1 _ lsA C9 hi0 hE hN hK (by rw [z, hz]) (hc.set hG hN7 ha1 ha2 oq ?_) (hS0.put z oq ⟨by rw [hG a (by omega)]; omega, by rw [hG a (by omega)]; omega⟩) hl
  show H1[G.2.2.1 a]? = some (vp_cell _ _)
  rw [e1, vp_cell_q, vp_cell_q, arrV_store]
  congr 2
  funext x
  by_cases hx : x = i.toNatClampNeg
  · subst hx
    simp [updV, va_up, va_rf]
  · simp [updV, va_up, hx]
end
/-- what all cells hold behind the constructors, the reference's loop aside -/
def mem0 : zM := fun o => if o = 45 ∨ o = 47 ∨ o = 49 ∨ o = 51 then (fun k => if k = 0 then -4 else 0) else if o = 53 then (fun k => if k = 8 then -1 else 0) else fun _ => 0
def zE0 (G : zG) (o : Nat) : va_E := zE G (mem0 o) o
def zPB (G : zG) (base b ci : Nat) (fs : List Value) : Array Value → State → Prop := fun v U => v = ([.ref (G.2.2.1 b)] : List Value).toArray ∧ zNs U ∧ va_K (zD G) vwCl (zTy G) U ∧ U.heap.size = base + (b + 1) ∧ va_at (zD G) vwCl (G.2.2.1 b, .inr (ci, fs)) U.heap
def zQB (G : zG) (base b n : Nat) : Array Value → State → Outcome → State → Prop := fun _ st oc t => oc = .returned none ∧ va_F (zRg base b) st t ∧ t.heap.size = base + (b + n) ∧ zCells G (zE0 G) b (b + n) t.heap
/-- a constructor's contract: place b is this, those behind it are its own -/
def zBK (l : Launch) (G : zG) (base : Nat) (y : MethodName) (cc : ByteArray) (rm : Room) (b n ci : Nat) (fs : List Value) (mc ms : Nat) : Prop := Met l y (Cond.code y cc 1 none :: ztb) rm (zPB G base b ci fs) (zQB G base b n) mc ms (zRg base b)
def zYi (y : MethodName) (cc : ByteArray) : Prop := Cond.code y cc 1 none ∈ ztb ∧ Cond.initialized y.cls ∈ ztb ∧ (y.cls ≠ "java/lang/invoke/MethodHandle" ∧ y.cls ≠ "java/lang/invoke/VarHandle") ∧ (parseMethodDescriptor y.desc).map (fun d => d.parameters.length) = some 0 ∧ y.name = "<init>" ∧ Cond.instanceMethod y ∈ ztb
theorem zPB_blind {G : zG} {base b ci : Nat} {fs : List Value} : FrameBlind (zPB G base b ci fs) := by
  intro a U g mk h
  obtain ⟨h1, h2, h3, h4, h5⟩ := h
  exact ⟨h1, h2.same rfl, va_K.moved (u := U) (U := U.calling g mk a) (Vm.Alike.refl U.vm) h3, h4, h5⟩
section
variable {l : Launch} {G : zG} {base : Nat} {R : Room} {own : String} {cc : ByteArray} {nL : Nat} {ret : Option FieldType} {Z : List Frame → Array Value → State → State → Prop} {kc ks : Nat} {ini : Bool} {Ex : State → Prop} {lo pc : Nat} {ll : List (Nat × Value)} {st : List Value} {N : Nat} {E : Nat → va_E}
theorem zBK.run {b n ci mc ms : Nat} {fs : List Value} (hG : zGb G base) (h7 : b + n ≤ 77) (hlo : lo ≤ b) (hNb : N = b + 1) (hEb : E b = .inr (ci, fs)) {p : Program} {e : Env} {s : State} {m : MethodId} {args : Array Value} {below : List Frame} {meth : Method} {c : Code} {H : Heap} {locs : List Loc} {lsA : Array Slot} {a : Array Value} (C9 : zCx R kc ks p s m args meth c own cc nL ret) (hi0 : ini = true → meth.name = "<init>") (hE : Ex s) (hN : zNs s) (hK : va_K (zD G) vwCl (zTy G) s) (hz : H.size = base + N) (hc : zCells G E lo N H) (hS : va_S (zRg base lo) s.heap H locs) (hl : lv_has lsA nL ll) (hcells : kc + mc ≤ R.cells) (hslots : ks + ms ≤ R.slots)
    (hr : va_Run p l e R s m args below meth c H locs kc ks mc ms (F0 m pc lsA (.ref (G.2.2.1 b) :: st)) st (zQB G base b n a) (zRg base b)) (k : NW l G base R own cc nL ret Z (kc + mc) (ks + ms) ini Ex lo (pc + 3) ll st (b + n) (fun o => if b ≤ o then zE0 G o else E o)) : W p l e R s m args below meth c H locs kc ks (Z below args s) (F0 m pc lsA (.ref (G.2.2.1 b) :: st)) := by
  intro T hT X
  obtain ⟨v, st₀, t, T', L, h0, X', hL, e1, e2, ⟨hv, hF, hsz, hcl⟩, stp⟩ := hr T hT X
  cases hv
  have hkeep : ∀ q : Nat, q < H.size → ¬ zRg base b q → T'.heap[q]? = H[q]? := fun q h1 h2 => by
    rw [e1, hF.2 q (by rw [h0]; exact h1) h2, h0]
  have hsz2 : H.size ≤ T'.heap.size := by have := hF.1; rw [h0] at this; rw [e1]; exact this
  obtain ⟨t2, a1, b1⟩ := k p e s m args below meth c T'.heap (locs ++ L) lsA (C9.up hcells hslots) hi0 hE hN hK (by rw [e1]; exact hsz) (fun o o1 o2 => by
    dsimp only
    by_cases q : b ≤ o
    · rw [if_pos q, e1]; exact hcl o q o2
    · rw [if_neg q]
      have w := hc o o1 (by omega)
      exact w.kept (hkeep _ w.lt (fun z => by have z1 := z.1; dsimp only at z1; rw [hG o (by omega)] at z1; omega))) ⟨Nat.le_trans hS.1 hsz2, fun q h1 h2 => by
    rw [hkeep q (Nat.lt_of_lt_of_le h1 hS.1) (fun z => h2 ⟨by have := z.1; omega, z.2⟩)]; exact hS.2.1 q h1 h2, fun q hq => by
    rcases List.mem_append.mp hq with h | h
    · exact hS.2.2 q h
    · have z := hL q h
      exact ⟨by have := z.1; omega, z.2⟩⟩ hl T' rfl X'
  exact ⟨t2, stp t2 a1, b1⟩
/-- a nest mate's constructor is called -/
theorem n_callN {y : MethodName} {bytes : ByteArray} {rm : Room} {b n ci mc ms index : Nat} {fs : List Value} {host : String} (hG : zGb G base) (hM : zBK l G base y bytes rm b n ci fs mc ms) (hY : zYi y bytes) (hrm : rm.cells = mc ∧ rm.slots = ms) (hln : ∀ s, zNs s → va_Nw (.methodLinkNest own index y host) s) (h7 : b + n ≤ 77) (hlo : lo ≤ b) (hNb : N = b + 1) (hEb : E b = .inr (ci, fs)) (hR : rm.frames + 1 ≤ R.frames ∧ 8 + (1 + 11) + rm.locals ≤ R.locals) (hcells : kc + mc ≤ R.cells) (hslots : ks + ms ≤ R.slots) (hw : (st.map fun v => v.category).sum ≤ 8) (hd : decode cc pc = .ok (.invokespecial index, 3)) (k : NW l G base R own cc nL ret Z (kc + mc) (ks + ms) ini Ex lo (pc + 3) ll st (b + n) (fun o => if b ≤ o then zE0 G o else E o)) : NW l G base R own cc nL ret Z kc ks ini Ex lo pc ll (.ref (G.2.2.1 b) :: st) N E := by
  intro p e s m args below meth c H locs lsA C9 hi0 hE hN hK hz hc hS hl
  obtain ⟨y1, y2, y3, y4, y5, y6⟩ := hY
  have hts := C9.2.2.2.2.1
  have hat := hc b hlo (by omega)
  rw [hEb] at hat
  have cw : va_CN R s args own index y host bytes 1 none (Cond.code y bytes 1 none :: ztb) rm mc ms 0 ∧ y.name = "<init>" ∧ (Cond.instanceMethod y).before args s = true := ⟨va_cnB 0 hts (zgoodIn y1) rfl hrm.1 hrm.2 (hln s hN) (hts _ y2) ⟨y3.1, y3.2, y4⟩ hR, y5, hts _ y6⟩
  have hr := va_runIN (l := l) (e := e) (below := below) (meth := meth) (locs := locs) (cells := kc) (slots := ks) (g := F0 m pc lsA (.ref (G.2.2.1 b) :: st)) (As := []) (rest := st) (b := G.2.2.1 b) ⟨C9.1, C9.2.1, C9.2.2.1, C9.2.2.2.1, hts⟩ hM cw ⟨zPB_blind, fun U hU hW => ⟨rfl, hN.go hW, va_K.moved hW.alike hK, by rw [hU, hz, hNb], by rw [hU]; exact hat⟩⟩ rfl rfl hl.1 rfl (lv_room hw) hd ⟨hcells, hslots⟩
  exact zBK.run hG h7 hlo hNb hEb C9 hi0 hE hN hK hz hc hS hl hcells hslots hr k
/-- a public one -/
theorem n_callI {y : MethodName} {bytes : ByteArray} {rm : Room} {b n ci mc ms index : Nat} {fs : List Value} (hG : zGb G base) (hM : zBK l G base y bytes rm b n ci fs mc ms) (hY : zYi y bytes) (hrm : rm.cells = mc ∧ rm.slots = ms) (hln : Cond.methodLink own index y ∈ ztb) (h7 : b + n ≤ 77) (hlo : lo ≤ b) (hNb : N = b + 1) (hEb : E b = .inr (ci, fs)) (hR : rm.frames + 1 ≤ R.frames ∧ 8 + (1 + 11) + rm.locals ≤ R.locals) (hcells : kc + mc ≤ R.cells) (hslots : ks + ms ≤ R.slots) (hw : (st.map fun v => v.category).sum ≤ 8) (hd : decode cc pc = .ok (.invokespecial index, 3)) (k : NW l G base R own cc nL ret Z (kc + mc) (ks + ms) ini Ex lo (pc + 3) ll st (b + n) (fun o => if b ≤ o then zE0 G o else E o)) : NW l G base R own cc nL ret Z kc ks ini Ex lo pc ll (.ref (G.2.2.1 b) :: st) N E := by
  intro p e s m args below meth c H locs lsA C9 hi0 hE hN hK hz hc hS hl
  obtain ⟨y1, y2, y3, y4, y5, y6⟩ := hY
  have hts := C9.2.2.2.2.1
  have hat := hc b hlo (by omega)
  rw [hEb] at hat
  have cw : CallB R s args own index y bytes 1 none (Cond.code y bytes 1 none :: ztb) rm mc ms 0 ∧ y.name = "<init>" ∧ (Cond.instanceMethod y).before args s = true := ⟨callB_of 0 hts (zgoodIn y1) rfl hrm.1 hrm.2 (hts _ y2) (hts _ hln) ⟨y3.1, y3.2, y4⟩ hR, y5, hts _ y6⟩
  have hr := va_runI (l := l) (e := e) (below := below) (meth := meth) (locs := locs) (cells := kc) (slots := ks) (g := F0 m pc lsA (.ref (G.2.2.1 b) :: st)) (As := []) (rest := st) (b := G.2.2.1 b) ⟨C9.1, C9.2.1, C9.2.2.1, C9.2.2.2.1, hts⟩ hM cw ⟨zPB_blind, fun U hU hW => ⟨rfl, hN.go hW, va_K.moved hW.alike hK, by rw [hU, hz, hNb], by rw [hU]; exact hat⟩⟩ rfl rfl hl.1 rfl (lv_room hw) hd ⟨hcells, hslots⟩
  exact zBK.run hG h7 hlo hNb hEb C9 hi0 hE hN hK hz hc hS hl hcells hslots hr k
theorem n_ret {b n mc ms : Nat} (hd : decode cc pc = .ok (.return_, 1)) (hNn : N = b + n) (hEE : ∀ o, b ≤ o → o < b + n → ∀ H : Heap, va_at (zD G) vwCl (G.2.2.1 o, E o) H → va_at (zD G) vwCl (G.2.2.1 o, zE0 G o) H) (hc1 : kc ≤ mc) (hs1 : ks ≤ ms) : NW l G base R own cc nL none (fun below args s => MQ below (zQB G base b n) args s mc ms (zRg base b)) kc ks ini Ex b pc ll [] N E := by
  intro p e s m args below meth c H locs lsA C9 hi0 hE hN hK hz hc hS hl
  refine W.widen (k := mc) (n := ms) hc1 hs1 ?_
  exact W.vret C9.1 C9.2.1 C9.2.2.2.2.2.1 (fun t ht hW => ⟨rfl, hS.F ht, by rw [ht, hz, hNn], fun o o1 o2 => by rw [ht]; exact hEE o o1 o2 H (hc o o1 (by omega))⟩) hS.2.2 hd (hlocks := C9.2.2.2.2.2.2.1)
end
theorem va_at_q {D : va_G} {cl : List vw_C} {a n : Nat} {cA : ClassId} {f g : Nat → Option Nat} {H : Heap} (hfg : ∀ j, j < n → f j = g j) (h : va_at D cl (a, .inl (cA, n, .inr (.inr (.inr (.inr f))))) H) : va_at D cl (a, .inl (cA, n, .inr (.inr (.inr (.inr g))))) H := by
  have h : H[a]? = some (vp_cell cA (n, .inr (.inr (.inr (.inr f))))) := h
  show H[a]? = some (vp_cell cA (n, .inr (.inr (.inr (.inr g)))))
  rw [h, vp_cell_q, vp_cell_q]
  congr 1
  unfold arrV
  congr 1
  congr 1
  funext j
  dsimp only
  rw [hfg j.val j.isLt]
theorem zBK.of {l : Launch} {G : zG} {base : Nat} {y : MethodName} {own : String} {cc : ByteArray} {rm : Room} {b n ci mc ms : Nat} {fs : List Value} (hy : plainName y.cls = true) (hyo : y.cls = own) (hyn : y.name = "<init>") (h : NW l G base rm own cc 1 none (fun below args s => MQ below (zQB G base b n) args s mc ms (zRg base b)) 0 0 true (fun _ => True) b 0 [(0, .ref (G.2.2.1 b))] [] (b + 1) (fun _ => .inr (ci, fs))) : zBK l G base y cc rm b n ci fs mc ms := by
  subst hyo
  refine Met.ofW (cc := cc) (maxL := 1) (ret := none) hy rfl ?_
  intro p e s m args below meth c s₁ B hml hv
  obtain ⟨rfl, hN, hK, hz, hat⟩ := hv
  have hts := atoms_spec (ws := Cond.code y cc 1 none :: ztb) B.pre
  have hl := lv_entry ([.ref (G.2.2.1 b)]) (n := 1) (Nat.le_of_ble_eq_true rfl)
  rw [lg_entry_eq]
  generalize (lg_sl ([.ref (G.2.2.1 b)]) ++ List.replicate (1 - (lg_sl ([.ref (G.2.2.1 b)])).length) Slot.unset).toArray = ls at hl ⊢
  have hl : lv_has ls 1 [(0, .ref (G.2.2.1 b))] := hl
  refine h p e s m _ below meth c s.heap [] ls ⟨B.exec, B.bytes, hml, findClass_of_methodNamed B.named, fun w hw => hts w (List.mem_cons_of_mem _ hw), B.returns, B.notSynchronized, Nat.zero_le _, Nat.zero_le _⟩ (fun _ => (name_of_methodNamed B.named B.method).1.trans hyn) trivial hN hK hz (fun o o1 o2 => ?_) va_S.rf hl
  have : o = b := by omega
  subst this
  exact hat
