/-! ===== what the tables give, the strings, the judgement ===== -/
def ztb : List Cond := lw_tbl.filter goodWord
def zSl : List Nat := [5, 5, 4, 5, 5, 4, 5]
def zSb : List (List Int32) := [[112, 108, 97, 105, 110], [112, 114, 111, 117, 100], [102, 111, 110, 100], [119, 105, 100, 111, 119], [99, 114, 111, 115, 115], [114, 111, 112, 101], [102, 101, 97, 115, 116]]
def zSk : List Nat := [88, 94, 96, 98, 100, 102, 104]
def zSt : List String := ["plain", "proud", "fond", "widow", "cross", "rope", "feast"]
/-- the formatter of wrong indices: a reference or null, nobody asks which -/
def zXf (G : zG) (A : Nat → Prop) (U : State) (H : Heap) : Prop := va_Z "jdk/internal/util/Preconditions" "SIOOBE_FORMATTER" "Ljava/util/function/BiFunction;" (.ref (G.2.2.1 (zN + 14))) A U H ∨ va_Z "jdk/internal/util/Preconditions" "SIOOBE_FORMATTER" "Ljava/util/function/BiFunction;" .null A U H
theorem zXf.moved {G : zG} {A : Nat → Prop} {u U : State} {H : Heap} (hvm : u.vm.Alike U.vm) (h : zXf G A u H) : zXf G A U H := by
  rcases h with h | h
  · exact Or.inl (va_Z.moved hvm h)
  · exact Or.inr (va_Z.moved hvm h)
theorem zXf.kept {G : zG} {A : Nat → Prop} {U : State} {H H1 : Heap} (h : zXf G A U H) (hq : ∀ a : Nat, a < H.size → ¬ A a → H1[a]? = H[a]?) : zXf G A U H1 := by
  rcases h with h | h
  · exact Or.inl (h.kept hq)
  · exact Or.inr (h.kept hq)
def zX (G : zG) (U : State) : Prop := vk_S 7 zSl zSb (fun i => G.2.2.1 (zN + i)) (fun i => G.2.2.1 (zN + 7 + i)) (zA G) U U.heap ∧ (∀ i, i < 7 → vk_R RX2 (zSk.getD i 0) (zSt.getD i "") (G.2.2.1 (zN + i)) U) ∧ (va_Z "java/lang/String" "COMPACT_STRINGS" "Z" (.int 1) (zA G) U U.heap ∧ zXf G (zA G) U U.heap) ∧ va_Nw (.methodLinkNest RX2 162 yX5_isWithin RX5) U
theorem zX.go {G : zG} {s U : State} (h : zX G s) (hk : ∀ q : Nat, q < s.heap.size → ¬ zA G q → U.heap[q]? = s.heap[q]?) (hW : s.WarmedH U.vm) : zX G U :=
  ⟨(h.1.kept hk).moved hW.alike, fun i hi => (h.2.1 i hi).warm hW, ⟨(h.2.2.1.1.kept hk).moved hW.alike, (h.2.2.1.2.kept hk).moved hW.alike⟩, h.2.2.2.warmM hW⟩
/-- the whole world at a state -/
def zWd (G : zG) (mem : zM) (U : State) : Prop := zInj G ∧ zokM mem ∧ va_P (zD G) vwCl (zC G mem) U.heap ∧ va_K (zD G) vwCl (zTy G) U ∧ zX G U
def zCx (R : Room) (kc ks : Nat) (p : Program) (s : State) (m : MethodId) (args : Array Value) (meth : Method) (c : Code) (own : String) (cc : ByteArray) (nL : Nat) (ret : Option FieldType) : Prop :=
  p.tables.exec = Jvm.exec ∧ c.code = cc ∧ c.maxLocals = nL ∧ s.vm.findClass own = some m.cls ∧ (∀ w ∈ ztb, w.before args s = true) ∧ meth.sig.returnType = ret ∧ meth.locks = false ∧ kc ≤ R.cells ∧ ks ≤ R.slots
def zLs (G : zG) (lsA : Array Slot) (nL : Nat) (ls : List zV) : Prop := ls.length = nL ∧ lsA.size = nL ∧ lv_wf lsA ∧ ∀ (i : Nat) (v : zV), ls[i]? = some v → v ≠ zU → lsA[i]? = some (.val (zv G v))
def SW (l : Launch) (G : zG) (R : Room) (own : String) (cc : ByteArray) (nL : Nat) (ret : Option FieldType) (Z : List Frame → Array Value → State → State → Prop) (kc ks : Nat) (Ex : State → Prop) (pc : Nat) (ls st : List zV) (mem : zM) : Prop :=
  ∀ (p : Program) (e : Env) (s : State) (m : MethodId) (args : Array Value) (below : List Frame) (meth : Method) (c : Code) (H : Heap) (locs : List Loc) (lsA : Array Slot), zCx R kc ks p s m args meth c own cc nL ret → Ex s → zX G s → va_K (zD G) vwCl (zTy G) s → zInj G → va_P (zD G) vwCl (zC G mem) H → va_S (zA G) s.heap H locs → zLs G lsA nL ls → zokL ls → zokL st → zokM mem →
    W p l e R s m args below meth c H locs kc ks (Z below args s) (F0 m pc lsA (st.map (zv G)))
def zokO (r : Option zV) : Prop := ∀ v, r = some v → zok v
def zQC (G : zG) (post : Option zV → zM → Prop) : Array Value → State → Outcome → State → Prop := fun _ st oc t => (∃ (r : Option zV) (mem' : zM), oc = .returned (r.map (zv G)) ∧ post r mem' ∧ zokO r ∧ zWd G mem' t) ∧ va_F (zA G) st t
def zPc (G : zG) (As : List zV) (mem : zM) : Array Value → State → Prop := fun v U => v = (As.map (zv G)).toArray ∧ zWd G mem U ∧ zokL As
def zrm (d : Nat) : Room := { frames := d, cells := 0, slots := 0, locals := 100 * d }
abbrev zZ (G : zG) (post : Option zV → zM → Prop) : List Frame → Array Value → State → State → Prop := fun below args s => MQ below (zQC G post) args s 0 0 (zA G)
/-- a method's contract: from the world mem, with As, it ends with post -/
def CT (l : Launch) (G : zG) (y : MethodName) (cc : ByteArray) (nL : Nat) (ret : Option FieldType) (d : Nat) (As : List zV) (mem : zM) (post : Option zV → zM → Prop) : Prop :=
  Met l y (Cond.code y cc nL ret :: ztb) (zrm d) (zPc G As mem) (zQC G post) 0 0 (zA G)
/-- the same, with one answer and one world behind it -/
abbrev CF (l : Launch) (G : zG) (y : MethodName) (cc : ByteArray) (nL : Nat) (ret : Option FieldType) (d : Nat) (As : List zV) (mem : zM) (r : Option zV) (mem' : zM) : Prop :=
  CT l G y cc nL ret d As mem (fun r' m' => r' = r ∧ m' = mem')
/-! ===== locals ===== -/
def zas (G : zG) (ls : List zV) : List (Nat × Value) := ls.zipIdx.filterMap (fun q => match q.1 with
  | .inr (.inr (.inr _)) => none
  | v => some (q.2, zv G v))
theorem zas_mem {G : zG} {ls : List zV} {i : Nat} {v : zV} (h : ls[i]? = some v) (hv : v ≠ zU) : (i, zv G v) ∈ zas G ls := by
  refine List.mem_filterMap.mpr ⟨(v, i), ?_, ?_⟩
  · exact List.mem_zipIdx_iff_getElem?.mpr h
  · match v, hv with
    | .inl x, _ => rfl
    | .inr (.inl x), _ => rfl
    | .inr (.inr (.inl x)), _ => rfl
    | .inr (.inr (.inr ())), hv => exact absurd rfl hv
theorem zas_of {G : zG} {ls : List zV} {q : Nat × Value} (h : q ∈ zas G ls) : ∃ v, ls[q.1]? = some v ∧ v ≠ zU ∧ q.2 = zv G v := by
  obtain ⟨⟨v, i⟩, h1, h2⟩ := List.mem_filterMap.mp h
  have h1 := List.mem_zipIdx_iff_getElem?.mp h1
  match v, h2 with
  | .inl x, h2 => cases h2; exact ⟨_, h1, (fun e => by cases e), rfl⟩
  | .inr (.inl x), h2 => cases h2; exact ⟨_, h1, (fun e => by cases e), rfl⟩
  | .inr (.inr (.inl x)), h2 => cases h2; exact ⟨_, h1, (fun e => by cases e), rfl⟩
theorem zLs.has {G : zG} {lsA : Array Slot} {nL : Nat} {ls : List zV} (h : zLs G lsA nL ls) : lv_has lsA nL (zas G ls) := by
  refine ⟨h.2.1, h.2.2.1, fun q hq => ?_⟩
  obtain ⟨v, h1, h2, h3⟩ := zas_of hq
  rw [h3]
  exact h.2.2.2 q.1 v h1 h2
theorem zLs.at {G : zG} {lsA : Array Slot} {nL : Nat} {ls : List zV} {i : Nat} {v : zV} (h : zLs G lsA nL ls) (hi : ls[i]? = some v) (hv : v ≠ zU) : lsA[i]? = some (.val (zv G v)) := h.2.2.2 i v hi hv
def znl (ls : List zV) (i : Nat) : Bool := match i with
  | 0 => true
  | j + 1 => match ls[j]? with
    | some (.inr (.inl _)) => false
    | _ => true
def zst (ls : List zV) (i : Nat) : Bool := Nat.blt i ls.length && znl ls i
def zst2 (ls : List zV) (i : Nat) : Bool := Nat.blt (i + 1) ls.length && znl ls i
theorem zcat {G : zG} {v : zV} (h : (zv G v).category = 2) : ∃ x, v = zJ x := by
  match v, h with
  | .inl x, h => simp [zv, Value.category] at h
  | .inr (.inl x), _ => exact ⟨x, rfl⟩
  | .inr (.inr (.inl x)), h => simp [zv, Value.category] at h
  | .inr (.inr (.inr ())), h => simp [zv, Value.category] at h
theorem zLs.set1 {G : zG} {lsA : Array Slot} {nL i : Nat} {ls : List zV} {v : zV} (h0 : zLs G lsA nL ls) {ls' : Array Slot} (hs : zst ls i = true) (h : lv_has ls' nL ((i, zv G v) :: (zas G ls).filter (fun q => !(q.1 == i) && !(q.1 + 1 == i && q.2.category == 2)))) : zLs G ls' nL (ls.set i v) := by
  simp only [zst, Bool.and_eq_true] at hs
  refine ⟨by rw [List.length_set]; exact h0.1, h.1, h.2.1, fun j w hj hw => ?_⟩
  have hlt : i < ls.length := Nat.le_of_ble_eq_true hs.1
  by_cases hji : j = i
  · subst hji
    rw [List.getElem?_set_self hlt] at hj
    cases hj
    exact h.2.2 (j, zv G v) List.mem_cons_self
  · rw [List.getElem?_set_ne (fun q => hji q.symm)] at hj
    refine h.2.2 (j, zv G w) (List.mem_cons_of_mem _ (List.mem_filter.mpr ⟨zas_mem hj hw, ?_⟩))
    simp only [Bool.and_eq_true, Bool.not_eq_true', beq_eq_false_iff_ne, ne_eq, Bool.and_eq_false_iff]
    refine ⟨hji, ?_⟩
    by_cases h2 : j + 1 = i
    · refine Or.inr (fun hc => ?_)
      obtain ⟨x, rfl⟩ := zcat hc
      have := hs.2
      rw [← h2] at this
      simp only [znl, hj] at this
      cases this
    · exact Or.inl h2
theorem zLs.set2 {G : zG} {lsA : Array Slot} {nL i : Nat} {ls : List zV} {v : zV} (h0 : zLs G lsA nL ls) {ls' : Array Slot} (hs : zst2 ls i = true) (h : lv_has ls' nL ((i, zv G v) :: (zas G ls).filter (fun q => !(q.1 == i) && (!(q.1 == i + 1) && !(q.1 + 1 == i && q.2.category == 2))))) : zLs G ls' nL ((ls.set i v).set (i + 1) zU) := by
  simp only [zst2, Bool.and_eq_true] at hs
  refine ⟨by rw [List.length_set, List.length_set]; exact h0.1, h.1, h.2.1, fun j w hj hw => ?_⟩
  have hlt : i + 1 < ls.length := Nat.le_of_ble_eq_true hs.1
  by_cases hj1 : j = i + 1
  · subst hj1
    rw [List.getElem?_set_self (by rw [List.length_set]; exact hlt)] at hj
    cases hj
    exact absurd rfl hw
  rw [List.getElem?_set_ne (fun q => hj1 q.symm)] at hj
  by_cases hji : j = i
  · subst hji
    rw [List.getElem?_set_self (by omega)] at hj
    cases hj
    exact h.2.2 (j, zv G v) List.mem_cons_self
  · rw [List.getElem?_set_ne (fun q => hji q.symm)] at hj
    refine h.2.2 (j, zv G w) (List.mem_cons_of_mem _ (List.mem_filter.mpr ⟨zas_mem hj hw, ?_⟩))
    simp only [Bool.and_eq_true, Bool.not_eq_true', beq_eq_false_iff_ne, ne_eq, Bool.and_eq_false_iff]
    refine ⟨hji, hj1, ?_⟩
    by_cases h2 : j + 1 = i
    · refine Or.inr (fun hc => ?_)
      obtain ⟨x, rfl⟩ := zcat hc
      have := hs.2
      rw [← h2] at this
      simp only [znl, hj] at this
      cases this
    · exact Or.inl h2
theorem zokL.set {ls : List zV} {i : Nat} {v : zV} (h : zokL ls) (hv : zok v) : zokL (ls.set i v) := fun w hw => (List.mem_or_eq_of_mem_set hw).elim (h w) (fun e => by rw [e]; exact hv)
theorem zokL.get {ls : List zV} {i : Nat} {v : zV} (h : zokL ls) (hi : ls[i]? = some v) : zok v := h v (List.mem_of_getElem? hi)
theorem zst_lt {ls : List zV} {i : Nat} (h : zst ls i = true) : i < ls.length := by
  simp only [zst, Bool.and_eq_true] at h
  exact Nat.le_of_ble_eq_true h.1
theorem zst2_lt {ls : List zV} {i : Nat} (h : zst2 ls i = true) : i + 1 < ls.length := by
  simp only [zst2, Bool.and_eq_true] at h
  exact Nat.le_of_ble_eq_true h.1
/-! ===== rows ===== -/
section
variable {l : Launch} {G : zG} {R : Room} {own : String} {cc : ByteArray} {nL : Nat} {ret : Option FieldType} {Z : List Frame → Array Value → State → State → Prop} {kc ks : Nat} {Ex : State → Prop} {pc : Nat} {ls st : List zV} {mem : zM}
theorem r_iconst {n : Int} (hd : decode cc pc = .ok (.iconst n, 1)) (hn : zin32 n := by unfold zin32; decide) (k : SW l G R own cc nL ret Z kc ks Ex (pc + 1) ls (zI n :: st) mem) : SW l G R own cc nL ret Z kc ks Ex pc ls st mem := by
  intro p e s m args below meth c H locs lsA C hE hX hK hI hP hS hL ol os om
  exact lv_iconst C.1 C.2.1 hd rfl (k p e s m args below meth c H locs lsA C hE hX hK hI hP hS hL ol (os.co hn) om)
theorem r_bipush {n : Int} (hd : decode cc pc = .ok (.bipush n, 2)) (hn : (Int8.ofInt n).toInt32 = Int32.ofInt n := by decide) (hi : zin32 n := by unfold zin32; decide) (k : SW l G R own cc nL ret Z kc ks Ex (pc + 2) ls (zI n :: st) mem) : SW l G R own cc nL ret Z kc ks Ex pc ls st mem := by
  intro p e s m args below meth c H locs lsA C hE hX hK hI hP hS hL ol os om
  exact lv_bipush C.1 C.2.1 hd hn (k p e s m args below meth c H locs lsA C hE hX hK hI hP hS hL ol (os.co hi) om)
theorem r_sipush {n : Int} (hd : decode cc pc = .ok (.sipush n, 3)) (hn : (Int16.ofInt n).toInt32 = Int32.ofInt n := by decide) (hi : zin32 n := by unfold zin32; decide) (k : SW l G R own cc nL ret Z kc ks Ex (pc + 3) ls (zI n :: st) mem) : SW l G R own cc nL ret Z kc ks Ex pc ls st mem := by
  intro p e s m args below meth c H locs lsA C hE hX hK hI hP hS hL ol os om
  exact lv_sipush C.1 C.2.1 hd hn (k p e s m args below meth c H locs lsA C hE hX hK hI hP hS hL ol (os.co hi) om)
theorem r_lconst {n : Fin 2} (hd : decode cc pc = .ok (.lconst n, 1)) {x : Int} (hx : ((n : Nat) : Int) = x) (hi : zin64 x := by unfold zin64; decide) (k : SW l G R own cc nL ret Z kc ks Ex (pc + 1) ls (zJ x :: st) mem) : SW l G R own cc nL ret Z kc ks Ex pc ls st mem := by
  intro p e s m args below meth c H locs lsA C hE hX hK hI hP hS hL ol os om
  subst hx
  exact lv_lconst C.1 C.2.1 hd rfl (k p e s m args below meth c H locs lsA C hE hX hK hI hP hS hL ol (os.co hi) om)
theorem r_ldc {i : Nat} {v : Int32} (hw : Cond.constant own i v ∈ ztb) (hd : decode cc pc = .ok (.ldc i, 2)) {x : Int} (hx : v = Int32.ofInt x := by decide) (hi : zin32 x := by unfold zin32; decide) (k : SW l G R own cc nL ret Z kc ks Ex (pc + 2) ls (zI x :: st) mem) : SW l G R own cc nL ret Z kc ks Ex pc ls st mem := by
  intro p e s m args below meth c H locs lsA C hE hX hK hI hP hS hL ol os om
  subst hx
  exact lv_ldc C.1 C.2.1 C.2.2.2.1 (C.2.2.2.2.1 _ hw) hd (k p e s m args below meth c H locs lsA C hE hX hK hI hP hS hL ol (os.co hi) om)
theorem r_ldcw {i : Nat} {v : Int32} (hw : Cond.constant own i v ∈ ztb) (hd : decode cc pc = .ok (.ldc_w i, 3)) {x : Int} (hx : v = Int32.ofInt x := by decide) (hi : zin32 x := by unfold zin32; decide) (k : SW l G R own cc nL ret Z kc ks Ex (pc + 3) ls (zI x :: st) mem) : SW l G R own cc nL ret Z kc ks Ex pc ls st mem := by
  intro p e s m args below meth c H locs lsA C hE hX hK hI hP hS hL ol os om
  subst hx
  exact lv_ldcw C.1 C.2.1 C.2.2.2.1 (C.2.2.2.2.1 _ hw) hd (k p e s m args below meth c H locs lsA C hE hX hK hI hP hS hL ol (os.co hi) om)
theorem r_ldc2 {i : Nat} {v : Int64} (hw : Cond.constantLong own i v ∈ ztb) (hd : decode cc pc = .ok (.ldc2_w i, 3)) {x : Int} (hx : v = Int64.ofInt x := by decide) (hi : zin64 x := by unfold zin64; decide) (k : SW l G R own cc nL ret Z kc ks Ex (pc + 3) ls (zJ x :: st) mem) : SW l G R own cc nL ret Z kc ks Ex pc ls st mem := by
  intro p e s m args below meth c H locs lsA C hE hX hK hI hP hS hL ol os om
  subst hx
  exact lv_ldc2 C.1 C.2.1 C.2.2.2.1 (C.2.2.2.2.1 _ hw) hd (k p e s m args below meth c H locs lsA C hE hX hK hI hP hS hL ol (os.co hi) om)
theorem r_iload_n {j : Fin 4} {x : Int} (hd : decode cc pc = .ok (.iload_n j, 1)) (hl : ls[(j : Nat)]? = some (zI x)) (k : SW l G R own cc nL ret Z kc ks Ex (pc + 1) ls (zI x :: st) mem) : SW l G R own cc nL ret Z kc ks Ex pc ls st mem := by
  intro p e s m args below meth c H locs lsA C hE hX hK hI hP hS hL ol os om
  exact lv_iload_n C.1 C.2.1 hd rfl (hL.at hl (fun e => by cases e)) (k p e s m args below meth c H locs lsA C hE hX hK hI hP hS hL ol (os.co (ol.get hl)) om)
theorem r_iload {j : Nat} {x : Int} (hd : decode cc pc = .ok (.iload j, 2)) (hl : ls[j]? = some (zI x)) (k : SW l G R own cc nL ret Z kc ks Ex (pc + 2) ls (zI x :: st) mem) : SW l G R own cc nL ret Z kc ks Ex pc ls st mem := by
  intro p e s m args below meth c H locs lsA C hE hX hK hI hP hS hL ol os om
  exact lv_iload C.1 C.2.1 hd (hL.at hl (fun e => by cases e)) (k p e s m args below meth c H locs lsA C hE hX hK hI hP hS hL ol (os.co (ol.get hl)) om)
theorem r_lload_n {j : Fin 4} {x : Int} (hd : decode cc pc = .ok (.lload_n j, 1)) (hl : ls[(j : Nat)]? = some (zJ x)) (k : SW l G R own cc nL ret Z kc ks Ex (pc + 1) ls (zJ x :: st) mem) : SW l G R own cc nL ret Z kc ks Ex pc ls st mem := by
  intro p e s m args below meth c H locs lsA C hE hX hK hI hP hS hL ol os om
  exact lv_lload_n C.1 C.2.1 hd rfl (hL.at hl (fun e => by cases e)) (k p e s m args below meth c H locs lsA C hE hX hK hI hP hS hL ol (os.co (ol.get hl)) om)
theorem r_lload {j : Nat} {x : Int} (hd : decode cc pc = .ok (.lload j, 2)) (hl : ls[j]? = some (zJ x)) (k : SW l G R own cc nL ret Z kc ks Ex (pc + 2) ls (zJ x :: st) mem) : SW l G R own cc nL ret Z kc ks Ex pc ls st mem := by
  intro p e s m args below meth c H locs lsA C hE hX hK hI hP hS hL ol os om
  exact lv_lload C.1 C.2.1 hd (hL.at hl (fun e => by cases e)) (k p e s m args below meth c H locs lsA C hE hX hK hI hP hS hL ol (os.co (ol.get hl)) om)
theorem r_aload_n {j : Fin 4} {x : Nat} (hd : decode cc pc = .ok (.aload_n j, 1)) (hl : ls[(j : Nat)]? = some (zR x)) (k : SW l G R own cc nL ret Z kc ks Ex (pc + 1) ls (zR x :: st) mem) : SW l G R own cc nL ret Z kc ks Ex pc ls st mem := by
  intro p e s m args below meth c H locs lsA C hE hX hK hI hP hS hL ol os om
  exact lv_aload_n C.1 C.2.1 hd rfl (hL.at hl (fun e => by cases e)) (k p e s m args below meth c H locs lsA C hE hX hK hI hP hS hL ol (os.co (ol.get hl)) om)
theorem r_aload {j : Nat} {x : Nat} (hd : decode cc pc = .ok (.aload j, 2)) (hl : ls[j]? = some (zR x)) (k : SW l G R own cc nL ret Z kc ks Ex (pc + 2) ls (zR x :: st) mem) : SW l G R own cc nL ret Z kc ks Ex pc ls st mem := by
  intro p e s m args below meth c H locs lsA C hE hX hK hI hP hS hL ol os om
  exact lv_aload C.1 C.2.1 hd (hL.at hl (fun e => by cases e)) (k p e s m args below meth c H locs lsA C hE hX hK hI hP hS hL ol (os.co (ol.get hl)) om)
theorem r_istore_n {j : Fin 4} {x : Int} (hd : decode cc pc = .ok (.istore_n j, 1)) (hs : zst ls (j : Nat) = true) (k : SW l G R own cc nL ret Z kc ks Ex (pc + 1) (ls.set (j : Nat) (zI x)) st mem) : SW l G R own cc nL ret Z kc ks Ex pc ls (zI x :: st) mem := by
  intro p e s m args below meth c H locs lsA C hE hX hK hI hP hS hL ol os om
  exact lv_istore_n C.1 C.2.1 hd rfl hL.has (by rw [← hL.1]; exact zst_lt hs) rfl (fun ls9 h9 => k p e s m args below meth c H locs ls9 C hE hX hK hI hP hS (hL.set1 hs h9) (ol.set os.hd) os.tl om)
theorem r_istore {j : Nat} {x : Int} (hd : decode cc pc = .ok (.istore j, 2)) (hs : zst ls j = true) (k : SW l G R own cc nL ret Z kc ks Ex (pc + 2) (ls.set j (zI x)) st mem) : SW l G R own cc nL ret Z kc ks Ex pc ls (zI x :: st) mem := by
  intro p e s m args below meth c H locs lsA C hE hX hK hI hP hS hL ol os om
  exact lv_istore C.1 C.2.1 hd hL.has (by rw [← hL.1]; exact zst_lt hs) rfl (fun ls9 h9 => k p e s m args below meth c H locs ls9 C hE hX hK hI hP hS (hL.set1 hs h9) (ol.set os.hd) os.tl om)
theorem r_astore_n {j : Fin 4} {x : Nat} (hd : decode cc pc = .ok (.astore_n j, 1)) (hs : zst ls (j : Nat) = true) (k : SW l G R own cc nL ret Z kc ks Ex (pc + 1) (ls.set (j : Nat) (zR x)) st mem) : SW l G R own cc nL ret Z kc ks Ex pc ls (zR x :: st) mem := by
  intro p e s m args below meth c H locs lsA C hE hX hK hI hP hS hL ol os om
  exact lv_astore_n C.1 C.2.1 hd rfl hL.has (by rw [← hL.1]; exact zst_lt hs) rfl (fun ls9 h9 => k p e s m args below meth c H locs ls9 C hE hX hK hI hP hS (hL.set1 hs h9) (ol.set os.hd) os.tl om)
theorem r_astore {j : Nat} {x : Nat} (hd : decode cc pc = .ok (.astore j, 2)) (hs : zst ls j = true) (k : SW l G R own cc nL ret Z kc ks Ex (pc + 2) (ls.set j (zR x)) st mem) : SW l G R own cc nL ret Z kc ks Ex pc ls (zR x :: st) mem := by
  intro p e s m args below meth c H locs lsA C hE hX hK hI hP hS hL ol os om
  exact lv_astore C.1 C.2.1 hd hL.has (by rw [← hL.1]; exact zst_lt hs) rfl (fun ls9 h9 => k p e s m args below meth c H locs ls9 C hE hX hK hI hP hS (hL.set1 hs h9) (ol.set os.hd) os.tl om)
theorem r_lstore_n {j : Fin 4} {x : Int} (hd : decode cc pc = .ok (.lstore_n j, 1)) (hs : zst2 ls (j : Nat) = true) (k : SW l G R own cc nL ret Z kc ks Ex (pc + 1) ((ls.set (j : Nat) (zJ x)).set ((j : Nat) + 1) zU) st mem) : SW l G R own cc nL ret Z kc ks Ex pc ls (zJ x :: st) mem := by
  intro p e s m args below meth c H locs lsA C hE hX hK hI hP hS hL ol os om
  exact lv_lstore_n C.1 C.2.1 hd rfl hL.has (by rw [← hL.1]; exact zst2_lt hs) rfl (fun ls9 h9 => k p e s m args below meth c H locs ls9 C hE hX hK hI hP hS (hL.set2 hs h9) ((ol.set os.hd).set trivial) os.tl om)
theorem r_lstore {j : Nat} {x : Int} (hd : decode cc pc = .ok (.lstore j, 2)) (hs : zst2 ls j = true) (k : SW l G R own cc nL ret Z kc ks Ex (pc + 2) ((ls.set j (zJ x)).set (j + 1) zU) st mem) : SW l G R own cc nL ret Z kc ks Ex pc ls (zJ x :: st) mem := by
  intro p e s m args below meth c H locs lsA C hE hX hK hI hP hS hL ol os om
  exact lv_lstore C.1 C.2.1 hd hL.has (by rw [← hL.1]; exact zst2_lt hs) rfl (fun ls9 h9 => k p e s m args below meth c H locs ls9 C hE hX hK hI hP hS (hL.set2 hs h9) ((ol.set os.hd).set trivial) os.tl om)
theorem r_iinc {j : Nat} {n x : Int} (hd : decode cc pc = .ok (.iinc j n, 3)) (hl : ls[j]? = some (zI x)) (hs : zst ls j = true) (k : SW l G R own cc nL ret Z kc ks Ex (pc + 3) (ls.set j (zI (zw (x + n)))) st mem) : SW l G R own cc nL ret Z kc ks Ex pc ls st mem := by
  intro p e s m args below meth c H locs lsA C hE hX hK hI hP hS hL ol os om
  obtain ⟨q, hq⟩ := List.getElem?_of_mem (zas_mem (G := G) hl (fun e => by cases e))
  exact lv_iinc (v := Int32.ofInt (zw (x + n))) C.1 C.2.1 hd hL.has hq (zo_add x n) (by rw [← hL.1]; exact zst_lt hs) rfl (fun ls9 h9 => k p e s m args below meth c H locs ls9 C hE hX hK hI hP hS (hL.set1 (v := zI (zw (x + n))) hs h9) (ol.set (zok_w _)) os om)
theorem r_iadd {x y : Int} (hd : decode cc pc = .ok (.iadd, 1)) (k : SW l G R own cc nL ret Z kc ks Ex (pc + 1) ls (zI (zw (x + y)) :: st) mem) : SW l G R own cc nL ret Z kc ks Ex pc ls (zI y :: zI x :: st) mem := by
  intro p e s m args below meth c H locs lsA C hE hX hK hI hP hS hL ol os om
  have k9 := k p e s m args below meth c H locs lsA C hE hX hK hI hP hS hL ol (os.tl.tl.co (zok_w _)) om
  refine lv_iadd C.1 C.2.1 hd ?_
  rw [zo_add x y]
  exact k9
theorem r_isub {x y : Int} (hd : decode cc pc = .ok (.isub, 1)) (k : SW l G R own cc nL ret Z kc ks Ex (pc + 1) ls (zI (zw (x - y)) :: st) mem) : SW l G R own cc nL ret Z kc ks Ex pc ls (zI y :: zI x :: st) mem := by
  intro p e s m args below meth c H locs lsA C hE hX hK hI hP hS hL ol os om
  have k9 := k p e s m args below meth c H locs lsA C hE hX hK hI hP hS hL ol (os.tl.tl.co (zok_w _)) om
  refine lv_isub C.1 C.2.1 hd ?_
  rw [zo_sub x y]
  exact k9
theorem r_imul {x y : Int} (hd : decode cc pc = .ok (.imul, 1)) (k : SW l G R own cc nL ret Z kc ks Ex (pc + 1) ls (zI (zw (x * y)) :: st) mem) : SW l G R own cc nL ret Z kc ks Ex pc ls (zI y :: zI x :: st) mem := by
  intro p e s m args below meth c H locs lsA C hE hX hK hI hP hS hL ol os om
  have k9 := k p e s m args below meth c H locs lsA C hE hX hK hI hP hS hL ol (os.tl.tl.co (zok_w _)) om
  refine lv_imul C.1 C.2.1 hd ?_
  rw [zo_mul x y]
  exact k9
theorem r_ladd {x y : Int} (hd : decode cc pc = .ok (.ladd, 1)) (k : SW l G R own cc nL ret Z kc ks Ex (pc + 1) ls (zJ (zw64 (x + y)) :: st) mem) : SW l G R own cc nL ret Z kc ks Ex pc ls (zJ y :: zJ x :: st) mem := by
  intro p e s m args below meth c H locs lsA C hE hX hK hI hP hS hL ol os om
  have k9 := k p e s m args below meth c H locs lsA C hE hX hK hI hP hS hL ol (os.tl.tl.co (zok_w64 _)) om
  refine lv_ladd C.1 C.2.1 hd ?_
  rw [zo64_add x y]
  exact k9
theorem r_lmul {x y : Int} (hd : decode cc pc = .ok (.lmul, 1)) (k : SW l G R own cc nL ret Z kc ks Ex (pc + 1) ls (zJ (zw64 (x * y)) :: st) mem) : SW l G R own cc nL ret Z kc ks Ex pc ls (zJ y :: zJ x :: st) mem := by
  intro p e s m args below meth c H locs lsA C hE hX hK hI hP hS hL ol os om
  have k9 := k p e s m args below meth c H locs lsA C hE hX hK hI hP hS hL ol (os.tl.tl.co (zok_w64 _)) om
  refine lv_lmul C.1 C.2.1 hd ?_
  rw [zo64_mul x y]
  exact k9
theorem r_ineg {x : Int} (hd : decode cc pc = .ok (.ineg, 1)) (k : SW l G R own cc nL ret Z kc ks Ex (pc + 1) ls (zI (zw (-x)) :: st) mem) : SW l G R own cc nL ret Z kc ks Ex pc ls (zI x :: st) mem := by
  intro p e s m args below meth c H locs lsA C hE hX hK hI hP hS hL ol os om
  have k9 := k p e s m args below meth c H locs lsA C hE hX hK hI hP hS hL ol (os.tl.co (zok_w _)) om
  refine lv_ineg C.1 C.2.1 hd ?_
  rw [zo_neg x]
  exact k9
theorem r_idiv {x y : Int} (hd : decode cc pc = .ok (.idiv, 1)) (h0 : y ≠ 0) (k : SW l G R own cc nL ret Z kc ks Ex (pc + 1) ls (zI (zw (x.tdiv y)) :: st) mem) : SW l G R own cc nL ret Z kc ks Ex pc ls (zI y :: zI x :: st) mem := by
  intro p e s m args below meth c H locs lsA C hE hX hK hI hP hS hL ol os om
  have k9 := k p e s m args below meth c H locs lsA C hE hX hK hI hP hS hL ol (os.tl.tl.co (zok_w _)) om
  refine lv_idiv C.1 C.2.1 hd (fun q => h0 ((zo_eq os.hd zin_0).mp q)) ?_
  rw [zo_div os.tl.hd os.hd]
  exact k9
theorem r_irem {x y : Int} (hd : decode cc pc = .ok (.irem, 1)) (h0 : y ≠ 0) (k : SW l G R own cc nL ret Z kc ks Ex (pc + 1) ls (zI (zw (x.tmod y)) :: st) mem) : SW l G R own cc nL ret Z kc ks Ex pc ls (zI y :: zI x :: st) mem := by
  intro p e s m args below meth c H locs lsA C hE hX hK hI hP hS hL ol os om
  have k9 := k p e s m args below meth c H locs lsA C hE hX hK hI hP hS hL ol (os.tl.tl.co (zok_w _)) om
  refine lv_irem C.1 C.2.1 hd (fun q => h0 ((zo_eq os.hd zin_0).mp q)) ?_
  have e9 : Int32.ofInt x - Int32.ofInt x / Int32.ofInt y * Int32.ofInt y = Int32.ofInt (zw (x.tmod y)) := by
    rw [zo_div os.tl.hd os.hd, zo_w, ← Int32.ofInt_mul, ← Int32.ofInt_sub, zo_w, Int.tmod_def, Int.mul_comm]
  rw [e9]
  exact k9
theorem r_ldiv {x y : Int} (hd : decode cc pc = .ok (.ldiv, 1)) (h0 : y ≠ 0) (k : SW l G R own cc nL ret Z kc ks Ex (pc + 1) ls (zJ (zw64 (x.tdiv y)) :: st) mem) : SW l G R own cc nL ret Z kc ks Ex pc ls (zJ y :: zJ x :: st) mem := by
  intro p e s m args below meth c H locs lsA C hE hX hK hI hP hS hL ol os om
  have k9 := k p e s m args below meth c H locs lsA C hE hX hK hI hP hS hL ol (os.tl.tl.co (zok_w64 _)) om
  refine lv_ldiv C.1 C.2.1 hd (fun q => h0 ((zo64_eq os.hd zin64_0).mp q)) ?_
  rw [zo64_div os.tl.hd os.hd]
  exact k9
theorem r_lrem {x y : Int} (hd : decode cc pc = .ok (.lrem, 1)) (h0 : y ≠ 0) (k : SW l G R own cc nL ret Z kc ks Ex (pc + 1) ls (zJ (zw64 (x.tmod y)) :: st) mem) : SW l G R own cc nL ret Z kc ks Ex pc ls (zJ y :: zJ x :: st) mem := by
  intro p e s m args below meth c H locs lsA C hE hX hK hI hP hS hL ol os om
  have k9 := k p e s m args below meth c H locs lsA C hE hX hK hI hP hS hL ol (os.tl.tl.co (zok_w64 _)) om
  refine lv_lrem C.1 C.2.1 hd (fun q => h0 ((zo64_eq os.hd zin64_0).mp q)) ?_
  have e9 : Int64.ofInt x - Int64.ofInt x / Int64.ofInt y * Int64.ofInt y = Int64.ofInt (zw64 (x.tmod y)) := by
    rw [zo64_div os.tl.hd os.hd, zo64_w, ← Int64.ofInt_mul, ← Int64.ofInt_sub, zo64_w, Int.tmod_def, Int.mul_comm]
  rw [e9]
  exact k9
theorem r_iand {x y : Int} (hd : decode cc pc = .ok (.iand, 1)) (k : SW l G R own cc nL ret Z kc ks Ex (pc + 1) ls (zI (zand x y) :: st) mem) : SW l G R own cc nL ret Z kc ks Ex pc ls (zI y :: zI x :: st) mem := by
  intro p e s m args below meth c H locs lsA C hE hX hK hI hP hS hL ol os om
  have k9 := k p e s m args below meth c H locs lsA C hE hX hK hI hP hS hL ol (os.tl.tl.co (zi_in _)) om
  refine lv_iand C.1 C.2.1 hd ?_
  simp only [zand, List.map_cons, zv, zo_i] at k9
  exact k9
theorem r_ior {x y : Int} (hd : decode cc pc = .ok (.ior, 1)) (k : SW l G R own cc nL ret Z kc ks Ex (pc + 1) ls (zI (zor x y) :: st) mem) : SW l G R own cc nL ret Z kc ks Ex pc ls (zI y :: zI x :: st) mem := by
  intro p e s m args below meth c H locs lsA C hE hX hK hI hP hS hL ol os om
  have k9 := k p e s m args below meth c H locs lsA C hE hX hK hI hP hS hL ol (os.tl.tl.co (zi_in _)) om
  refine lv_ior C.1 C.2.1 hd ?_
  simp only [zor, List.map_cons, zv, zo_i] at k9
  exact k9
theorem r_ishl {x y : Int} (hd : decode cc pc = .ok (.ishl, 1)) (k : SW l G R own cc nL ret Z kc ks Ex (pc + 1) ls (zI (zshl x y) :: st) mem) : SW l G R own cc nL ret Z kc ks Ex pc ls (zI y :: zI x :: st) mem := by
  intro p e s m args below meth c H locs lsA C hE hX hK hI hP hS hL ol os om
  have k9 := k p e s m args below meth c H locs lsA C hE hX hK hI hP hS hL ol (os.tl.tl.co (zi_in _)) om
  refine lv_ishl C.1 C.2.1 hd ?_
  simp only [zshl, List.map_cons, zv, zo_i] at k9
  exact k9
theorem r_ishr {x y : Int} (hd : decode cc pc = .ok (.ishr, 1)) (k : SW l G R own cc nL ret Z kc ks Ex (pc + 1) ls (zI (zshr x y) :: st) mem) : SW l G R own cc nL ret Z kc ks Ex pc ls (zI y :: zI x :: st) mem := by
  intro p e s m args below meth c H locs lsA C hE hX hK hI hP hS hL ol os om
  have k9 := k p e s m args below meth c H locs lsA C hE hX hK hI hP hS hL ol (os.tl.tl.co (zi_in _)) om
  refine lv_ishr C.1 C.2.1 hd ?_
  simp only [zshr, List.map_cons, zv, zo_i] at k9
  exact k9
theorem r_iushr {x y : Int} (hd : decode cc pc = .ok (.iushr, 1)) (k : SW l G R own cc nL ret Z kc ks Ex (pc + 1) ls (zI (zushr x y) :: st) mem) : SW l G R own cc nL ret Z kc ks Ex pc ls (zI y :: zI x :: st) mem := by
  intro p e s m args below meth c H locs lsA C hE hX hK hI hP hS hL ol os om
  have k9 := k p e s m args below meth c H locs lsA C hE hX hK hI hP hS hL ol (os.tl.tl.co (zi_in _)) om
  refine lv_iushr C.1 C.2.1 hd rfl ?_
  simp only [zushr, List.map_cons, zv, zo_i] at k9
  exact k9
theorem r_i2b {x : Int} (hd : decode cc pc = .ok (.i2b, 1)) (k : SW l G R own cc nL ret Z kc ks Ex (pc + 1) ls (zI (zi2b x) :: st) mem) : SW l G R own cc nL ret Z kc ks Ex pc ls (zI x :: st) mem := by
  intro p e s m args below meth c H locs lsA C hE hX hK hI hP hS hL ol os om
  have k9 := k p e s m args below meth c H locs lsA C hE hX hK hI hP hS hL ol (os.tl.co (zi_in _)) om
  refine lv_i2b C.1 C.2.1 hd rfl ?_
  simp only [zi2b, List.map_cons, zv, zo_i] at k9
  exact k9
theorem r_i2s {x : Int} (hd : decode cc pc = .ok (.i2s, 1)) (k : SW l G R own cc nL ret Z kc ks Ex (pc + 1) ls (zI (zi2s x) :: st) mem) : SW l G R own cc nL ret Z kc ks Ex pc ls (zI x :: st) mem := by
  intro p e s m args below meth c H locs lsA C hE hX hK hI hP hS hL ol os om
  have k9 := k p e s m args below meth c H locs lsA C hE hX hK hI hP hS hL ol (os.tl.co (zi_in _)) om
  refine lv_i2s C.1 C.2.1 hd rfl ?_
  simp only [zi2s, List.map_cons, zv, zo_i] at k9
  exact k9
theorem zin3264 {x : Int} (h : zin32 x) : zin64 x := ⟨by have := h.1; omega, by have := h.2; omega⟩
theorem zo_l {x : Int} (h : zin32 x) : (Int32.ofInt x).toInt64 = Int64.ofInt x := Int64.toInt_inj.mp (by rw [Int32.toInt_toInt64, zo_toInt, zw_of h, zo64_toInt, zw64_of (zin3264 h)])
theorem zo_cmp {x y : Int} (hx : zin64 x) (hy : zin64 y) : lg_cmp (Int64.ofInt x) (Int64.ofInt y) = Int32.ofInt (zcmp x y) := by
  unfold lg_cmp zcmp
  have h1 := zo64_lt hy hx
  have h2 := zo64_eq hx hy
  by_cases a : x < y
  · rw [if_pos a, if_neg (fun q => absurd (h1.mp q) (by omega)), if_neg (fun q => absurd (h2.mp q) (by omega))]
    rfl
  · by_cases b : x = y
    · rw [if_neg a, if_pos b, if_neg (fun q => absurd (h1.mp q) (by omega)), if_pos (h2.mpr b)]
      rfl
    · rw [if_neg a, if_neg b, if_pos (h1.mpr (by omega))]
      rfl
theorem zcmp_in (x y : Int) : zin32 (zcmp x y) := by
  unfold zcmp zin32
  split <;> (try split) <;> omega
theorem r_i2l {x : Int} (hd : decode cc pc = .ok (.i2l, 1)) (k : SW l G R own cc nL ret Z kc ks Ex (pc + 1) ls (zJ x :: st) mem) : SW l G R own cc nL ret Z kc ks Ex pc ls (zI x :: st) mem := by
  intro p e s m args below meth c H locs lsA C hE hX hK hI hP hS hL ol os om
  exact lv_i2l C.1 C.2.1 hd (zo_l os.hd) (k p e s m args below meth c H locs lsA C hE hX hK hI hP hS hL ol (os.tl.co (zin3264 os.hd)) om)
theorem r_lcmp {x y : Int} (hd : decode cc pc = .ok (.lcmp, 1)) (k : SW l G R own cc nL ret Z kc ks Ex (pc + 1) ls (zI (zcmp x y) :: st) mem) : SW l G R own cc nL ret Z kc ks Ex pc ls (zJ y :: zJ x :: st) mem := by
  intro p e s m args below meth c H locs lsA C hE hX hK hI hP hS hL ol os om
  have k9 := k p e s m args below meth c H locs lsA C hE hX hK hI hP hS hL ol (os.tl.tl.co (zcmp_in _ _)) om
  refine W.lcmp C.1 C.2.1 hd ?_
  rw [zo_cmp os.tl.hd os.hd]
  exact k9
theorem zcat1 {G : zG} {v : zV} (h : (match v with | .inr (.inl _) => false | _ => true) = true) : (zv G v).category = 1 := by
  match v, h with
  | .inl x, _ => rfl
  | .inr (.inr (.inl x)), _ => rfl
  | .inr (.inr (.inr ())), _ => rfl
theorem zcatJ {G : zG} {x : Int} : (zv G (zJ x)).category = 2 := rfl
def zc1 (v : zV) : Bool := match v with
  | .inr (.inl _) => false
  | _ => true
theorem r_dup {v : zV} (hd : decode cc pc = .ok (.dup, 1)) (hc : zc1 v = true) (k : SW l G R own cc nL ret Z kc ks Ex (pc + 1) ls (v :: v :: st) mem) : SW l G R own cc nL ret Z kc ks Ex pc ls (v :: st) mem := by
  intro p e s m args below meth c H locs lsA C hE hX hK hI hP hS hL ol os om
  exact lv_dup C.1 C.2.1 hd (zcat1 hc) (k p e s m args below meth c H locs lsA C hE hX hK hI hP hS hL ol (os.co os.hd) om)
theorem r_dup2 {v w : zV} (hd : decode cc pc = .ok (.dup2, 1)) (hc : zc1 v = true) (hc2 : zc1 w = true) (k : SW l G R own cc nL ret Z kc ks Ex (pc + 1) ls (v :: w :: v :: w :: st) mem) : SW l G R own cc nL ret Z kc ks Ex pc ls (v :: w :: st) mem := by
  intro p e s m args below meth c H locs lsA C hE hX hK hI hP hS hL ol os om
  exact lv_dup2_11 C.1 C.2.1 hd (zcat1 hc) (zcat1 hc2) (k p e s m args below meth c H locs lsA C hE hX hK hI hP hS hL ol ((os.co os.tl.hd).co os.hd) om)
theorem r_pop {v : zV} (hd : decode cc pc = .ok (.pop, 1)) (hc : zc1 v = true) (k : SW l G R own cc nL ret Z kc ks Ex (pc + 1) ls st mem) : SW l G R own cc nL ret Z kc ks Ex pc ls (v :: st) mem := by
  intro p e s m args below meth c H locs lsA C hE hX hK hI hP hS hL ol os om
  exact lv_pop C.1 C.2.1 hd (zcat1 hc) (k p e s m args below meth c H locs lsA C hE hX hK hI hP hS hL ol os.tl om)
theorem r_goto {off : Int} {tgt : Nat} (hd : decode cc pc = .ok (.goto off, 3)) (ht : (pc : Int) + off = (tgt : Int)) (k : SW l G R own cc nL ret Z kc ks Ex tgt ls st mem) : SW l G R own cc nL ret Z kc ks Ex pc ls st mem := by
  intro p e s m args below meth c H locs lsA C hE hX hK hI hP hS hL ol os om
  exact lv_goto C.1 C.2.1 hd ht (k p e s m args below meth c H locs lsA C hE hX hK hI hP hS hL ol os om)
theorem r_icmp_eq {x y : Int} {off : Int} {tgt : Nat} (hd : decode cc pc = .ok (.if_icmp .eq off, 3)) (ht : (pc : Int) + off = (tgt : Int)) (kt : x = y → SW l G R own cc nL ret Z kc ks Ex tgt ls st mem) (kf : ¬ x = y → SW l G R own cc nL ret Z kc ks Ex (pc + 3) ls st mem) : SW l G R own cc nL ret Z kc ks Ex pc ls (zI y :: zI x :: st) mem := by
  intro p e s m args below meth c H locs lsA C hE hX hK hI hP hS hL ol os om
  exact lv_icmp_eq C.1 C.2.1 hd ht (fun q => kt ((zo_eq os.tl.hd os.hd).mp q) p e s m args below meth c H locs lsA C hE hX hK hI hP hS hL ol os.tl.tl om) (fun q => kf (fun z => q ((zo_eq os.tl.hd os.hd).mpr z)) p e s m args below meth c H locs lsA C hE hX hK hI hP hS hL ol os.tl.tl om)
theorem r_if_eq {x : Int} {off : Int} {tgt : Nat} (hd : decode cc pc = .ok (.ifCond .eq off, 3)) (ht : (pc : Int) + off = (tgt : Int)) (kt : x = 0 → SW l G R own cc nL ret Z kc ks Ex tgt ls st mem) (kf : ¬ x = 0 → SW l G R own cc nL ret Z kc ks Ex (pc + 3) ls st mem) : SW l G R own cc nL ret Z kc ks Ex pc ls (zI x :: st) mem := by
  intro p e s m args below meth c H locs lsA C hE hX hK hI hP hS hL ol os om
  exact lv_if_eq C.1 C.2.1 hd ht (fun q => kt ((zo_eq os.hd zin_0).mp q) p e s m args below meth c H locs lsA C hE hX hK hI hP hS hL ol os.tl om) (fun q => kf (fun z => q ((zo_eq os.hd zin_0).mpr z)) p e s m args below meth c H locs lsA C hE hX hK hI hP hS hL ol os.tl om)
theorem r_icmp_ne {x y : Int} {off : Int} {tgt : Nat} (hd : decode cc pc = .ok (.if_icmp .ne off, 3)) (ht : (pc : Int) + off = (tgt : Int)) (kt : ¬ x = y → SW l G R own cc nL ret Z kc ks Ex tgt ls st mem) (kf : x = y → SW l G R own cc nL ret Z kc ks Ex (pc + 3) ls st mem) : SW l G R own cc nL ret Z kc ks Ex pc ls (zI y :: zI x :: st) mem := by
  intro p e s m args below meth c H locs lsA C hE hX hK hI hP hS hL ol os om
  exact lv_icmp_ne C.1 C.2.1 hd ht (fun q => kt ((not_congr (zo_eq os.tl.hd os.hd)).mp q) p e s m args below meth c H locs lsA C hE hX hK hI hP hS hL ol os.tl.tl om) (fun q => kf ((zo_eq os.tl.hd os.hd).mp q) p e s m args below meth c H locs lsA C hE hX hK hI hP hS hL ol os.tl.tl om)
theorem r_if_ne {x : Int} {off : Int} {tgt : Nat} (hd : decode cc pc = .ok (.ifCond .ne off, 3)) (ht : (pc : Int) + off = (tgt : Int)) (kt : ¬ x = 0 → SW l G R own cc nL ret Z kc ks Ex tgt ls st mem) (kf : x = 0 → SW l G R own cc nL ret Z kc ks Ex (pc + 3) ls st mem) : SW l G R own cc nL ret Z kc ks Ex pc ls (zI x :: st) mem := by
  intro p e s m args below meth c H locs lsA C hE hX hK hI hP hS hL ol os om
  exact lv_if_ne C.1 C.2.1 hd ht (fun q => kt ((not_congr (zo_eq os.hd zin_0)).mp q) p e s m args below meth c H locs lsA C hE hX hK hI hP hS hL ol os.tl om) (fun q => kf ((zo_eq os.hd zin_0).mp q) p e s m args below meth c H locs lsA C hE hX hK hI hP hS hL ol os.tl om)
theorem r_icmp_lt {x y : Int} {off : Int} {tgt : Nat} (hd : decode cc pc = .ok (.if_icmp .lt off, 3)) (ht : (pc : Int) + off = (tgt : Int)) (kt : x < y → SW l G R own cc nL ret Z kc ks Ex tgt ls st mem) (kf : ¬ x < y → SW l G R own cc nL ret Z kc ks Ex (pc + 3) ls st mem) : SW l G R own cc nL ret Z kc ks Ex pc ls (zI y :: zI x :: st) mem := by
  intro p e s m args below meth c H locs lsA C hE hX hK hI hP hS hL ol os om
  exact lv_icmp_lt C.1 C.2.1 hd ht (fun q => kt ((zo_lt os.tl.hd os.hd).mp q) p e s m args below meth c H locs lsA C hE hX hK hI hP hS hL ol os.tl.tl om) (fun q => kf (fun z => q ((zo_lt os.tl.hd os.hd).mpr z)) p e s m args below meth c H locs lsA C hE hX hK hI hP hS hL ol os.tl.tl om)
theorem r_if_lt {x : Int} {off : Int} {tgt : Nat} (hd : decode cc pc = .ok (.ifCond .lt off, 3)) (ht : (pc : Int) + off = (tgt : Int)) (kt : x < 0 → SW l G R own cc nL ret Z kc ks Ex tgt ls st mem) (kf : ¬ x < 0 → SW l G R own cc nL ret Z kc ks Ex (pc + 3) ls st mem) : SW l G R own cc nL ret Z kc ks Ex pc ls (zI x :: st) mem := by
  intro p e s m args below meth c H locs lsA C hE hX hK hI hP hS hL ol os om
  exact lv_if_lt C.1 C.2.1 hd ht (fun q => kt ((zo_lt os.hd zin_0).mp q) p e s m args below meth c H locs lsA C hE hX hK hI hP hS hL ol os.tl om) (fun q => kf (fun z => q ((zo_lt os.hd zin_0).mpr z)) p e s m args below meth c H locs lsA C hE hX hK hI hP hS hL ol os.tl om)
theorem r_icmp_le {x y : Int} {off : Int} {tgt : Nat} (hd : decode cc pc = .ok (.if_icmp .le off, 3)) (ht : (pc : Int) + off = (tgt : Int)) (kt : x ≤ y → SW l G R own cc nL ret Z kc ks Ex tgt ls st mem) (kf : ¬ x ≤ y → SW l G R own cc nL ret Z kc ks Ex (pc + 3) ls st mem) : SW l G R own cc nL ret Z kc ks Ex pc ls (zI y :: zI x :: st) mem := by
  intro p e s m args below meth c H locs lsA C hE hX hK hI hP hS hL ol os om
  exact lv_icmp_le C.1 C.2.1 hd ht (fun q => kt ((zo_le os.tl.hd os.hd).mp q) p e s m args below meth c H locs lsA C hE hX hK hI hP hS hL ol os.tl.tl om) (fun q => kf (fun z => q ((zo_le os.tl.hd os.hd).mpr z)) p e s m args below meth c H locs lsA C hE hX hK hI hP hS hL ol os.tl.tl om)
theorem r_if_le {x : Int} {off : Int} {tgt : Nat} (hd : decode cc pc = .ok (.ifCond .le off, 3)) (ht : (pc : Int) + off = (tgt : Int)) (kt : x ≤ 0 → SW l G R own cc nL ret Z kc ks Ex tgt ls st mem) (kf : ¬ x ≤ 0 → SW l G R own cc nL ret Z kc ks Ex (pc + 3) ls st mem) : SW l G R own cc nL ret Z kc ks Ex pc ls (zI x :: st) mem := by
  intro p e s m args below meth c H locs lsA C hE hX hK hI hP hS hL ol os om
  exact lv_if_le C.1 C.2.1 hd ht (fun q => kt ((zo_le os.hd zin_0).mp q) p e s m args below meth c H locs lsA C hE hX hK hI hP hS hL ol os.tl om) (fun q => kf (fun z => q ((zo_le os.hd zin_0).mpr z)) p e s m args below meth c H locs lsA C hE hX hK hI hP hS hL ol os.tl om)
theorem r_icmp_ge {x y : Int} {off : Int} {tgt : Nat} (hd : decode cc pc = .ok (.if_icmp .ge off, 3)) (ht : (pc : Int) + off = (tgt : Int)) (kt : y ≤ x → SW l G R own cc nL ret Z kc ks Ex tgt ls st mem) (kf : ¬ y ≤ x → SW l G R own cc nL ret Z kc ks Ex (pc + 3) ls st mem) : SW l G R own cc nL ret Z kc ks Ex pc ls (zI y :: zI x :: st) mem := by
  intro p e s m args below meth c H locs lsA C hE hX hK hI hP hS hL ol os om
  exact lv_icmp_ge C.1 C.2.1 hd ht (fun q => kt ((zo_le os.hd os.tl.hd).mp q) p e s m args below meth c H locs lsA C hE hX hK hI hP hS hL ol os.tl.tl om) (fun q => kf (fun z => q ((zo_le os.hd os.tl.hd).mpr z)) p e s m args below meth c H locs lsA C hE hX hK hI hP hS hL ol os.tl.tl om)
theorem r_if_ge {x : Int} {off : Int} {tgt : Nat} (hd : decode cc pc = .ok (.ifCond .ge off, 3)) (ht : (pc : Int) + off = (tgt : Int)) (kt : 0 ≤ x → SW l G R own cc nL ret Z kc ks Ex tgt ls st mem) (kf : ¬ 0 ≤ x → SW l G R own cc nL ret Z kc ks Ex (pc + 3) ls st mem) : SW l G R own cc nL ret Z kc ks Ex pc ls (zI x :: st) mem := by
  intro p e s m args below meth c H locs lsA C hE hX hK hI hP hS hL ol os om
  exact lv_if_ge C.1 C.2.1 hd ht (fun q => kt ((zo_le zin_0 os.hd).mp q) p e s m args below meth c H locs lsA C hE hX hK hI hP hS hL ol os.tl om) (fun q => kf (fun z => q ((zo_le zin_0 os.hd).mpr z)) p e s m args below meth c H locs lsA C hE hX hK hI hP hS hL ol os.tl om)
theorem r_icmp_gt {x y : Int} {off : Int} {tgt : Nat} (hd : decode cc pc = .ok (.if_icmp .gt off, 3)) (ht : (pc : Int) + off = (tgt : Int)) (kt : y < x → SW l G R own cc nL ret Z kc ks Ex tgt ls st mem) (kf : ¬ y < x → SW l G R own cc nL ret Z kc ks Ex (pc + 3) ls st mem) : SW l G R own cc nL ret Z kc ks Ex pc ls (zI y :: zI x :: st) mem := by
  intro p e s m args below meth c H locs lsA C hE hX hK hI hP hS hL ol os om
  exact lv_icmp_gt C.1 C.2.1 hd ht (fun q => kt ((zo_lt os.hd os.tl.hd).mp q) p e s m args below meth c H locs lsA C hE hX hK hI hP hS hL ol os.tl.tl om) (fun q => kf (fun z => q ((zo_lt os.hd os.tl.hd).mpr z)) p e s m args below meth c H locs lsA C hE hX hK hI hP hS hL ol os.tl.tl om)
theorem r_if_gt {x : Int} {off : Int} {tgt : Nat} (hd : decode cc pc = .ok (.ifCond .gt off, 3)) (ht : (pc : Int) + off = (tgt : Int)) (kt : 0 < x → SW l G R own cc nL ret Z kc ks Ex tgt ls st mem) (kf : ¬ 0 < x → SW l G R own cc nL ret Z kc ks Ex (pc + 3) ls st mem) : SW l G R own cc nL ret Z kc ks Ex pc ls (zI x :: st) mem := by
  intro p e s m args below meth c H locs lsA C hE hX hK hI hP hS hL ol os om
  exact lv_if_gt C.1 C.2.1 hd ht (fun q => kt ((zo_lt zin_0 os.hd).mp q) p e s m args below meth c H locs lsA C hE hX hK hI hP hS hL ol os.tl om) (fun q => kf (fun z => q ((zo_lt zin_0 os.hd).mpr z)) p e s m args below meth c H locs lsA C hE hX hK hI hP hS hL ol os.tl om)
theorem r_tswIn {dflt lo hi : Int} {offs : Array Int} {len : Nat} {x off : Int} {tgt : Nat} (hd : decode cc pc = .ok (.tableswitch dflt lo hi offs, len)) (h : lo ≤ x ∧ x ≤ hi) (ho : offs[(x - lo).toNat]? = some off) (ht : (pc : Int) + off = (tgt : Int)) (k : SW l G R own cc nL ret Z kc ks Ex tgt ls st mem) : SW l G R own cc nL ret Z kc ks Ex pc ls (zI x :: st) mem := by
  intro p e s m args below meth c H locs lsA C hE hX hK hI hP hS hL ol os om
  have hx : (Int32.ofInt x).toInt = x := by rw [zo_toInt, zw_of os.hd]
  exact lv_tableIn C.1 C.2.1 hd (by rw [hx]; omega) (by rw [hx]; omega) (by rw [hx]; exact ho) ht (k p e s m args below meth c H locs lsA C hE hX hK hI hP hS hL ol os.tl om)
theorem r_tswOut {dflt lo hi : Int} {offs : Array Int} {len : Nat} {x : Int} {tgt : Nat} (hd : decode cc pc = .ok (.tableswitch dflt lo hi offs, len)) (h : x < lo ∨ hi < x) (ht : (pc : Int) + dflt = (tgt : Int)) (k : SW l G R own cc nL ret Z kc ks Ex tgt ls st mem) : SW l G R own cc nL ret Z kc ks Ex pc ls (zI x :: st) mem := by
  intro p e s m args below meth c H locs lsA C hE hX hK hI hP hS hL ol os om
  have hx : (Int32.ofInt x).toInt = x := by rw [zo_toInt, zw_of os.hd]
  exact lv_tableOut C.1 C.2.1 hd (by rw [hx]; exact h) ht (k p e s m args below meth c H locs lsA C hE hX hK hI hP hS hL ol os.tl om)
theorem r_lsw {dflt : Int} {ps : Array (Int × Int)} {len : Nat} {x off : Int} {tgt : Nat} (hd : decode cc pc = .ok (.lookupswitch dflt ps, len)) (hp : (ps.toList.zip (ps.toList.drop 1)).all (fun (a, next) => a.1 < next.1) = true) (ho : Op.lookupswitch.offset ps.toList dflt x = off) (ht : (pc : Int) + off = (tgt : Int)) (k : SW l G R own cc nL ret Z kc ks Ex tgt ls st mem) : SW l G R own cc nL ret Z kc ks Ex pc ls (zI x :: st) mem := by
  intro p e s m args below meth c H locs lsA C hE hX hK hI hP hS hL ol os om
  have hx : (Int32.ofInt x).toInt = x := by rw [zo_toInt, zw_of os.hd]
  exact lv_lookup C.1 C.2.1 hd hp (by rw [hx]; exact ho) ht (k p e s m args below meth c H locs lsA C hE hX hK hI hP hS hL ol os.tl om)
end
