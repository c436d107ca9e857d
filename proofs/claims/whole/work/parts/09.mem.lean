/-! ===== fields and arrays ===== -/
def zNf (ci : Nat) : Nat := (zTl.getD ci []).length
def zFt (t : Nat) : FieldType := match t with
  | 1 => .long
  | 3 => .boolean
  | _ => .int
/-- a field that the class own reads by its pool's entry index: the slot k, of the sort t, of the class ci -/
def zFd (own : String) (index ci k t : Nat) : Prop := ∃ (C : String) (T : u_T), vwCl[ci]? = some (C, T, zNf ci) ∧ (∀ w ∈ u_ws C T (zNf ci), w ∈ ztb) ∧ k < zNf ci ∧ ci < 7 ∧ zT ci k = t ∧ Cond.fieldLink own index (T k).1 (T k).2.1 (T k).2.2.1 ∈ ztb
/-- one that it writes too -/
def zFp (own : String) (index ci k t : Nat) : Prop := ∃ (C : String) (T : u_T) (ty0 : Nat → FieldType), vwCl[ci]? = some (C, T, zNf ci) ∧ (∀ w ∈ u_ws C T (zNf ci), w ∈ ztb) ∧ (∀ k, k < zNf ci → parseFieldDescriptor (T k).2.2.1 = some (ty0 k)) ∧ (∀ a, a < zNf ci → ∀ b, b < zNf ci → a ≠ b → (T a).2.1 ≠ (T b).2.1) ∧ k < zNf ci ∧ ci < 7 ∧ zT ci k = t ∧ Cond.fieldLink own index (T k).1 (T k).2.1 (T k).2.2.1 ∈ ztb ∧ (T k).2.2.2 = false ∧ parseFieldDescriptor (T k).2.2.1 = some (zFt t)
theorem zfs_get {G : zG} {r : Int → Int} {o ci n k : Nat} (hk : k < n) : ((List.range n).map (fun k => zF G r o ci k))[k]? = some (zF G r o ci k) := by simp [hk]
theorem zfs_set {G : zG} {r : Int → Int} {o ci n k : Nat} {x : Int} {v : Value} (hk : k < n) (hv : v = zF G (zu r (k : Int) x) o ci k) : ((List.range n).map (fun k => zF G r o ci k)).set k v = (List.range n).map (fun k9 : Nat => zF G (zu r (k : Int) x) o ci k9) := by
  subst hv
  apply List.ext_getElem?
  intro j
  by_cases hj : j < n
  · by_cases h : j = k
    · subst h
      rw [List.getElem?_set_self (by simpa using hj), zfs_get hj]
    · rw [List.getElem?_set_ne (fun q => h q.symm), zfs_get hj, zfs_get hj]
      have : zu r k x (j : Int) = r j := zu_n (fun q => h (by omega))
      simp only [zF, this]
  · rw [List.getElem?_eq_none (by simp; omega), List.getElem?_eq_none (by simp; omega)]
theorem zlong_fld {o ci n k : Nat} (hL : zL o = (ci, n)) : zlong o (k : Int) ↔ zT ci k = 1 := by
  constructor
  · rintro ⟨m, h1, h2⟩
    have : m = k := by omega
    subst this
    rw [hL] at h2
    exact h2
  · intro h
    exact ⟨k, rfl, by rw [hL]; exact h⟩
theorem zlong_arr {o ci n : Nat} {k : Int} (hL : zL o = (ci, n)) (hc : 7 ≤ ci) : ¬ zlong o k := by
  rintro ⟨m, -, h2⟩
  rw [hL] at h2
  have : zT ci m = 0 := by
    have h9 : zTl.getD ci [] = [] := by
      rw [List.getD_eq_getElem?_getD, List.getElem?_eq_none (by show 7 ≤ ci; exact hc)]
      rfl
    unfold zT
    rw [h9]
    rfl
  rw [this] at h2
  cases h2
theorem zokM.set {mem : zM} {o : Nat} {k v : Int} (h : zokM mem) (h1 : zlong o k → zin64 v) (h2 : ¬ zlong o k → zin32 v) : zokM (zs mem o k v) := by
  intro o' k'
  by_cases ho : o' = o
  · subst ho
    unfold zs
    rw [zr_s]
    by_cases hk : k' = k
    · subst hk
      rw [zu_s]
      exact ⟨h1, h2⟩
    · rw [zu_n hk]
      exact h o' k'
  · unfold zs
    rw [zr_n ho]
    exact h o' k'
section
variable {l : Launch} {G : zG} {R : Room} {own : String} {cc : ByteArray} {nL : Nat} {ret : Option FieldType} {Z : List Frame → Array Value → State → State → Prop} {kc ks : Nat} {Ex : State → Prop} {pc : Nat} {ls st : List zV} {mem : zM}
theorem r_getI {index ci k t o : Nat} (hf : zFd own index ci k t) (hL9 : zL o = (ci, zNf ci)) (ht9 : t = 0 ∨ t = 3) (hd : decode cc pc = .ok (.getfield index, 3)) (kk : SW l G R own cc nL ret Z kc ks Ex (pc + 3) ls (zI (mem o k) :: st) mem) : SW l G R own cc nL ret Z kc ks Ex pc ls (zR o :: st) mem := by
  intro p e s m args below meth c H locs lsA C hE hX hK hI hP hS hL ol os om
  obtain ⟨C9, T, h1, h2, h3, h4, h5, h6⟩ := hf
  have hlt := zL_lt hL9 (by omega)
  have hv : zF G (mem o) o ci k = .int (Int32.ofInt (mem o k)) := by
    rcases ht9 with h | h <;> simp only [zF, h5, h]
  have hn : ¬ zlong o (k : Int) := fun q => by rw [zlong_fld hL9, h5] at q; omega
  exact va_get C.1 C.2.1 C.2.2.2.2.1 h2 C.2.2.2.1 hK hP o (by rw [zC_get hlt, zE_obj hL9 h4]) h1 k h3 (C.2.2.2.2.1 _ h6) (fun _ h9 => h9) (v := .int (Int32.ofInt (mem o k))) (by rw [zfs_get h3, hv]) hd (kk p e s m args below meth c H locs lsA C hE hX hK hI hP hS hL ol (os.tl.co ((om o k).2 hn)) om)
theorem r_getJ {index ci k o : Nat} (hf : zFd own index ci k 1) (hL9 : zL o = (ci, zNf ci)) (hd : decode cc pc = .ok (.getfield index, 3)) (kk : SW l G R own cc nL ret Z kc ks Ex (pc + 3) ls (zJ (mem o k) :: st) mem) : SW l G R own cc nL ret Z kc ks Ex pc ls (zR o :: st) mem := by
  intro p e s m args below meth c H locs lsA C hE hX hK hI hP hS hL ol os om
  obtain ⟨C9, T, h1, h2, h3, h4, h5, h6⟩ := hf
  have hlt := zL_lt hL9 (by omega)
  have hv : zF G (mem o) o ci k = .long (Int64.ofInt (mem o k)) := by simp only [zF, h5]
  have hn : zlong o (k : Int) := (zlong_fld hL9).mpr h5
  exact va_get C.1 C.2.1 C.2.2.2.2.1 h2 C.2.2.2.1 hK hP o (by rw [zC_get hlt, zE_obj hL9 h4]) h1 k h3 (C.2.2.2.2.1 _ h6) (fun _ h9 => h9) (v := .long (Int64.ofInt (mem o k))) (by rw [zfs_get h3, hv]) hd (kk p e s m args below meth c H locs lsA C hE hX hK hI hP hS hL ol (os.tl.co ((om o k).1 hn)) om)
theorem r_getR {index ci k o q : Nat} (hf : zFd own index ci k 2) (hL9 : zL o = (ci, zNf ci)) (hq : zRf o k = q) (hd : decode cc pc = .ok (.getfield index, 3)) (kk : SW l G R own cc nL ret Z kc ks Ex (pc + 3) ls (zR q :: st) mem) : SW l G R own cc nL ret Z kc ks Ex pc ls (zR o :: st) mem := by
  intro p e s m args below meth c H locs lsA C hE hX hK hI hP hS hL ol os om
  subst hq
  obtain ⟨C9, T, h1, h2, h3, h4, h5, h6⟩ := hf
  have hlt := zL_lt hL9 (by omega)
  have hv : zF G (mem o) o ci k = .ref (G.2.2.1 (zRf o k)) := by simp only [zF, h5]
  exact va_get C.1 C.2.1 C.2.2.2.2.1 h2 C.2.2.2.1 hK hP o (by rw [zC_get hlt, zE_obj hL9 h4]) h1 k h3 (C.2.2.2.2.1 _ h6) (fun _ h9 => h9) (v := .ref (G.2.2.1 (zRf o k))) (by rw [zfs_get h3, hv]) hd (kk p e s m args below meth c H locs lsA C hE hX hK hI hP hS hL ol (os.tl.co trivial) om)
theorem r_putI {index ci k o : Nat} {x : Int} (hf : zFp own index ci k 0) (hL9 : zL o = (ci, zNf ci)) (hd : decode cc pc = .ok (.putfield index, 3)) (kk : SW l G R own cc nL ret Z kc ks Ex (pc + 3) ls st (zs mem o k x)) : SW l G R own cc nL ret Z kc ks Ex pc ls (zI x :: zR o :: st) mem := by
  intro p e s m args below meth c H locs lsA C hE hX hK hI hP hS hL ol os om
  obtain ⟨C9, T, ty0, h1, h2, h2a, h2b, h3, h4, h5, h6, h7, h8⟩ := hf
  have hlt := zL_lt hL9 (by omega)
  have hn : ¬ zlong o (k : Int) := fun q => by rw [zlong_fld hL9, h5] at q; cases q
  refine va_put C.1 C.2.1 C.2.2.2.2.1 h2 ty0 h2a h2b C.2.2.2.1 hK hP (zD_of hI mem) hS o (by rw [zC_get hlt, zE_obj hL9 h4]) h1 k h3 (C.2.2.2.2.1 _ h6) (fun _ h9 => h9) h7 (v := .int (Int32.ofInt x)) h8 rfl rfl (by simpa using h3) hd (fun H1 locs1 hP1 hD1 hS1 => ?_)
  have hset : (zC G mem).set o (G.2.2.1 o, .inr (ci, ((List.range (zNf ci)).map (fun k => zF G (mem o) o ci k)).set k (.int (Int32.ofInt x)))) = zC G (zs mem o k x) := by
    refine zC_set ?_ (fun o' h => zr_n h)
    rw [zE_obj hL9 h4]
    show _ = Sum.inr (ci, (List.range (zNf ci)).map (fun k9 => zF G (zr mem o (zu (mem o) k x) o) o ci k9))
    rw [zr_s, zfs_set (x := x) h3]
    simp only [zF, h5, zu_s]
  rw [hset] at hP1
  exact kk p e s m args below meth c H1 locs1 lsA C hE hX hK hI hP1 hS1 hL ol os.tl.tl (om.set (fun q => absurd q hn) (fun _ => os.hd))
theorem r_putZ {index ci k o : Nat} {x : Int} (hf : zFp own index ci k 3) (hL9 : zL o = (ci, zNf ci)) (h01 : x = 0 ∨ x = 1) (hd : decode cc pc = .ok (.putfield index, 3)) (kk : SW l G R own cc nL ret Z kc ks Ex (pc + 3) ls st (zs mem o k x)) : SW l G R own cc nL ret Z kc ks Ex pc ls (zI x :: zR o :: st) mem := by
  intro p e s m args below meth c H locs lsA C hE hX hK hI hP hS hL ol os om
  obtain ⟨C9, T, ty0, h1, h2, h2a, h2b, h3, h4, h5, h6, h7, h8⟩ := hf
  have hlt := zL_lt hL9 (by omega)
  have hn : ¬ zlong o (k : Int) := fun q => by rw [zlong_fld hL9, h5] at q; cases q
  refine va_put C.1 C.2.1 C.2.2.2.2.1 h2 ty0 h2a h2b C.2.2.2.1 hK hP (zD_of hI mem) hS o (by rw [zC_get hlt, zE_obj hL9 h4]) h1 k h3 (C.2.2.2.2.1 _ h6) (fun _ h9 => h9) h7 (v := .int (Int32.ofInt x)) h8 (by rcases h01 with rfl | rfl <;> decide) (by rcases h01 with rfl | rfl <;> decide) (by simpa using h3) hd (fun H1 locs1 hP1 hD1 hS1 => ?_)
  have hset : (zC G mem).set o (G.2.2.1 o, .inr (ci, ((List.range (zNf ci)).map (fun k => zF G (mem o) o ci k)).set k (.int (Int32.ofInt x)))) = zC G (zs mem o k x) := by
    refine zC_set ?_ (fun o' h => zr_n h)
    rw [zE_obj hL9 h4]
    show _ = Sum.inr (ci, (List.range (zNf ci)).map (fun k9 => zF G (zr mem o (zu (mem o) k x) o) o ci k9))
    rw [zr_s, zfs_set (x := x) h3]
    simp only [zF, h5, zu_s]
  rw [hset] at hP1
  exact kk p e s m args below meth c H1 locs1 lsA C hE hX hK hI hP1 hS1 hL ol os.tl.tl (om.set (fun q => absurd q hn) (fun _ => os.hd))
theorem r_putJ {index ci k o : Nat} {x : Int} (hf : zFp own index ci k 1) (hL9 : zL o = (ci, zNf ci)) (hd : decode cc pc = .ok (.putfield index, 3)) (kk : SW l G R own cc nL ret Z kc ks Ex (pc + 3) ls st (zs mem o k x)) : SW l G R own cc nL ret Z kc ks Ex pc ls (zJ x :: zR o :: st) mem := by
  intro p e s m args below meth c H locs lsA C hE hX hK hI hP hS hL ol os om
  obtain ⟨C9, T, ty0, h1, h2, h2a, h2b, h3, h4, h5, h6, h7, h8⟩ := hf
  have hlt := zL_lt hL9 (by omega)
  have hn : zlong o (k : Int) := (zlong_fld hL9).mpr h5
  refine va_put C.1 C.2.1 C.2.2.2.2.1 h2 ty0 h2a h2b C.2.2.2.1 hK hP (zD_of hI mem) hS o (by rw [zC_get hlt, zE_obj hL9 h4]) h1 k h3 (C.2.2.2.2.1 _ h6) (fun _ h9 => h9) h7 (v := .long (Int64.ofInt x)) h8 rfl rfl (by simpa using h3) hd (fun H1 locs1 hP1 hD1 hS1 => ?_)
  have hset : (zC G mem).set o (G.2.2.1 o, .inr (ci, ((List.range (zNf ci)).map (fun k => zF G (mem o) o ci k)).set k (.long (Int64.ofInt x)))) = zC G (zs mem o k x) := by
    refine zC_set ?_ (fun o' h => zr_n h)
    rw [zE_obj hL9 h4]
    show _ = Sum.inr (ci, (List.range (zNf ci)).map (fun k9 => zF G (zr mem o (zu (mem o) k x) o) o ci k9))
    rw [zr_s, zfs_set (x := x) h3]
    simp only [zF, h5, zu_s]
  rw [hset] at hP1
  exact kk p e s m args below meth c H1 locs1 lsA C hE hX hK hI hP1 hS1 hL ol os.tl.tl (om.set (fun _ => os.hd) (fun q => absurd hn q))
theorem z_upd {r : Int → Int} {i x : Int} (h0 : 0 ≤ i) (h1 : i < 2147483648) {v : Int32} (hv : v = Int32.ofInt x) : upd (fun k : Nat => Int32.ofInt (r (k : Int))) (Int32.ofInt i).toNatClampNeg v = fun k : Nat => Int32.ofInt (zu r i x (k : Int)) := by
  subst hv
  funext j
  rw [zo_clamp h0 h1]
  unfold upd zu
  by_cases h : j = i.toNat
  · rw [if_pos h, if_pos (by omega)]
  · rw [if_neg h, if_neg (by omega)]
theorem r_iald {o n : Nat} {i : Int} (hL9 : zL o = (10, n)) (h0 : 0 ≤ i) (h1 : i < (n : Int)) (hd : decode cc pc = .ok (.iaload, 1)) (kk : SW l G R own cc nL ret Z kc ks Ex (pc + 1) ls (zI (mem o i) :: st) mem) : SW l G R own cc nL ret Z kc ks Ex pc ls (zI i :: zR o :: st) mem := by
  intro p e s m args below meth c H locs lsA C hE hX hK hI hP hS hL ol os om
  have hlt := zL_lt hL9 (by decide)
  have hv : Int32.ofInt (mem o ((Int32.ofInt i).toNatClampNeg : Int)) = Int32.ofInt (mem o i) := by rw [zo_clamp h0 (os.hd).2, Int.toNat_of_nonneg h0]
  have k9 := kk p e s m args below meth c H locs lsA C hE hX hK hI hP hS hL ol (os.tl.tl.co ((om o i).2 (zlong_arr hL9 (by decide)))) om
  refine va_iald C.1 C.2.1 hK hP o 0 (by rw [zC_get hlt, zE_int hL9]) rfl (zo_in h0 h1 os.hd) hd ?_
  show W p l e R s m args below meth c H locs kc ks (Z below args s) (F0 m (pc + 1) lsA (.int (Int32.ofInt (mem o ((Int32.ofInt i).toNatClampNeg : Int))) :: st.map (zv G)))
  rw [hv]
  exact k9
theorem r_bald {o n : Nat} {i : Int} (hL9 : zL o = (11, n)) (h0 : 0 ≤ i) (h1 : i < (n : Int)) (hd : decode cc pc = .ok (.baload, 1)) (kk : SW l G R own cc nL ret Z kc ks Ex (pc + 1) ls (zI (mem o i) :: st) mem) : SW l G R own cc nL ret Z kc ks Ex pc ls (zI i :: zR o :: st) mem := by
  intro p e s m args below meth c H locs lsA C hE hX hK hI hP hS hL ol os om
  have hlt := zL_lt hL9 (by decide)
  have hv : Int32.ofInt (mem o ((Int32.ofInt i).toNatClampNeg : Int)) = Int32.ofInt (mem o i) := by rw [zo_clamp h0 (os.hd).2, Int.toNat_of_nonneg h0]
  have k9 := kk p e s m args below meth c H locs lsA C hE hX hK hI hP hS hL ol (os.tl.tl.co ((om o i).2 (zlong_arr hL9 (by decide)))) om
  refine va_bald C.1 C.2.1 hK hP o 1 (by rw [zC_get hlt, zE_byte hL9]) rfl (zo_in h0 h1 os.hd) hd ?_
  show W p l e R s m args below meth c H locs kc ks (Z below args s) (F0 m (pc + 1) lsA (.int (Int32.ofInt (mem o ((Int32.ofInt i).toNatClampNeg : Int))) :: st.map (zv G)))
  rw [hv]
  exact k9
theorem r_zald {o n : Nat} {i : Int} (hL9 : zL o = (12, n)) (h0 : 0 ≤ i) (h1 : i < (n : Int)) (hd : decode cc pc = .ok (.baload, 1)) (kk : SW l G R own cc nL ret Z kc ks Ex (pc + 1) ls (zI (mem o i) :: st) mem) : SW l G R own cc nL ret Z kc ks Ex pc ls (zI i :: zR o :: st) mem := by
  intro p e s m args below meth c H locs lsA C hE hX hK hI hP hS hL ol os om
  have hlt := zL_lt hL9 (by decide)
  have hv : Int32.ofInt (mem o ((Int32.ofInt i).toNatClampNeg : Int)) = Int32.ofInt (mem o i) := by rw [zo_clamp h0 (os.hd).2, Int.toNat_of_nonneg h0]
  have k9 := kk p e s m args below meth c H locs lsA C hE hX hK hI hP hS hL ol (os.tl.tl.co ((om o i).2 (zlong_arr hL9 (by decide)))) om
  refine va_zald C.1 C.2.1 hK hP o 2 (by rw [zC_get hlt, zE_bool hL9]) rfl (zo_in h0 h1 os.hd) hd ?_
  show W p l e R s m args below meth c H locs kc ks (Z below args s) (F0 m (pc + 1) lsA (.int (Int32.ofInt (mem o ((Int32.ofInt i).toNatClampNeg : Int))) :: st.map (zv G)))
  rw [hv]
  exact k9
theorem r_iast {o n : Nat} {i x : Int} (hL9 : zL o = (10, n)) (h0 : 0 ≤ i) (h1 : i < (n : Int))  (hd : decode cc pc = .ok (.iastore, 1)) (kk : SW l G R own cc nL ret Z kc ks Ex (pc + 1) ls st (zs mem o i (x))) : SW l G R own cc nL ret Z kc ks Ex pc ls (zI x :: zI i :: zR o :: st) mem := by
  intro p e s m args below meth c H locs lsA C hE hX hK hI hP hS hL ol os om
  have hlt := zL_lt hL9 (by decide)
  refine va_iast C.1 C.2.1 hK hP (zD_of hI mem) hS o 0 (by rw [zC_get hlt, zE_int hL9]) rfl (zo_in h0 h1 os.tl.hd) hd (fun H1 locs1 hP1 hD1 hS1 => ?_)
  rw [z_upd (x := x) h0 (os.tl.hd).2 (rfl)] at hP1
  rw [zC_set (mem' := zs mem o i (x)) (by rw [zE_int hL9]; show _ = Sum.inl (_, _, Sum.inl (fun k : Nat => Int32.ofInt (zr mem o (zu (mem o) i (x)) o (k : Int)))); rw [zr_s]) (fun o' h => zr_n h)] at hP1
  exact kk p e s m args below meth c H1 locs1 lsA C hE hX hK hI hP1 hS1 hL ol os.tl.tl.tl (om.set (fun q => absurd q (zlong_arr hL9 (by decide))) (fun _ => os.hd))
theorem r_bast {o n : Nat} {i x : Int} (hL9 : zL o = (11, n)) (h0 : 0 ≤ i) (h1 : i < (n : Int))  (hd : decode cc pc = .ok (.bastore, 1)) (kk : SW l G R own cc nL ret Z kc ks Ex (pc + 1) ls st (zs mem o i (zi2b x))) : SW l G R own cc nL ret Z kc ks Ex pc ls (zI x :: zI i :: zR o :: st) mem := by
  intro p e s m args below meth c H locs lsA C hE hX hK hI hP hS hL ol os om
  have hlt := zL_lt hL9 (by decide)
  refine va_bast C.1 C.2.1 hK hP (zD_of hI mem) hS o 1 (by rw [zC_get hlt, zE_byte hL9]) rfl (zo_in h0 h1 os.tl.hd) hd (fun H1 locs1 hP1 hD1 hS1 => ?_)
  rw [z_upd (x := zi2b x) h0 (os.tl.hd).2 (by rw [zi2b, zo_i]; exact vp_nar_byte _)] at hP1
  rw [zC_set (mem' := zs mem o i (zi2b x)) (by rw [zE_byte hL9]; show _ = Sum.inl (_, _, Sum.inl (fun k : Nat => Int32.ofInt (zr mem o (zu (mem o) i (zi2b x)) o (k : Int)))); rw [zr_s]) (fun o' h => zr_n h)] at hP1
  exact kk p e s m args below meth c H1 locs1 lsA C hE hX hK hI hP1 hS1 hL ol os.tl.tl.tl (om.set (fun q => absurd q (zlong_arr hL9 (by decide))) (fun _ => zi_in _))
theorem r_zast {o n : Nat} {i x : Int} (hL9 : zL o = (12, n)) (h0 : 0 ≤ i) (h1 : i < (n : Int)) (h01 : x = 0 ∨ x = 1) (hd : decode cc pc = .ok (.bastore, 1)) (kk : SW l G R own cc nL ret Z kc ks Ex (pc + 1) ls st (zs mem o i (x))) : SW l G R own cc nL ret Z kc ks Ex pc ls (zI x :: zI i :: zR o :: st) mem := by
  intro p e s m args below meth c H locs lsA C hE hX hK hI hP hS hL ol os om
  have hlt := zL_lt hL9 (by decide)
  refine va_zast C.1 C.2.1 hK hP (zD_of hI mem) hS o 2 (by rw [zC_get hlt, zE_bool hL9]) rfl (zo_in h0 h1 os.tl.hd) hd (fun H1 locs1 hP1 hD1 hS1 => ?_)
  rw [z_upd (x := x) h0 (os.tl.hd).2 (by rcases h01 with rfl | rfl <;> decide)] at hP1
  rw [zC_set (mem' := zs mem o i (x)) (by rw [zE_bool hL9]; show _ = Sum.inl (_, _, Sum.inl (fun k : Nat => Int32.ofInt (zr mem o (zu (mem o) i (x)) o (k : Int)))); rw [zr_s]) (fun o' h => zr_n h)] at hP1
  exact kk p e s m args below meth c H1 locs1 lsA C hE hX hK hI hP1 hS1 hL ol os.tl.tl.tl (om.set (fun q => absurd q (zlong_arr hL9 (by decide))) (fun _ => os.hd))
theorem r_aaldM {o n q : Nat} {i : Int} (hL9 : zL o = (13, n)) (h0 : 0 ≤ i) (h1 : i < (n : Int)) (hq : zRf o i.toNat = q) (hd : decode cc pc = .ok (.aaload, 1)) (kk : SW l G R own cc nL ret Z kc ks Ex (pc + 1) ls (zR q :: st) mem) : SW l G R own cc nL ret Z kc ks Ex pc ls (zI i :: zR o :: st) mem := by
  intro p e s m args below meth c H locs lsA C hE hX hK hI hP hS hL ol os om
  subst hq
  have hlt := zL_lt hL9 (by decide)
  have k9 := kk p e s m args below meth c H locs lsA C hE hX hK hI hP hS hL ol (os.tl.tl.co trivial) om
  refine va_aldq C.1 C.2.1 hK hP o 3 (by rw [zC_get hlt, zE_img hL9]) rfl (zo_in h0 h1 os.hd) hd ?_
  show W p l e R s m args below meth c H locs kc ks (Z below args s) (F0 m (pc + 1) lsA (.ref (G.2.2.1 (zRf o ((Int32.ofInt i).toNatClampNeg))) :: st.map (zv G)))
  rw [zo_clamp h0 (os.hd).2]
  exact k9
theorem r_aaldS {o n q : Nat} {i : Int} (hL9 : zL o = (14, n)) (h0 : 0 ≤ i) (h1 : i < (n : Int)) (hq : zRf o i.toNat = q) (hd : decode cc pc = .ok (.aaload, 1)) (kk : SW l G R own cc nL ret Z kc ks Ex (pc + 1) ls (zR q :: st) mem) : SW l G R own cc nL ret Z kc ks Ex pc ls (zI i :: zR o :: st) mem := by
  intro p e s m args below meth c H locs lsA C hE hX hK hI hP hS hL ol os om
  subst hq
  have hlt := zL_lt hL9 (by decide)
  have k9 := kk p e s m args below meth c H locs lsA C hE hX hK hI hP hS hL ol (os.tl.tl.co trivial) om
  refine va_aldq C.1 C.2.1 hK hP o 4 (by rw [zC_get hlt, zE_sht hL9]) rfl (zo_in h0 h1 os.hd) hd ?_
  show W p l e R s m args below meth c H locs kc ks (Z below args s) (F0 m (pc + 1) lsA (.ref (G.2.2.1 (zRf o ((Int32.ofInt i).toNatClampNeg))) :: st.map (zv G)))
  rw [zo_clamp h0 (os.hd).2]
  exact k9
theorem r_alen {o n : Nat} (hL9 : zL o = (10, n)) (hn9 : zin32 (n : Int)) (hd : decode cc pc = .ok (.arraylength, 1)) (kk : SW l G R own cc nL ret Z kc ks Ex (pc + 1) ls (zI (n : Int) :: st) mem) : SW l G R own cc nL ret Z kc ks Ex pc ls (zR o :: st) mem := by
  intro p e s m args below meth c H locs lsA C hE hX hK hI hP hS hL ol os om
  have hlt := zL_lt hL9 (by decide)
  exact va_alen C.1 C.2.1 hK hP o 0 (by rw [zC_get hlt, zE_int hL9]) rfl (v := Int32.ofInt (n : Int)) rfl hd (kk p e s m args below meth c H locs lsA C hE hX hK hI hP hS hL ol (os.tl.co hn9) om)
theorem r_alenZ {o n : Nat} (hL9 : zL o = (12, n)) (hn9 : zin32 (n : Int)) (hd : decode cc pc = .ok (.arraylength, 1)) (kk : SW l G R own cc nL ret Z kc ks Ex (pc + 1) ls (zI (n : Int) :: st) mem) : SW l G R own cc nL ret Z kc ks Ex pc ls (zR o :: st) mem := by
  intro p e s m args below meth c H locs lsA C hE hX hK hI hP hS hL ol os om
  have hlt := zL_lt hL9 (by decide)
  exact va_alen C.1 C.2.1 hK hP o 2 (by rw [zC_get hlt, zE_bool hL9]) rfl (v := Int32.ofInt (n : Int)) rfl hd (kk p e s m args below meth c H locs lsA C hE hX hK hI hP hS hL ol (os.tl.co hn9) om)
theorem r_alenM {o n : Nat} (hL9 : zL o = (13, n)) (hn9 : zin32 (n : Int)) (hd : decode cc pc = .ok (.arraylength, 1)) (kk : SW l G R own cc nL ret Z kc ks Ex (pc + 1) ls (zI (n : Int) :: st) mem) : SW l G R own cc nL ret Z kc ks Ex pc ls (zR o :: st) mem := by
  intro p e s m args below meth c H locs lsA C hE hX hK hI hP hS hL ol os om
  have hlt := zL_lt hL9 (by decide)
  exact va_alen C.1 C.2.1 hK hP o 3 (by rw [zC_get hlt, zE_img hL9]) rfl (v := Int32.ofInt (n : Int)) rfl hd (kk p e s m args below meth c H locs lsA C hE hX hK hI hP hS hL ol (os.tl.co hn9) om)
end
