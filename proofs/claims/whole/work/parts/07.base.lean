/-! ===== values, memory, layout ===== -/
/-- what a slot holds: an int, a long, a cell by its place, or nothing that is known -/
abbrev zV : Type := Int ⊕ (Int ⊕ (Nat ⊕ Unit))
abbrev zI (x : Int) : zV := Sum.inl x
abbrev zJ (x : Int) : zV := Sum.inr (Sum.inl x)
abbrev zR (n : Nat) : zV := Sum.inr (Sum.inr (Sum.inl n))
abbrev zU : zV := Sum.inr (Sum.inr (Sum.inr ()))
/-- the numbers of all cells: place, slot -/
abbrev zM : Type := Nat → Int → Int
/-- class numbers, slots, addresses of the places, classes of the arrays -/
abbrev zG : Type := (Nat → ClassId) × (Nat → Nat → Nat) × (Nat → Nat) × (Nat → ClassId)
def zin32 (x : Int) : Prop := -2147483648 ≤ x ∧ x < 2147483648
def zin64 (x : Int) : Prop := -9223372036854775808 ≤ x ∧ x < 9223372036854775808
def zw (x : Int) : Int := (x + 2147483648) % 4294967296 - 2147483648
def zw64 (x : Int) : Int := (x + 9223372036854775808) % 18446744073709551616 - 9223372036854775808
/-- places: (kind, size): a class's number, or 10 int[], 11 byte[], 12 boolean[], 13 Image[], 14 Sheet[] -/
def zLl : List (Nat × Nat) := [(5, 9), (0, 11), (10, 5), (10, 5), (10, 25), (10, 6), (10, 6), (10, 6), (0, 11), (10, 5), (10, 5), (10, 25), (10, 6), (10, 6), (10, 6), (4, 4), (10, 6), (10, 6), (10, 6), (13, 2), (1, 3), (0, 11), (10, 5), (10, 5), (10, 25), (10, 6), (10, 6), (10, 6), (4, 4), (10, 6), (10, 6), (10, 6), (1, 3), (0, 11), (10, 5), (10, 5), (10, 25), (10, 6), (10, 6), (10, 6), (4, 4), (10, 6), (10, 6), (10, 6), (14, 4), (3, 3), (10, 40), (3, 3), (10, 40), (3, 3), (10, 40), (3, 3), (10, 40), (2, 15), (11, 160), (0, 11), (10, 5), (10, 5), (10, 25), (10, 6), (10, 6), (10, 6), (12, 25), (10, 420), (10, 40), (6, 29), (10, 228), (10, 76), (12, 2), (10, 76), (10, 160), (10, 105), (10, 420), (10, 4), (10, 4), (10, 160), (10, 76)]
def zL (o : Nat) : Nat × Nat := zLl.getD o (99, 0)
def zRl : List (List Nat) := [[1, 8, 15, 19, 44, 53, 63, 64, 0], [0, 2, 3, 4, 0, 5, 6, 7, 0, 0, 0], [], [], [], [], [], [], [0, 9, 10, 11, 0, 12, 13, 14, 0, 0, 0], [], [], [], [], [], [], [0, 16, 17, 18], [], [], [], [20, 32], [0, 21, 28], [0, 22, 23, 24, 0, 25, 26, 27, 0, 0, 0], [], [], [], [], [], [], [0, 29, 30, 31], [], [], [], [0, 33, 40], [0, 34, 35, 36, 0, 37, 38, 39, 0, 0, 0], [], [], [], [], [], [], [0, 41, 42, 43], [], [], [], [45, 47, 49, 51], [0, 0, 46], [], [0, 0, 48], [], [0, 0, 50], [], [0, 0, 52], [], [54, 0, 55, 0, 0, 0, 62, 0, 0, 0, 0, 0, 0, 0, 0], [], [0, 56, 57, 58, 0, 59, 60, 61, 0, 0, 0], [], [], [], [], [], [], [], [], [], [66, 67, 68, 0, 69, 0, 0, 0, 0, 70, 0, 0, 0, 0, 0, 0, 0, 0, 0, 0, 0, 0, 71, 72, 73, 74, 75, 0, 76], [], [], [], [], [], [], [], [], [], [], []]
def zRf (o k : Nat) : Nat := (zRl.getD o []).getD k 0
/-- a field's sort: 0 int, 1 long, 2 a cell, 3 boolean -/
def zTl : List (List Nat) := [[0, 2, 2, 2, 0, 2, 2, 2, 0, 0, 0], [3, 2, 2], [2, 0, 2, 0, 0, 0, 2, 3, 0, 0, 0, 0, 0, 0, 0], [0, 0, 2], [0, 2, 2, 2], [2, 2, 2, 2, 2, 2, 2, 2, 0], [2, 2, 2, 0, 2, 0, 3, 0, 0, 2, 0, 0, 0, 0, 0, 0, 0, 0, 0, 1, 1, 1, 2, 2, 2, 2, 2, 0, 2]]
def zT (ci k : Nat) : Nat := (zTl.getD ci []).getD k 0
def zv (G : zG) : zV → Value
  | .inl x => .int (Int32.ofInt x)
  | .inr (.inl x) => .long (Int64.ofInt x)
  | .inr (.inr (.inl n)) => .ref (G.2.2.1 n)
  | .inr (.inr (.inr _)) => .null
def zok : zV → Prop
  | .inl x => zin32 x
  | .inr (.inl x) => zin64 x
  | _ => True
def zokL (l : List zV) : Prop := ∀ v ∈ l, zok v
def zlong (o : Nat) (k : Int) : Prop := ∃ n : Nat, k = (n : Int) ∧ zT (zL o).1 n = 1
def zokM (mem : zM) : Prop := ∀ (o : Nat) (k : Int), (zlong o k → zin64 (mem o k)) ∧ (¬ zlong o k → zin32 (mem o k))
def zF (G : zG) (r : Int → Int) (o ci k : Nat) : Value := match zT ci k with
  | 1 => .long (Int64.ofInt (r k))
  | 2 => .ref (G.2.2.1 (zRf o k))
  | _ => .int (Int32.ofInt (r k))
def zE (G : zG) (r : Int → Int) (o : Nat) : va_E := match (zL o).1 with
  | 10 => .inl (G.2.2.2 0, (zL o).2, .inl (fun k => Int32.ofInt (r k)))
  | 11 => .inl (G.2.2.2 1, (zL o).2, .inl (fun k => Int32.ofInt (r k)))
  | 12 => .inl (G.2.2.2 2, (zL o).2, .inl (fun k => Int32.ofInt (r k)))
  | 13 => .inl (G.2.2.2 3, (zL o).2, .inr (.inr (.inr (.inr (fun k => some (G.2.2.1 (zRf o k)))))))
  | 14 => .inl (G.2.2.2 4, (zL o).2, .inr (.inr (.inr (.inr (fun k => some (G.2.2.1 (zRf o k)))))))
  | ci => .inr (ci, (List.range (zL o).2).map (fun k => zF G r o ci k))
abbrev zN : Nat := 77
def zC (G : zG) (mem : zM) : va_W := (List.range zN).map (fun o => (G.2.2.1 o, zE G (mem o) o))
def zA (G : zG) : Nat → Prop := fun q => ∃ o, o < zN ∧ q = G.2.2.1 o
def zInj (G : zG) : Prop := ∀ i j, i < zN → j < zN → G.2.2.1 i = G.2.2.1 j → i = j
abbrev zTy (G : zG) : List (ClassId × FieldType) := [(G.2.2.2 0, .int), (G.2.2.2 1, .byte), (G.2.2.2 2, .boolean), (G.2.2.2 3, .object "TemperIsles$Image"), (G.2.2.2 4, .object "TemperIsles$Sheet")]
abbrev zD (G : zG) : va_G := (G.1, G.2.1)
def zu (f : Int → Int) (k v : Int) : Int → Int := fun j => if j = k then v else f j
def zr (mem : zM) (o : Nat) (r : Int → Int) : zM := fun o' => if o' = o then r else mem o'
def zs (mem : zM) (o : Nat) (k v : Int) : zM := zr mem o (zu (mem o) k v)
theorem zr_s {mem : zM} {o : Nat} {r : Int → Int} : zr mem o r o = r := if_pos rfl
theorem zr_n {mem : zM} {o o' : Nat} {r : Int → Int} (h : o' ≠ o) : zr mem o r o' = mem o' := if_neg h
theorem zu_s {f : Int → Int} {k v : Int} : zu f k v k = v := if_pos rfl
theorem zu_n {f : Int → Int} {k v j : Int} (h : j ≠ k) : zu f k v j = f j := if_neg h
theorem zC_get {G : zG} {mem : zM} {o : Nat} (h : o < zN) : (zC G mem)[o]? = some (G.2.2.1 o, zE G (mem o) o) := by
  simp [zC, h]
theorem zC_len {G : zG} {mem : zM} : (zC G mem).length = zN := by simp [zC]
theorem zC_set {G : zG} {mem mem' : zM} {o : Nat} {e : va_E} (he : e = zE G (mem' o) o) (hn : ∀ o', o' ≠ o → mem' o' = mem o') : (zC G mem).set o (G.2.2.1 o, e) = zC G mem' := by
  subst he
  apply List.ext_getElem?
  intro i
  by_cases hi : i < zN
  · by_cases h : i = o
    · subst h
      rw [List.getElem?_set_self (by rw [zC_len]; exact hi), zC_get hi]
    · rw [List.getElem?_set_ne (fun q => h q.symm), zC_get hi, zC_get hi, hn i h]
  · rw [List.getElem?_eq_none (by rw [List.length_set, zC_len]; omega), List.getElem?_eq_none (by rw [zC_len]; omega)]
theorem zD_of {G : zG} (h : zInj G) (mem : zM) : va_D (zA G) (zC G mem) := by
  have key : ∀ (i : Nat) (p : Nat × va_E), (zC G mem)[i]? = some p → i < zN ∧ p.1 = G.2.2.1 i := by
    intro i p hp
    have hi : i < zN := by rw [← zC_len (G := G) (mem := mem)]; exact (List.getElem?_eq_some_iff.mp hp).1
    rw [zC_get hi] at hp
    cases hp
    exact ⟨hi, rfl⟩
  refine ⟨fun i j p q hi hj hpq => ?_, fun k q hk => ?_⟩
  · obtain ⟨a1, a2⟩ := key i p hi
    obtain ⟨b1, b2⟩ := key j q hj
    exact h i j a1 b1 (by rw [← a2, ← b2]; exact hpq)
  · obtain ⟨a1, a2⟩ := key k q hk
    exact ⟨k, a1, a2⟩
theorem zL_lt {o ci n : Nat} (h : zL o = (ci, n)) (h9 : ci ≠ 99) : o < zN := by
  have hlen : zLl.length = zN := by decide
  rcases Nat.lt_or_ge o zN with q | q
  · exact q
  · have : zL o = (99, 0) := by
      unfold zL
      rw [List.getD_eq_getElem?_getD, List.getElem?_eq_none (by omega)]
      rfl
    rw [this] at h
    cases h
    exact absurd rfl h9
theorem zE_int {G : zG} {r : Int → Int} {o n : Nat} (h : zL o = (10, n)) : zE G r o = .inl (G.2.2.2 0, n, .inl (fun k => Int32.ofInt (r k))) := by simp only [zE, h]
theorem zE_byte {G : zG} {r : Int → Int} {o n : Nat} (h : zL o = (11, n)) : zE G r o = .inl (G.2.2.2 1, n, .inl (fun k => Int32.ofInt (r k))) := by simp only [zE, h]
theorem zE_bool {G : zG} {r : Int → Int} {o n : Nat} (h : zL o = (12, n)) : zE G r o = .inl (G.2.2.2 2, n, .inl (fun k => Int32.ofInt (r k))) := by simp only [zE, h]
theorem zE_img {G : zG} {r : Int → Int} {o n : Nat} (h : zL o = (13, n)) : zE G r o = .inl (G.2.2.2 3, n, .inr (.inr (.inr (.inr (fun k => some (G.2.2.1 (zRf o k))))))) := by simp only [zE, h]
theorem zE_sht {G : zG} {r : Int → Int} {o n : Nat} (h : zL o = (14, n)) : zE G r o = .inl (G.2.2.2 4, n, .inr (.inr (.inr (.inr (fun k => some (G.2.2.1 (zRf o k))))))) := by simp only [zE, h]
theorem zE_obj {G : zG} {r : Int → Int} {o ci n : Nat} (h : zL o = (ci, n)) (hc : ci < 7) : zE G r o = .inr (ci, (List.range n).map (fun k => zF G r o ci k)) := by
  match ci, hc with
  | 0, _ => simp only [zE, h]
  | 1, _ => simp only [zE, h]
  | 2, _ => simp only [zE, h]
  | 3, _ => simp only [zE, h]
  | 4, _ => simp only [zE, h]
  | 5, _ => simp only [zE, h]
  | 6, _ => simp only [zE, h]
/-! ===== numbers ===== -/
theorem zw_bmod (x : Int) : zw x = x.bmod (2 ^ 32) := by
  rw [Int.bmod_def]
  unfold zw
  split <;> omega
theorem zw64_bmod (x : Int) : zw64 x = x.bmod (2 ^ 64) := by
  rw [Int.bmod_def]
  unfold zw64
  split <;> omega
theorem zw_in (x : Int) : zin32 (zw x) := by unfold zin32 zw; omega
theorem zw64_in (x : Int) : zin64 (zw64 x) := by unfold zin64 zw64; omega
theorem zw_id {x : Int} (h1 : -2147483648 ≤ x) (h2 : x < 2147483648) : zw x = x := by unfold zw; omega
theorem zw64_id {x : Int} (h1 : -9223372036854775808 ≤ x) (h2 : x < 9223372036854775808) : zw64 x = x := by unfold zw64; omega
theorem zw_of {x : Int} (h : zin32 x) : zw x = x := zw_id h.1 h.2
theorem zw64_of {x : Int} (h : zin64 x) : zw64 x = x := zw64_id h.1 h.2
theorem zo_toInt (x : Int) : (Int32.ofInt x).toInt = zw x := by rw [zw_bmod]; exact Int32.toInt_ofInt
theorem zo64_toInt (x : Int) : (Int64.ofInt x).toInt = zw64 x := by rw [zw64_bmod]; exact Int64.toInt_ofInt
theorem zo_w (x : Int) : Int32.ofInt (zw x) = Int32.ofInt x := Int32.toInt_inj.mp (by rw [zo_toInt, zo_toInt, zw_of (zw_in x)])
theorem zo64_w (x : Int) : Int64.ofInt (zw64 x) = Int64.ofInt x := Int64.toInt_inj.mp (by rw [zo64_toInt, zo64_toInt, zw64_of (zw64_in x)])
theorem zo_i (v : Int32) : Int32.ofInt v.toInt = v := Int32.ofInt_toInt v
theorem zo64_i (v : Int64) : Int64.ofInt v.toInt = v := Int64.ofInt_toInt v
theorem zi_in (v : Int32) : zin32 v.toInt := ⟨Int32.le_toInt v, Int32.toInt_lt v⟩
theorem zi64_in (v : Int64) : zin64 v.toInt := ⟨Int64.le_toInt v, Int64.toInt_lt v⟩
theorem zo_add (x y : Int) : Int32.ofInt x + Int32.ofInt y = Int32.ofInt (zw (x + y)) := by rw [zo_w]; exact (Int32.ofInt_add x y).symm
theorem zo_sub (x y : Int) : Int32.ofInt x - Int32.ofInt y = Int32.ofInt (zw (x - y)) := by rw [zo_w]; exact (Int32.ofInt_sub x y).symm
theorem zo_mul (x y : Int) : Int32.ofInt x * Int32.ofInt y = Int32.ofInt (zw (x * y)) := by rw [zo_w]; exact (Int32.ofInt_mul x y).symm
theorem zo_neg (x : Int) : -Int32.ofInt x = Int32.ofInt (zw (-x)) := by rw [zo_w]; exact (Int32.ofInt_neg x).symm
theorem zo64_add (x y : Int) : Int64.ofInt x + Int64.ofInt y = Int64.ofInt (zw64 (x + y)) := by rw [zo64_w]; exact (Int64.ofInt_add x y).symm
theorem zo64_sub (x y : Int) : Int64.ofInt x - Int64.ofInt y = Int64.ofInt (zw64 (x - y)) := by rw [zo64_w]; exact (Int64.ofInt_sub x y).symm
theorem zo64_mul (x y : Int) : Int64.ofInt x * Int64.ofInt y = Int64.ofInt (zw64 (x * y)) := by rw [zo64_w]; exact (Int64.ofInt_mul x y).symm
theorem zo_div {x y : Int} (hx : zin32 x) (hy : zin32 y) : Int32.ofInt x / Int32.ofInt y = Int32.ofInt (zw (x.tdiv y)) := Int32.toInt_inj.mp (by rw [Int32.toInt_div, zo_toInt, zo_toInt, zo_toInt, zw_of hx, zw_of hy, zw_of (zw_in _), zw_bmod])
theorem zo64_div {x y : Int} (hx : zin64 x) (hy : zin64 y) : Int64.ofInt x / Int64.ofInt y = Int64.ofInt (zw64 (x.tdiv y)) := Int64.toInt_inj.mp (by rw [Int64.toInt_div, zo64_toInt, zo64_toInt, zo64_toInt, zw64_of hx, zw64_of hy, zw64_of (zw64_in _), zw64_bmod])
theorem zo_lt {x y : Int} (hx : zin32 x) (hy : zin32 y) : Int32.ofInt x < Int32.ofInt y ↔ x < y := by rw [Int32.lt_iff_toInt_lt, zo_toInt, zo_toInt, zw_of hx, zw_of hy]
theorem zo_le {x y : Int} (hx : zin32 x) (hy : zin32 y) : Int32.ofInt x ≤ Int32.ofInt y ↔ x ≤ y := by rw [Int32.le_iff_toInt_le, zo_toInt, zo_toInt, zw_of hx, zw_of hy]
theorem zo_eq {x y : Int} (hx : zin32 x) (hy : zin32 y) : Int32.ofInt x = Int32.ofInt y ↔ x = y := by rw [← Int32.toInt_inj, zo_toInt, zo_toInt, zw_of hx, zw_of hy]
theorem zo64_lt {x y : Int} (hx : zin64 x) (hy : zin64 y) : Int64.ofInt x < Int64.ofInt y ↔ x < y := by rw [Int64.lt_iff_toInt_lt, zo64_toInt, zo64_toInt, zw64_of hx, zw64_of hy]
theorem zo64_eq {x y : Int} (hx : zin64 x) (hy : zin64 y) : Int64.ofInt x = Int64.ofInt y ↔ x = y := by rw [← Int64.toInt_inj, zo64_toInt, zo64_toInt, zw64_of hx, zw64_of hy]
theorem zin_0 : zin32 0 := by unfold zin32; omega
theorem zin64_0 : zin64 0 := by unfold zin64; omega
theorem zo_nat (n : Nat) : Int32.ofNat n = Int32.ofInt (n : Int) := rfl
theorem zo_clamp {x : Int} (h0 : 0 ≤ x) (h1 : x < 2147483648) : (Int32.ofInt x).toNatClampNeg = x.toNat := by
  show (Int32.ofInt x).toInt.toNat = x.toNat
  rw [zo_toInt, zw_id (by omega) h1]
theorem zo_in {x : Int} {n : Nat} (h0 : 0 ≤ x) (h1 : x < n) (hx : zin32 x) : vp_in (Int32.ofInt x) n := by
  rw [vp_in_iff, zo_toInt, zw_of hx]
  exact ⟨h0, h1⟩
theorem zokL.tl {v : zV} {l : List zV} (h : zokL (v :: l)) : zokL l := fun w hw => h w (List.mem_cons_of_mem _ hw)
theorem zokL.hd {v : zV} {l : List zV} (h : zokL (v :: l)) : zok v := h v List.mem_cons_self
theorem zokL.co {v : zV} {l : List zV} (h : zokL l) (hv : zok v) : zokL (v :: l) := fun w hw => (List.mem_cons.mp hw).elim (fun e => by rw [e]; exact hv) (h w)
theorem zokL.nil : zokL [] := fun w hw => absurd hw List.not_mem_nil
theorem zok_w (x : Int) : zok (zI (zw x)) := zw_in x
theorem zok_w64 (x : Int) : zok (zJ (zw64 x)) := zw64_in x
/-! ===== bits, by the machine's own numbers ===== -/
def zand (x y : Int) : Int := (Int32.ofInt x &&& Int32.ofInt y).toInt
def zor (x y : Int) : Int := (Int32.ofInt x ||| Int32.ofInt y).toInt
def zshl (x y : Int) : Int := (Int32.ofInt x <<< (Int32.ofInt y &&& 31)).toInt
def zshr (x y : Int) : Int := (Int32.ofInt x >>> (Int32.ofInt y &&& 31)).toInt
def zushr (x y : Int) : Int := ((Int32.ofInt x).toUInt32 >>> ((Int32.ofInt y).toUInt32 &&& Int32.toUInt32 31)).toInt32.toInt
def zi2b (x : Int) : Int := (Int32.ofInt x).toInt8.toInt32.toInt
def zi2s (x : Int) : Int := (Int32.ofInt x).toInt16.toInt32.toInt
def zcmp (x y : Int) : Int := if x < y then -1 else if x = y then 0 else 1
