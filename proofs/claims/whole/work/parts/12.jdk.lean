/-! ===== the JDK's small methods ===== -/
theorem CT.of' {l : Launch} {G : zG} {y : MethodName} {own : String} {cc : ByteArray} {nL : Nat} {ret : Option FieldType} {d : Nat} {As ls0 : List zV} {mem : zM} {post : Option zV → zM → Prop} (how : y.cls = own) (hy : plainName y.cls = true) (hn : (zent As).length ≤ nL) (he : zent0 As nL = ls0) (h : SW l G (zrm d) own cc nL ret (zZ G post) 0 0 (fun _ => True) 0 ls0 [] mem) : CT l G y cc nL ret d As mem post := by
  subst how
  subst he
  exact CT.of hy hn h
theorem zP1.ofI {x y : Int} {m : zM} (h : x = y) : zP1 (zI y) m (some (zI x)) m := by rw [h]; exact zP1.i
def zabs (x : Int) : Int := if 0 ≤ x then x else zw (-x)
def zsg (x : Int) : Int := if x < 0 then -1 else if x = 0 then 0 else 1
theorem zsg_or {x : Int} (h : zin32 x) : zor (zshr x 31) (zushr (zw (-x)) 31) = zsg x := by
  have e1 : (Int32.ofInt x >>> (Int32.ofInt 31 &&& 31)).toInt = x >>> 31 := by
    rw [pk_shr (Int32.ofInt x) (Int32.ofInt 31 &&& 31) 31 (by decide), zo_toInt, zw_of h]
  have e1' : zshr x 31 = if x < 0 then -1 else 0 := by
    unfold zshr
    rw [e1, Int.shiftRight_eq_div_pow]
    obtain ⟨h1, h2⟩ := h
    split <;> omega
  have e2 : zushr (zw (-x)) 31 = if 0 < x ∨ x = -2147483648 then 1 else 0 := by
    unfold zushr
    have a1 : (Int32.ofInt (zw (-x))).toInt = zw (-x) := by rw [zo_toInt, zw_of (zw_in _)]
    generalize Int32.ofInt (zw (-x)) = w at a1 ⊢
    have q := pk_ushr w (Int32.ofInt 31) 31 (by decide)
    generalize hz : (w.toUInt32 >>> ((Int32.ofInt 31).toUInt32 &&& Int32.toUInt32 31)).toInt32 = z at q ⊢
    have a3 := w.toBitVec.isLt
    have a2 : w.toBitVec.toInt = zw (-x) := a1
    rw [BitVec.toInt_eq_toNat_cond] at a2
    unfold zw at a2
    obtain ⟨h1, h2⟩ := h
    have hn : (w.toBitVec.toNat : Int) = (-x) % 4294967296 := by
      split at a2 <;> omega
    have hz2 : (z.toBitVec.toNat : Int) = if 0 < x ∨ x = -2147483648 then 1 else 0 := by
      split <;> omega
    have a4 : z.toInt = z.toBitVec.toInt := rfl
    rw [a4, BitVec.toInt_eq_toNat_cond]
    split at hz2 <;> split <;> omega
  rw [e1', e2]
  unfold zsg
  obtain ⟨h1, h2⟩ := h
  by_cases a : x < 0
  · by_cases b : x = -2147483648
    · simp only [a, b, if_true, or_true]; rfl
    · have : ¬ (0 < x ∨ x = -2147483648) := by omega
      simp only [a, this, if_true, if_false]; rfl
  · by_cases b : x = 0
    · have : ¬ (0 < x ∨ x = -2147483648) := by omega
      simp only [a, b, this, if_true, if_false]; rfl
    · have : (0 < x ∨ x = -2147483648) := by omega
      simp only [a, b, this, if_true, if_false]; rfl
def zcp (f g : Int → Int) (sp dp n : Int) : Int → Int := fun j => if dp ≤ j ∧ j < dp + n then f (sp + (j - dp)) else g j
theorem zcp_eq {f g : Int → Int} {sp dp n : Int} (h1 : 0 ≤ sp) (h2 : 0 ≤ dp) (h3 : 0 ≤ n) (i1 : zin32 sp) (i2 : zin32 dp) (i3 : zin32 n) : va_cpy (fun k : Nat => Int32.ofInt (f k)) (fun k : Nat => Int32.ofInt (g k)) (Int32.ofInt sp).toNatClampNeg (Int32.ofInt dp).toNatClampNeg (Int32.ofInt n).toNatClampNeg = fun k : Nat => Int32.ofInt (zcp f g sp dp n k) := by
  rw [zo_clamp h1 i1.2, zo_clamp h2 i2.2, zo_clamp h3 i3.2]
  funext k
  unfold va_cpy zcp
  by_cases h : dp ≤ (k : Int) ∧ (k : Int) < dp + n
  · rw [if_pos h, if_pos (by omega)]
    have : ((sp.toNat + (k - dp.toNat) : Nat) : Int) = sp + ((k : Int) - dp) := by omega
    show Int32.ofInt (f ((sp.toNat + (k - dp.toNat) : Nat) : Int)) = _
    rw [this]
  · rw [if_neg h, if_neg (by omega)]
theorem zokM.row {mem : zM} {o : Nat} {r : Int → Int} (h : zokM mem) (hn : ∀ k, ¬ zlong o k) (hr : ∀ k, zin32 (r k)) : zokM (zr mem o r) := by
  intro o' k
  by_cases ho : o' = o
  · subst ho
    rw [zr_s]
    exact ⟨fun q => absurd q (hn k), fun _ => hr k⟩
  · rw [zr_n ho]
    exact h o' k
section
variable {l : Launch} {G : zG} {R : Room} {own : String} {cc : ByteArray} {nL : Nat} {ret : Option FieldType} {Z : List Frame → Array Value → State → State → Prop} {kc ks : Nat} {Ex : State → Prop} {pc index : Nat} {ls st : List zV} {mem : zM}
theorem r_mmax {x y : Int} (hk : zCs own index Lib.Math.max.name Lib.Math.max.code 2 (some .int) 2) (hd : decode cc pc = .ok (.invokestatic index, 3)) (kk : SW l G R own cc nL ret Z kc ks Ex (pc + 3) ls (zI (max x y) :: st) mem) (hR : 1 ≤ R.frames ∧ 8 + 13 ≤ R.locals := by exact ⟨Nat.le_of_ble_eq_true rfl, Nat.le_of_ble_eq_true rfl⟩) (hw : zwd st ≤ 8 := by exact Nat.le_of_ble_eq_true rfl) : SW l G R own cc nL ret Z kc ks Ex pc ls (zI y :: zI x :: st) mem := by
  intro p e s m args below meth c H locs lsA C hE hX hK hI hP hS hL ol os om
  obtain ⟨⟨y1, y2, -, -, y5⟩, y6⟩ := hk
  have hm : zok (zI (max x y)) := by rcases (show max x y = x ∨ max x y = y by omega) with h | h <;> rw [h]; exact os.tl.hd; exact os.hd
  have k9 := kk p e s m args below meth c H locs lsA C hE hX hK hI hP hS hL ol (os.tl.tl.co hm) om
  refine va_mmax C.1 C.2.1 (by rw [C.2.2.1, hL.2.1]) C.2.2.2.1 (C.2.2.2.2.1 _ y6) (C.2.2.2.2.1 _ y5) (C.2.2.2.2.1 _ y2) (C.2.2.2.2.1 _ y1) hR.1 (by rw [zwd_eq]; omega) C.2.2.2.2.2.2.2.1 C.2.2.2.2.2.2.2.2 hd ?_
  have e9 : (if Int32.ofInt x < Int32.ofInt y then Int32.ofInt y else Int32.ofInt x) = Int32.ofInt (max x y) := by
    by_cases h : x < y
    · rw [if_pos ((zo_lt os.tl.hd os.hd).mpr h), show max x y = y by omega]
    · rw [if_neg (fun q => h ((zo_lt os.tl.hd os.hd).mp q)), show max x y = x by omega]
  rw [e9]
  exact k9
theorem r_mmin {x y : Int} (hk : zCs own index Lib.Math.min.name Lib.Math.min.code 2 (some .int) 2) (hd : decode cc pc = .ok (.invokestatic index, 3)) (kk : SW l G R own cc nL ret Z kc ks Ex (pc + 3) ls (zI (min x y) :: st) mem) (hR : 1 ≤ R.frames ∧ 8 + 13 ≤ R.locals := by exact ⟨Nat.le_of_ble_eq_true rfl, Nat.le_of_ble_eq_true rfl⟩) (hw : zwd st ≤ 8 := by exact Nat.le_of_ble_eq_true rfl) : SW l G R own cc nL ret Z kc ks Ex pc ls (zI y :: zI x :: st) mem := by
  intro p e s m args below meth c H locs lsA C hE hX hK hI hP hS hL ol os om
  obtain ⟨⟨y1, y2, -, -, y5⟩, y6⟩ := hk
  have hm : zok (zI (min x y)) := by rcases (show min x y = x ∨ min x y = y by omega) with h | h <;> rw [h]; exact os.tl.hd; exact os.hd
  have k9 := kk p e s m args below meth c H locs lsA C hE hX hK hI hP hS hL ol (os.tl.tl.co hm) om
  refine va_mmin C.1 C.2.1 (by rw [C.2.2.1, hL.2.1]) C.2.2.2.1 (C.2.2.2.2.1 _ y6) (C.2.2.2.2.1 _ y5) (C.2.2.2.2.1 _ y2) (C.2.2.2.2.1 _ y1) hR.1 (by rw [zwd_eq]; omega) C.2.2.2.2.2.2.2.1 C.2.2.2.2.2.2.2.2 hd ?_
  have e9 : (if Int32.ofInt y < Int32.ofInt x then Int32.ofInt y else Int32.ofInt x) = Int32.ofInt (min x y) := by
    by_cases h : y < x
    · rw [if_pos ((zo_lt os.hd os.tl.hd).mpr h), show min x y = y by omega]
    · rw [if_neg (fun q => h ((zo_lt os.hd os.tl.hd).mp q)), show min x y = x by omega]
  rw [e9]
  exact k9
theorem r_mmaxL {x y : Int} (hk : zCs own index Lib.MathLoose.max_long.x Lib.MathLoose.max_long.code 4 (some .long) 2) (hd : decode cc pc = .ok (.invokestatic index, 3)) (kk : SW l G R own cc nL ret Z kc ks Ex (pc + 3) ls (zJ (max x y) :: st) mem) (hR : 1 ≤ R.frames ∧ 8 + 15 ≤ R.locals := by exact ⟨Nat.le_of_ble_eq_true rfl, Nat.le_of_ble_eq_true rfl⟩) (hw : zwd st ≤ 8 := by exact Nat.le_of_ble_eq_true rfl) : SW l G R own cc nL ret Z kc ks Ex pc ls (zJ y :: zJ x :: st) mem := by
  intro p e s m args below meth c H locs lsA C hE hX hK hI hP hS hL ol os om
  obtain ⟨⟨y1, y2, -, -, y5⟩, y6⟩ := hk
  have hm : zok (zJ (max x y)) := by rcases (show max x y = x ∨ max x y = y by omega) with h | h <;> rw [h]; exact os.tl.hd; exact os.hd
  have k9 := kk p e s m args below meth c H locs lsA C hE hX hK hI hP hS hL ol (os.tl.tl.co hm) om
  refine va_mmax_long C.1 C.2.1 (by rw [C.2.2.1, hL.2.1]) C.2.2.2.1 (C.2.2.2.2.1 _ y6) (C.2.2.2.2.1 _ y5) (C.2.2.2.2.1 _ y2) (C.2.2.2.2.1 _ y1) hR.1 (by rw [zwd_eq]; omega) C.2.2.2.2.2.2.2.1 C.2.2.2.2.2.2.2.2 hd ?_
  have e9 : (if Int64.ofInt y < Int64.ofInt x then Int64.ofInt x else Int64.ofInt y) = Int64.ofInt (max x y) := by
    by_cases h : y < x
    · rw [if_pos ((zo64_lt os.hd os.tl.hd).mpr h), show max x y = x by omega]
    · rw [if_neg (fun q => h ((zo64_lt os.hd os.tl.hd).mp q)), show max x y = y by omega]
  rw [e9]
  exact k9
theorem r_mabs {x : Int} (hk : zCs own index Lib.Math.abs.name Lib.Math.abs.code 1 (some .int) 1) (hd : decode cc pc = .ok (.invokestatic index, 3)) (kk : SW l G R own cc nL ret Z kc ks Ex (pc + 3) ls (zI (zabs x) :: st) mem) (hR : 1 ≤ R.frames ∧ 8 + 13 ≤ R.locals := by exact ⟨Nat.le_of_ble_eq_true rfl, Nat.le_of_ble_eq_true rfl⟩) (hw : zwd st ≤ 8 := by exact Nat.le_of_ble_eq_true rfl) : SW l G R own cc nL ret Z kc ks Ex pc ls (zI x :: st) mem := by
  intro p e s m args below meth c H locs lsA C hE hX hK hI hP hS hL ol os om
  obtain ⟨⟨y1, y2, -, -, y5⟩, y6⟩ := hk
  have hm : zok (zI (zabs x)) := by
    show zin32 (zabs x)
    unfold zabs
    split
    · exact os.hd
    · exact zw_in _
  have k9 := kk p e s m args below meth c H locs lsA C hE hX hK hI hP hS hL ol (os.tl.co hm) om
  refine va_mabs C.1 C.2.1 (by rw [C.2.2.1, hL.2.1]) C.2.2.2.1 (C.2.2.2.2.1 _ y6) (C.2.2.2.2.1 _ y5) (C.2.2.2.2.1 _ y2) (C.2.2.2.2.1 _ y1) hR.1 (by rw [zwd_eq]; omega) C.2.2.2.2.2.2.2.1 C.2.2.2.2.2.2.2.2 hd ?_
  have e9 : (if 0 ≤ Int32.ofInt x then Int32.ofInt x else 0 - Int32.ofInt x) = Int32.ofInt (zabs x) := by
    unfold zabs
    have h00 : (0 : Int32) = Int32.ofInt 0 := rfl
    rw [h00]
    by_cases h : 0 ≤ x
    · rw [if_pos ((zo_le zin_0 os.hd).mpr h), if_pos h]
    · rw [if_neg (fun q => h ((zo_le zin_0 os.hd).mp q)), if_neg h]
      have := zo_sub 0 x
      rw [Int.zero_sub] at this
      exact this
  rw [e9]
  exact k9
/-- System.arraycopy between two int[]s -/
theorem r_copy {o1 o2 n1 n2 : Nat} {sp dp n : Int} (hl9 : Cond.methodLink own index arraycopyName ∈ ztb) (hL1 : zL o1 = (10, n1)) (hL2 : zL o2 = (10, n2)) (h1 : 0 ≤ sp) (h2 : 0 ≤ dp) (h3 : 0 ≤ n) (h4 : sp + n ≤ n1) (h5 : dp + n ≤ n2) (hd : decode cc pc = .ok (.invokestatic index, 3)) (kk : SW l G R own cc nL ret Z kc ks Ex (pc + 3) ls st (zr mem o2 (zcp (mem o1) (mem o2) sp dp n))) (hR : 1 ≤ R.frames ∧ 8 + (nativeFrameWords "java/lang/System" "arraycopy" 5 + 11) ≤ R.locals := by exact ⟨Nat.le_of_ble_eq_true rfl, Nat.le_of_ble_eq_true rfl⟩) (hw : zwd st ≤ 8 := by exact Nat.le_of_ble_eq_true rfl) : SW l G R own cc nL ret Z kc ks Ex pc ls (zI n :: zI dp :: zR o2 :: zI sp :: zR o1 :: st) mem := by
  intro p e s m args below meth c H locs lsA C hE hX hK hI hP hS hL ol os om
  have hlt1 := zL_lt hL1 (by decide)
  have hlt2 := zL_lt hL2 (by decide)
  have i3 := os.hd
  have i2 := os.tl.hd
  have i1 := os.tl.tl.tl.hd
  have c3 := zo_clamp h3 i3.2
  have c2 := zo_clamp h2 i2.2
  have c1 := zo_clamp h1 i1.2
  have nl : ∀ z : Int, 0 ≤ z → zin32 z → ¬ Int32.ofInt z < 0 := fun z h hz q => by
    have := (zo_lt hz zin_0).mp q
    omega
  have hw1 : Cond.native arraycopyName ∈ ztb := List.mem_filter.mpr ⟨List.mem_of_getElem? (i := 466) (by decide +kernel), by decide +kernel⟩
  have hw2 : Cond.static arraycopyName ∈ ztb := List.mem_filter.mpr ⟨List.mem_of_getElem? (i := 465) (by decide +kernel), by decide +kernel⟩
  have hw3 : Cond.initialized "java/lang/System" ∈ ztb := List.mem_filter.mpr ⟨List.mem_of_getElem? (i := 85) (by decide +kernel), by decide +kernel⟩
  refine va_copyi C.1 C.2.1 (by rw [C.2.2.1, hL.2.1]) C.2.2.2.1 (C.2.2.2.2.1 _ hl9) (C.2.2.2.2.1 _ hw1) (C.2.2.2.2.1 _ hw2) (C.2.2.2.2.1 _ hw3) hK hP (zD_of hI mem) hS o1 o2 0 0 (ty := .int) (by rw [zC_get hlt1, zE_int hL1]) (by rw [zC_get hlt2, zE_int hL2]) rfl rfl rfl (nl sp h1 i1) (nl dp h2 i2) (nl n h3 i3) (by rw [c1, c3]; omega) (by rw [c2, c3]; omega) (fun i _ => rfl) hR.1 (by rw [zwd_eq]; omega) hd (fun H1 locs1 hP1 hD1 hS1 => ?_)
  rw [zcp_eq h1 h2 h3 i1 i2 i3] at hP1
  rw [zC_set (mem' := zr mem o2 (zcp (mem o1) (mem o2) sp dp n)) (by rw [zE_int hL2, zr_s]) (fun o' h => zr_n h)] at hP1
  refine kk p e s m args below meth c H1 locs1 lsA C hE hX hK hI hP1 hS1 hL ol os.tl.tl.tl.tl.tl (om.row (fun k => zlong_arr hL2 (by decide)) (fun k => ?_))
  unfold zcp
  split
  · exact (om o1 _).2 (zlong_arr hL1 (by decide))
  · exact (om o2 _).2 (zlong_arr hL2 (by decide))
end
def zfil (r : Int → Int) (v : Int) (n : Int) : Int → Int := fun j => if 0 ≤ j ∧ j < n then v else r j
section
variable {l : Launch} {G : zG} {mem : zM}
set_option maxRecDepth 100000 in
theorem c_signum (x : Int) (hx : zin32 x) : KJ6_signum_0f7a4 l G 0 [zI x] mem (zP1 (zI (zsg x)) mem) := by
  refine CT.of' (own := RJ6) (ls0 := [zI x]) rfl (by decide +kernel) (Nat.le_of_ble_eq_true rfl) rfl ?_
  refine r_iload_n dJ6_signum_0f7a4_0 rfl ?_
  refine r_bipush dJ6_signum_0f7a4_1 (k := ?_)
  refine r_ishr dJ6_signum_0f7a4_3 ?_
  refine r_iload_n dJ6_signum_0f7a4_4 rfl ?_
  refine r_ineg dJ6_signum_0f7a4_5 ?_
  refine r_bipush dJ6_signum_0f7a4_6 (k := ?_)
  refine r_iushr dJ6_signum_0f7a4_8 ?_
  refine r_ior dJ6_signum_0f7a4_9 ?_
  refine r_iret dJ6_signum_0f7a4_10 ?_
  exact zP1.ofI (zsg_or hx)
set_option maxRecDepth 100000 in
theorem c_fill (o n : Nat) (v : Int) (hL : zL o = (10, n)) (hn : (n : Int) ≤ 1000) : KJ7_fill_53178 l G 0 [zR o, zI v] mem (zP0 (zr mem o (zfil (mem o) v n))) := by
  refine CT.of' (own := RJ7) (ls0 := [zR o, zI v, zU, zU]) rfl (by decide +kernel) (Nat.le_of_ble_eq_true rfl) rfl ?_
  refine r_iconst dJ7_fill_53178_0 (k := ?_)
  refine r_istore_n dJ7_fill_53178_1 rfl ?_
  refine r_aload_n dJ7_fill_53178_2 rfl ?_
  refine r_alen hL ⟨by omega, by omega⟩ dJ7_fill_53178_3 ?_
  refine r_istore_n dJ7_fill_53178_4 rfl ?_
  have loop : ∀ (k : Nat) (i : Int) (m : zM), 0 ≤ i → i + k = n → m = zr mem o (zfil (mem o) v i) → SW l G (zrm 0) RJ7 cJ7_fill_53178 4 none (zZ G (zP0 (zr mem o (zfil (mem o) v n)))) 0 0 (fun _ => True) 5 [zR o, zI v, zI i, zI n] [] m := by
    intro k
    induction k with
    | zero =>
      intro i m h0 h1 hm
      refine r_iload_n dJ7_fill_53178_5 rfl ?_
      refine r_iload_n dJ7_fill_53178_6 rfl ?_
      refine r_icmp_ge (tgt := 20) dJ7_fill_53178_7 (by decide) (fun _ => ?_) (fun h => absurd h (by omega))
      refine r_vret dJ7_fill_53178_20 ?_
      refine zP0.of ?_
      rw [hm, show i = n by omega]
    | succ k ih =>
      intro i m h0 h1 hm
      refine r_iload_n dJ7_fill_53178_5 rfl ?_
      refine r_iload_n dJ7_fill_53178_6 rfl ?_
      refine r_icmp_ge (tgt := 20) dJ7_fill_53178_7 (by decide) (fun h => absurd h (by omega)) (fun _ => ?_)
      refine r_aload_n dJ7_fill_53178_10 rfl ?_
      refine r_iload_n dJ7_fill_53178_11 rfl ?_
      refine r_iload_n dJ7_fill_53178_12 rfl ?_
      refine r_iast (by exact hL) (by omega) (by omega) dJ7_fill_53178_13 ?_
      refine r_iinc dJ7_fill_53178_14 rfl rfl ?_
      refine r_goto (tgt := 5) dJ7_fill_53178_17 (by decide) ?_
      rw [zw_id (by omega) (by omega)]
      refine ih (i + 1) _ (by omega) (by omega) ?_
      subst hm
      funext o'
      unfold zs zr
      by_cases ho : o' = o
      · simp only [ho, if_true]
        funext j
        unfold zu zfil
        by_cases hj : j = i
        · rw [if_pos hj, if_pos (by omega)]
        · rw [if_neg hj]
          by_cases h3 : 0 ≤ j ∧ j < i
          · rw [if_pos h3, if_pos (by omega)]
          · rw [if_neg h3, if_neg (by omega)]
      · simp only [ho, if_false]
  refine loop n 0 mem (by omega) (by omega) ?_
  funext o'
  unfold zr zfil
  by_cases ho : o' = o
  · rw [if_pos ho, ho]
    funext j
    rw [if_neg (by omega)]
  · rw [if_neg ho]
end
