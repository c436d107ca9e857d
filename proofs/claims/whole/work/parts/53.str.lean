/-! ===== texts of the class: their length, their letters ===== -/
theorem YJ0_length_8abf5 : zYv yJ0_length_8abf5 cJ0_length_8abf5 1 (some .int) 0 := ⟨(ztb_at 355 (by decide +kernel) (by decide +kernel)), (ztb_at 80 (by decide +kernel) (by decide +kernel)), ⟨by decide +kernel, by decide +kernel⟩, by decide +kernel, (ztb_at 353 (by decide +kernel) (by decide +kernel)), (ztb_at 354 (by decide +kernel) (by decide +kernel))⟩
theorem YJ0_charAt_5068e : zYv yJ0_charAt_5068e cJ0_charAt_5068e 2 (some .char) 1 := ⟨(ztb_at 365 (by decide +kernel) (by decide +kernel)), (ztb_at 80 (by decide +kernel) (by decide +kernel)), ⟨by decide +kernel, by decide +kernel⟩, by decide +kernel, (ztb_at 363 (by decide +kernel) (by decide +kernel)), (ztb_at 364 (by decide +kernel) (by decide +kernel))⟩
theorem YJ0_coder_7d493 : zYv yJ0_coder_7d493 cJ0_coder_7d493 1 (some .byte) 0 := ⟨(ztb_at 359 (by decide +kernel) (by decide +kernel)), (ztb_at 80 (by decide +kernel) (by decide +kernel)), ⟨by decide +kernel, by decide +kernel⟩, by decide +kernel, (ztb_at 357 (by decide +kernel) (by decide +kernel)), (ztb_at 358 (by decide +kernel) (by decide +kernel))⟩
theorem YJ0_isLatin1_aae02 : zYv yJ0_isLatin1_aae02 cJ0_isLatin1_aae02 1 (some .boolean) 0 := ⟨(ztb_at 369 (by decide +kernel) (by decide +kernel)), (ztb_at 80 (by decide +kernel) (by decide +kernel)), ⟨by decide +kernel, by decide +kernel⟩, by decide +kernel, (ztb_at 367 (by decide +kernel) (by decide +kernel)), (ztb_at 368 (by decide +kernel) (by decide +kernel))⟩
theorem YJ0_checkIndex_df160 : zYs yJ0_checkIndex_df160 cJ0_checkIndex_df160 2 none 2 := ⟨(ztb_at 375 (by decide +kernel) (by decide +kernel)), (ztb_at 80 (by decide +kernel) (by decide +kernel)), ⟨by decide +kernel, by decide +kernel⟩, by decide +kernel, (ztb_at 374 (by decide +kernel) (by decide +kernel))⟩
theorem YJ1_charAt_3b067 : zYs yJ1_charAt_3b067 cJ1_charAt_3b067 2 (some .char) 2 := ⟨(ztb_at 372 (by decide +kernel) (by decide +kernel)), (ztb_at 81 (by decide +kernel) (by decide +kernel)), ⟨by decide +kernel, by decide +kernel⟩, by decide +kernel, (ztb_at 371 (by decide +kernel) (by decide +kernel))⟩
theorem YJ3_checkIndex_8e157 : zYs yJ3_checkIndex_8e157 cJ3_checkIndex_8e157 3 (some .int) 3 := ⟨(ztb_at 380 (by decide +kernel) (by decide +kernel)), (ztb_at 82 (by decide +kernel) (by decide +kernel)), ⟨by decide +kernel, by decide +kernel⟩, by decide +kernel, (ztb_at 379 (by decide +kernel) (by decide +kernel))⟩
theorem zsl_b {i : Nat} (hi : i < 7) : zSl.getD i 0 < 2 ^ 31 := by
  rcases (show i = 0 ∨ i = 1 ∨ i = 2 ∨ i = 3 ∨ i = 4 ∨ i = 5 ∨ i = 6 by omega) with rfl | rfl | rfl | rfl | rfl | rfl | rfl <;> decide
def zSc (i : Nat) (j : Int) : Int := ((zSb.getD i []).getD j.toNat 0).toInt
theorem zSc_b : ∀ (i : Fin 7) (j : Fin 5), 0 ≤ zSc i (j : Nat) ∧ zSc i (j : Nat) < 128 := by decide +kernel
section
variable {l : Launch} {G : zG} {R : Room} {own : String} {cc : ByteArray} {nL : Nat} {ret : Option FieldType} {Z : List Frame → Array Value → State → State → Prop} {kc ks : Nat} {Ex : State → Prop} {pc : Nat} {ls st : List zV} {mem : zM}
theorem r_sval {i index : Nat} (hi : i < 7) (hl : Cond.fieldLink own index "java/lang/String" "value" "[B" ∈ ztb) (hd : decode cc pc = .ok (.getfield index, 3)) (kk : SW l G R own cc nL ret Z kc ks Ex (pc + 3) ls (zR (zN + 7 + i) :: st) mem) : SW l G R own cc nL ret Z kc ks Ex pc ls (zR (zN + i) :: st) mem := by
  intro p e s m args below meth c H locs lsA C hE hX hK hI hP hS hL ol os om
  have k9 := kk p e s m args below meth c H locs lsA C hE hX hK hI hP hS hL ol (os.tl.co trivial) om
  exact vk_getf C.1 C.2.1 (hX.1.1 i hi).2.2.1 hS C.2.2.2.1 (C.2.2.2.2.1 _ hl) (fun x hx => hx) hd k9
theorem r_scod {i index : Nat} (hi : i < 7) (hl : Cond.fieldLink own index "java/lang/String" "coder" "B" ∈ ztb) (hd : decode cc pc = .ok (.getfield index, 3)) (kk : SW l G R own cc nL ret Z kc ks Ex (pc + 3) ls (zI 0 :: st) mem) : SW l G R own cc nL ret Z kc ks Ex pc ls (zR (zN + i) :: st) mem := by
  intro p e s m args below meth c H locs lsA C hE hX hK hI hP hS hL ol os om
  have k9 := kk p e s m args below meth c H locs lsA C hE hX hK hI hP hS hL ol (os.tl.co (show zin32 0 by unfold zin32; decide)) om
  exact vk_getf C.1 C.2.1 (hX.1.1 i hi).2.1 hS C.2.2.2.1 (C.2.2.2.2.1 _ hl) (fun x hx => hx) hd k9
theorem r_slen {i : Nat} (hi : i < 7) (hd : decode cc pc = .ok (.arraylength, 1)) (kk : SW l G R own cc nL ret Z kc ks Ex (pc + 1) ls (zI (zSl.getD i 0 : Nat) :: st) mem) : SW l G R own cc nL ret Z kc ks Ex pc ls (zR (zN + 7 + i) :: st) mem := by
  intro p e s m args below meth c H locs lsA C hE hX hK hI hP hS hL ol os om
  have hb := zsl_b hi
  have k9 := kk p e s m args below meth c H locs lsA C hE hX hK hI hP hS hL ol (os.tl.co (show zin32 _ by unfold zin32; omega)) om
  exact va_tlen C.1 C.2.1 (hX.1.1 i hi).2.2.2 hS (v := Int32.ofInt ((zSl.getD i 0 : Nat) : Int)) rfl hd k9
theorem r_sbld {i : Nat} {j : Int} (hi : i < 7) (h0 : 0 ≤ j) (h1 : j < (zSl.getD i 0 : Nat)) (hd : decode cc pc = .ok (.baload, 1)) (kk : SW l G R own cc nL ret Z kc ks Ex (pc + 1) ls (zI (zSc i j) :: st) mem) : SW l G R own cc nL ret Z kc ks Ex pc ls (zI j :: zR (zN + 7 + i) :: st) mem := by
  intro p e s m args below meth c H locs lsA C hE hX hK hI hP hS hL ol os om
  have k9 := kk p e s m args below meth c H locs lsA C hE hX hK hI hP hS hL ol (os.tl.tl.co (zi_in _)) om
  refine va_tb C.1 C.2.1 (hX.1.1 i hi).2.2.2 hS (zo_in h0 h1 os.hd) (v := .int (Int32.ofInt (zSc i j))) ?_ hd k9
  rw [zo_clamp h0 (os.hd).2]
  unfold zSc
  rw [zo_i]
theorem r_sZ {index : Nat} (hl : Cond.fieldLink own index "java/lang/String" "COMPACT_STRINGS" "Z" ∈ ztb) (hd : decode cc pc = .ok (.getstatic index, 3)) (kk : SW l G R own cc nL ret Z kc ks Ex (pc + 3) ls (zI 1 :: st) mem) : SW l G R own cc nL ret Z kc ks Ex pc ls st mem := by
  intro p e s m args below meth c H locs lsA C hE hX hK hI hP hS hL ol os om
  have k9 := kk p e s m args below meth c H locs lsA C hE hX hK hI hP hS hL ol (os.co (show zin32 1 by unfold zin32; decide)) om
  exact va_gets C.1 C.2.1 hX.2.2.1.1 hS C.2.2.2.1 (C.2.2.2.2.1 _ hl) (fun x hx => hx) hd k9
theorem r_sF {index : Nat} (hl : Cond.fieldLink own index "jdk/internal/util/Preconditions" "SIOOBE_FORMATTER" "Ljava/util/function/BiFunction;" ∈ ztb) (hd : decode cc pc = .ok (.getstatic index, 3)) (kk : SW l G R own cc nL ret Z kc ks Ex (pc + 3) ls (zR (zN + 14) :: st) mem) (k0 : SW l G R own cc nL ret Z kc ks Ex (pc + 3) ls (zU :: st) mem) : SW l G R own cc nL ret Z kc ks Ex pc ls st mem := by
  intro p e s m args below meth c H locs lsA C hE hX hK hI hP hS hL ol os om
  rcases hX.2.2.1.2 with hF | hF
  · have k9 := kk p e s m args below meth c H locs lsA C hE hX hK hI hP hS hL ol (os.co trivial) om
    exact va_gets C.1 C.2.1 hF hS C.2.2.2.1 (C.2.2.2.2.1 _ hl) (fun x hx => hx) hd k9
  · have k9 := k0 p e s m args below meth c H locs lsA C hE hX hK hI hP hS hL ol (os.co trivial) om
    exact va_gets C.1 C.2.1 hF hS C.2.2.2.1 (C.2.2.2.2.1 _ hl) (fun x hx => hx) hd k9
theorem r_i2c {x : Int} (h0 : 0 ≤ x) (h1 : x < 65536) (hd : decode cc pc = .ok (.i2c, 1)) (kk : SW l G R own cc nL ret Z kc ks Ex (pc + 1) ls (zI x :: st) mem) : SW l G R own cc nL ret Z kc ks Ex pc ls (zI x :: st) mem := by
  intro p e s m args below meth c H locs lsA C hE hX hK hI hP hS hL ol os om
  have k9 := kk p e s m args below meth c H locs lsA C hE hX hK hI hP hS hL ol os om
  refine lv_i2c C.1 C.2.1 (v := Int32.ofInt x) hd ?_ k9
  rw [pk_char]
  have q := z_nat (x := x)
  generalize (Int32.ofInt x).toBitVec.toNat = w at q ⊢
  show Int32.ofNat (w % 65536) = Int32.ofInt x
  rw [show w % 65536 = x.toNat by omega, zo_nat, Int.toNat_of_nonneg h0]
theorem r_sldc {i : Nat} (hi : i < 7) (hd : decode cc pc = .ok (.ldc (zSk.getD i 0), 2)) (kk : SW l G R RX2 cc nL ret Z kc ks Ex (pc + 2) ls (zR (zN + i) :: st) mem) : SW l G R RX2 cc nL ret Z kc ks Ex pc ls st mem := by
  intro p e s m args below meth c H locs lsA C hE hX hK hI hP hS hL ol os om
  have k9 := kk p e s m args below meth c H locs lsA C hE hX hK hI hP hS hL ol (os.co trivial) om
  exact va_ldcS C.1 C.2.1 C.2.2.2.1 (hX.2.1 i hi) hd k9
/-- a call of a text's method, by its contract -/
theorem r_callT {y : MethodName} {bytes : ByteArray} {nL' : Nat} {ret' : Option FieldType} {d n index i : Nat} {As rest : List zV} {post : Option zV → zM → Prop} (hM : CT l G y bytes nL' ret' d (zR (zN + i) :: As) mem post) (hY : zYv y bytes nL' ret' n) (hl : Cond.methodLink own index y ∈ ztb) (hi : i < 7) (hc9 : y.cls = "java/lang/String") (hn : As.length = n) (hst : st = As.reverse ++ zR (zN + i) :: rest) (hR : d + 1 ≤ R.frames ∧ 8 + (nL' + 11) + 100 * d ≤ R.locals) (hw : zwd rest ≤ 8) (hd : decode cc pc = .ok (.invokevirtual index, 3))
    (kk : ∀ (r : Option zV) (mem' : zM), post r mem' → SW l G R own cc nL ret Z kc ks Ex (pc + 3) ls (r.toList ++ rest) mem') : SW l G R own cc nL ret Z kc ks Ex pc ls st mem := by
  intro p e s m args below meth c H locs lsA C hE hX hK hI hP hS hL ol os om
  obtain ⟨y1, y2, y3, y4, y5, y6⟩ := hY
  have hAs : zokL As := fun v hv => os v (by rw [hst]; exact List.mem_append_left _ (List.mem_reverse.mpr hv))
  have hrs : zokL rest := fun v hv => os v (by rw [hst]; exact List.mem_append_right _ (List.mem_cons_of_mem _ hv))
  have cw : CallW R s args own y.cls index y bytes nL' ret' (Cond.code y bytes nL' ret' :: ztb) (zrm d) 0 0 n := ⟨callB_of n C.2.2.2.2.1 (zgoodIn y1) rfl rfl rfl (C.2.2.2.2.1 _ y2) (C.2.2.2.2.1 _ hl) ⟨y3.1, y3.2, y4⟩ hR, C.2.2.2.2.1 _ y5, C.2.2.2.2.1 _ y6⟩
  refine z_call (va_runV (As := As.map (zv G)) (rest := rest.map (zv G)) (b := G.2.2.1 (zN + i)) (Ts := ztb) ⟨C.1, C.2.1, C.2.2.1, C.2.2.2.1, C.2.2.2.2.1⟩ hM cw ⟨zPc_blind, by rw [hc9]; exact vk_recv (i := i) hX.1 hi hS, fun U hU hW => z_go hX hK hI hP hS om (As := zR (zN + i) :: As) (hAs.co trivial) hU hW⟩ rfl (by rw [List.length_map]; exact hn) hL.2.1 (by rw [hst]; simp [zv]) (lv_room (by rw [zwd_eq]; exact hw)) hd ⟨C.2.2.2.2.2.2.2.1, C.2.2.2.2.2.2.2.2⟩) hS (fun r mem' H1 locs1 hp hok om1 hP1 hS1 => ?_)
  have k9 := kk r mem' hp p e s m args below meth c H1 locs1 lsA C hE hX hK hI hP1 hS1 hL ol (zokL.app (fun v hv => hok v (by cases r with | none => simp at hv | some w => simp at hv; rw [hv])) hrs) om1
  rw [List.map_append] at k9
  have : (r.map (zv G)).toList = r.toList.map (zv G) := by cases r <;> rfl
  rw [this]
  exact k9
end
section
variable {l : Launch} {G : zG} {R : Room} {own : String} {cc : ByteArray} {nL : Nat} {post : Option zV → zM → Prop} {Ex : State → Prop} {pc : Nat} {ls : List zV} {mem : zM}
theorem r_cret {x : Int} (hd : decode cc pc = .ok (.ireturn, 1)) (h0 : 0 ≤ x) (h1 : x < 65536) (h : post (some (zI x)) mem) : SW l G R own cc nL (some .char) (zZ G post) 0 0 Ex pc ls [zI x] mem := by
  intro p e s m args below meth c H locs lsA C hE hX hK hI hP hS hL ol os om
  have e1 : Int32.ofInt x = nI x.toNat := by show _ = Int32.ofNat x.toNat; rw [zo_nat, Int.toNat_of_nonneg h0]
  exact W.zret (v := Int32.ofInt x) C.1 C.2.1 C.2.2.2.2.2.1 (by rw [e1]; exact (pk_charN (by omega)).1) (fun t ht hW => ⟨⟨some (zI x), mem, rfl, h, fun v hv => by cases hv; exact os.hd, zWd.end hX hK hI hP hS om ht hW⟩, hS.F ht⟩) hS.2.2 hd (hlocks := C.2.2.2.2.2.2.1)
theorem r_bret {x : Int} (hd : decode cc pc = .ok (.ireturn, 1)) (h01 : x = 0 ∨ x = 1) (h : post (some (zI x)) mem) : SW l G R own cc nL (some .byte) (zZ G post) 0 0 Ex pc ls [zI x] mem := by
  intro p e s m args below meth c H locs lsA C hE hX hK hI hP hS hL ol os om
  exact W.zret (v := Int32.ofInt x) C.1 C.2.1 C.2.2.2.2.2.1 (by rcases h01 with rfl | rfl <;> decide) (fun t ht hW => ⟨⟨some (zI x), mem, rfl, h, fun v hv => by cases hv; exact os.hd, zWd.end hX hK hI hP hS om ht hW⟩, hS.F ht⟩) hS.2.2 hd (hlocks := C.2.2.2.2.2.2.1)
end
theorem zand_255 : ∀ x : Fin 128, zand (x : Nat) 255 = (x : Nat) := by decide +kernel
theorem z_and255 {x : Int} (h0 : 0 ≤ x) (h1 : x < 128) : zand x 255 = x := by
  have q := zand_255 ⟨x.toNat, by omega⟩
  dsimp only at q
  rw [Int.toNat_of_nonneg h0] at q
  exact q
theorem zshr_0 {x : Int} (h : zin32 x) : zshr x 0 = x := by
  unfold zshr
  rw [pk_shr (Int32.ofInt x) (Int32.ofInt 0 &&& 31) 0 (by decide), zo_toInt, zw_of h, Int.shiftRight_zero]
section
variable {l : Launch} {G : zG} {mem : zM} {i : Nat}
set_option maxRecDepth 100000 in
theorem c_coder (hi : i < 7) : KJ0_coder_7d493 l G 0 [zR (zN + i)] mem (zP1 (zI 0) mem) := by
  refine CT.of' (own := RJ0) (ls0 := [zR (zN + i)]) rfl (by decide +kernel) (Nat.le_of_ble_eq_true rfl) rfl ?_
  refine r_sZ (ztb_at 360 (by decide +kernel) (by decide +kernel)) dJ0_coder_7d493_0 ?_
  refine r_if_eq (tgt := 13) dJ0_coder_7d493_3 (by decide) (fun h => absurd h (by decide)) (fun _ => ?_)
  refine r_aload_n dJ0_coder_7d493_6 rfl ?_
  refine r_scod hi (ztb_at 1282 (by decide +kernel) (by decide +kernel)) dJ0_coder_7d493_7 ?_
  refine r_goto (tgt := 14) dJ0_coder_7d493_10 (by decide) ?_
  exact r_bret dJ0_coder_7d493_14 (Or.inl rfl) zP1.i
set_option maxRecDepth 100000 in
theorem c_isLatin1 (hi : i < 7) : KJ0_isLatin1_aae02 l G 0 [zR (zN + i)] mem (zP1 (zI 1) mem) := by
  refine CT.of' (own := RJ0) (ls0 := [zR (zN + i)]) rfl (by decide +kernel) (Nat.le_of_ble_eq_true rfl) rfl ?_
  refine r_sZ (ztb_at 360 (by decide +kernel) (by decide +kernel)) dJ0_isLatin1_aae02_0 ?_
  refine r_if_eq (tgt := 17) dJ0_isLatin1_aae02_3 (by decide) (fun h => absurd h (by decide)) (fun _ => ?_)
  refine r_aload_n dJ0_isLatin1_aae02_6 rfl ?_
  refine r_scod hi (ztb_at 1282 (by decide +kernel) (by decide +kernel)) dJ0_isLatin1_aae02_7 ?_
  refine r_if_ne (tgt := 17) dJ0_isLatin1_aae02_10 (by decide) (fun h => absurd h (by decide)) (fun _ => ?_)
  refine r_iconst dJ0_isLatin1_aae02_13 (k := ?_)
  refine r_goto (tgt := 18) dJ0_isLatin1_aae02_14 (by decide) ?_
  exact r_zret dJ0_isLatin1_aae02_18 (Or.inr rfl) zP1.i
set_option maxRecDepth 100000 in
theorem c_strlen (hi : i < 7) : KJ0_length_8abf5 l G 1 [zR (zN + i)] mem (zP1 (zI (zSl.getD i 0 : Nat)) mem) := by
  have hb := zsl_b hi
  refine CT.of' (own := RJ0) (ls0 := [zR (zN + i)]) rfl (by decide +kernel) (Nat.le_of_ble_eq_true rfl) rfl ?_
  refine r_aload_n dJ0_length_8abf5_0 rfl ?_
  refine r_sval hi (ztb_at 1281 (by decide +kernel) (by decide +kernel)) dJ0_length_8abf5_1 ?_
  refine r_slen hi dJ0_length_8abf5_4 ?_
  refine r_aload_n dJ0_length_8abf5_5 rfl ?_
  refine r_callT (c_coder hi) YJ0_coder_7d493 (ztb_at 356 (by decide +kernel) (by decide +kernel)) hi rfl rfl rfl ⟨Nat.le_of_ble_eq_true rfl, Nat.le_of_ble_eq_true rfl⟩ (Nat.le_of_ble_eq_true rfl) dJ0_length_8abf5_6 (fun r m9 h9 => ?_)
  obtain ⟨rfl, rfl⟩ := h9
  refine r_ishr dJ0_length_8abf5_9 ?_
  rw [zshr_0 (by unfold zin32; omega)]
  exact r_iret dJ0_length_8abf5_10 zP1.i
set_option maxRecDepth 100000 in
theorem c_chk3 (a b : Int) (o : Nat) (h0 : 0 ≤ a) (h1 : a < b) : KJ3_checkIndex_8e157 l G 0 [zI a, zI b, zR o] mem (zP1 (zI a) mem) := by
  refine CT.of' (own := RJ3) (ls0 := [zI a, zI b, zR o]) rfl (by decide +kernel) (Nat.le_of_ble_eq_true rfl) rfl ?_
  refine r_iload_n dJ3_checkIndex_8e157_0 rfl ?_
  refine r_if_lt (tgt := 9) dJ3_checkIndex_8e157_1 (by decide) (fun h1 => ?_) (fun h1 => ?_)
  · first | exact absurd h1 (by omega) | exact absurd h6 (by omega)
  · refine r_iload_n dJ3_checkIndex_8e157_4 rfl ?_
    refine r_iload_n dJ3_checkIndex_8e157_5 rfl ?_
    refine r_icmp_lt (tgt := 16) dJ3_checkIndex_8e157_6 (by decide) (fun h6 => ?_) (fun h6 => ?_)
    · refine r_iload_n dJ3_checkIndex_8e157_16 rfl ?_
      refine r_iret dJ3_checkIndex_8e157_17 ?_
      exact zP1.i
    · first | exact absurd h1 (by omega) | exact absurd h6 (by omega)
set_option maxRecDepth 100000 in
theorem c_chk3n (a b : Int) (h0 : 0 ≤ a) (h1 : a < b) : KJ3_checkIndex_8e157 l G 0 [zI a, zI b, zU] mem (zP1 (zI a) mem) := by
  refine CT.of' (own := RJ3) (ls0 := [zI a, zI b, zU]) rfl (by decide +kernel) (Nat.le_of_ble_eq_true rfl) rfl ?_
  refine r_iload_n dJ3_checkIndex_8e157_0 rfl ?_
  refine r_if_lt (tgt := 9) dJ3_checkIndex_8e157_1 (by decide) (fun h1 => ?_) (fun h1 => ?_)
  · first | exact absurd h1 (by omega) | exact absurd h6 (by omega)
  · refine r_iload_n dJ3_checkIndex_8e157_4 rfl ?_
    refine r_iload_n dJ3_checkIndex_8e157_5 rfl ?_
    refine r_icmp_lt (tgt := 16) dJ3_checkIndex_8e157_6 (by decide) (fun h6 => ?_) (fun h6 => ?_)
    · refine r_iload_n dJ3_checkIndex_8e157_16 rfl ?_
      refine r_iret dJ3_checkIndex_8e157_17 ?_
      exact zP1.i
    · first | exact absurd h1 (by omega) | exact absurd h6 (by omega)
set_option maxRecDepth 100000 in
theorem c_chk (a b : Int) (h0 : 0 ≤ a) (h1 : a < b) : KJ0_checkIndex_df160 l G 1 [zI a, zI b] mem (zP0 mem) := by
  refine CT.of' (own := RJ0) (ls0 := [zI a, zI b]) rfl (by decide +kernel) (Nat.le_of_ble_eq_true rfl) rfl ?_
  refine r_iload_n dJ0_checkIndex_df160_0 rfl ?_
  refine r_iload_n dJ0_checkIndex_df160_1 rfl ?_
  refine r_sF (ztb_at 376 (by decide +kernel) (by decide +kernel)) dJ0_checkIndex_df160_2 ?_ ?_
  · refine r_callS (c_chk3 a b _ h0 h1) YJ3_checkIndex_8e157 (ztb_at 378 (by decide +kernel) (by decide +kernel)) rfl rfl ⟨Nat.le_of_ble_eq_true rfl, Nat.le_of_ble_eq_true rfl⟩ (Nat.le_of_ble_eq_true rfl) dJ0_checkIndex_df160_5 (fun r m9 h9 => ?_)
    obtain ⟨rfl, rfl⟩ := h9
    refine r_pop dJ0_checkIndex_df160_8 rfl ?_
    refine r_vret dJ0_checkIndex_df160_9 ?_
    exact zP0.of rfl
  · refine r_callS (c_chk3n a b h0 h1) YJ3_checkIndex_8e157 (ztb_at 378 (by decide +kernel) (by decide +kernel)) rfl rfl ⟨Nat.le_of_ble_eq_true rfl, Nat.le_of_ble_eq_true rfl⟩ (Nat.le_of_ble_eq_true rfl) dJ0_checkIndex_df160_5 (fun r m9 h9 => ?_)
    obtain ⟨rfl, rfl⟩ := h9
    refine r_pop dJ0_checkIndex_df160_8 rfl ?_
    refine r_vret dJ0_checkIndex_df160_9 ?_
    exact zP0.of rfl
set_option maxRecDepth 100000 in
theorem c_latAt (hi : i < 7) (j : Int) (h0 : 0 ≤ j) (h1 : j < (zSl.getD i 0 : Nat)) (b0 : 0 ≤ zSc i j) (b1 : zSc i j < 128) : KJ1_charAt_3b067 l G 2 [zR (zN + 7 + i), zI j] mem (zP1 (zI (zSc i j)) mem) := by
  refine CT.of' (own := RJ1) (ls0 := [zR (zN + 7 + i), zI j]) rfl (by decide +kernel) (Nat.le_of_ble_eq_true rfl) rfl ?_
  refine r_iload_n dJ1_charAt_3b067_0 rfl ?_
  refine r_aload_n dJ1_charAt_3b067_1 rfl ?_
  refine r_slen hi dJ1_charAt_3b067_2 ?_
  refine r_callS (c_chk j _ h0 h1) YJ0_checkIndex_df160 (ztb_at 373 (by decide +kernel) (by decide +kernel)) rfl rfl ⟨Nat.le_of_ble_eq_true rfl, Nat.le_of_ble_eq_true rfl⟩ (Nat.le_of_ble_eq_true rfl) dJ1_charAt_3b067_3 (fun r m9 h9 => ?_)
  obtain ⟨rfl, rfl⟩ := h9
  refine r_aload_n dJ1_charAt_3b067_6 rfl ?_
  refine r_iload_n dJ1_charAt_3b067_7 rfl ?_
  refine r_sbld hi h0 h1 dJ1_charAt_3b067_8 ?_
  refine r_sipush dJ1_charAt_3b067_9 (k := ?_)
  refine r_iand dJ1_charAt_3b067_12 ?_
  rw [z_and255 b0 b1]
  refine r_i2c b0 (by omega) dJ1_charAt_3b067_13 ?_
  exact r_cret dJ1_charAt_3b067_14 b0 (by omega) zP1.i
set_option maxRecDepth 100000 in
theorem c_charAt (hi : i < 7) (j : Int) (h0 : 0 ≤ j) (h1 : j < (zSl.getD i 0 : Nat)) (b0 : 0 ≤ zSc i j) (b1 : zSc i j < 128) : KJ0_charAt_5068e l G 3 [zR (zN + i), zI j] mem (zP1 (zI (zSc i j)) mem) := by
  refine CT.of' (own := RJ0) (ls0 := [zR (zN + i), zI j]) rfl (by decide +kernel) (Nat.le_of_ble_eq_true rfl) rfl ?_
  refine r_aload_n dJ0_charAt_5068e_0 rfl ?_
  refine r_callT (c_isLatin1 hi) YJ0_isLatin1_aae02 (ztb_at 366 (by decide +kernel) (by decide +kernel)) hi rfl rfl rfl ⟨Nat.le_of_ble_eq_true rfl, Nat.le_of_ble_eq_true rfl⟩ (Nat.le_of_ble_eq_true rfl) dJ0_charAt_5068e_1 (fun r m9 h9 => ?_)
  obtain ⟨rfl, rfl⟩ := h9
  refine r_if_eq (tgt := 16) dJ0_charAt_5068e_4 (by decide) (fun h => absurd h (by decide)) (fun _ => ?_)
  refine r_aload_n dJ0_charAt_5068e_7 rfl ?_
  refine r_sval hi (ztb_at 1281 (by decide +kernel) (by decide +kernel)) dJ0_charAt_5068e_8 ?_
  refine r_iload_n dJ0_charAt_5068e_11 rfl ?_
  refine r_callS (c_latAt hi j h0 h1 b0 b1) YJ1_charAt_3b067 (ztb_at 370 (by decide +kernel) (by decide +kernel)) rfl rfl ⟨Nat.le_of_ble_eq_true rfl, Nat.le_of_ble_eq_true rfl⟩ (Nat.le_of_ble_eq_true rfl) dJ0_charAt_5068e_12 (fun r m9 h9 => ?_)
  obtain ⟨rfl, rfl⟩ := h9
  exact r_cret dJ0_charAt_5068e_15 b0 (by omega) zP1.i
end
