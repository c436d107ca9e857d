/-! ===== the law: its rows, its cases, its loop ===== -/
/-- the script lies at place 200, below all that is made -/
def zEx (G : zG) (L : Nat) (xs : Nat → Int32) (s : State) : Prop := va_X (G.2.2.1 200) L xs s s.heap ∧ G.2.2.1 200 < s.heap.size ∧ ¬ zA G (G.2.2.1 200) ∧ ∀ q, zA G q → s.heap.size ≤ q
section
variable {l : Launch} {G : zG} {R : Room} {own : String} {cc : ByteArray} {nL : Nat} {ret' : Option FieldType} {Z : List Frame → Array Value → State → State → Prop} {kc ks : Nat} {pc : Nat} {ls st : List zV} {mem : zM} {L : Nat} {xs : Nat → Int32}
theorem r_sld {i : Int} (h0 : 0 ≤ i) (h1 : i < L) (hd : decode cc pc = .ok (.iaload, 1)) (kk : SW l G R own cc nL ret' Z kc ks (zEx G L xs) (pc + 1) ls (zI (xs i.toNat).toInt :: st) mem) : SW l G R own cc nL ret' Z kc ks (zEx G L xs) pc ls (zI i :: zR 200 :: st) mem := by
  intro p e s m args below meth c H locs lsA C hE hX hK hI hP hS hL ol os om
  have k9 := kk p e s m args below meth c H locs lsA C hE hX hK hI hP hS hL ol (os.tl.tl.co (zi_in _)) om
  refine va_sld C.1 C.2.1 hE.1 hE.2.1 hE.2.2.1 hS (zo_in h0 h1 os.hd) hd ?_
  rw [zo_clamp h0 (os.hd).2]
  have e1 : zv G (zI (xs i.toNat).toInt) = .int (xs i.toNat) := by show Value.int (Int32.ofInt (xs i.toNat).toInt) = _; rw [zo_i]
  rw [← e1]
  exact k9
theorem r_slenL (hL31 : (L : Int) < 2147483648) (hd : decode cc pc = .ok (.arraylength, 1)) (kk : SW l G R own cc nL ret' Z kc ks (zEx G L xs) (pc + 1) ls (zI (L : Nat) :: st) mem) : SW l G R own cc nL ret' Z kc ks (zEx G L xs) pc ls (zR 200 :: st) mem := by
  intro p e s m args below meth c H locs lsA C hE hX hK hI hP hS hL ol os om
  have k9 := kk p e s m args below meth c H locs lsA C hE hX hK hI hP hS hL ol (os.tl.co (show zin32 _ by unfold zin32; omega)) om
  exact va_slen C.1 C.2.1 hE.1 hE.2.1 hE.2.2.1 hS hd k9
variable {y : MethodName} {bytes : ByteArray} {nL' : Nat} {ret9 : Option FieldType} {d index b ci n : Nat} {As : List zV} {Ex : State → Prop} {st0 : List zV}
theorem r_simQ {K : zM → (Option zV → zM → Prop) → Prop} (hM : CT l G y bytes nL' ret9 d (zR b :: As) mem (simQ K)) (hk : zCl own index y bytes nL' ret9 n ci) (hL9 : zL b = (ci, zNf ci)) (hn : As.length = n) (hst : st0 = As.reverse ++ zR b :: st) (hd : decode cc pc = .ok (.invokevirtual index, 3)) (kk : ∀ v m1, K m1 (fun r2 m2 => r2 = some (zI v) ∧ SIM m2) → SW l G R own cc nL ret' Z kc ks Ex (pc + 3) ls (zI v :: st) m1) (hR : d + 1 ≤ R.frames ∧ 8 + (nL' + 11) + 100 * d ≤ R.locals := by exact ⟨Nat.le_of_ble_eq_true rfl, Nat.le_of_ble_eq_true rfl⟩) (hw : zwd st ≤ 8 := by exact Nat.le_of_ble_eq_true rfl) : SW l G R own cc nL ret' Z kc ks Ex pc ls st0 mem := by
  obtain ⟨h1, h2, h3, T, N, h4⟩ := hk
  exact r_callV hM h1 h2 hL9 h3 h4 hn hst hR hw hd (fun r m9 h9 => by obtain ⟨v, rfl, h9⟩ := h9; exact kk v m9 h9)
theorem r_simJ {K : zM → (Option zV → zM → Prop) → Prop} (hM : CT l G y bytes nL' ret9 d (zR b :: As) mem (simJ K)) (hk : zCl own index y bytes nL' ret9 n ci) (hL9 : zL b = (ci, zNf ci)) (hn : As.length = n) (hst : st0 = As.reverse ++ zR b :: st) (hd : decode cc pc = .ok (.invokevirtual index, 3)) (kk : ∀ v m1, K m1 (fun r2 m2 => r2 = some (zJ v) ∧ SIM m2) → SW l G R own cc nL ret' Z kc ks Ex (pc + 3) ls (zJ v :: st) m1) (hR : d + 1 ≤ R.frames ∧ 8 + (nL' + 11) + 100 * d ≤ R.locals := by exact ⟨Nat.le_of_ble_eq_true rfl, Nat.le_of_ble_eq_true rfl⟩) (hw : zwd st ≤ 8 := by exact Nat.le_of_ble_eq_true rfl) : SW l G R own cc nL ret' Z kc ks Ex pc ls st0 mem := by
  obtain ⟨h1, h2, h3, T, N, h4⟩ := hk
  exact r_callV hM h1 h2 hL9 h3 h4 hn hst hR hw hd (fun r m9 h9 => by obtain ⟨v, rfl, h9⟩ := h9; exact kk v m9 h9)
theorem r_simR {v : zV} (hM : CT l G y bytes nL' ret9 d (zR b :: As) mem (fun r2 m2 => r2 = some v ∧ SIM m2)) (hk : zCl own index y bytes nL' ret9 n ci) (hL9 : zL b = (ci, zNf ci)) (hn : As.length = n) (hst : st0 = As.reverse ++ zR b :: st) (hd : decode cc pc = .ok (.invokevirtual index, 3)) (kk : ∀ m2, SIM m2 → SW l G R own cc nL ret' Z kc ks Ex (pc + 3) ls (v :: st) m2) (hR : d + 1 ≤ R.frames ∧ 8 + (nL' + 11) + 100 * d ≤ R.locals := by exact ⟨Nat.le_of_ble_eq_true rfl, Nat.le_of_ble_eq_true rfl⟩) (hw : zwd st ≤ 8 := by exact Nat.le_of_ble_eq_true rfl) : SW l G R own cc nL ret' Z kc ks Ex pc ls st0 mem := by
  obtain ⟨h1, h2, h3, T, N, h4⟩ := hk
  exact r_callV hM h1 h2 hL9 h3 h4 hn hst hR hw hd (fun r m9 h9 => by obtain ⟨rfl, h9⟩ := h9; exact kk m9 h9)
end
/-- the law's own end: 1 on the stack, all that was written is new -/
theorem r_lw {l : Launch} {G : zG} {kc ks pc : Nat} {ls : List zV} {mem : zM} {L : Nat} {xs : Nat → Int32} (hc : kc ≤ 600000) (hs : ks ≤ 7302250) (hdg : decode code pc = .ok (.ireturn, 1)) : SW l G room_1 RL cL_law 4 ret (fun below args s => lw_Z below args s) kc ks (zEx G L xs) pc ls [zI 1] mem := by
  intro p e s m args below meth c H locs lsA C hE hX hK hI hP hS hL ol os om
  obtain ⟨hx, hb, -, -, -, hr, hlocks, -, -⟩ := C
  refine va_forget (fun q hq => hE.2.2.2 _ (hS.2.2 q hq)) ?_
  refine W.widen (k := 600000) (n := 7302250) hc hs ?_
  show W p l e room_1 s m args below meth c H [] 600000 7302250 (lw_Z below args s) (F0 m pc lsA [.int 1])
  intro T hT X
  obtain ⟨fs, hret, hrun, hended, hW, hframe⟩ := X.leave (v := some (.int 1)) (hlocks := hlocks) (fun h => by rw [hr] at h; cases h)
  have hmeth' : T.vm.method? m = some meth := X.method'
  refine ⟨T.setFrames fs, ?_, .returned (some (.int 1)), hrun, hended, rfl, ⟨_, rfl⟩, hW, hframe⟩
  jvm_step X.here [X.here.top, hx, hb, hdg, hmeth', hr, ret, narrow_b1]
  (try refine ⟨rfl, ?_⟩); (try refine ⟨rfl, ?_⟩)
  first | (intro acts; rw [hret _ acts rfl rfl rfl]) | rw [hret _ _ rfl rfl rfl]
  exact Steps.refl _
section
variable {l : Launch} {G : zG} {kc ks : Nat} {L : Nat} {xs : Nat → Int32}
theorem lw_c0 {mem : zM} {i : Int} (h : SIM mem) (i0 : 0 ≤ i) (i4 : i + 4 < L) (hL : L ≤ 2560) (kk : ∀ m2, SIM m2 → SW l G room_1 RL cL_law 4 ret (fun below args s => lw_Z below args s) kc ks (zEx G L xs) 1470 [zR 200, zR 0, zR 65, zI i] [] m2) : SW l G room_1 RL cL_law 4 ret (fun below args s => lw_Z below args s) kc ks (zEx G L xs) 208 [zR 200, zR 0, zR 65, zI i] [] mem := by
  refine r_aload_n dL_law_208 rfl ?_
  refine r_aload_n dL_law_209 rfl ?_
  refine r_iload_n dL_law_210 rfl ?_
  refine r_iconst dL_law_211 (k := ?_)
  refine r_iadd dL_law_212 ?_
  rw [zw_id (by omega) (by omega)]
  refine r_sld (by omega) (by omega) dL_law_213 ?_
  refine r_simQ (As := [zI (xs (i + 1).toNat).toInt]) (sim_feed h _) kL_13 rfl rfl rfl dL_law_214 (fun v m1 h1 => ?_)
  refine r_aload_n dL_law_217 rfl ?_
  refine r_aload_n dL_law_218 rfl ?_
  refine r_iload_n dL_law_219 rfl ?_
  refine r_iconst dL_law_220 (k := ?_)
  refine r_iadd dL_law_221 ?_
  rw [zw_id (by omega) (by omega)]
  refine r_sld (by omega) (by omega) dL_law_222 ?_
  refine r_simR (As := [zI (xs (i + 1).toNat).toInt]) h1 kL_17 rfl rfl rfl dL_law_223 (fun m2 h2 => ?_)
  exact r_icmp_eq (tgt := 1470) dL_law_226 (by decide) (fun _ => kk m2 h2) (fun h => absurd rfl h)
theorem lw_c1 {mem : zM} {i : Int} (h : SIM mem) (i0 : 0 ≤ i) (i4 : i + 4 < L) (hL : L ≤ 2560) (kk : ∀ m2, SIM m2 → SW l G room_1 RL cL_law 4 ret (fun below args s => lw_Z below args s) kc ks (zEx G L xs) 1470 [zR 200, zR 0, zR 65, zI i] [] m2) : SW l G room_1 RL cL_law 4 ret (fun below args s => lw_Z below args s) kc ks (zEx G L xs) 231 [zR 200, zR 0, zR 65, zI i] [] mem := by
  refine r_aload_n dL_law_231 rfl ?_
  refine r_aload_n dL_law_232 rfl ?_
  refine r_iload_n dL_law_233 rfl ?_
  refine r_iconst dL_law_234 (k := ?_)
  refine r_iadd dL_law_235 ?_
  rw [zw_id (by omega) (by omega)]
  refine r_sld (by omega) (by omega) dL_law_236 ?_
  refine r_simQ (As := [zI (xs (i + 1).toNat).toInt]) (sim_end h _) kL_18 rfl rfl rfl dL_law_237 (fun v m1 h1 => ?_)
  refine r_aload_n dL_law_240 rfl ?_
  refine r_aload_n dL_law_241 rfl ?_
  refine r_iload_n dL_law_242 rfl ?_
  refine r_iconst dL_law_243 (k := ?_)
  refine r_iadd dL_law_244 ?_
  rw [zw_id (by omega) (by omega)]
  refine r_sld (by omega) (by omega) dL_law_245 ?_
  refine r_simR (As := [zI (xs (i + 1).toNat).toInt]) h1 kL_21 rfl rfl rfl dL_law_246 (fun m2 h2 => ?_)
  exact r_icmp_eq (tgt := 1470) dL_law_249 (by decide) (fun _ => kk m2 h2) (fun h => absurd rfl h)
theorem lw_c2 {mem : zM} {i : Int} (h : SIM mem) (i0 : 0 ≤ i) (i4 : i + 4 < L) (hL : L ≤ 2560) (kk : ∀ m2, SIM m2 → SW l G room_1 RL cL_law 4 ret (fun below args s => lw_Z below args s) kc ks (zEx G L xs) 1470 [zR 200, zR 0, zR 65, zI i] [] m2) : SW l G room_1 RL cL_law 4 ret (fun below args s => lw_Z below args s) kc ks (zEx G L xs) 254 [zR 200, zR 0, zR 65, zI i] [] mem := by
  refine r_aload_n dL_law_254 rfl ?_
  refine r_simQ (As := []) (sim_text h) kL_22 rfl rfl rfl dL_law_255 (fun v m1 h1 => ?_)
  refine r_aload_n dL_law_258 rfl ?_
  refine r_simR (As := []) h1 kL_26 rfl rfl rfl dL_law_259 (fun m2 h2 => ?_)
  exact r_icmp_eq (tgt := 1470) dL_law_262 (by decide) (fun _ => kk m2 h2) (fun h => absurd rfl h)
theorem lw_c3 {mem : zM} {i : Int} (h : SIM mem) (i0 : 0 ≤ i) (i4 : i + 4 < L) (hL : L ≤ 2560) (kk : ∀ m2, SIM m2 → SW l G room_1 RL cL_law 4 ret (fun below args s => lw_Z below args s) kc ks (zEx G L xs) 1470 [zR 200, zR 0, zR 65, zI i] [] m2) : SW l G room_1 RL cL_law 4 ret (fun below args s => lw_Z below args s) kc ks (zEx G L xs) 267 [zR 200, zR 0, zR 65, zI i] [] mem := by
  refine r_aload_n dL_law_267 rfl ?_
  refine r_simQ (As := []) (sim_fault h) kL_27 rfl rfl rfl dL_law_268 (fun v m1 h1 => ?_)
  refine r_aload_n dL_law_271 rfl ?_
  refine r_simR (As := []) h1 kL_30 rfl rfl rfl dL_law_272 (fun m2 h2 => ?_)
  exact r_icmp_eq (tgt := 1470) dL_law_275 (by decide) (fun _ => kk m2 h2) (fun h => absurd rfl h)
theorem lw_c4 {mem : zM} {i : Int} (h : SIM mem) (i0 : 0 ≤ i) (i4 : i + 4 < L) (hL : L ≤ 2560) (kk : ∀ m2, SIM m2 → SW l G room_1 RL cL_law 4 ret (fun below args s => lw_Z below args s) kc ks (zEx G L xs) 1470 [zR 200, zR 0, zR 65, zI i] [] m2) : SW l G room_1 RL cL_law 4 ret (fun below args s => lw_Z below args s) kc ks (zEx G L xs) 280 [zR 200, zR 0, zR 65, zI i] [] mem := by
  refine r_aload_n dL_law_280 rfl ?_
  refine r_aload_n dL_law_281 rfl ?_
  refine r_iload_n dL_law_282 rfl ?_
  refine r_iconst dL_law_283 (k := ?_)
  refine r_iadd dL_law_284 ?_
  rw [zw_id (by omega) (by omega)]
  refine r_sld (by omega) (by omega) dL_law_285 ?_
  refine r_simQ (As := [zI (xs (i + 1).toNat).toInt]) (sim_rule h _) kL_31 rfl rfl rfl dL_law_286 (fun v m1 h1 => ?_)
  refine r_aload_n dL_law_289 rfl ?_
  refine r_aload_n dL_law_290 rfl ?_
  refine r_iload_n dL_law_291 rfl ?_
  refine r_iconst dL_law_292 (k := ?_)
  refine r_iadd dL_law_293 ?_
  rw [zw_id (by omega) (by omega)]
  refine r_sld (by omega) (by omega) dL_law_294 ?_
  refine r_simR (As := [zI (xs (i + 1).toNat).toInt]) h1 kL_34 rfl rfl rfl dL_law_295 (fun m2 h2 => ?_)
  exact r_icmp_eq (tgt := 1470) dL_law_298 (by decide) (fun _ => kk m2 h2) (fun h => absurd rfl h)
theorem lw_c5 {mem : zM} {i : Int} (h : SIM mem) (i0 : 0 ≤ i) (i4 : i + 4 < L) (hL : L ≤ 2560) (kk : ∀ m2, SIM m2 → SW l G room_1 RL cL_law 4 ret (fun below args s => lw_Z below args s) kc ks (zEx G L xs) 1470 [zR 200, zR 0, zR 65, zI i] [] m2) : SW l G room_1 RL cL_law 4 ret (fun below args s => lw_Z below args s) kc ks (zEx G L xs) 303 [zR 200, zR 0, zR 65, zI i] [] mem := by
  refine r_aload_n dL_law_303 rfl ?_
  refine r_aload_n dL_law_304 rfl ?_
  refine r_iload_n dL_law_305 rfl ?_
  refine r_iconst dL_law_306 (k := ?_)
  refine r_iadd dL_law_307 ?_
  rw [zw_id (by omega) (by omega)]
  refine r_sld (by omega) (by omega) dL_law_308 ?_
  refine r_aload_n dL_law_309 rfl ?_
  refine r_iload_n dL_law_310 rfl ?_
  refine r_iconst dL_law_311 (k := ?_)
  refine r_iadd dL_law_312 ?_
  rw [zw_id (by omega) (by omega)]
  refine r_sld (by omega) (by omega) dL_law_313 ?_
  refine r_simQ (As := [zI (xs (i + 1).toNat).toInt, zI (xs (i + 2).toNat).toInt]) (sim_isle h _ _) kL_35 rfl rfl rfl dL_law_314 (fun v m1 h1 => ?_)
  refine r_aload_n dL_law_317 rfl ?_
  refine r_aload_n dL_law_318 rfl ?_
  refine r_iload_n dL_law_319 rfl ?_
  refine r_iconst dL_law_320 (k := ?_)
  refine r_iadd dL_law_321 ?_
  rw [zw_id (by omega) (by omega)]
  refine r_sld (by omega) (by omega) dL_law_322 ?_
  refine r_aload_n dL_law_323 rfl ?_
  refine r_iload_n dL_law_324 rfl ?_
  refine r_iconst dL_law_325 (k := ?_)
  refine r_iadd dL_law_326 ?_
  rw [zw_id (by omega) (by omega)]
  refine r_sld (by omega) (by omega) dL_law_327 ?_
  refine r_simR (As := [zI (xs (i + 1).toNat).toInt, zI (xs (i + 2).toNat).toInt]) h1 kL_39 rfl rfl rfl dL_law_328 (fun m2 h2 => ?_)
  exact r_icmp_eq (tgt := 1470) dL_law_331 (by decide) (fun _ => kk m2 h2) (fun h => absurd rfl h)
theorem lw_c6 {mem : zM} {i : Int} (h : SIM mem) (i0 : 0 ≤ i) (i4 : i + 4 < L) (hL : L ≤ 2560) (kk : ∀ m2, SIM m2 → SW l G room_1 RL cL_law 4 ret (fun below args s => lw_Z below args s) kc ks (zEx G L xs) 1470 [zR 200, zR 0, zR 65, zI i] [] m2) : SW l G room_1 RL cL_law 4 ret (fun below args s => lw_Z below args s) kc ks (zEx G L xs) 336 [zR 200, zR 0, zR 65, zI i] [] mem := by
  refine r_aload_n dL_law_336 rfl ?_
  refine r_aload_n dL_law_337 rfl ?_
  refine r_iload_n dL_law_338 rfl ?_
  refine r_iconst dL_law_339 (k := ?_)
  refine r_iadd dL_law_340 ?_
  rw [zw_id (by omega) (by omega)]
  refine r_sld (by omega) (by omega) dL_law_341 ?_
  refine r_aload_n dL_law_342 rfl ?_
  refine r_iload_n dL_law_343 rfl ?_
  refine r_iconst dL_law_344 (k := ?_)
  refine r_iadd dL_law_345 ?_
  rw [zw_id (by omega) (by omega)]
  refine r_sld (by omega) (by omega) dL_law_346 ?_
  refine r_simQ (As := [zI (xs (i + 1).toNat).toInt, zI (xs (i + 2).toNat).toInt]) (sim_cross h _ _) kL_40 rfl rfl rfl dL_law_347 (fun v m1 h1 => ?_)
  refine r_aload_n dL_law_350 rfl ?_
  refine r_aload_n dL_law_351 rfl ?_
  refine r_iload_n dL_law_352 rfl ?_
  refine r_iconst dL_law_353 (k := ?_)
  refine r_iadd dL_law_354 ?_
  rw [zw_id (by omega) (by omega)]
  refine r_sld (by omega) (by omega) dL_law_355 ?_
  refine r_aload_n dL_law_356 rfl ?_
  refine r_iload_n dL_law_357 rfl ?_
  refine r_iconst dL_law_358 (k := ?_)
  refine r_iadd dL_law_359 ?_
  rw [zw_id (by omega) (by omega)]
  refine r_sld (by omega) (by omega) dL_law_360 ?_
  refine r_simR (As := [zI (xs (i + 1).toNat).toInt, zI (xs (i + 2).toNat).toInt]) h1 kL_43 rfl rfl rfl dL_law_361 (fun m2 h2 => ?_)
  exact r_icmp_eq (tgt := 1470) dL_law_364 (by decide) (fun _ => kk m2 h2) (fun h => absurd rfl h)
theorem lw_c7 {mem : zM} {i : Int} (h : SIM mem) (i0 : 0 ≤ i) (i4 : i + 4 < L) (hL : L ≤ 2560) (kk : ∀ m2, SIM m2 → SW l G room_1 RL cL_law 4 ret (fun below args s => lw_Z below args s) kc ks (zEx G L xs) 1470 [zR 200, zR 0, zR 65, zI i] [] m2) : SW l G room_1 RL cL_law 4 ret (fun below args s => lw_Z below args s) kc ks (zEx G L xs) 369 [zR 200, zR 0, zR 65, zI i] [] mem := by
  refine r_aload_n dL_law_369 rfl ?_
  refine r_aload_n dL_law_370 rfl ?_
  refine r_iload_n dL_law_371 rfl ?_
  refine r_iconst dL_law_372 (k := ?_)
  refine r_iadd dL_law_373 ?_
  rw [zw_id (by omega) (by omega)]
  refine r_sld (by omega) (by omega) dL_law_374 ?_
  refine r_aload_n dL_law_375 rfl ?_
  refine r_iload_n dL_law_376 rfl ?_
  refine r_iconst dL_law_377 (k := ?_)
  refine r_iadd dL_law_378 ?_
  rw [zw_id (by omega) (by omega)]
  refine r_sld (by omega) (by omega) dL_law_379 ?_
  refine r_simQ (As := [zI (xs (i + 1).toNat).toInt, zI (xs (i + 2).toNat).toInt]) (sim_rope h _ _) kL_44 rfl rfl rfl dL_law_380 (fun v m1 h1 => ?_)
  refine r_aload_n dL_law_383 rfl ?_
  refine r_aload_n dL_law_384 rfl ?_
  refine r_iload_n dL_law_385 rfl ?_
  refine r_iconst dL_law_386 (k := ?_)
  refine r_iadd dL_law_387 ?_
  rw [zw_id (by omega) (by omega)]
  refine r_sld (by omega) (by omega) dL_law_388 ?_
  refine r_aload_n dL_law_389 rfl ?_
  refine r_iload_n dL_law_390 rfl ?_
  refine r_iconst dL_law_391 (k := ?_)
  refine r_iadd dL_law_392 ?_
  rw [zw_id (by omega) (by omega)]
  refine r_sld (by omega) (by omega) dL_law_393 ?_
  refine r_simR (As := [zI (xs (i + 1).toNat).toInt, zI (xs (i + 2).toNat).toInt]) h1 kL_47 rfl rfl rfl dL_law_394 (fun m2 h2 => ?_)
  exact r_icmp_eq (tgt := 1470) dL_law_397 (by decide) (fun _ => kk m2 h2) (fun h => absurd rfl h)
theorem lw_c8 {mem : zM} {i : Int} (h : SIM mem) (i0 : 0 ≤ i) (i4 : i + 4 < L) (hL : L ≤ 2560) (kk : ∀ m2, SIM m2 → SW l G room_1 RL cL_law 4 ret (fun below args s => lw_Z below args s) kc ks (zEx G L xs) 1470 [zR 200, zR 0, zR 65, zI i] [] m2) : SW l G room_1 RL cL_law 4 ret (fun below args s => lw_Z below args s) kc ks (zEx G L xs) 402 [zR 200, zR 0, zR 65, zI i] [] mem := by
  refine r_aload_n dL_law_402 rfl ?_
  refine r_aload_n dL_law_403 rfl ?_
  refine r_iload_n dL_law_404 rfl ?_
  refine r_iconst dL_law_405 (k := ?_)
  refine r_iadd dL_law_406 ?_
  rw [zw_id (by omega) (by omega)]
  refine r_sld (by omega) (by omega) dL_law_407 ?_
  refine r_aload_n dL_law_408 rfl ?_
  refine r_iload_n dL_law_409 rfl ?_
  refine r_iconst dL_law_410 (k := ?_)
  refine r_iadd dL_law_411 ?_
  rw [zw_id (by omega) (by omega)]
  refine r_sld (by omega) (by omega) dL_law_412 ?_
  refine r_simQ (As := [zI (xs (i + 1).toNat).toInt, zI (xs (i + 2).toNat).toInt]) (sim_far h _ _) kL_48 rfl rfl rfl dL_law_413 (fun v m1 h1 => ?_)
  refine r_aload_n dL_law_416 rfl ?_
  refine r_aload_n dL_law_417 rfl ?_
  refine r_iload_n dL_law_418 rfl ?_
  refine r_iconst dL_law_419 (k := ?_)
  refine r_iadd dL_law_420 ?_
  rw [zw_id (by omega) (by omega)]
  refine r_sld (by omega) (by omega) dL_law_421 ?_
  refine r_aload_n dL_law_422 rfl ?_
  refine r_iload_n dL_law_423 rfl ?_
  refine r_iconst dL_law_424 (k := ?_)
  refine r_iadd dL_law_425 ?_
  rw [zw_id (by omega) (by omega)]
  refine r_sld (by omega) (by omega) dL_law_426 ?_
  refine r_simR (As := [zI (xs (i + 1).toNat).toInt, zI (xs (i + 2).toNat).toInt]) h1 kL_51 rfl rfl rfl dL_law_427 (fun m2 h2 => ?_)
  exact r_icmp_eq (tgt := 1470) dL_law_430 (by decide) (fun _ => kk m2 h2) (fun h => absurd rfl h)
theorem lw_c9 {mem : zM} {i : Int} (h : SIM mem) (i0 : 0 ≤ i) (i4 : i + 4 < L) (hL : L ≤ 2560) (kk : ∀ m2, SIM m2 → SW l G room_1 RL cL_law 4 ret (fun below args s => lw_Z below args s) kc ks (zEx G L xs) 1470 [zR 200, zR 0, zR 65, zI i] [] m2) : SW l G room_1 RL cL_law 4 ret (fun below args s => lw_Z below args s) kc ks (zEx G L xs) 435 [zR 200, zR 0, zR 65, zI i] [] mem := by
  refine r_aload_n dL_law_435 rfl ?_
  refine r_aload_n dL_law_436 rfl ?_
  refine r_iload_n dL_law_437 rfl ?_
  refine r_iconst dL_law_438 (k := ?_)
  refine r_iadd dL_law_439 ?_
  rw [zw_id (by omega) (by omega)]
  refine r_sld (by omega) (by omega) dL_law_440 ?_
  refine r_aload_n dL_law_441 rfl ?_
  refine r_iload_n dL_law_442 rfl ?_
  refine r_iconst dL_law_443 (k := ?_)
  refine r_iadd dL_law_444 ?_
  rw [zw_id (by omega) (by omega)]
  refine r_sld (by omega) (by omega) dL_law_445 ?_
  refine r_aload_n dL_law_446 rfl ?_
  refine r_iload_n dL_law_447 rfl ?_
  refine r_iconst dL_law_448 (k := ?_)
  refine r_iadd dL_law_449 ?_
  rw [zw_id (by omega) (by omega)]
  refine r_sld (by omega) (by omega) dL_law_450 ?_
  refine r_simQ (As := [zI (xs (i + 1).toNat).toInt, zI (xs (i + 2).toNat).toInt, zI (xs (i + 3).toNat).toInt]) (sim_alter h _ _ _) kL_52 rfl rfl rfl dL_law_451 (fun v m1 h1 => ?_)
  refine r_aload_n dL_law_454 rfl ?_
  refine r_aload_n dL_law_455 rfl ?_
  refine r_iload_n dL_law_456 rfl ?_
  refine r_iconst dL_law_457 (k := ?_)
  refine r_iadd dL_law_458 ?_
  rw [zw_id (by omega) (by omega)]
  refine r_sld (by omega) (by omega) dL_law_459 ?_
  refine r_aload_n dL_law_460 rfl ?_
  refine r_iload_n dL_law_461 rfl ?_
  refine r_iconst dL_law_462 (k := ?_)
  refine r_iadd dL_law_463 ?_
  rw [zw_id (by omega) (by omega)]
  refine r_sld (by omega) (by omega) dL_law_464 ?_
  refine r_aload_n dL_law_465 rfl ?_
  refine r_iload_n dL_law_466 rfl ?_
  refine r_iconst dL_law_467 (k := ?_)
  refine r_iadd dL_law_468 ?_
  rw [zw_id (by omega) (by omega)]
  refine r_sld (by omega) (by omega) dL_law_469 ?_
  refine r_simR (As := [zI (xs (i + 1).toNat).toInt, zI (xs (i + 2).toNat).toInt, zI (xs (i + 3).toNat).toInt]) h1 kL_56 rfl rfl rfl dL_law_470 (fun m2 h2 => ?_)
  exact r_icmp_eq (tgt := 1470) dL_law_473 (by decide) (fun _ => kk m2 h2) (fun h => absurd rfl h)
theorem lw_c10 {mem : zM} {i : Int} (h : SIM mem) (i0 : 0 ≤ i) (i4 : i + 4 < L) (hL : L ≤ 2560) (kk : ∀ m2, SIM m2 → SW l G room_1 RL cL_law 4 ret (fun below args s => lw_Z below args s) kc ks (zEx G L xs) 1470 [zR 200, zR 0, zR 65, zI i] [] m2) : SW l G room_1 RL cL_law 4 ret (fun below args s => lw_Z below args s) kc ks (zEx G L xs) 478 [zR 200, zR 0, zR 65, zI i] [] mem := by
  refine r_aload_n dL_law_478 rfl ?_
  refine r_aload_n dL_law_479 rfl ?_
  refine r_iload_n dL_law_480 rfl ?_
  refine r_iconst dL_law_481 (k := ?_)
  refine r_iadd dL_law_482 ?_
  rw [zw_id (by omega) (by omega)]
  refine r_sld (by omega) (by omega) dL_law_483 ?_
  refine r_aload_n dL_law_484 rfl ?_
  refine r_iload_n dL_law_485 rfl ?_
  refine r_iconst dL_law_486 (k := ?_)
  refine r_iadd dL_law_487 ?_
  rw [zw_id (by omega) (by omega)]
  refine r_sld (by omega) (by omega) dL_law_488 ?_
  refine r_aload_n dL_law_489 rfl ?_
  refine r_iload_n dL_law_490 rfl ?_
  refine r_iconst dL_law_491 (k := ?_)
  refine r_iadd dL_law_492 ?_
  rw [zw_id (by omega) (by omega)]
  refine r_sld (by omega) (by omega) dL_law_493 ?_
  refine r_simQ (As := [zI (xs (i + 1).toNat).toInt, zI (xs (i + 2).toNat).toInt, zI (xs (i + 3).toNat).toInt]) (sim_sulk h _ _ _) kL_57 rfl rfl rfl dL_law_494 (fun v m1 h1 => ?_)
  refine r_aload_n dL_law_497 rfl ?_
  refine r_aload_n dL_law_498 rfl ?_
  refine r_iload_n dL_law_499 rfl ?_
  refine r_iconst dL_law_500 (k := ?_)
  refine r_iadd dL_law_501 ?_
  rw [zw_id (by omega) (by omega)]
  refine r_sld (by omega) (by omega) dL_law_502 ?_
  refine r_aload_n dL_law_503 rfl ?_
  refine r_iload_n dL_law_504 rfl ?_
  refine r_iconst dL_law_505 (k := ?_)
  refine r_iadd dL_law_506 ?_
  rw [zw_id (by omega) (by omega)]
  refine r_sld (by omega) (by omega) dL_law_507 ?_
  refine r_aload_n dL_law_508 rfl ?_
  refine r_iload_n dL_law_509 rfl ?_
  refine r_iconst dL_law_510 (k := ?_)
  refine r_iadd dL_law_511 ?_
  rw [zw_id (by omega) (by omega)]
  refine r_sld (by omega) (by omega) dL_law_512 ?_
  refine r_simR (As := [zI (xs (i + 1).toNat).toInt, zI (xs (i + 2).toNat).toInt, zI (xs (i + 3).toNat).toInt]) h1 kL_60 rfl rfl rfl dL_law_513 (fun m2 h2 => ?_)
  exact r_icmp_eq (tgt := 1470) dL_law_516 (by decide) (fun _ => kk m2 h2) (fun h => absurd rfl h)
theorem lw_c11 {mem : zM} {i : Int} (h : SIM mem) (i0 : 0 ≤ i) (i4 : i + 4 < L) (hL : L ≤ 2560) (kk : ∀ m2, SIM m2 → SW l G room_1 RL cL_law 4 ret (fun below args s => lw_Z below args s) kc ks (zEx G L xs) 1470 [zR 200, zR 0, zR 65, zI i] [] m2) : SW l G room_1 RL cL_law 4 ret (fun below args s => lw_Z below args s) kc ks (zEx G L xs) 521 [zR 200, zR 0, zR 65, zI i] [] mem := by
  refine r_aload_n dL_law_521 rfl ?_
  refine r_aload_n dL_law_522 rfl ?_
  refine r_iload_n dL_law_523 rfl ?_
  refine r_iconst dL_law_524 (k := ?_)
  refine r_iadd dL_law_525 ?_
  rw [zw_id (by omega) (by omega)]
  refine r_sld (by omega) (by omega) dL_law_526 ?_
  refine r_aload_n dL_law_527 rfl ?_
  refine r_iload_n dL_law_528 rfl ?_
  refine r_iconst dL_law_529 (k := ?_)
  refine r_iadd dL_law_530 ?_
  rw [zw_id (by omega) (by omega)]
  refine r_sld (by omega) (by omega) dL_law_531 ?_
  refine r_simQ (As := [zI (xs (i + 1).toNat).toInt, zI (xs (i + 2).toNat).toInt]) (sim_haul h _ _) kL_61 rfl rfl rfl dL_law_532 (fun v m1 h1 => ?_)
  refine r_aload_n dL_law_535 rfl ?_
  refine r_aload_n dL_law_536 rfl ?_
  refine r_iload_n dL_law_537 rfl ?_
  refine r_iconst dL_law_538 (k := ?_)
  refine r_iadd dL_law_539 ?_
  rw [zw_id (by omega) (by omega)]
  refine r_sld (by omega) (by omega) dL_law_540 ?_
  refine r_aload_n dL_law_541 rfl ?_
  refine r_iload_n dL_law_542 rfl ?_
  refine r_iconst dL_law_543 (k := ?_)
  refine r_iadd dL_law_544 ?_
  rw [zw_id (by omega) (by omega)]
  refine r_sld (by omega) (by omega) dL_law_545 ?_
  refine r_simR (As := [zI (xs (i + 1).toNat).toInt, zI (xs (i + 2).toNat).toInt]) h1 kL_64 rfl rfl rfl dL_law_546 (fun m2 h2 => ?_)
  exact r_icmp_eq (tgt := 1470) dL_law_549 (by decide) (fun _ => kk m2 h2) (fun h => absurd rfl h)
theorem lw_c12 {mem : zM} {i : Int} (h : SIM mem) (i0 : 0 ≤ i) (i4 : i + 4 < L) (hL : L ≤ 2560) (kk : ∀ m2, SIM m2 → SW l G room_1 RL cL_law 4 ret (fun below args s => lw_Z below args s) kc ks (zEx G L xs) 1470 [zR 200, zR 0, zR 65, zI i] [] m2) : SW l G room_1 RL cL_law 4 ret (fun below args s => lw_Z below args s) kc ks (zEx G L xs) 554 [zR 200, zR 0, zR 65, zI i] [] mem := by
  refine r_aload_n dL_law_554 rfl ?_
  refine r_aload_n dL_law_555 rfl ?_
  refine r_iload_n dL_law_556 rfl ?_
  refine r_iconst dL_law_557 (k := ?_)
  refine r_iadd dL_law_558 ?_
  rw [zw_id (by omega) (by omega)]
  refine r_sld (by omega) (by omega) dL_law_559 ?_
  refine r_aload_n dL_law_560 rfl ?_
  refine r_iload_n dL_law_561 rfl ?_
  refine r_iconst dL_law_562 (k := ?_)
  refine r_iadd dL_law_563 ?_
  rw [zw_id (by omega) (by omega)]
  refine r_sld (by omega) (by omega) dL_law_564 ?_
  refine r_aload_n dL_law_565 rfl ?_
  refine r_iload_n dL_law_566 rfl ?_
  refine r_iconst dL_law_567 (k := ?_)
  refine r_iadd dL_law_568 ?_
  rw [zw_id (by omega) (by omega)]
  refine r_sld (by omega) (by omega) dL_law_569 ?_
  refine r_simQ (As := [zI (xs (i + 1).toNat).toInt, zI (xs (i + 2).toNat).toInt, zI (xs (i + 3).toNat).toInt]) (sim_wed h _ _ _) kL_65 rfl rfl rfl dL_law_570 (fun v m1 h1 => ?_)
  refine r_aload_n dL_law_573 rfl ?_
  refine r_aload_n dL_law_574 rfl ?_
  refine r_iload_n dL_law_575 rfl ?_
  refine r_iconst dL_law_576 (k := ?_)
  refine r_iadd dL_law_577 ?_
  rw [zw_id (by omega) (by omega)]
  refine r_sld (by omega) (by omega) dL_law_578 ?_
  refine r_aload_n dL_law_579 rfl ?_
  refine r_iload_n dL_law_580 rfl ?_
  refine r_iconst dL_law_581 (k := ?_)
  refine r_iadd dL_law_582 ?_
  rw [zw_id (by omega) (by omega)]
  refine r_sld (by omega) (by omega) dL_law_583 ?_
  refine r_aload_n dL_law_584 rfl ?_
  refine r_iload_n dL_law_585 rfl ?_
  refine r_iconst dL_law_586 (k := ?_)
  refine r_iadd dL_law_587 ?_
  rw [zw_id (by omega) (by omega)]
  refine r_sld (by omega) (by omega) dL_law_588 ?_
  refine r_simR (As := [zI (xs (i + 1).toNat).toInt, zI (xs (i + 2).toNat).toInt, zI (xs (i + 3).toNat).toInt]) h1 kL_68 rfl rfl rfl dL_law_589 (fun m2 h2 => ?_)
  exact r_icmp_eq (tgt := 1470) dL_law_592 (by decide) (fun _ => kk m2 h2) (fun h => absurd rfl h)
theorem lw_c13 {mem : zM} {i : Int} (h : SIM mem) (i0 : 0 ≤ i) (i4 : i + 4 < L) (hL : L ≤ 2560) (kk : ∀ m2, SIM m2 → SW l G room_1 RL cL_law 4 ret (fun below args s => lw_Z below args s) kc ks (zEx G L xs) 1470 [zR 200, zR 0, zR 65, zI i] [] m2) : SW l G room_1 RL cL_law 4 ret (fun below args s => lw_Z below args s) kc ks (zEx G L xs) 597 [zR 200, zR 0, zR 65, zI i] [] mem := by
  refine r_aload_n dL_law_597 rfl ?_
  refine r_aload_n dL_law_598 rfl ?_
  refine r_iload_n dL_law_599 rfl ?_
  refine r_iconst dL_law_600 (k := ?_)
  refine r_iadd dL_law_601 ?_
  rw [zw_id (by omega) (by omega)]
  refine r_sld (by omega) (by omega) dL_law_602 ?_
  refine r_simQ (As := [zI (xs (i + 1).toNat).toInt]) (sim_loose h _) kL_69 rfl rfl rfl dL_law_603 (fun v m1 h1 => ?_)
  refine r_aload_n dL_law_606 rfl ?_
  refine r_aload_n dL_law_607 rfl ?_
  refine r_iload_n dL_law_608 rfl ?_
  refine r_iconst dL_law_609 (k := ?_)
  refine r_iadd dL_law_610 ?_
  rw [zw_id (by omega) (by omega)]
  refine r_sld (by omega) (by omega) dL_law_611 ?_
  refine r_simR (As := [zI (xs (i + 1).toNat).toInt]) h1 kL_72 rfl rfl rfl dL_law_612 (fun m2 h2 => ?_)
  exact r_icmp_eq (tgt := 1470) dL_law_615 (by decide) (fun _ => kk m2 h2) (fun h => absurd rfl h)
theorem lw_c14 {mem : zM} {i : Int} (h : SIM mem) (i0 : 0 ≤ i) (i4 : i + 4 < L) (hL : L ≤ 2560) (kk : ∀ m2, SIM m2 → SW l G room_1 RL cL_law 4 ret (fun below args s => lw_Z below args s) kc ks (zEx G L xs) 1470 [zR 200, zR 0, zR 65, zI i] [] m2) : SW l G room_1 RL cL_law 4 ret (fun below args s => lw_Z below args s) kc ks (zEx G L xs) 620 [zR 200, zR 0, zR 65, zI i] [] mem := by
  refine r_aload_n dL_law_620 rfl ?_
  refine r_aload_n dL_law_621 rfl ?_
  refine r_iload_n dL_law_622 rfl ?_
  refine r_iconst dL_law_623 (k := ?_)
  refine r_iadd dL_law_624 ?_
  rw [zw_id (by omega) (by omega)]
  refine r_sld (by omega) (by omega) dL_law_625 ?_
  refine r_simQ (As := [zI (xs (i + 1).toNat).toInt]) (sim_feast h _) kL_73 rfl rfl rfl dL_law_626 (fun v m1 h1 => ?_)
  refine r_aload_n dL_law_629 rfl ?_
  refine r_aload_n dL_law_630 rfl ?_
  refine r_iload_n dL_law_631 rfl ?_
  refine r_iconst dL_law_632 (k := ?_)
  refine r_iadd dL_law_633 ?_
  rw [zw_id (by omega) (by omega)]
  refine r_sld (by omega) (by omega) dL_law_634 ?_
  refine r_simR (As := [zI (xs (i + 1).toNat).toInt]) h1 kL_76 rfl rfl rfl dL_law_635 (fun m2 h2 => ?_)
  exact r_icmp_eq (tgt := 1470) dL_law_638 (by decide) (fun _ => kk m2 h2) (fun h => absurd rfl h)
theorem lw_c15 {mem : zM} {i : Int} (h : SIM mem) (i0 : 0 ≤ i) (i4 : i + 4 < L) (hL : L ≤ 2560) (kk : ∀ m2, SIM m2 → SW l G room_1 RL cL_law 4 ret (fun below args s => lw_Z below args s) kc ks (zEx G L xs) 1470 [zR 200, zR 0, zR 65, zI i] [] m2) : SW l G room_1 RL cL_law 4 ret (fun below args s => lw_Z below args s) kc ks (zEx G L xs) 643 [zR 200, zR 0, zR 65, zI i] [] mem := by
  refine r_aload_n dL_law_643 rfl ?_
  refine r_aload_n dL_law_644 rfl ?_
  refine r_iload_n dL_law_645 rfl ?_
  refine r_iconst dL_law_646 (k := ?_)
  refine r_iadd dL_law_647 ?_
  rw [zw_id (by omega) (by omega)]
  refine r_sld (by omega) (by omega) dL_law_648 ?_
  refine r_simQ (As := [zI (xs (i + 1).toNat).toInt]) (sim_days h _) kL_77 rfl rfl rfl dL_law_649 (fun v m1 h1 => ?_)
  refine r_aload_n dL_law_652 rfl ?_
  refine r_aload_n dL_law_653 rfl ?_
  refine r_iload_n dL_law_654 rfl ?_
  refine r_iconst dL_law_655 (k := ?_)
  refine r_iadd dL_law_656 ?_
  rw [zw_id (by omega) (by omega)]
  refine r_sld (by omega) (by omega) dL_law_657 ?_
  refine r_simR (As := [zI (xs (i + 1).toNat).toInt]) h1 kL_80 rfl rfl rfl dL_law_658 (fun m2 h2 => ?_)
  exact r_icmp_eq (tgt := 1470) dL_law_661 (by decide) (fun _ => kk m2 h2) (fun h => absurd rfl h)
theorem lw_c16 {mem : zM} {i : Int} (h : SIM mem) (i0 : 0 ≤ i) (i4 : i + 4 < L) (hL : L ≤ 2560) (kk : ∀ m2, SIM m2 → SW l G room_1 RL cL_law 4 ret (fun below args s => lw_Z below args s) kc ks (zEx G L xs) 1470 [zR 200, zR 0, zR 65, zI i] [] m2) : SW l G room_1 RL cL_law 4 ret (fun below args s => lw_Z below args s) kc ks (zEx G L xs) 666 [zR 200, zR 0, zR 65, zI i] [] mem := by
  refine r_aload_n dL_law_666 rfl ?_
  refine r_aload_n dL_law_667 rfl ?_
  refine r_iload_n dL_law_668 rfl ?_
  refine r_iconst dL_law_669 (k := ?_)
  refine r_iadd dL_law_670 ?_
  rw [zw_id (by omega) (by omega)]
  refine r_sld (by omega) (by omega) dL_law_671 ?_
  refine r_aload_n dL_law_672 rfl ?_
  refine r_iload_n dL_law_673 rfl ?_
  refine r_iconst dL_law_674 (k := ?_)
  refine r_iadd dL_law_675 ?_
  rw [zw_id (by omega) (by omega)]
  refine r_sld (by omega) (by omega) dL_law_676 ?_
  refine r_simQ (As := [zI (xs (i + 1).toNat).toInt, zI (xs (i + 2).toNat).toInt]) (sim_runs h _ _) kL_81 rfl rfl rfl dL_law_677 (fun v m1 h1 => ?_)
  refine r_aload_n dL_law_680 rfl ?_
  refine r_aload_n dL_law_681 rfl ?_
  refine r_iload_n dL_law_682 rfl ?_
  refine r_iconst dL_law_683 (k := ?_)
  refine r_iadd dL_law_684 ?_
  rw [zw_id (by omega) (by omega)]
  refine r_sld (by omega) (by omega) dL_law_685 ?_
  refine r_aload_n dL_law_686 rfl ?_
  refine r_iload_n dL_law_687 rfl ?_
  refine r_iconst dL_law_688 (k := ?_)
  refine r_iadd dL_law_689 ?_
  rw [zw_id (by omega) (by omega)]
  refine r_sld (by omega) (by omega) dL_law_690 ?_
  refine r_simR (As := [zI (xs (i + 1).toNat).toInt, zI (xs (i + 2).toNat).toInt]) h1 kL_84 rfl rfl rfl dL_law_691 (fun m2 h2 => ?_)
  exact r_icmp_eq (tgt := 1470) dL_law_694 (by decide) (fun _ => kk m2 h2) (fun h => absurd rfl h)
theorem lw_c17 {mem : zM} {i : Int} (h : SIM mem) (i0 : 0 ≤ i) (i4 : i + 4 < L) (hL : L ≤ 2560) (kk : ∀ m2, SIM m2 → SW l G room_1 RL cL_law 4 ret (fun below args s => lw_Z below args s) kc ks (zEx G L xs) 1470 [zR 200, zR 0, zR 65, zI i] [] m2) : SW l G room_1 RL cL_law 4 ret (fun below args s => lw_Z below args s) kc ks (zEx G L xs) 699 [zR 200, zR 0, zR 65, zI i] [] mem := by
  refine r_aload_n dL_law_699 rfl ?_
  refine r_aload_n dL_law_700 rfl ?_
  refine r_iload_n dL_law_701 rfl ?_
  refine r_iconst dL_law_702 (k := ?_)
  refine r_iadd dL_law_703 ?_
  rw [zw_id (by omega) (by omega)]
  refine r_sld (by omega) (by omega) dL_law_704 ?_
  refine r_aload_n dL_law_705 rfl ?_
  refine r_iload_n dL_law_706 rfl ?_
  refine r_iconst dL_law_707 (k := ?_)
  refine r_iadd dL_law_708 ?_
  rw [zw_id (by omega) (by omega)]
  refine r_sld (by omega) (by omega) dL_law_709 ?_
  refine r_simQ (As := [zI (xs (i + 1).toNat).toInt, zI (xs (i + 2).toNat).toInt]) (sim_ahead h _ _) kL_85 rfl rfl rfl dL_law_710 (fun v m1 h1 => ?_)
  refine r_aload_n dL_law_713 rfl ?_
  refine r_aload_n dL_law_714 rfl ?_
  refine r_iload_n dL_law_715 rfl ?_
  refine r_iconst dL_law_716 (k := ?_)
  refine r_iadd dL_law_717 ?_
  rw [zw_id (by omega) (by omega)]
  refine r_sld (by omega) (by omega) dL_law_718 ?_
  refine r_aload_n dL_law_719 rfl ?_
  refine r_iload_n dL_law_720 rfl ?_
  refine r_iconst dL_law_721 (k := ?_)
  refine r_iadd dL_law_722 ?_
  rw [zw_id (by omega) (by omega)]
  refine r_sld (by omega) (by omega) dL_law_723 ?_
  refine r_simR (As := [zI (xs (i + 1).toNat).toInt, zI (xs (i + 2).toNat).toInt]) h1 kL_88 rfl rfl rfl dL_law_724 (fun m2 h2 => ?_)
  exact r_icmp_eq (tgt := 1470) dL_law_727 (by decide) (fun _ => kk m2 h2) (fun h => absurd rfl h)
theorem lw_c18 {mem : zM} {i : Int} (h : SIM mem) (i0 : 0 ≤ i) (i4 : i + 4 < L) (hL : L ≤ 2560) (kk : ∀ m2, SIM m2 → SW l G room_1 RL cL_law 4 ret (fun below args s => lw_Z below args s) kc ks (zEx G L xs) 1470 [zR 200, zR 0, zR 65, zI i] [] m2) : SW l G room_1 RL cL_law 4 ret (fun below args s => lw_Z below args s) kc ks (zEx G L xs) 732 [zR 200, zR 0, zR 65, zI i] [] mem := by
  refine r_aload_n dL_law_732 rfl ?_
  refine r_aload_n dL_law_733 rfl ?_
  refine r_iload_n dL_law_734 rfl ?_
  refine r_iconst dL_law_735 (k := ?_)
  refine r_iadd dL_law_736 ?_
  rw [zw_id (by omega) (by omega)]
  refine r_sld (by omega) (by omega) dL_law_737 ?_
  refine r_simQ (As := [zI (xs (i + 1).toNat).toInt]) (sim_within h _) kL_89 rfl rfl rfl dL_law_738 (fun v m1 h1 => ?_)
  refine r_aload_n dL_law_741 rfl ?_
  refine r_aload_n dL_law_742 rfl ?_
  refine r_iload_n dL_law_743 rfl ?_
  refine r_iconst dL_law_744 (k := ?_)
  refine r_iadd dL_law_745 ?_
  rw [zw_id (by omega) (by omega)]
  refine r_sld (by omega) (by omega) dL_law_746 ?_
  refine r_simR (As := [zI (xs (i + 1).toNat).toInt]) h1 kL_92 rfl rfl rfl dL_law_747 (fun m2 h2 => ?_)
  exact r_icmp_eq (tgt := 1470) dL_law_750 (by decide) (fun _ => kk m2 h2) (fun h => absurd rfl h)
theorem lw_c19 {mem : zM} {i : Int} (h : SIM mem) (i0 : 0 ≤ i) (i4 : i + 4 < L) (hL : L ≤ 2560) (kk : ∀ m2, SIM m2 → SW l G room_1 RL cL_law 4 ret (fun below args s => lw_Z below args s) kc ks (zEx G L xs) 1470 [zR 200, zR 0, zR 65, zI i] [] m2) : SW l G room_1 RL cL_law 4 ret (fun below args s => lw_Z below args s) kc ks (zEx G L xs) 755 [zR 200, zR 0, zR 65, zI i] [] mem := by
  refine r_aload_n dL_law_755 rfl ?_
  refine r_aload_n dL_law_756 rfl ?_
  refine r_iload_n dL_law_757 rfl ?_
  refine r_iconst dL_law_758 (k := ?_)
  refine r_iadd dL_law_759 ?_
  rw [zw_id (by omega) (by omega)]
  refine r_sld (by omega) (by omega) dL_law_760 ?_
  refine r_aload_n dL_law_761 rfl ?_
  refine r_iload_n dL_law_762 rfl ?_
  refine r_iconst dL_law_763 (k := ?_)
  refine r_iadd dL_law_764 ?_
  rw [zw_id (by omega) (by omega)]
  refine r_sld (by omega) (by omega) dL_law_765 ?_
  refine r_simQ (As := [zI (xs (i + 1).toNat).toInt, zI (xs (i + 2).toNat).toInt]) (sim_match h _ _) kL_93 rfl rfl rfl dL_law_766 (fun v m1 h1 => ?_)
  refine r_aload_n dL_law_769 rfl ?_
  refine r_aload_n dL_law_770 rfl ?_
  refine r_iload_n dL_law_771 rfl ?_
  refine r_iconst dL_law_772 (k := ?_)
  refine r_iadd dL_law_773 ?_
  rw [zw_id (by omega) (by omega)]
  refine r_sld (by omega) (by omega) dL_law_774 ?_
  refine r_aload_n dL_law_775 rfl ?_
  refine r_iload_n dL_law_776 rfl ?_
  refine r_iconst dL_law_777 (k := ?_)
  refine r_iadd dL_law_778 ?_
  rw [zw_id (by omega) (by omega)]
  refine r_sld (by omega) (by omega) dL_law_779 ?_
  refine r_simR (As := [zI (xs (i + 1).toNat).toInt, zI (xs (i + 2).toNat).toInt]) h1 kL_96 rfl rfl rfl dL_law_780 (fun m2 h2 => ?_)
  exact r_icmp_eq (tgt := 1470) dL_law_783 (by decide) (fun _ => kk m2 h2) (fun h => absurd rfl h)
theorem lw_c20 {mem : zM} {i : Int} (h : SIM mem) (i0 : 0 ≤ i) (i4 : i + 4 < L) (hL : L ≤ 2560) (kk : ∀ m2, SIM m2 → SW l G room_1 RL cL_law 4 ret (fun below args s => lw_Z below args s) kc ks (zEx G L xs) 1470 [zR 200, zR 0, zR 65, zI i] [] m2) : SW l G room_1 RL cL_law 4 ret (fun below args s => lw_Z below args s) kc ks (zEx G L xs) 788 [zR 200, zR 0, zR 65, zI i] [] mem := by
  refine r_aload_n dL_law_788 rfl ?_
  refine r_aload_n dL_law_789 rfl ?_
  refine r_iload_n dL_law_790 rfl ?_
  refine r_iconst dL_law_791 (k := ?_)
  refine r_iadd dL_law_792 ?_
  rw [zw_id (by omega) (by omega)]
  refine r_sld (by omega) (by omega) dL_law_793 ?_
  refine r_simQ (As := [zI (xs (i + 1).toNat).toInt]) (sim_fray h _) kL_97 rfl rfl rfl dL_law_794 (fun v m1 h1 => ?_)
  refine r_aload_n dL_law_797 rfl ?_
  refine r_aload_n dL_law_798 rfl ?_
  refine r_iload_n dL_law_799 rfl ?_
  refine r_iconst dL_law_800 (k := ?_)
  refine r_iadd dL_law_801 ?_
  rw [zw_id (by omega) (by omega)]
  refine r_sld (by omega) (by omega) dL_law_802 ?_
  refine r_simR (As := [zI (xs (i + 1).toNat).toInt]) h1 kL_100 rfl rfl rfl dL_law_803 (fun m2 h2 => ?_)
  exact r_icmp_eq (tgt := 1470) dL_law_806 (by decide) (fun _ => kk m2 h2) (fun h => absurd rfl h)
theorem lw_c21 {mem : zM} {i : Int} (h : SIM mem) (i0 : 0 ≤ i) (i4 : i + 4 < L) (hL : L ≤ 2560) (kk : ∀ m2, SIM m2 → SW l G room_1 RL cL_law 4 ret (fun below args s => lw_Z below args s) kc ks (zEx G L xs) 1470 [zR 200, zR 0, zR 65, zI i] [] m2) : SW l G room_1 RL cL_law 4 ret (fun below args s => lw_Z below args s) kc ks (zEx G L xs) 811 [zR 200, zR 0, zR 65, zI i] [] mem := by
  refine r_aload_n dL_law_811 rfl ?_
  refine r_aload_n dL_law_812 rfl ?_
  refine r_iload_n dL_law_813 rfl ?_
  refine r_iconst dL_law_814 (k := ?_)
  refine r_iadd dL_law_815 ?_
  rw [zw_id (by omega) (by omega)]
  refine r_sld (by omega) (by omega) dL_law_816 ?_
  refine r_simQ (As := [zI (xs (i + 1).toNat).toInt]) (sim_soothe h _) kL_101 rfl rfl rfl dL_law_817 (fun v m1 h1 => ?_)
  refine r_aload_n dL_law_820 rfl ?_
  refine r_aload_n dL_law_821 rfl ?_
  refine r_iload_n dL_law_822 rfl ?_
  refine r_iconst dL_law_823 (k := ?_)
  refine r_iadd dL_law_824 ?_
  rw [zw_id (by omega) (by omega)]
  refine r_sld (by omega) (by omega) dL_law_825 ?_
  refine r_simR (As := [zI (xs (i + 1).toNat).toInt]) h1 kL_104 rfl rfl rfl dL_law_826 (fun m2 h2 => ?_)
  exact r_icmp_eq (tgt := 1470) dL_law_829 (by decide) (fun _ => kk m2 h2) (fun h => absurd rfl h)
theorem lw_c22 {mem : zM} {i : Int} (h : SIM mem) (i0 : 0 ≤ i) (i4 : i + 4 < L) (hL : L ≤ 2560) (kk : ∀ m2, SIM m2 → SW l G room_1 RL cL_law 4 ret (fun below args s => lw_Z below args s) kc ks (zEx G L xs) 1470 [zR 200, zR 0, zR 65, zI i] [] m2) : SW l G room_1 RL cL_law 4 ret (fun below args s => lw_Z below args s) kc ks (zEx G L xs) 834 [zR 200, zR 0, zR 65, zI i] [] mem := by
  refine r_aload_n dL_law_834 rfl ?_
  refine r_aload_n dL_law_835 rfl ?_
  refine r_iload_n dL_law_836 rfl ?_
  refine r_iconst dL_law_837 (k := ?_)
  refine r_iadd dL_law_838 ?_
  rw [zw_id (by omega) (by omega)]
  refine r_sld (by omega) (by omega) dL_law_839 ?_
  refine r_aload_n dL_law_840 rfl ?_
  refine r_iload_n dL_law_841 rfl ?_
  refine r_iconst dL_law_842 (k := ?_)
  refine r_iadd dL_law_843 ?_
  rw [zw_id (by omega) (by omega)]
  refine r_sld (by omega) (by omega) dL_law_844 ?_
  refine r_simQ (As := [zI (xs (i + 1).toNat).toInt, zI (xs (i + 2).toNat).toInt]) (sim_holy h _ _) kL_105 rfl rfl rfl dL_law_845 (fun v m1 h1 => ?_)
  refine r_aload_n dL_law_848 rfl ?_
  refine r_aload_n dL_law_849 rfl ?_
  refine r_iload_n dL_law_850 rfl ?_
  refine r_iconst dL_law_851 (k := ?_)
  refine r_iadd dL_law_852 ?_
  rw [zw_id (by omega) (by omega)]
  refine r_sld (by omega) (by omega) dL_law_853 ?_
  refine r_aload_n dL_law_854 rfl ?_
  refine r_iload_n dL_law_855 rfl ?_
  refine r_iconst dL_law_856 (k := ?_)
  refine r_iadd dL_law_857 ?_
  rw [zw_id (by omega) (by omega)]
  refine r_sld (by omega) (by omega) dL_law_858 ?_
  refine r_simR (As := [zI (xs (i + 1).toNat).toInt, zI (xs (i + 2).toNat).toInt]) h1 kL_108 rfl rfl rfl dL_law_859 (fun m2 h2 => ?_)
  exact r_icmp_eq (tgt := 1470) dL_law_862 (by decide) (fun _ => kk m2 h2) (fun h => absurd rfl h)
theorem lw_c23 {mem : zM} {i : Int} (h : SIM mem) (i0 : 0 ≤ i) (i4 : i + 4 < L) (hL : L ≤ 2560) (kk : ∀ m2, SIM m2 → SW l G room_1 RL cL_law 4 ret (fun below args s => lw_Z below args s) kc ks (zEx G L xs) 1470 [zR 200, zR 0, zR 65, zI i] [] m2) : SW l G room_1 RL cL_law 4 ret (fun below args s => lw_Z below args s) kc ks (zEx G L xs) 867 [zR 200, zR 0, zR 65, zI i] [] mem := by
  refine r_aload_n dL_law_867 rfl ?_
  refine r_aload_n dL_law_868 rfl ?_
  refine r_iload_n dL_law_869 rfl ?_
  refine r_iconst dL_law_870 (k := ?_)
  refine r_iadd dL_law_871 ?_
  rw [zw_id (by omega) (by omega)]
  refine r_sld (by omega) (by omega) dL_law_872 ?_
  refine r_aload_n dL_law_873 rfl ?_
  refine r_iload_n dL_law_874 rfl ?_
  refine r_iconst dL_law_875 (k := ?_)
  refine r_iadd dL_law_876 ?_
  rw [zw_id (by omega) (by omega)]
  refine r_sld (by omega) (by omega) dL_law_877 ?_
  refine r_aload_n dL_law_878 rfl ?_
  refine r_iload_n dL_law_879 rfl ?_
  refine r_iconst dL_law_880 (k := ?_)
  refine r_iadd dL_law_881 ?_
  rw [zw_id (by omega) (by omega)]
  refine r_sld (by omega) (by omega) dL_law_882 ?_
  refine r_simQ (As := [zI (xs (i + 1).toNat).toInt, zI (xs (i + 2).toNat).toInt, zI (xs (i + 3).toNat).toInt]) (sim_kind h _ _ _) kL_109 rfl rfl rfl dL_law_883 (fun v m1 h1 => ?_)
  refine r_aload_n dL_law_886 rfl ?_
  refine r_aload_n dL_law_887 rfl ?_
  refine r_iload_n dL_law_888 rfl ?_
  refine r_iconst dL_law_889 (k := ?_)
  refine r_iadd dL_law_890 ?_
  rw [zw_id (by omega) (by omega)]
  refine r_sld (by omega) (by omega) dL_law_891 ?_
  refine r_aload_n dL_law_892 rfl ?_
  refine r_iload_n dL_law_893 rfl ?_
  refine r_iconst dL_law_894 (k := ?_)
  refine r_iadd dL_law_895 ?_
  rw [zw_id (by omega) (by omega)]
  refine r_sld (by omega) (by omega) dL_law_896 ?_
  refine r_aload_n dL_law_897 rfl ?_
  refine r_iload_n dL_law_898 rfl ?_
  refine r_iconst dL_law_899 (k := ?_)
  refine r_iadd dL_law_900 ?_
  rw [zw_id (by omega) (by omega)]
  refine r_sld (by omega) (by omega) dL_law_901 ?_
  refine r_simR (As := [zI (xs (i + 1).toNat).toInt, zI (xs (i + 2).toNat).toInt, zI (xs (i + 3).toNat).toInt]) h1 kL_112 rfl rfl rfl dL_law_902 (fun m2 h2 => ?_)
  exact r_icmp_eq (tgt := 1470) dL_law_905 (by decide) (fun _ => kk m2 h2) (fun h => absurd rfl h)
theorem lw_c24 {mem : zM} {i : Int} (h : SIM mem) (i0 : 0 ≤ i) (i4 : i + 4 < L) (hL : L ≤ 2560) (kk : ∀ m2, SIM m2 → SW l G room_1 RL cL_law 4 ret (fun below args s => lw_Z below args s) kc ks (zEx G L xs) 1470 [zR 200, zR 0, zR 65, zI i] [] m2) : SW l G room_1 RL cL_law 4 ret (fun below args s => lw_Z below args s) kc ks (zEx G L xs) 910 [zR 200, zR 0, zR 65, zI i] [] mem := by
  refine r_aload_n dL_law_910 rfl ?_
  refine r_aload_n dL_law_911 rfl ?_
  refine r_iload_n dL_law_912 rfl ?_
  refine r_iconst dL_law_913 (k := ?_)
  refine r_iadd dL_law_914 ?_
  rw [zw_id (by omega) (by omega)]
  refine r_sld (by omega) (by omega) dL_law_915 ?_
  refine r_aload_n dL_law_916 rfl ?_
  refine r_iload_n dL_law_917 rfl ?_
  refine r_iconst dL_law_918 (k := ?_)
  refine r_iadd dL_law_919 ?_
  rw [zw_id (by omega) (by omega)]
  refine r_sld (by omega) (by omega) dL_law_920 ?_
  refine r_aload_n dL_law_921 rfl ?_
  refine r_iload_n dL_law_922 rfl ?_
  refine r_iconst dL_law_923 (k := ?_)
  refine r_iadd dL_law_924 ?_
  rw [zw_id (by omega) (by omega)]
  refine r_sld (by omega) (by omega) dL_law_925 ?_
  refine r_simQ (As := [zI (xs (i + 1).toNat).toInt, zI (xs (i + 2).toNat).toInt, zI (xs (i + 3).toNat).toInt]) (sim_slack h _ _ _) kL_113 rfl rfl rfl dL_law_926 (fun v m1 h1 => ?_)
  refine r_aload_n dL_law_929 rfl ?_
  refine r_aload_n dL_law_930 rfl ?_
  refine r_iload_n dL_law_931 rfl ?_
  refine r_iconst dL_law_932 (k := ?_)
  refine r_iadd dL_law_933 ?_
  rw [zw_id (by omega) (by omega)]
  refine r_sld (by omega) (by omega) dL_law_934 ?_
  refine r_aload_n dL_law_935 rfl ?_
  refine r_iload_n dL_law_936 rfl ?_
  refine r_iconst dL_law_937 (k := ?_)
  refine r_iadd dL_law_938 ?_
  rw [zw_id (by omega) (by omega)]
  refine r_sld (by omega) (by omega) dL_law_939 ?_
  refine r_aload_n dL_law_940 rfl ?_
  refine r_iload_n dL_law_941 rfl ?_
  refine r_iconst dL_law_942 (k := ?_)
  refine r_iadd dL_law_943 ?_
  rw [zw_id (by omega) (by omega)]
  refine r_sld (by omega) (by omega) dL_law_944 ?_
  refine r_simR (As := [zI (xs (i + 1).toNat).toInt, zI (xs (i + 2).toNat).toInt, zI (xs (i + 3).toNat).toInt]) h1 kL_116 rfl rfl rfl dL_law_945 (fun m2 h2 => ?_)
  exact r_icmp_eq (tgt := 1470) dL_law_948 (by decide) (fun _ => kk m2 h2) (fun h => absurd rfl h)
theorem lw_c25 {mem : zM} {i : Int} (h : SIM mem) (i0 : 0 ≤ i) (i4 : i + 4 < L) (hL : L ≤ 2560) (kk : ∀ m2, SIM m2 → SW l G room_1 RL cL_law 4 ret (fun below args s => lw_Z below args s) kc ks (zEx G L xs) 1470 [zR 200, zR 0, zR 65, zI i] [] m2) : SW l G room_1 RL cL_law 4 ret (fun below args s => lw_Z below args s) kc ks (zEx G L xs) 953 [zR 200, zR 0, zR 65, zI i] [] mem := by
  refine r_aload_n dL_law_953 rfl ?_
  refine r_aload_n dL_law_954 rfl ?_
  refine r_iload_n dL_law_955 rfl ?_
  refine r_iconst dL_law_956 (k := ?_)
  refine r_iadd dL_law_957 ?_
  rw [zw_id (by omega) (by omega)]
  refine r_sld (by omega) (by omega) dL_law_958 ?_
  refine r_aload_n dL_law_959 rfl ?_
  refine r_iload_n dL_law_960 rfl ?_
  refine r_iconst dL_law_961 (k := ?_)
  refine r_iadd dL_law_962 ?_
  rw [zw_id (by omega) (by omega)]
  refine r_sld (by omega) (by omega) dL_law_963 ?_
  refine r_aload_n dL_law_964 rfl ?_
  refine r_iload_n dL_law_965 rfl ?_
  refine r_iconst dL_law_966 (k := ?_)
  refine r_iadd dL_law_967 ?_
  rw [zw_id (by omega) (by omega)]
  refine r_sld (by omega) (by omega) dL_law_968 ?_
  refine r_aload_n dL_law_969 rfl ?_
  refine r_iload_n dL_law_970 rfl ?_
  refine r_iconst dL_law_971 (k := ?_)
  refine r_iadd dL_law_972 ?_
  rw [zw_id (by omega) (by omega)]
  refine r_sld (by omega) (by omega) dL_law_973 ?_
  refine r_simJ (As := [zI (xs (i + 1).toNat).toInt, zI (xs (i + 2).toNat).toInt, zI (xs (i + 3).toNat).toInt, zI (xs (i + 4).toNat).toInt]) (sim_luck h _ _ _ _) kL_117 rfl rfl rfl dL_law_974 (fun v m1 h1 => ?_)
  refine r_aload_n dL_law_977 rfl ?_
  refine r_aload_n dL_law_978 rfl ?_
  refine r_iload_n dL_law_979 rfl ?_
  refine r_iconst dL_law_980 (k := ?_)
  refine r_iadd dL_law_981 ?_
  rw [zw_id (by omega) (by omega)]
  refine r_sld (by omega) (by omega) dL_law_982 ?_
  refine r_aload_n dL_law_983 rfl ?_
  refine r_iload_n dL_law_984 rfl ?_
  refine r_iconst dL_law_985 (k := ?_)
  refine r_iadd dL_law_986 ?_
  rw [zw_id (by omega) (by omega)]
  refine r_sld (by omega) (by omega) dL_law_987 ?_
  refine r_aload_n dL_law_988 rfl ?_
  refine r_iload_n dL_law_989 rfl ?_
  refine r_iconst dL_law_990 (k := ?_)
  refine r_iadd dL_law_991 ?_
  rw [zw_id (by omega) (by omega)]
  refine r_sld (by omega) (by omega) dL_law_992 ?_
  refine r_aload_n dL_law_993 rfl ?_
  refine r_iload_n dL_law_994 rfl ?_
  refine r_iconst dL_law_995 (k := ?_)
  refine r_iadd dL_law_996 ?_
  rw [zw_id (by omega) (by omega)]
  refine r_sld (by omega) (by omega) dL_law_997 ?_
  refine r_simR (As := [zI (xs (i + 1).toNat).toInt, zI (xs (i + 2).toNat).toInt, zI (xs (i + 3).toNat).toInt, zI (xs (i + 4).toNat).toInt]) h1 kL_121 rfl rfl rfl dL_law_998 (fun m2 h2 => ?_)
  refine r_lcmp dL_law_1001 ?_
  exact r_if_eq (tgt := 1470) dL_law_1002 (by decide) (fun _ => kk m2 h2) (fun h => absurd (zcmp_eq.mpr rfl) h)
theorem lw_c26 {mem : zM} {i : Int} (h : SIM mem) (i0 : 0 ≤ i) (i4 : i + 4 < L) (hL : L ≤ 2560) (kk : ∀ m2, SIM m2 → SW l G room_1 RL cL_law 4 ret (fun below args s => lw_Z below args s) kc ks (zEx G L xs) 1470 [zR 200, zR 0, zR 65, zI i] [] m2) : SW l G room_1 RL cL_law 4 ret (fun below args s => lw_Z below args s) kc ks (zEx G L xs) 1007 [zR 200, zR 0, zR 65, zI i] [] mem := by
  refine r_aload_n dL_law_1007 rfl ?_
  refine r_aload_n dL_law_1008 rfl ?_
  refine r_iload_n dL_law_1009 rfl ?_
  refine r_iconst dL_law_1010 (k := ?_)
  refine r_iadd dL_law_1011 ?_
  rw [zw_id (by omega) (by omega)]
  refine r_sld (by omega) (by omega) dL_law_1012 ?_
  refine r_aload_n dL_law_1013 rfl ?_
  refine r_iload_n dL_law_1014 rfl ?_
  refine r_iconst dL_law_1015 (k := ?_)
  refine r_iadd dL_law_1016 ?_
  rw [zw_id (by omega) (by omega)]
  refine r_sld (by omega) (by omega) dL_law_1017 ?_
  refine r_aload_n dL_law_1018 rfl ?_
  refine r_iload_n dL_law_1019 rfl ?_
  refine r_iconst dL_law_1020 (k := ?_)
  refine r_iadd dL_law_1021 ?_
  rw [zw_id (by omega) (by omega)]
  refine r_sld (by omega) (by omega) dL_law_1022 ?_
  refine r_simJ (As := [zI (xs (i + 1).toNat).toInt, zI (xs (i + 2).toNat).toInt, zI (xs (i + 3).toNat).toInt]) (sim_mean h _ _ _) kL_122 rfl rfl rfl dL_law_1023 (fun v m1 h1 => ?_)
  refine r_aload_n dL_law_1026 rfl ?_
  refine r_aload_n dL_law_1027 rfl ?_
  refine r_iload_n dL_law_1028 rfl ?_
  refine r_iconst dL_law_1029 (k := ?_)
  refine r_iadd dL_law_1030 ?_
  rw [zw_id (by omega) (by omega)]
  refine r_sld (by omega) (by omega) dL_law_1031 ?_
  refine r_aload_n dL_law_1032 rfl ?_
  refine r_iload_n dL_law_1033 rfl ?_
  refine r_iconst dL_law_1034 (k := ?_)
  refine r_iadd dL_law_1035 ?_
  rw [zw_id (by omega) (by omega)]
  refine r_sld (by omega) (by omega) dL_law_1036 ?_
  refine r_aload_n dL_law_1037 rfl ?_
  refine r_iload_n dL_law_1038 rfl ?_
  refine r_iconst dL_law_1039 (k := ?_)
  refine r_iadd dL_law_1040 ?_
  rw [zw_id (by omega) (by omega)]
  refine r_sld (by omega) (by omega) dL_law_1041 ?_
  refine r_simR (As := [zI (xs (i + 1).toNat).toInt, zI (xs (i + 2).toNat).toInt, zI (xs (i + 3).toNat).toInt]) h1 kL_126 rfl rfl rfl dL_law_1042 (fun m2 h2 => ?_)
  refine r_lcmp dL_law_1045 ?_
  exact r_if_eq (tgt := 1470) dL_law_1046 (by decide) (fun _ => kk m2 h2) (fun h => absurd (zcmp_eq.mpr rfl) h)
theorem lw_c27 {mem : zM} {i : Int} (h : SIM mem) (i0 : 0 ≤ i) (i4 : i + 4 < L) (hL : L ≤ 2560) (kk : ∀ m2, SIM m2 → SW l G room_1 RL cL_law 4 ret (fun below args s => lw_Z below args s) kc ks (zEx G L xs) 1470 [zR 200, zR 0, zR 65, zI i] [] m2) : SW l G room_1 RL cL_law 4 ret (fun below args s => lw_Z below args s) kc ks (zEx G L xs) 1051 [zR 200, zR 0, zR 65, zI i] [] mem := by
  refine r_aload_n dL_law_1051 rfl ?_
  refine r_aload_n dL_law_1052 rfl ?_
  refine r_iload_n dL_law_1053 rfl ?_
  refine r_iconst dL_law_1054 (k := ?_)
  refine r_iadd dL_law_1055 ?_
  rw [zw_id (by omega) (by omega)]
  refine r_sld (by omega) (by omega) dL_law_1056 ?_
  refine r_aload_n dL_law_1057 rfl ?_
  refine r_iload_n dL_law_1058 rfl ?_
  refine r_iconst dL_law_1059 (k := ?_)
  refine r_iadd dL_law_1060 ?_
  rw [zw_id (by omega) (by omega)]
  refine r_sld (by omega) (by omega) dL_law_1061 ?_
  refine r_aload_n dL_law_1062 rfl ?_
  refine r_iload_n dL_law_1063 rfl ?_
  refine r_iconst dL_law_1064 (k := ?_)
  refine r_iadd dL_law_1065 ?_
  rw [zw_id (by omega) (by omega)]
  refine r_sld (by omega) (by omega) dL_law_1066 ?_
  refine r_simQ (As := [zI (xs (i + 1).toNat).toInt, zI (xs (i + 2).toNat).toInt, zI (xs (i + 3).toNat).toInt]) (sim_see h _ _ _) kL_127 rfl rfl rfl dL_law_1067 (fun v m1 h1 => ?_)
  refine r_aload_n dL_law_1070 rfl ?_
  refine r_aload_n dL_law_1071 rfl ?_
  refine r_iload_n dL_law_1072 rfl ?_
  refine r_iconst dL_law_1073 (k := ?_)
  refine r_iadd dL_law_1074 ?_
  rw [zw_id (by omega) (by omega)]
  refine r_sld (by omega) (by omega) dL_law_1075 ?_
  refine r_aload_n dL_law_1076 rfl ?_
  refine r_iload_n dL_law_1077 rfl ?_
  refine r_iconst dL_law_1078 (k := ?_)
  refine r_iadd dL_law_1079 ?_
  rw [zw_id (by omega) (by omega)]
  refine r_sld (by omega) (by omega) dL_law_1080 ?_
  refine r_aload_n dL_law_1081 rfl ?_
  refine r_iload_n dL_law_1082 rfl ?_
  refine r_iconst dL_law_1083 (k := ?_)
  refine r_iadd dL_law_1084 ?_
  rw [zw_id (by omega) (by omega)]
  refine r_sld (by omega) (by omega) dL_law_1085 ?_
  refine r_simR (As := [zI (xs (i + 1).toNat).toInt, zI (xs (i + 2).toNat).toInt, zI (xs (i + 3).toNat).toInt]) h1 kL_130 rfl rfl rfl dL_law_1086 (fun m2 h2 => ?_)
  exact r_icmp_eq (tgt := 1470) dL_law_1089 (by decide) (fun _ => kk m2 h2) (fun h => absurd rfl h)
theorem lw_c28 {mem : zM} {i : Int} (h : SIM mem) (i0 : 0 ≤ i) (i4 : i + 4 < L) (hL : L ≤ 2560) (kk : ∀ m2, SIM m2 → SW l G room_1 RL cL_law 4 ret (fun below args s => lw_Z below args s) kc ks (zEx G L xs) 1470 [zR 200, zR 0, zR 65, zI i] [] m2) : SW l G room_1 RL cL_law 4 ret (fun below args s => lw_Z below args s) kc ks (zEx G L xs) 1094 [zR 200, zR 0, zR 65, zI i] [] mem := by
  refine r_aload_n dL_law_1094 rfl ?_
  refine r_aload_n dL_law_1095 rfl ?_
  refine r_iload_n dL_law_1096 rfl ?_
  refine r_iconst dL_law_1097 (k := ?_)
  refine r_iadd dL_law_1098 ?_
  rw [zw_id (by omega) (by omega)]
  refine r_sld (by omega) (by omega) dL_law_1099 ?_
  refine r_simQ (As := [zI (xs (i + 1).toNat).toInt]) (sim_forget h _) kL_131 rfl rfl rfl dL_law_1100 (fun v m1 h1 => ?_)
  refine r_aload_n dL_law_1103 rfl ?_
  refine r_aload_n dL_law_1104 rfl ?_
  refine r_iload_n dL_law_1105 rfl ?_
  refine r_iconst dL_law_1106 (k := ?_)
  refine r_iadd dL_law_1107 ?_
  rw [zw_id (by omega) (by omega)]
  refine r_sld (by omega) (by omega) dL_law_1108 ?_
  refine r_simR (As := [zI (xs (i + 1).toNat).toInt]) h1 kL_134 rfl rfl rfl dL_law_1109 (fun m2 h2 => ?_)
  exact r_icmp_eq (tgt := 1470) dL_law_1112 (by decide) (fun _ => kk m2 h2) (fun h => absurd rfl h)
theorem lw_c29 {mem : zM} {i : Int} (h : SIM mem) (i0 : 0 ≤ i) (i4 : i + 4 < L) (hL : L ≤ 2560) (kk : ∀ m2, SIM m2 → SW l G room_1 RL cL_law 4 ret (fun below args s => lw_Z below args s) kc ks (zEx G L xs) 1470 [zR 200, zR 0, zR 65, zI i] [] m2) : SW l G room_1 RL cL_law 4 ret (fun below args s => lw_Z below args s) kc ks (zEx G L xs) 1117 [zR 200, zR 0, zR 65, zI i] [] mem := by
  refine r_aload_n dL_law_1117 rfl ?_
  refine r_aload_n dL_law_1118 rfl ?_
  refine r_iload_n dL_law_1119 rfl ?_
  refine r_iconst dL_law_1120 (k := ?_)
  refine r_iadd dL_law_1121 ?_
  rw [zw_id (by omega) (by omega)]
  refine r_sld (by omega) (by omega) dL_law_1122 ?_
  refine r_simQ (As := [zI (xs (i + 1).toNat).toInt]) (sim_kinds h _) kL_135 rfl rfl rfl dL_law_1123 (fun v m1 h1 => ?_)
  refine r_aload_n dL_law_1126 rfl ?_
  refine r_aload_n dL_law_1127 rfl ?_
  refine r_iload_n dL_law_1128 rfl ?_
  refine r_iconst dL_law_1129 (k := ?_)
  refine r_iadd dL_law_1130 ?_
  rw [zw_id (by omega) (by omega)]
  refine r_sld (by omega) (by omega) dL_law_1131 ?_
  refine r_simR (As := [zI (xs (i + 1).toNat).toInt]) h1 kL_138 rfl rfl rfl dL_law_1132 (fun m2 h2 => ?_)
  exact r_icmp_eq (tgt := 1470) dL_law_1135 (by decide) (fun _ => kk m2 h2) (fun h => absurd rfl h)
theorem lw_c30 {mem : zM} {i : Int} (h : SIM mem) (i0 : 0 ≤ i) (i4 : i + 4 < L) (hL : L ≤ 2560) (kk : ∀ m2, SIM m2 → SW l G room_1 RL cL_law 4 ret (fun below args s => lw_Z below args s) kc ks (zEx G L xs) 1470 [zR 200, zR 0, zR 65, zI i] [] m2) : SW l G room_1 RL cL_law 4 ret (fun below args s => lw_Z below args s) kc ks (zEx G L xs) 1140 [zR 200, zR 0, zR 65, zI i] [] mem := by
  refine r_aload_n dL_law_1140 rfl ?_
  refine r_aload_n dL_law_1141 rfl ?_
  refine r_iload_n dL_law_1142 rfl ?_
  refine r_iconst dL_law_1143 (k := ?_)
  refine r_iadd dL_law_1144 ?_
  rw [zw_id (by omega) (by omega)]
  refine r_sld (by omega) (by omega) dL_law_1145 ?_
  refine r_aload_n dL_law_1146 rfl ?_
  refine r_iload_n dL_law_1147 rfl ?_
  refine r_iconst dL_law_1148 (k := ?_)
  refine r_iadd dL_law_1149 ?_
  rw [zw_id (by omega) (by omega)]
  refine r_sld (by omega) (by omega) dL_law_1150 ?_
  refine r_simQ (As := [zI (xs (i + 1).toNat).toInt, zI (xs (i + 2).toNat).toInt]) (sim_sulks h _ _) kL_139 rfl rfl rfl dL_law_1151 (fun v m1 h1 => ?_)
  refine r_aload_n dL_law_1154 rfl ?_
  refine r_aload_n dL_law_1155 rfl ?_
  refine r_iload_n dL_law_1156 rfl ?_
  refine r_iconst dL_law_1157 (k := ?_)
  refine r_iadd dL_law_1158 ?_
  rw [zw_id (by omega) (by omega)]
  refine r_sld (by omega) (by omega) dL_law_1159 ?_
  refine r_aload_n dL_law_1160 rfl ?_
  refine r_iload_n dL_law_1161 rfl ?_
  refine r_iconst dL_law_1162 (k := ?_)
  refine r_iadd dL_law_1163 ?_
  rw [zw_id (by omega) (by omega)]
  refine r_sld (by omega) (by omega) dL_law_1164 ?_
  refine r_simR (As := [zI (xs (i + 1).toNat).toInt, zI (xs (i + 2).toNat).toInt]) h1 kL_142 rfl rfl rfl dL_law_1165 (fun m2 h2 => ?_)
  exact r_icmp_eq (tgt := 1470) dL_law_1168 (by decide) (fun _ => kk m2 h2) (fun h => absurd rfl h)
theorem lw_c31 {mem : zM} {i : Int} (h : SIM mem) (i0 : 0 ≤ i) (i4 : i + 4 < L) (hL : L ≤ 2560) (kk : ∀ m2, SIM m2 → SW l G room_1 RL cL_law 4 ret (fun below args s => lw_Z below args s) kc ks (zEx G L xs) 1470 [zR 200, zR 0, zR 65, zI i] [] m2) : SW l G room_1 RL cL_law 4 ret (fun below args s => lw_Z below args s) kc ks (zEx G L xs) 1173 [zR 200, zR 0, zR 65, zI i] [] mem := by
  refine r_aload_n dL_law_1173 rfl ?_
  refine r_aload_n dL_law_1174 rfl ?_
  refine r_iload_n dL_law_1175 rfl ?_
  refine r_iconst dL_law_1176 (k := ?_)
  refine r_iadd dL_law_1177 ?_
  rw [zw_id (by omega) (by omega)]
  refine r_sld (by omega) (by omega) dL_law_1178 ?_
  refine r_aload_n dL_law_1179 rfl ?_
  refine r_iload_n dL_law_1180 rfl ?_
  refine r_iconst dL_law_1181 (k := ?_)
  refine r_iadd dL_law_1182 ?_
  rw [zw_id (by omega) (by omega)]
  refine r_sld (by omega) (by omega) dL_law_1183 ?_
  refine r_simQ (As := [zI (xs (i + 1).toNat).toInt, zI (xs (i + 2).toNat).toInt]) (sim_ask h _ _) kL_143 rfl rfl rfl dL_law_1184 (fun v m1 h1 => ?_)
  refine r_aload_n dL_law_1187 rfl ?_
  refine r_aload_n dL_law_1188 rfl ?_
  refine r_iload_n dL_law_1189 rfl ?_
  refine r_iconst dL_law_1190 (k := ?_)
  refine r_iadd dL_law_1191 ?_
  rw [zw_id (by omega) (by omega)]
  refine r_sld (by omega) (by omega) dL_law_1192 ?_
  refine r_aload_n dL_law_1193 rfl ?_
  refine r_iload_n dL_law_1194 rfl ?_
  refine r_iconst dL_law_1195 (k := ?_)
  refine r_iadd dL_law_1196 ?_
  rw [zw_id (by omega) (by omega)]
  refine r_sld (by omega) (by omega) dL_law_1197 ?_
  refine r_simR (As := [zI (xs (i + 1).toNat).toInt, zI (xs (i + 2).toNat).toInt]) h1 kL_146 rfl rfl rfl dL_law_1198 (fun m2 h2 => ?_)
  exact r_icmp_eq (tgt := 1470) dL_law_1201 (by decide) (fun _ => kk m2 h2) (fun h => absurd rfl h)
theorem lw_c32 {mem : zM} {i : Int} (h : SIM mem) (i0 : 0 ≤ i) (i4 : i + 4 < L) (hL : L ≤ 2560) (kk : ∀ m2, SIM m2 → SW l G room_1 RL cL_law 4 ret (fun below args s => lw_Z below args s) kc ks (zEx G L xs) 1470 [zR 200, zR 0, zR 65, zI i] [] m2) : SW l G room_1 RL cL_law 4 ret (fun below args s => lw_Z below args s) kc ks (zEx G L xs) 1206 [zR 200, zR 0, zR 65, zI i] [] mem := by
  refine r_aload_n dL_law_1206 rfl ?_
  refine r_aload_n dL_law_1207 rfl ?_
  refine r_iload_n dL_law_1208 rfl ?_
  refine r_iconst dL_law_1209 (k := ?_)
  refine r_iadd dL_law_1210 ?_
  rw [zw_id (by omega) (by omega)]
  refine r_sld (by omega) (by omega) dL_law_1211 ?_
  refine r_aload_n dL_law_1212 rfl ?_
  refine r_iload_n dL_law_1213 rfl ?_
  refine r_iconst dL_law_1214 (k := ?_)
  refine r_iadd dL_law_1215 ?_
  rw [zw_id (by omega) (by omega)]
  refine r_sld (by omega) (by omega) dL_law_1216 ?_
  refine r_aload_n dL_law_1217 rfl ?_
  refine r_iload_n dL_law_1218 rfl ?_
  refine r_iconst dL_law_1219 (k := ?_)
  refine r_iadd dL_law_1220 ?_
  rw [zw_id (by omega) (by omega)]
  refine r_sld (by omega) (by omega) dL_law_1221 ?_
  refine r_simQ (As := [zI (xs (i + 1).toNat).toInt, zI (xs (i + 2).toNat).toInt, zI (xs (i + 3).toNat).toInt]) (sim_drift h _ _ _ (zi_in _)) kL_147 rfl rfl rfl dL_law_1222 (fun v m1 h1 => ?_)
  refine r_aload_n dL_law_1225 rfl ?_
  refine r_aload_n dL_law_1226 rfl ?_
  refine r_iload_n dL_law_1227 rfl ?_
  refine r_iconst dL_law_1228 (k := ?_)
  refine r_iadd dL_law_1229 ?_
  rw [zw_id (by omega) (by omega)]
  refine r_sld (by omega) (by omega) dL_law_1230 ?_
  refine r_aload_n dL_law_1231 rfl ?_
  refine r_iload_n dL_law_1232 rfl ?_
  refine r_iconst dL_law_1233 (k := ?_)
  refine r_iadd dL_law_1234 ?_
  rw [zw_id (by omega) (by omega)]
  refine r_sld (by omega) (by omega) dL_law_1235 ?_
  refine r_aload_n dL_law_1236 rfl ?_
  refine r_iload_n dL_law_1237 rfl ?_
  refine r_iconst dL_law_1238 (k := ?_)
  refine r_iadd dL_law_1239 ?_
  rw [zw_id (by omega) (by omega)]
  refine r_sld (by omega) (by omega) dL_law_1240 ?_
  refine r_simR (As := [zI (xs (i + 1).toNat).toInt, zI (xs (i + 2).toNat).toInt, zI (xs (i + 3).toNat).toInt]) h1 kL_150 rfl rfl rfl dL_law_1241 (fun m2 h2 => ?_)
  exact r_icmp_eq (tgt := 1470) dL_law_1244 (by decide) (fun _ => kk m2 h2) (fun h => absurd rfl h)
theorem lw_c33 {mem : zM} {i : Int} (h : SIM mem) (i0 : 0 ≤ i) (i4 : i + 4 < L) (hL : L ≤ 2560) (kk : ∀ m2, SIM m2 → SW l G room_1 RL cL_law 4 ret (fun below args s => lw_Z below args s) kc ks (zEx G L xs) 1470 [zR 200, zR 0, zR 65, zI i] [] m2) : SW l G room_1 RL cL_law 4 ret (fun below args s => lw_Z below args s) kc ks (zEx G L xs) 1249 [zR 200, zR 0, zR 65, zI i] [] mem := by
  refine r_aload_n dL_law_1249 rfl ?_
  refine r_aload_n dL_law_1250 rfl ?_
  refine r_iload_n dL_law_1251 rfl ?_
  refine r_iconst dL_law_1252 (k := ?_)
  refine r_iadd dL_law_1253 ?_
  rw [zw_id (by omega) (by omega)]
  refine r_sld (by omega) (by omega) dL_law_1254 ?_
  refine r_simQ (As := [zI (xs (i + 1).toNat).toInt]) (sim_keep h _) kL_151 rfl rfl rfl dL_law_1255 (fun v m1 h1 => ?_)
  refine r_aload_n dL_law_1258 rfl ?_
  refine r_aload_n dL_law_1259 rfl ?_
  refine r_iload_n dL_law_1260 rfl ?_
  refine r_iconst dL_law_1261 (k := ?_)
  refine r_iadd dL_law_1262 ?_
  rw [zw_id (by omega) (by omega)]
  refine r_sld (by omega) (by omega) dL_law_1263 ?_
  refine r_simR (As := [zI (xs (i + 1).toNat).toInt]) h1 kL_154 rfl rfl rfl dL_law_1264 (fun m2 h2 => ?_)
  exact r_icmp_eq (tgt := 1470) dL_law_1267 (by decide) (fun _ => kk m2 h2) (fun h => absurd rfl h)
theorem lw_c34 {mem : zM} {i : Int} (h : SIM mem) (i0 : 0 ≤ i) (i4 : i + 4 < L) (hL : L ≤ 2560) (kk : ∀ m2, SIM m2 → SW l G room_1 RL cL_law 4 ret (fun below args s => lw_Z below args s) kc ks (zEx G L xs) 1470 [zR 200, zR 0, zR 65, zI i] [] m2) : SW l G room_1 RL cL_law 4 ret (fun below args s => lw_Z below args s) kc ks (zEx G L xs) 1272 [zR 200, zR 0, zR 65, zI i] [] mem := by
  refine r_aload_n dL_law_1272 rfl ?_
  refine r_aload_n dL_law_1273 rfl ?_
  refine r_iload_n dL_law_1274 rfl ?_
  refine r_iconst dL_law_1275 (k := ?_)
  refine r_iadd dL_law_1276 ?_
  rw [zw_id (by omega) (by omega)]
  refine r_sld (by omega) (by omega) dL_law_1277 ?_
  refine r_simQ (As := [zI (xs (i + 1).toNat).toInt]) (sim_back h _) kL_155 rfl rfl rfl dL_law_1278 (fun v m1 h1 => ?_)
  refine r_aload_n dL_law_1281 rfl ?_
  refine r_aload_n dL_law_1282 rfl ?_
  refine r_iload_n dL_law_1283 rfl ?_
  refine r_iconst dL_law_1284 (k := ?_)
  refine r_iadd dL_law_1285 ?_
  rw [zw_id (by omega) (by omega)]
  refine r_sld (by omega) (by omega) dL_law_1286 ?_
  refine r_simR (As := [zI (xs (i + 1).toNat).toInt]) h1 kL_158 rfl rfl rfl dL_law_1287 (fun m2 h2 => ?_)
  exact r_icmp_eq (tgt := 1470) dL_law_1290 (by decide) (fun _ => kk m2 h2) (fun h => absurd rfl h)
theorem lw_c35 {mem : zM} {i : Int} (h : SIM mem) (i0 : 0 ≤ i) (i4 : i + 4 < L) (hL : L ≤ 2560) (kk : ∀ m2, SIM m2 → SW l G room_1 RL cL_law 4 ret (fun below args s => lw_Z below args s) kc ks (zEx G L xs) 1470 [zR 200, zR 0, zR 65, zI i] [] m2) : SW l G room_1 RL cL_law 4 ret (fun below args s => lw_Z below args s) kc ks (zEx G L xs) 1295 [zR 200, zR 0, zR 65, zI i] [] mem := by
  refine r_aload_n dL_law_1295 rfl ?_
  refine r_aload_n dL_law_1296 rfl ?_
  refine r_iload_n dL_law_1297 rfl ?_
  refine r_iconst dL_law_1298 (k := ?_)
  refine r_iadd dL_law_1299 ?_
  rw [zw_id (by omega) (by omega)]
  refine r_sld (by omega) (by omega) dL_law_1300 ?_
  refine r_aload_n dL_law_1301 rfl ?_
  refine r_iload_n dL_law_1302 rfl ?_
  refine r_iconst dL_law_1303 (k := ?_)
  refine r_iadd dL_law_1304 ?_
  rw [zw_id (by omega) (by omega)]
  refine r_sld (by omega) (by omega) dL_law_1305 ?_
  refine r_aload_n dL_law_1306 rfl ?_
  refine r_iload_n dL_law_1307 rfl ?_
  refine r_iconst dL_law_1308 (k := ?_)
  refine r_iadd dL_law_1309 ?_
  rw [zw_id (by omega) (by omega)]
  refine r_sld (by omega) (by omega) dL_law_1310 ?_
  refine r_simQ (As := [zI (xs (i + 1).toNat).toInt, zI (xs (i + 2).toNat).toInt, zI (xs (i + 3).toNat).toInt]) (sim_sheet h _ _ _) kL_159 rfl rfl rfl dL_law_1311 (fun v m1 h1 => ?_)
  refine r_aload_n dL_law_1314 rfl ?_
  refine r_aload_n dL_law_1315 rfl ?_
  refine r_iload_n dL_law_1316 rfl ?_
  refine r_iconst dL_law_1317 (k := ?_)
  refine r_iadd dL_law_1318 ?_
  rw [zw_id (by omega) (by omega)]
  refine r_sld (by omega) (by omega) dL_law_1319 ?_
  refine r_aload_n dL_law_1320 rfl ?_
  refine r_iload_n dL_law_1321 rfl ?_
  refine r_iconst dL_law_1322 (k := ?_)
  refine r_iadd dL_law_1323 ?_
  rw [zw_id (by omega) (by omega)]
  refine r_sld (by omega) (by omega) dL_law_1324 ?_
  refine r_aload_n dL_law_1325 rfl ?_
  refine r_iload_n dL_law_1326 rfl ?_
  refine r_iconst dL_law_1327 (k := ?_)
  refine r_iadd dL_law_1328 ?_
  rw [zw_id (by omega) (by omega)]
  refine r_sld (by omega) (by omega) dL_law_1329 ?_
  refine r_simR (As := [zI (xs (i + 1).toNat).toInt, zI (xs (i + 2).toNat).toInt, zI (xs (i + 3).toNat).toInt]) h1 kL_162 rfl rfl rfl dL_law_1330 (fun m2 h2 => ?_)
  exact r_icmp_eq (tgt := 1470) dL_law_1333 (by decide) (fun _ => kk m2 h2) (fun h => absurd rfl h)
theorem lw_c36 {mem : zM} {i : Int} (h : SIM mem) (i0 : 0 ≤ i) (i4 : i + 4 < L) (hL : L ≤ 2560) (kk : ∀ m2, SIM m2 → SW l G room_1 RL cL_law 4 ret (fun below args s => lw_Z below args s) kc ks (zEx G L xs) 1470 [zR 200, zR 0, zR 65, zI i] [] m2) : SW l G room_1 RL cL_law 4 ret (fun below args s => lw_Z below args s) kc ks (zEx G L xs) 1338 [zR 200, zR 0, zR 65, zI i] [] mem := by
  refine r_aload_n dL_law_1338 rfl ?_
  refine r_aload_n dL_law_1339 rfl ?_
  refine r_iload_n dL_law_1340 rfl ?_
  refine r_iconst dL_law_1341 (k := ?_)
  refine r_iadd dL_law_1342 ?_
  rw [zw_id (by omega) (by omega)]
  refine r_sld (by omega) (by omega) dL_law_1343 ?_
  refine r_aload_n dL_law_1344 rfl ?_
  refine r_iload_n dL_law_1345 rfl ?_
  refine r_iconst dL_law_1346 (k := ?_)
  refine r_iadd dL_law_1347 ?_
  rw [zw_id (by omega) (by omega)]
  refine r_sld (by omega) (by omega) dL_law_1348 ?_
  refine r_aload_n dL_law_1349 rfl ?_
  refine r_iload_n dL_law_1350 rfl ?_
  refine r_iconst dL_law_1351 (k := ?_)
  refine r_iadd dL_law_1352 ?_
  rw [zw_id (by omega) (by omega)]
  refine r_sld (by omega) (by omega) dL_law_1353 ?_
  refine r_simQ (As := [zI (xs (i + 1).toNat).toInt, zI (xs (i + 2).toNat).toInt, zI (xs (i + 3).toNat).toInt]) (sim_lay h _ _ _) kL_163 rfl rfl rfl dL_law_1354 (fun v m1 h1 => ?_)
  refine r_aload_n dL_law_1357 rfl ?_
  refine r_aload_n dL_law_1358 rfl ?_
  refine r_iload_n dL_law_1359 rfl ?_
  refine r_iconst dL_law_1360 (k := ?_)
  refine r_iadd dL_law_1361 ?_
  rw [zw_id (by omega) (by omega)]
  refine r_sld (by omega) (by omega) dL_law_1362 ?_
  refine r_aload_n dL_law_1363 rfl ?_
  refine r_iload_n dL_law_1364 rfl ?_
  refine r_iconst dL_law_1365 (k := ?_)
  refine r_iadd dL_law_1366 ?_
  rw [zw_id (by omega) (by omega)]
  refine r_sld (by omega) (by omega) dL_law_1367 ?_
  refine r_aload_n dL_law_1368 rfl ?_
  refine r_iload_n dL_law_1369 rfl ?_
  refine r_iconst dL_law_1370 (k := ?_)
  refine r_iadd dL_law_1371 ?_
  rw [zw_id (by omega) (by omega)]
  refine r_sld (by omega) (by omega) dL_law_1372 ?_
  refine r_simR (As := [zI (xs (i + 1).toNat).toInt, zI (xs (i + 2).toNat).toInt, zI (xs (i + 3).toNat).toInt]) h1 kL_166 rfl rfl rfl dL_law_1373 (fun m2 h2 => ?_)
  exact r_icmp_eq (tgt := 1470) dL_law_1376 (by decide) (fun _ => kk m2 h2) (fun h => absurd rfl h)
theorem lw_c37 {mem : zM} {i : Int} (h : SIM mem) (i0 : 0 ≤ i) (i4 : i + 4 < L) (hL : L ≤ 2560) (kk : ∀ m2, SIM m2 → SW l G room_1 RL cL_law 4 ret (fun below args s => lw_Z below args s) kc ks (zEx G L xs) 1470 [zR 200, zR 0, zR 65, zI i] [] m2) : SW l G room_1 RL cL_law 4 ret (fun below args s => lw_Z below args s) kc ks (zEx G L xs) 1381 [zR 200, zR 0, zR 65, zI i] [] mem := by
  refine r_aload_n dL_law_1381 rfl ?_
  refine r_aload_n dL_law_1382 rfl ?_
  refine r_iload_n dL_law_1383 rfl ?_
  refine r_iconst dL_law_1384 (k := ?_)
  refine r_iadd dL_law_1385 ?_
  rw [zw_id (by omega) (by omega)]
  refine r_sld (by omega) (by omega) dL_law_1386 ?_
  refine r_aload_n dL_law_1387 rfl ?_
  refine r_iload_n dL_law_1388 rfl ?_
  refine r_iconst dL_law_1389 (k := ?_)
  refine r_iadd dL_law_1390 ?_
  rw [zw_id (by omega) (by omega)]
  refine r_sld (by omega) (by omega) dL_law_1391 ?_
  refine r_aload_n dL_law_1392 rfl ?_
  refine r_iload_n dL_law_1393 rfl ?_
  refine r_iconst dL_law_1394 (k := ?_)
  refine r_iadd dL_law_1395 ?_
  rw [zw_id (by omega) (by omega)]
  refine r_sld (by omega) (by omega) dL_law_1396 ?_
  refine r_aload_n dL_law_1397 rfl ?_
  refine r_iload_n dL_law_1398 rfl ?_
  refine r_iconst dL_law_1399 (k := ?_)
  refine r_iadd dL_law_1400 ?_
  rw [zw_id (by omega) (by omega)]
  refine r_sld (by omega) (by omega) dL_law_1401 ?_
  refine r_simQ (As := [zI (xs (i + 1).toNat).toInt, zI (xs (i + 2).toNat).toInt, zI (xs (i + 3).toNat).toInt, zI (xs (i + 4).toNat).toInt]) (sim_read h _ _ _ _ (zi_in _)) kL_167 rfl rfl rfl dL_law_1402 (fun v m1 h1 => ?_)
  refine r_aload_n dL_law_1405 rfl ?_
  refine r_aload_n dL_law_1406 rfl ?_
  refine r_iload_n dL_law_1407 rfl ?_
  refine r_iconst dL_law_1408 (k := ?_)
  refine r_iadd dL_law_1409 ?_
  rw [zw_id (by omega) (by omega)]
  refine r_sld (by omega) (by omega) dL_law_1410 ?_
  refine r_aload_n dL_law_1411 rfl ?_
  refine r_iload_n dL_law_1412 rfl ?_
  refine r_iconst dL_law_1413 (k := ?_)
  refine r_iadd dL_law_1414 ?_
  rw [zw_id (by omega) (by omega)]
  refine r_sld (by omega) (by omega) dL_law_1415 ?_
  refine r_aload_n dL_law_1416 rfl ?_
  refine r_iload_n dL_law_1417 rfl ?_
  refine r_iconst dL_law_1418 (k := ?_)
  refine r_iadd dL_law_1419 ?_
  rw [zw_id (by omega) (by omega)]
  refine r_sld (by omega) (by omega) dL_law_1420 ?_
  refine r_aload_n dL_law_1421 rfl ?_
  refine r_iload_n dL_law_1422 rfl ?_
  refine r_iconst dL_law_1423 (k := ?_)
  refine r_iadd dL_law_1424 ?_
  rw [zw_id (by omega) (by omega)]
  refine r_sld (by omega) (by omega) dL_law_1425 ?_
  refine r_simR (As := [zI (xs (i + 1).toNat).toInt, zI (xs (i + 2).toNat).toInt, zI (xs (i + 3).toNat).toInt, zI (xs (i + 4).toNat).toInt]) h1 kL_171 rfl rfl rfl dL_law_1426 (fun m2 h2 => ?_)
  exact r_icmp_eq (tgt := 1470) dL_law_1429 (by decide) (fun _ => kk m2 h2) (fun h => absurd rfl h)
theorem lw_c38 {mem : zM} {i : Int} (h : SIM mem) (i0 : 0 ≤ i) (i4 : i + 4 < L) (hL : L ≤ 2560) (kk : ∀ m2, SIM m2 → SW l G room_1 RL cL_law 4 ret (fun below args s => lw_Z below args s) kc ks (zEx G L xs) 1470 [zR 200, zR 0, zR 65, zI i] [] m2) : SW l G room_1 RL cL_law 4 ret (fun below args s => lw_Z below args s) kc ks (zEx G L xs) 1434 [zR 200, zR 0, zR 65, zI i] [] mem := by
  refine r_aload_n dL_law_1434 rfl ?_
  refine r_simQ (As := []) (sim_torn h) kL_172 rfl rfl rfl dL_law_1435 (fun v m1 h1 => ?_)
  refine r_aload_n dL_law_1438 rfl ?_
  refine r_simR (As := []) h1 kL_175 rfl rfl rfl dL_law_1439 (fun m2 h2 => ?_)
  exact r_icmp_eq (tgt := 1470) dL_law_1442 (by decide) (fun _ => kk m2 h2) (fun h => absurd rfl h)
theorem lw_c39 {mem : zM} {i : Int} (h : SIM mem) (i0 : 0 ≤ i) (i4 : i + 4 < L) (hL : L ≤ 2560) (kk : ∀ m2, SIM m2 → SW l G room_1 RL cL_law 4 ret (fun below args s => lw_Z below args s) kc ks (zEx G L xs) 1470 [zR 200, zR 0, zR 65, zI i] [] m2) : SW l G room_1 RL cL_law 4 ret (fun below args s => lw_Z below args s) kc ks (zEx G L xs) 1447 [zR 200, zR 0, zR 65, zI i] [] mem := by
  refine r_aload_n dL_law_1447 rfl ?_
  refine r_aload_n dL_law_1448 rfl ?_
  refine r_iload_n dL_law_1449 rfl ?_
  refine r_iconst dL_law_1450 (k := ?_)
  refine r_iadd dL_law_1451 ?_
  rw [zw_id (by omega) (by omega)]
  refine r_sld (by omega) (by omega) dL_law_1452 ?_
  refine r_simQ (As := [zI (xs (i + 1).toNat).toInt]) (sim_count h _) kL_176 rfl rfl rfl dL_law_1453 (fun v m1 h1 => ?_)
  refine r_aload_n dL_law_1456 rfl ?_
  refine r_aload_n dL_law_1457 rfl ?_
  refine r_iload_n dL_law_1458 rfl ?_
  refine r_iconst dL_law_1459 (k := ?_)
  refine r_iadd dL_law_1460 ?_
  rw [zw_id (by omega) (by omega)]
  refine r_sld (by omega) (by omega) dL_law_1461 ?_
  refine r_simR (As := [zI (xs (i + 1).toNat).toInt]) h1 kL_179 rfl rfl rfl dL_law_1462 (fun m2 h2 => ?_)
  exact r_icmp_eq (tgt := 1470) dL_law_1465 (by decide) (fun _ => kk m2 h2) (fun h => absurd rfl h)
theorem zand_63 (x : Int) : 0 ≤ zand x 63 ∧ zand x 63 ≤ 63 := by
  unfold zand
  rw [pk_and (Int32.ofInt x) (m := Int32.ofInt 63) 6 (by decide)]
  generalize (Int32.ofInt x).toBitVec.toNat = w
  show 0 ≤ (Int32.ofNat (w % 2 ^ 6)).toInt ∧ (Int32.ofNat (w % 2 ^ 6)).toInt ≤ 63
  rw [Int32.toInt_ofNat_of_lt (by omega)]
  omega
theorem lw_sw {mem : zM} {i v : Int} (h : SIM mem) (i0 : 0 ≤ i) (i4 : i + 4 < L) (hL : L ≤ 2560) (v0 : 0 ≤ v) (kk : ∀ m2, SIM m2 → SW l G room_1 RL cL_law 4 ret (fun below args s => lw_Z below args s) kc ks (zEx G L xs) 1470 [zR 200, zR 0, zR 65, zI i] [] m2) : SW l G room_1 RL cL_law 4 ret (fun below args s => lw_Z below args s) kc ks (zEx G L xs) 32 [zR 200, zR 0, zR 65, zI i] [zI v] mem := by
  by_cases c : v ≤ 39
  · obtain ⟨w, rfl⟩ : ∃ w : Nat, v = w := ⟨v.toNat, by omega⟩
    have hw : w < 40 := by omega
    match w, hw with
    | 0, _ => exact r_tswIn (tgt := 208) dL_law_32 (by decide) (by rfl) (by decide) (lw_c0 h i0 i4 hL kk)
    | 1, _ => exact r_tswIn (tgt := 231) dL_law_32 (by decide) (by rfl) (by decide) (lw_c1 h i0 i4 hL kk)
    | 2, _ => exact r_tswIn (tgt := 254) dL_law_32 (by decide) (by rfl) (by decide) (lw_c2 h i0 i4 hL kk)
    | 3, _ => exact r_tswIn (tgt := 267) dL_law_32 (by decide) (by rfl) (by decide) (lw_c3 h i0 i4 hL kk)
    | 4, _ => exact r_tswIn (tgt := 280) dL_law_32 (by decide) (by rfl) (by decide) (lw_c4 h i0 i4 hL kk)
    | 5, _ => exact r_tswIn (tgt := 303) dL_law_32 (by decide) (by rfl) (by decide) (lw_c5 h i0 i4 hL kk)
    | 6, _ => exact r_tswIn (tgt := 336) dL_law_32 (by decide) (by rfl) (by decide) (lw_c6 h i0 i4 hL kk)
    | 7, _ => exact r_tswIn (tgt := 369) dL_law_32 (by decide) (by rfl) (by decide) (lw_c7 h i0 i4 hL kk)
    | 8, _ => exact r_tswIn (tgt := 402) dL_law_32 (by decide) (by rfl) (by decide) (lw_c8 h i0 i4 hL kk)
    | 9, _ => exact r_tswIn (tgt := 435) dL_law_32 (by decide) (by rfl) (by decide) (lw_c9 h i0 i4 hL kk)
    | 10, _ => exact r_tswIn (tgt := 478) dL_law_32 (by decide) (by rfl) (by decide) (lw_c10 h i0 i4 hL kk)
    | 11, _ => exact r_tswIn (tgt := 521) dL_law_32 (by decide) (by rfl) (by decide) (lw_c11 h i0 i4 hL kk)
    | 12, _ => exact r_tswIn (tgt := 554) dL_law_32 (by decide) (by rfl) (by decide) (lw_c12 h i0 i4 hL kk)
    | 13, _ => exact r_tswIn (tgt := 597) dL_law_32 (by decide) (by rfl) (by decide) (lw_c13 h i0 i4 hL kk)
    | 14, _ => exact r_tswIn (tgt := 620) dL_law_32 (by decide) (by rfl) (by decide) (lw_c14 h i0 i4 hL kk)
    | 15, _ => exact r_tswIn (tgt := 643) dL_law_32 (by decide) (by rfl) (by decide) (lw_c15 h i0 i4 hL kk)
    | 16, _ => exact r_tswIn (tgt := 666) dL_law_32 (by decide) (by rfl) (by decide) (lw_c16 h i0 i4 hL kk)
    | 17, _ => exact r_tswIn (tgt := 699) dL_law_32 (by decide) (by rfl) (by decide) (lw_c17 h i0 i4 hL kk)
    | 18, _ => exact r_tswIn (tgt := 732) dL_law_32 (by decide) (by rfl) (by decide) (lw_c18 h i0 i4 hL kk)
    | 19, _ => exact r_tswIn (tgt := 755) dL_law_32 (by decide) (by rfl) (by decide) (lw_c19 h i0 i4 hL kk)
    | 20, _ => exact r_tswIn (tgt := 788) dL_law_32 (by decide) (by rfl) (by decide) (lw_c20 h i0 i4 hL kk)
    | 21, _ => exact r_tswIn (tgt := 811) dL_law_32 (by decide) (by rfl) (by decide) (lw_c21 h i0 i4 hL kk)
    | 22, _ => exact r_tswIn (tgt := 834) dL_law_32 (by decide) (by rfl) (by decide) (lw_c22 h i0 i4 hL kk)
    | 23, _ => exact r_tswIn (tgt := 867) dL_law_32 (by decide) (by rfl) (by decide) (lw_c23 h i0 i4 hL kk)
    | 24, _ => exact r_tswIn (tgt := 910) dL_law_32 (by decide) (by rfl) (by decide) (lw_c24 h i0 i4 hL kk)
    | 25, _ => exact r_tswIn (tgt := 953) dL_law_32 (by decide) (by rfl) (by decide) (lw_c25 h i0 i4 hL kk)
    | 26, _ => exact r_tswIn (tgt := 1007) dL_law_32 (by decide) (by rfl) (by decide) (lw_c26 h i0 i4 hL kk)
    | 27, _ => exact r_tswIn (tgt := 1051) dL_law_32 (by decide) (by rfl) (by decide) (lw_c27 h i0 i4 hL kk)
    | 28, _ => exact r_tswIn (tgt := 1094) dL_law_32 (by decide) (by rfl) (by decide) (lw_c28 h i0 i4 hL kk)
    | 29, _ => exact r_tswIn (tgt := 1117) dL_law_32 (by decide) (by rfl) (by decide) (lw_c29 h i0 i4 hL kk)
    | 30, _ => exact r_tswIn (tgt := 1140) dL_law_32 (by decide) (by rfl) (by decide) (lw_c30 h i0 i4 hL kk)
    | 31, _ => exact r_tswIn (tgt := 1173) dL_law_32 (by decide) (by rfl) (by decide) (lw_c31 h i0 i4 hL kk)
    | 32, _ => exact r_tswIn (tgt := 1206) dL_law_32 (by decide) (by rfl) (by decide) (lw_c32 h i0 i4 hL kk)
    | 33, _ => exact r_tswIn (tgt := 1249) dL_law_32 (by decide) (by rfl) (by decide) (lw_c33 h i0 i4 hL kk)
    | 34, _ => exact r_tswIn (tgt := 1272) dL_law_32 (by decide) (by rfl) (by decide) (lw_c34 h i0 i4 hL kk)
    | 35, _ => exact r_tswIn (tgt := 1295) dL_law_32 (by decide) (by rfl) (by decide) (lw_c35 h i0 i4 hL kk)
    | 36, _ => exact r_tswIn (tgt := 1338) dL_law_32 (by decide) (by rfl) (by decide) (lw_c36 h i0 i4 hL kk)
    | 37, _ => exact r_tswIn (tgt := 1381) dL_law_32 (by decide) (by rfl) (by decide) (lw_c37 h i0 i4 hL kk)
    | 38, _ => exact r_tswIn (tgt := 1434) dL_law_32 (by decide) (by rfl) (by decide) (lw_c38 h i0 i4 hL kk)
    | 39, _ => exact r_tswIn (tgt := 1447) dL_law_32 (by decide) (by rfl) (by decide) (lw_c39 h i0 i4 hL kk)
  · exact r_tswOut (tgt := 1470) dL_law_32 (by omega) (by decide) (kk mem h)
theorem lw_loop (hL : L ≤ 2560) (hc : kc ≤ 600000) (hs : ks ≤ 7302250) : ∀ (q : Nat) (i : Int) (mem : zM), 0 ≤ i → i ≤ 5000 → (L : Int) - i < q → SIM mem → SW l G room_1 RL cL_law 4 ret (fun below args s => lw_Z below args s) kc ks (zEx G L xs) 18 [zR 200, zR 0, zR 65, zI i] [] mem := by
  intro q
  induction q with
  | zero =>
    intro i mem i0 i5 hq h
    refine r_iload_n dL_law_18 rfl ?_
    refine r_aload_n dL_law_19 rfl ?_
    refine r_slenL (by omega) dL_law_20 ?_
    refine r_iconst dL_law_21 (k := ?_)
    refine r_isub dL_law_22 ?_
    rw [zw_id (by omega) (by omega)]
    refine r_icmp_gt (tgt := 1476) dL_law_23 (by decide) (fun _ => ?_) (fun h23 => absurd h23 (by omega))
    refine r_iconst dL_law_1476 (k := ?_)
    exact r_lw hc hs dL_law_1477
  | succ q ih =>
    intro i mem i0 i5 hq h
    refine r_iload_n dL_law_18 rfl ?_
    refine r_aload_n dL_law_19 rfl ?_
    refine r_slenL (by omega) dL_law_20 ?_
    refine r_iconst dL_law_21 (k := ?_)
    refine r_isub dL_law_22 ?_
    rw [zw_id (by omega) (by omega)]
    refine r_icmp_gt (tgt := 1476) dL_law_23 (by decide) (fun _ => ?_) (fun h23 => ?_)
    · refine r_iconst dL_law_1476 (k := ?_)
      exact r_lw hc hs dL_law_1477
    · refine r_aload_n dL_law_26 rfl ?_
      refine r_iload_n dL_law_27 rfl ?_
      refine r_sld (by omega) (by omega) dL_law_28 ?_
      refine r_bipush dL_law_29 (k := ?_)
      refine r_iand dL_law_31 ?_
      refine lw_sw h i0 (by omega) hL (zand_63 _).1 (fun m2 h2 => ?_)
      refine r_iinc dL_law_1470 rfl rfl ?_
      rw [zw_id (by omega) (by omega)]
      refine r_goto (tgt := 18) dL_law_1473 (by decide) ?_
      exact ih (i + 5) m2 (by omega) (by omega) (by omega) h2
end
