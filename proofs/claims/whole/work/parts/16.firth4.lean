/-! ===== Firth: days, and what is written ===== -/
theorem zs_n {mem : zM} {o o' : Nat} {k v : Int} (h : o' ≠ o) : zs mem o k v o' = mem o' := zr_n h
theorem zs_s {mem : zM} {o : Nat} {k v : Int} : zs mem o k v o = zu (mem o) k v := zr_s
theorem zs_v {mem : zM} {o : Nat} {k v : Int} : zs mem o k v o k = v := by rw [zs_s, zu_s]
theorem zs_k {mem : zM} {o : Nat} {k v j : Int} (h : j ≠ k) : zs mem o k v o j = mem o j := by rw [zs_s, zu_n h]
/-- a world in which one firth's places, bumps and day are others -/
def zFy (mem : zM) (b : Nat) (s : (Int → Int) × Int × Int) : zM := zs (zFw mem b s.1 s.2.1) b 9 s.2.2
theorem zFy_2 {mem : zM} {b : Nat} {s : (Int → Int) × Int × Int} : zFy mem b s (b + 2) = s.1 := by
  unfold zFy zs
  rw [zr_n (by omega), zFw_2]
theorem zFy_o {mem : zM} {b o : Nat} {s : (Int → Int) × Int × Int} (h1 : o ≠ b) (h2 : o ≠ b + 2) : zFy mem b s o = mem o := by
  unfold zFy zs
  rw [zr_n h1, zFw_o h1 h2]
theorem zFy_b {mem : zM} {b : Nat} {s : (Int → Int) × Int × Int} {k : Int} (h : k ≠ 10) (h2 : k ≠ 9) : zFy mem b s b k = mem b k := by
  unfold zFy zs
  rw [zr_s, zu_n h2, zFw_b h]
theorem zFy_10 {mem : zM} {b : Nat} {s : (Int → Int) × Int × Int} : zFy mem b s b 10 = s.2.1 := by
  unfold zFy zs
  rw [zr_s, zu_n (by decide), zFw_10]
theorem zFy_9 {mem : zM} {b : Nat} {s : (Int → Int) × Int × Int} : zFy mem b s b 9 = s.2.2 := by
  unfold zFy zs
  rw [zr_s, zu_s]
theorem zFy_b0 {mem : zM} {b : Nat} {s : (Int → Int) × Int × Int} : zFy mem b s b 0 = mem b 0 := zFy_b (by decide) (by decide)
theorem zFy_b4 {mem : zM} {b : Nat} {s : (Int → Int) × Int × Int} : zFy mem b s b 4 = mem b 4 := zFy_b (by decide) (by decide)
theorem zFy_b8 {mem : zM} {b : Nat} {s : (Int → Int) × Int × Int} : zFy mem b s b 8 = mem b 8 := zFy_b (by decide) (by decide)
theorem zFy_1 {mem : zM} {b : Nat} {s : (Int → Int) × Int × Int} : zFy mem b s (b + 1) = mem (b + 1) := zFy_o (by omega) (by omega)
theorem zFy_3 {mem : zM} {b : Nat} {s : (Int → Int) × Int × Int} : zFy mem b s (b + 3) = mem (b + 3) := zFy_o (by omega) (by omega)
theorem zFy_4 {mem : zM} {b : Nat} {s : (Int → Int) × Int × Int} : zFy mem b s (b + 4) = mem (b + 4) := zFy_o (by omega) (by omega)
theorem zFy_5 {mem : zM} {b : Nat} {s : (Int → Int) × Int × Int} : zFy mem b s (b + 5) = mem (b + 5) := zFy_o (by omega) (by omega)
theorem zFy_6 {mem : zM} {b : Nat} {s : (Int → Int) × Int × Int} : zFy mem b s (b + 6) = mem (b + 6) := zFy_o (by omega) (by omega)
theorem zFy_ext {mem m2 : zM} {b : Nat} {s : (Int → Int) × Int × Int} (h1 : ∀ o, o ≠ b → o ≠ b + 2 → m2 o = mem o) (h2 : m2 (b + 2) = s.1) (h3 : ∀ k, k ≠ 10 → k ≠ 9 → m2 b k = mem b k) (h4 : m2 b 10 = s.2.1) (h5 : m2 b 9 = s.2.2) : m2 = zFy mem b s := by
  funext o
  by_cases h : o = b
  · subst h
    funext k
    by_cases hk : k = 10
    · subst hk; rw [h4, zFy_10]
    · by_cases hk9 : k = 9
      · subst hk9; rw [h5, zFy_9]
      · rw [h3 k hk hk9, zFy_b hk hk9]
  · by_cases h8 : o = b + 2
    · subst h8; rw [h2, zFy_2]
    · rw [h1 o h h8, zFy_o h h8]
theorem zFy_self {mem : zM} {b : Nat} : zFy mem b (mem (b + 2), mem b 10, mem b 9) = mem := (zFy_ext (fun _ _ _ => rfl) rfl (fun _ _ _ => rfl) rfl rfl).symm
theorem zFy_y {mem : zM} {b : Nat} {s t : (Int → Int) × Int × Int} : zFy (zFy mem b s) b t = zFy mem b t := zFy_ext (fun o h1 h2 => by rw [zFy_o h1 h2, zFy_o h1 h2]) zFy_2 (fun k h1 h2 => by rw [zFy_b h1 h2, zFy_b h1 h2]) zFy_10 zFy_9
theorem zFI.y {mem : zM} {b : Nat} {s : (Int → Int) × Int × Int} (h : zFI mem b) (hp : sPB (mem b 0) s.1) : zFI (zFy mem b s) b := by
  obtain ⟨h1, h2, h3, h4, h5, h6, h7⟩ := h
  unfold zFI
  rw [zFy_b0, zFy_b4, zFy_2, zFy_3, zFy_4, zFy_5, zFy_6]
  exact ⟨h1, h2, h3, h4, hp, h6, h7⟩
theorem sDays_bd {n r hol : Int} {t g e1 e2 ln : Int → Int} {k : Nat} {s : (Int → Int) × Int × Int} (hn : 0 ≤ n) (h : sPB n s.1) : sPB n (sDays n t g r e1 e2 ln hol k s).1 :=
  zfor_ind (f := fun _ s => sDay n t g r e1 e2 ln hol s) (P := fun _ s => sPB n s.1) k 0 s h (fun j a h1 h2 h3 => sDay_bd hn h3)
section
variable {l : Launch} {G : zG} {mem : zM} {b : Nat}
theorem c_X0_passDay' (hb : isF b) (hI : zFI mem b) : KX0_passDay l G 3 [zR b] mem (zP0 (zFy mem b (sDay (mem b 0) (mem (b + 1)) (mem (b + 3)) (mem b 4) (mem (b + 4)) (mem (b + 5)) (mem (b + 6)) (mem b 8) (mem (b + 2), mem b 10, mem b 9)))) := c_X0_passDay hb hI
set_option maxRecDepth 100000 in
theorem c_X0_passDays (hb : isF b) (hI : zFI mem b) (n : Int) (h0 : 0 ≤ n) (h9 : n ≤ 1000) : KX0_passDays l G 4 [zR b, zI n] mem (zP0 (zFy mem b (sDays (mem b 0) (mem (b + 1)) (mem (b + 3)) (mem b 4) (mem (b + 4)) (mem (b + 5)) (mem (b + 6)) (mem b 8) n.toNat (mem (b + 2), mem b 10, mem b 9)))) := by
  obtain ⟨hn0, hn5, hr0, hr6, hp, hg, hr⟩ := id hI
  refine CT.of' (own := RX0) (ls0 := [zR b, zI n, zU]) rfl (by decide +kernel) (Nat.le_of_ble_eq_true rfl) rfl ?_
  generalize hS : sDays (mem b 0) (mem (b + 1)) (mem (b + 3)) (mem b 4) (mem (b + 4)) (mem (b + 5)) (mem (b + 6)) (mem b 8) n.toNat (mem (b + 2), mem b 10, mem b 9) = S
  have loop : ∀ (k : Nat) (x : Int) (s : (Int → Int) × Int × Int), 0 ≤ x → x + k = n → sPB (mem b 0) s.1 → zfor (fun _ s => sDay (mem b 0) (mem (b + 1)) (mem (b + 3)) (mem b 4) (mem (b + 4)) (mem (b + 5)) (mem (b + 6)) (mem b 8) s) x k s = S → SW l G (zrm 4) RX0 cX0_passDays 3 none (zZ G (zP0 (zFy mem b S))) 0 0 (fun _ => True) 2 [zR b, zI n, zI x] [] (zFy mem b s) := by
    intro k
    induction k with
    | zero =>
      intro x s h1 h2 hpb he
      refine r_iload_n dX0_passDays_2 rfl ?_
      refine r_iload_n dX0_passDays_3 rfl ?_
      refine r_icmp_ge (tgt := 17) dX0_passDays_4 (by decide) (fun h4 => ?_) (fun h4 => ?_)
      · refine r_vret dX0_passDays_17 ?_
        exact zP0.of (by rw [← he]; rfl)
      · exact absurd (by omega) h4
    | succ k ih =>
      intro x s h1 h2 hpb he
      rw [zfor] at he
      refine r_iload_n dX0_passDays_2 rfl ?_
      refine r_iload_n dX0_passDays_3 rfl ?_
      refine r_icmp_ge (tgt := 17) dX0_passDays_4 (by decide) (fun h4 => ?_) (fun h4 => ?_)
      · exact absurd h4 (by omega)
      · refine r_aload_n dX0_passDays_7 rfl ?_
        refine r_w0 (c_X0_passDay' hb (hI.y hpb)) kX0_86 (by exact zlF hb) dX0_passDays_8 ?_
        try simp only [zFy_2, zFy_b0, zFy_b4, zFy_b8, zFy_1, zFy_3, zFy_4, zFy_5, zFy_6, zFy_10, zFy_9, zFy_y]
        refine r_iinc dX0_passDays_11 rfl rfl ?_
        try rw [zw_id (by omega) (by omega)]
        refine r_goto (tgt := 2) dX0_passDays_14 (by decide) ?_
        exact ih _ _ (by omega) (by omega) (sDay_bd hn0 hpb) he
  refine r_iconst dX0_passDays_0 (k := ?_)
  refine r_istore_n dX0_passDays_1 rfl ?_
  have fin := loop n.toNat 0 (mem (b + 2), mem b 10, mem b 9) (by omega) (by omega) hp hS
  rw [zFy_self] at fin
  exact fin
set_option maxRecDepth 100000 in
theorem c_X0_spreadBehind (hb : isF b) (hI : zFI mem b) (n : Int) (h0 : 0 ≤ n) (h9 : n ≤ 1000) : KX0_spreadBehind l G 5 [zR b, zI n] mem (zP1 (zI (sSpread (mem b 0) (sDays (mem b 0) (mem (b + 1)) (mem (b + 3)) (mem b 4) (mem (b + 4)) (mem (b + 5)) (mem (b + 6)) (mem b 8) n.toNat (mem (b + 2), mem b 10, mem b 9)).1)) (zFy mem b (sDays (mem b 0) (mem (b + 1)) (mem (b + 3)) (mem b 4) (mem (b + 4)) (mem (b + 5)) (mem (b + 6)) (mem b 8) n.toNat (mem (b + 2), mem b 10, mem b 9)))) := by
  obtain ⟨hn0, hn5, hr0, hr6, hp, hg, hr⟩ := id hI
  have hpb := sDays_bd (t := mem (b + 1)) (g := mem (b + 3)) (r := mem b 4) (e1 := mem (b + 4)) (e2 := mem (b + 5)) (ln := mem (b + 6)) (hol := mem b 8) (k := n.toNat) (s := (mem (b + 2), mem b 10, mem b 9)) hn0 hp
  refine CT.of' (own := RX0) (ls0 := [zR b, zI n]) rfl (by decide +kernel) (Nat.le_of_ble_eq_true rfl) rfl ?_
  refine r_aload_n dX0_spreadBehind_0 rfl ?_
  refine r_iload_n dX0_spreadBehind_1 rfl ?_
  refine r_w1 (c_X0_passDays hb hI n h0 h9) kX0_89 (by exact zlF hb) dX0_spreadBehind_2 ?_
  try simp only [zFy_2, zFy_b0]
  refine r_aload_n dX0_spreadBehind_5 rfl ?_
  refine r_v0 (c_X0_spread hb (hI.y hpb)) kX0_92 (by exact zlF hb) dX0_spreadBehind_6 ?_
  try simp only [zFy_2, zFy_b0]
  refine r_iret dX0_spreadBehind_9 ?_
  exact zP1.i
set_option maxRecDepth 100000 in
theorem c_X0_bumpsIn (hb : isF b) (hI : zFI mem b) (n : Int) (h0 : 0 ≤ n) (h9 : n ≤ 1000) : KX0_bumpsIn l G 5 [zR b, zI n] mem (zP1 (zI (zw ((sDays (mem b 0) (mem (b + 1)) (mem (b + 3)) (mem b 4) (mem (b + 4)) (mem (b + 5)) (mem (b + 6)) (mem b 8) n.toNat (mem (b + 2), mem b 10, mem b 9)).2.1 - mem b 10))) (zFy mem b (sDays (mem b 0) (mem (b + 1)) (mem (b + 3)) (mem b 4) (mem (b + 4)) (mem (b + 5)) (mem (b + 6)) (mem b 8) n.toNat (mem (b + 2), mem b 10, mem b 9)))) := by
  refine CT.of' (own := RX0) (ls0 := [zR b, zI n, zU]) rfl (by decide +kernel) (Nat.le_of_ble_eq_true rfl) rfl ?_
  refine r_aload_n dX0_bumpsIn_0 rfl ?_
  refine r_gI (q := 10) rfl fX0_43 (by exact zlF hb) (by decide) dX0_bumpsIn_1 ?_
  try simp only [zFy_10]
  refine r_istore_n dX0_bumpsIn_4 rfl ?_
  refine r_aload_n dX0_bumpsIn_5 rfl ?_
  refine r_iload_n dX0_bumpsIn_6 rfl ?_
  refine r_w1 (c_X0_passDays hb hI n h0 h9) kX0_89 (by exact zlF hb) dX0_bumpsIn_7 ?_
  try simp only [zFy_10]
  refine r_aload_n dX0_bumpsIn_10 rfl ?_
  refine r_gI (q := 10) rfl fX0_43 (by exact zlF hb) (by decide) dX0_bumpsIn_11 ?_
  try simp only [zFy_10]
  refine r_iload_n dX0_bumpsIn_14 rfl ?_
  refine r_isub dX0_bumpsIn_15 ?_
  refine r_iret dX0_bumpsIn_16 ?_
  exact zP1.i
/-- a firth as another is -/
def zBec (mem : zM) (b c : Nat) : zM := fun o => if o = b then (fun k => if k = 0 ∨ k = 4 ∨ k = 8 ∨ k = 9 ∨ k = 10 then mem c k else mem b k) else if o = b + 1 then zcp (mem (c + 1)) (mem (b + 1)) 0 0 5 else if o = b + 2 then zcp (mem (c + 2)) (mem (b + 2)) 0 0 5 else if o = b + 3 then zcp (mem (c + 3)) (mem (b + 3)) 0 0 25 else if o = b + 4 then zcp (mem (c + 4)) (mem (b + 4)) 0 0 6 else if o = b + 5 then zcp (mem (c + 5)) (mem (b + 5)) 0 0 6 else if o = b + 6 then zcp (mem (c + 6)) (mem (b + 6)) 0 0 6 else mem o
theorem zBec_b {mem : zM} {b c : Nat} {k : Int} : zBec mem b c b k = if k = 0 ∨ k = 4 ∨ k = 8 ∨ k = 9 ∨ k = 10 then mem c k else mem b k := by unfold zBec; rw [if_pos rfl]
theorem zBec_1 {mem : zM} {b c : Nat} : zBec mem b c (b + 1) = zcp (mem (c + 1)) (mem (b + 1)) 0 0 5 := by unfold zBec; rw [if_neg (by omega), if_pos rfl]
theorem zBec_2 {mem : zM} {b c : Nat} : zBec mem b c (b + 2) = zcp (mem (c + 2)) (mem (b + 2)) 0 0 5 := by unfold zBec; rw [if_neg (by omega), if_neg (by omega), if_pos rfl]
theorem zBec_3 {mem : zM} {b c : Nat} : zBec mem b c (b + 3) = zcp (mem (c + 3)) (mem (b + 3)) 0 0 25 := by unfold zBec; rw [if_neg (by omega), if_neg (by omega), if_neg (by omega), if_pos rfl]
theorem zBec_4 {mem : zM} {b c : Nat} : zBec mem b c (b + 4) = zcp (mem (c + 4)) (mem (b + 4)) 0 0 6 := by unfold zBec; rw [if_neg (by omega), if_neg (by omega), if_neg (by omega), if_neg (by omega), if_pos rfl]
theorem zBec_5 {mem : zM} {b c : Nat} : zBec mem b c (b + 5) = zcp (mem (c + 5)) (mem (b + 5)) 0 0 6 := by unfold zBec; rw [if_neg (by omega), if_neg (by omega), if_neg (by omega), if_neg (by omega), if_neg (by omega), if_pos rfl]
theorem zBec_6 {mem : zM} {b c : Nat} : zBec mem b c (b + 6) = zcp (mem (c + 6)) (mem (b + 6)) 0 0 6 := by unfold zBec; rw [if_neg (by omega), if_neg (by omega), if_neg (by omega), if_neg (by omega), if_neg (by omega), if_neg (by omega), if_pos rfl]
theorem zBec_o {mem : zM} {b c o : Nat} (h : o < b ∨ b + 6 < o) : zBec mem b c o = mem o := by unfold zBec; rw [if_neg (by omega), if_neg (by omega), if_neg (by omega), if_neg (by omega), if_neg (by omega), if_neg (by omega), if_neg (by omega)]
theorem lX0_52 : Cond.methodLink RX0 52 arraycopyName ∈ ztb := (ztb_at 464 (by decide +kernel) (by decide +kernel))
theorem lX4_25 : Cond.methodLink RX4 25 arraycopyName ∈ ztb := (ztb_at 742 (by decide +kernel) (by decide +kernel))
theorem lX5_269 : Cond.methodLink RX5 269 arraycopyName ∈ ztb := (ztb_at 667 (by decide +kernel) (by decide +kernel))
set_option maxRecDepth 100000 in
set_option maxHeartbeats 1000000 in
theorem c_X0_become {c : Nat} (hb : isF b) (hc : isF c) (hbc : b ≠ c) : KX0_become l G 1 [zR b, zR c] mem (zP0 (zBec mem b c)) := by
  have hb' := hb
  have hc' := hc
  unfold isF at hb' hc'
  refine CT.of' (own := RX0) (ls0 := [zR b, zR c]) rfl (by decide +kernel) (Nat.le_of_ble_eq_true rfl) rfl ?_
  refine r_aload_n dX0_become_0 rfl ?_
  refine r_aload_n dX0_become_1 rfl ?_
  refine r_gI (q := 0) rfl fX0_9 (by first | exact zlF hb | exact zlF hc) (by decide) dX0_become_2 ?_
  refine r_pI (q := 0) rfl pX0_9 (by first | exact zlF hb | exact zlF hc) dX0_become_5 ?_
  refine r_aload_n dX0_become_8 rfl ?_
  refine r_getR fX0_15 (by first | exact zlF hb | exact zlF hc) (zrF1 hc) dX0_become_9 ?_
  refine r_iconst dX0_become_12 (k := ?_)
  refine r_aload_n dX0_become_13 rfl ?_
  refine r_getR fX0_15 (by first | exact zlF hb | exact zlF hc) (zrF1 hb) dX0_become_14 ?_
  refine r_iconst dX0_become_17 (k := ?_)
  refine r_iconst dX0_become_18 (k := ?_)
  refine r_copy lX0_52 (by first | exact zaF1 hb | exact zaF2 hb | exact zaF3 hb | exact zaF4 hb | exact zaF5 hb | exact zaF6 hb | exact zaF1 hc | exact zaF2 hc | exact zaF3 hc | exact zaF4 hc | exact zaF5 hc | exact zaF6 hc) (by first | exact zaF1 hb | exact zaF2 hb | exact zaF3 hb | exact zaF4 hb | exact zaF5 hb | exact zaF6 hb | exact zaF1 hc | exact zaF2 hc | exact zaF3 hc | exact zaF4 hc | exact zaF5 hc | exact zaF6 hc) (by omega) (by omega) (by omega) (by omega) (by omega) dX0_become_19 ?_
  refine r_aload_n dX0_become_22 rfl ?_
  refine r_getR fX0_19 (by first | exact zlF hb | exact zlF hc) (zrF2 hc) dX0_become_23 ?_
  refine r_iconst dX0_become_26 (k := ?_)
  refine r_aload_n dX0_become_27 rfl ?_
  refine r_getR fX0_19 (by first | exact zlF hb | exact zlF hc) (zrF2 hb) dX0_become_28 ?_
  refine r_iconst dX0_become_31 (k := ?_)
  refine r_iconst dX0_become_32 (k := ?_)
  refine r_copy lX0_52 (by first | exact zaF1 hb | exact zaF2 hb | exact zaF3 hb | exact zaF4 hb | exact zaF5 hb | exact zaF6 hb | exact zaF1 hc | exact zaF2 hc | exact zaF3 hc | exact zaF4 hc | exact zaF5 hc | exact zaF6 hc) (by first | exact zaF1 hb | exact zaF2 hb | exact zaF3 hb | exact zaF4 hb | exact zaF5 hb | exact zaF6 hb | exact zaF1 hc | exact zaF2 hc | exact zaF3 hc | exact zaF4 hc | exact zaF5 hc | exact zaF6 hc) (by omega) (by omega) (by omega) (by omega) (by omega) dX0_become_33 ?_
  refine r_aload_n dX0_become_36 rfl ?_
  refine r_getR fX0_22 (by first | exact zlF hb | exact zlF hc) (zrF3 hc) dX0_become_37 ?_
  refine r_iconst dX0_become_40 (k := ?_)
  refine r_aload_n dX0_become_41 rfl ?_
  refine r_getR fX0_22 (by first | exact zlF hb | exact zlF hc) (zrF3 hb) dX0_become_42 ?_
  refine r_iconst dX0_become_45 (k := ?_)
  refine r_bipush dX0_become_46 (k := ?_)
  refine r_copy lX0_52 (by first | exact zaF1 hb | exact zaF2 hb | exact zaF3 hb | exact zaF4 hb | exact zaF5 hb | exact zaF6 hb | exact zaF1 hc | exact zaF2 hc | exact zaF3 hc | exact zaF4 hc | exact zaF5 hc | exact zaF6 hc) (by first | exact zaF1 hb | exact zaF2 hb | exact zaF3 hb | exact zaF4 hb | exact zaF5 hb | exact zaF6 hb | exact zaF1 hc | exact zaF2 hc | exact zaF3 hc | exact zaF4 hc | exact zaF5 hc | exact zaF6 hc) (by omega) (by omega) (by omega) (by omega) (by omega) dX0_become_48 ?_
  refine r_aload_n dX0_become_51 rfl ?_
  refine r_aload_n dX0_become_52 rfl ?_
  refine r_gI (q := 4) rfl fX0_25 (by first | exact zlF hb | exact zlF hc) (by decide) dX0_become_53 ?_
  refine r_pI (q := 4) rfl pX0_25 (by first | exact zlF hb | exact zlF hc) dX0_become_56 ?_
  refine r_aload_n dX0_become_59 rfl ?_
  refine r_getR fX0_28 (by first | exact zlF hb | exact zlF hc) (zrF5 hc) dX0_become_60 ?_
  refine r_iconst dX0_become_63 (k := ?_)
  refine r_aload_n dX0_become_64 rfl ?_
  refine r_getR fX0_28 (by first | exact zlF hb | exact zlF hc) (zrF5 hb) dX0_become_65 ?_
  refine r_iconst dX0_become_68 (k := ?_)
  refine r_bipush dX0_become_69 (k := ?_)
  refine r_copy lX0_52 (by first | exact zaF1 hb | exact zaF2 hb | exact zaF3 hb | exact zaF4 hb | exact zaF5 hb | exact zaF6 hb | exact zaF1 hc | exact zaF2 hc | exact zaF3 hc | exact zaF4 hc | exact zaF5 hc | exact zaF6 hc) (by first | exact zaF1 hb | exact zaF2 hb | exact zaF3 hb | exact zaF4 hb | exact zaF5 hb | exact zaF6 hb | exact zaF1 hc | exact zaF2 hc | exact zaF3 hc | exact zaF4 hc | exact zaF5 hc | exact zaF6 hc) (by omega) (by omega) (by omega) (by omega) (by omega) dX0_become_71 ?_
  refine r_aload_n dX0_become_74 rfl ?_
  refine r_getR fX0_31 (by first | exact zlF hb | exact zlF hc) (zrF6 hc) dX0_become_75 ?_
  refine r_iconst dX0_become_78 (k := ?_)
  refine r_aload_n dX0_become_79 rfl ?_
  refine r_getR fX0_31 (by first | exact zlF hb | exact zlF hc) (zrF6 hb) dX0_become_80 ?_
  refine r_iconst dX0_become_83 (k := ?_)
  refine r_bipush dX0_become_84 (k := ?_)
  refine r_copy lX0_52 (by first | exact zaF1 hb | exact zaF2 hb | exact zaF3 hb | exact zaF4 hb | exact zaF5 hb | exact zaF6 hb | exact zaF1 hc | exact zaF2 hc | exact zaF3 hc | exact zaF4 hc | exact zaF5 hc | exact zaF6 hc) (by first | exact zaF1 hb | exact zaF2 hb | exact zaF3 hb | exact zaF4 hb | exact zaF5 hb | exact zaF6 hb | exact zaF1 hc | exact zaF2 hc | exact zaF3 hc | exact zaF4 hc | exact zaF5 hc | exact zaF6 hc) (by omega) (by omega) (by omega) (by omega) (by omega) dX0_become_86 ?_
  refine r_aload_n dX0_become_89 rfl ?_
  refine r_getR fX0_34 (by first | exact zlF hb | exact zlF hc) (zrF7 hc) dX0_become_90 ?_
  refine r_iconst dX0_become_93 (k := ?_)
  refine r_aload_n dX0_become_94 rfl ?_
  refine r_getR fX0_34 (by first | exact zlF hb | exact zlF hc) (zrF7 hb) dX0_become_95 ?_
  refine r_iconst dX0_become_98 (k := ?_)
  refine r_bipush dX0_become_99 (k := ?_)
  refine r_copy lX0_52 (by first | exact zaF1 hb | exact zaF2 hb | exact zaF3 hb | exact zaF4 hb | exact zaF5 hb | exact zaF6 hb | exact zaF1 hc | exact zaF2 hc | exact zaF3 hc | exact zaF4 hc | exact zaF5 hc | exact zaF6 hc) (by first | exact zaF1 hb | exact zaF2 hb | exact zaF3 hb | exact zaF4 hb | exact zaF5 hb | exact zaF6 hb | exact zaF1 hc | exact zaF2 hc | exact zaF3 hc | exact zaF4 hc | exact zaF5 hc | exact zaF6 hc) (by omega) (by omega) (by omega) (by omega) (by omega) dX0_become_101 ?_
  refine r_aload_n dX0_become_104 rfl ?_
  refine r_aload_n dX0_become_105 rfl ?_
  refine r_gI (q := 8) rfl fX0_37 (by first | exact zlF hb | exact zlF hc) (by decide) dX0_become_106 ?_
  refine r_pI (q := 8) rfl pX0_37 (by first | exact zlF hb | exact zlF hc) dX0_become_109 ?_
  refine r_aload_n dX0_become_112 rfl ?_
  refine r_aload_n dX0_become_113 rfl ?_
  refine r_gI (q := 9) rfl fX0_40 (by first | exact zlF hb | exact zlF hc) (by decide) dX0_become_114 ?_
  refine r_pI (q := 9) rfl pX0_40 (by first | exact zlF hb | exact zlF hc) dX0_become_117 ?_
  refine r_aload_n dX0_become_120 rfl ?_
  refine r_aload_n dX0_become_121 rfl ?_
  refine r_gI (q := 10) rfl fX0_43 (by first | exact zlF hb | exact zlF hc) (by decide) dX0_become_122 ?_
  refine r_pI (q := 10) rfl pX0_43 (by first | exact zlF hb | exact zlF hc) dX0_become_125 ?_
  refine r_vret dX0_become_128 ?_
  refine zP0.of ?_
  funext o
  by_cases h1 : o = b + 1
  · subst h1; rw [zBec_1]; simp (disch := omega) only [zs, zr_s, zr_n]
  by_cases h2 : o = b + 2
  · subst h2; rw [zBec_2]; simp (disch := omega) only [zs, zr_s, zr_n]
  by_cases h3 : o = b + 3
  · subst h3; rw [zBec_3]; simp (disch := omega) only [zs, zr_s, zr_n]
  by_cases h4 : o = b + 4
  · subst h4; rw [zBec_4]; simp (disch := omega) only [zs, zr_s, zr_n]
  by_cases h5 : o = b + 5
  · subst h5; rw [zBec_5]; simp (disch := omega) only [zs, zr_s, zr_n]
  by_cases h6 : o = b + 6
  · subst h6; rw [zBec_6]; simp (disch := omega) only [zs, zr_s, zr_n]
  by_cases h0 : o = b
  · subst h0
    funext k
    rw [zBec_b]
    simp (disch := omega) only [zs, zr_s, zr_n]
    by_cases k0 : k = 0
    · subst k0; rw [zu_n (by decide), zu_n (by decide), zu_n (by decide), zu_n (by decide), zu_s]; rfl
    by_cases k4 : k = 4
    · subst k4; rw [zu_n (by decide), zu_n (by decide), zu_n (by decide), zu_s]; rfl
    by_cases k8 : k = 8
    · subst k8; rw [zu_n (by decide), zu_n (by decide), zu_s]; rfl
    by_cases k9 : k = 9
    · subst k9; rw [zu_n (by decide), zu_s]; rfl
    by_cases k10 : k = 10
    · subst k10; rw [zu_s]; rfl
    rw [zu_n k10, zu_n k9, zu_n k8, zu_n k4, zu_n k0, if_neg (by omega)]
  · rw [zBec_o (by omega)]
    simp (disch := omega) only [zs, zr_s, zr_n]
/-- a firth without isles, sulks, ropes, days -/
def zClr (mem : zM) (b : Nat) : zM := fun o => if o = b then (fun k => if k = 0 ∨ k = 4 ∨ k = 8 ∨ k = 9 ∨ k = 10 then 0 else mem b k) else if o = b + 3 then zfil (mem (b + 3)) 0 25 else mem o
set_option maxRecDepth 100000 in
theorem c_X0_clear (hb : isF b) : KX0_clear l G 1 [zR b] mem (zP0 (zClr mem b)) := by
  refine CT.of' (own := RX0) (ls0 := [zR b]) rfl (by decide +kernel) (Nat.le_of_ble_eq_true rfl) rfl ?_
  refine r_aload_n dX0_clear_0 rfl ?_
  refine r_iconst dX0_clear_1 (k := ?_)
  refine r_pI (q := 0) rfl pX0_9 (by exact zlF hb) dX0_clear_2 ?_
  refine r_aload_n dX0_clear_5 rfl ?_
  refine r_getR fX0_22 (by exact zlF hb) (zrF3 hb) dX0_clear_6 ?_
  refine r_iconst dX0_clear_9 (k := ?_)
  refine r_t2 (c_fill _ 25 0 (zaF3 hb) (by decide)) kX0_46 dX0_clear_10 ?_
  refine r_aload_n dX0_clear_13 rfl ?_
  refine r_iconst dX0_clear_14 (k := ?_)
  refine r_pI (q := 4) rfl pX0_25 (by exact zlF hb) dX0_clear_15 ?_
  refine r_aload_n dX0_clear_18 rfl ?_
  refine r_iconst dX0_clear_19 (k := ?_)
  refine r_pI (q := 8) rfl pX0_37 (by exact zlF hb) dX0_clear_20 ?_
  refine r_aload_n dX0_clear_23 rfl ?_
  refine r_iconst dX0_clear_24 (k := ?_)
  refine r_pI (q := 9) rfl pX0_40 (by exact zlF hb) dX0_clear_25 ?_
  refine r_aload_n dX0_clear_28 rfl ?_
  refine r_iconst dX0_clear_29 (k := ?_)
  refine r_pI (q := 10) rfl pX0_43 (by exact zlF hb) dX0_clear_30 ?_
  refine r_vret dX0_clear_33 ?_
  refine zP0.of ?_
  funext o
  unfold zClr
  by_cases h0 : o = b
  · subst h0
    rw [if_pos rfl]
    funext k
    simp (disch := omega) only [zs, zr_s, zr_n]
    by_cases k0 : k = 0
    · subst k0; rw [zu_n (by decide), zu_n (by decide), zu_n (by decide), zu_n (by decide), zu_s]; rfl
    by_cases k4 : k = 4
    · subst k4; rw [zu_n (by decide), zu_n (by decide), zu_n (by decide), zu_s]; rfl
    by_cases k8 : k = 8
    · subst k8; rw [zu_n (by decide), zu_n (by decide), zu_s]; rfl
    by_cases k9 : k = 9
    · subst k9; rw [zu_n (by decide), zu_s]; rfl
    by_cases k10 : k = 10
    · subst k10; rw [zu_s]; rfl
    rw [zu_n k10, zu_n k9, zu_n k8, zu_n k4, zu_n k0, if_neg (by omega)]
  · rw [if_neg h0]
    by_cases h3 : o = b + 3
    · subst h3; rw [if_pos rfl]; simp (disch := omega) only [zs, zr_s, zr_n]; rfl
    · rw [if_neg h3]; simp (disch := omega) only [zs, zr_s, zr_n]
set_option maxRecDepth 100000 in
theorem c_X0_addIsle (hb : isF b) (t v : Int) (hlo : 0 ≤ mem b 0) (hhi : mem b 0 < 5) : KX0_addIsle l G 0 [zR b, zI t, zI v] mem (zP0 (zs (zs (zs mem (b + 1) (mem b 0) t) (b + 2) (mem b 0) v) b 0 (mem b 0 + 1))) := by
  refine CT.of' (own := RX0) (ls0 := [zR b, zI t, zI v]) rfl (by decide +kernel) (Nat.le_of_ble_eq_true rfl) rfl ?_
  refine r_aload_n dX0_addIsle_0 rfl ?_
  refine r_gI (q := 0) rfl fX0_9 (by exact zlF hb) (by decide) dX0_addIsle_1 ?_
  try simp (disch := omega) only [zs_n, zs_s]
  refine r_iconst dX0_addIsle_4 (k := ?_)
  refine r_icmp_ge (tgt := 38) dX0_addIsle_5 (by decide) (fun h5 => ?_) (fun h5 => ?_)
  · refine r_vret dX0_addIsle_38 ?_
    first | exact absurd hhi (by omega) | exact zP0.of rfl
  · refine r_aload_n dX0_addIsle_8 rfl ?_
    refine r_getR fX0_15 (by exact zlF hb) (zrF1 hb) dX0_addIsle_9 ?_
    try simp (disch := omega) only [zs_n, zs_s]
    refine r_aload_n dX0_addIsle_12 rfl ?_
    refine r_gI (q := 0) rfl fX0_9 (by exact zlF hb) (by decide) dX0_addIsle_13 ?_
    try simp (disch := omega) only [zs_n, zs_s]
    refine r_iload_n dX0_addIsle_16 rfl ?_
    refine r_iast (by first | exact zaF1 hb | exact zaF2 hb | exact zaF3 hb | exact zaF4 hb | exact zaF5 hb | exact zaF6 hb) (by omega) (by omega) dX0_addIsle_17 ?_
    refine r_aload_n dX0_addIsle_18 rfl ?_
    refine r_getR fX0_19 (by exact zlF hb) (zrF2 hb) dX0_addIsle_19 ?_
    try simp (disch := omega) only [zs_n, zs_s]
    refine r_aload_n dX0_addIsle_22 rfl ?_
    refine r_gI (q := 0) rfl fX0_9 (by exact zlF hb) (by decide) dX0_addIsle_23 ?_
    try simp (disch := omega) only [zs_n, zs_s]
    refine r_iload_n dX0_addIsle_26 rfl ?_
    refine r_iast (by first | exact zaF1 hb | exact zaF2 hb | exact zaF3 hb | exact zaF4 hb | exact zaF5 hb | exact zaF6 hb) (by omega) (by omega) dX0_addIsle_27 ?_
    refine r_aload_n dX0_addIsle_28 rfl ?_
    refine r_dup dX0_addIsle_29 rfl ?_
    refine r_gI (q := 0) rfl fX0_9 (by exact zlF hb) (by decide) dX0_addIsle_30 ?_
    try simp (disch := omega) only [zs_n, zs_s]
    refine r_iconst dX0_addIsle_33 (k := ?_)
    refine r_iadd dX0_addIsle_34 ?_
    try rw [zw_id (by omega) (by omega)]
    refine r_pI (q := 0) rfl pX0_9 (by exact zlF hb) dX0_addIsle_35 ?_
    refine r_vret dX0_addIsle_38 ?_
    first | exact absurd hhi (by omega) | exact zP0.of rfl
set_option maxRecDepth 100000 in
theorem c_X0_addRope (hb : isF b) (i j v : Int) (hlo : 0 ≤ mem b 4) (hhi : mem b 4 < 6) : KX0_addRope l G 0 [zR b, zI i, zI j, zI v] mem (zP0 (zs (zs (zs (zs mem (b + 4) (mem b 4) i) (b + 5) (mem b 4) j) (b + 6) (mem b 4) v) b 4 (mem b 4 + 1))) := by
  refine CT.of' (own := RX0) (ls0 := [zR b, zI i, zI j, zI v]) rfl (by decide +kernel) (Nat.le_of_ble_eq_true rfl) rfl ?_
  refine r_aload_n dX0_addRope_0 rfl ?_
  refine r_gI (q := 4) rfl fX0_25 (by exact zlF hb) (by decide) dX0_addRope_1 ?_
  try simp (disch := omega) only [zs_n, zs_s]
  refine r_bipush dX0_addRope_4 (k := ?_)
  refine r_icmp_ge (tgt := 49) dX0_addRope_6 (by decide) (fun h6 => ?_) (fun h6 => ?_)
  · refine r_vret dX0_addRope_49 ?_
    first | exact absurd hhi (by omega) | exact zP0.of rfl
  · refine r_aload_n dX0_addRope_9 rfl ?_
    refine r_getR fX0_28 (by exact zlF hb) (zrF5 hb) dX0_addRope_10 ?_
    try simp (disch := omega) only [zs_n, zs_s]
    refine r_aload_n dX0_addRope_13 rfl ?_
    refine r_gI (q := 4) rfl fX0_25 (by exact zlF hb) (by decide) dX0_addRope_14 ?_
    try simp (disch := omega) only [zs_n, zs_s]
    refine r_iload_n dX0_addRope_17 rfl ?_
    refine r_iast (by first | exact zaF1 hb | exact zaF2 hb | exact zaF3 hb | exact zaF4 hb | exact zaF5 hb | exact zaF6 hb) (by omega) (by omega) dX0_addRope_18 ?_
    refine r_aload_n dX0_addRope_19 rfl ?_
    refine r_getR fX0_31 (by exact zlF hb) (zrF6 hb) dX0_addRope_20 ?_
    try simp (disch := omega) only [zs_n, zs_s]
    refine r_aload_n dX0_addRope_23 rfl ?_
    refine r_gI (q := 4) rfl fX0_25 (by exact zlF hb) (by decide) dX0_addRope_24 ?_
    try simp (disch := omega) only [zs_n, zs_s]
    refine r_iload_n dX0_addRope_27 rfl ?_
    refine r_iast (by first | exact zaF1 hb | exact zaF2 hb | exact zaF3 hb | exact zaF4 hb | exact zaF5 hb | exact zaF6 hb) (by omega) (by omega) dX0_addRope_28 ?_
    refine r_aload_n dX0_addRope_29 rfl ?_
    refine r_getR fX0_34 (by exact zlF hb) (zrF7 hb) dX0_addRope_30 ?_
    try simp (disch := omega) only [zs_n, zs_s]
    refine r_aload_n dX0_addRope_33 rfl ?_
    refine r_gI (q := 4) rfl fX0_25 (by exact zlF hb) (by decide) dX0_addRope_34 ?_
    try simp (disch := omega) only [zs_n, zs_s]
    refine r_iload_n dX0_addRope_37 rfl ?_
    refine r_iast (by first | exact zaF1 hb | exact zaF2 hb | exact zaF3 hb | exact zaF4 hb | exact zaF5 hb | exact zaF6 hb) (by omega) (by omega) dX0_addRope_38 ?_
    refine r_aload_n dX0_addRope_39 rfl ?_
    refine r_dup dX0_addRope_40 rfl ?_
    refine r_gI (q := 4) rfl fX0_25 (by exact zlF hb) (by decide) dX0_addRope_41 ?_
    try simp (disch := omega) only [zs_n, zs_s]
    refine r_iconst dX0_addRope_44 (k := ?_)
    refine r_iadd dX0_addRope_45 ?_
    try rw [zw_id (by omega) (by omega)]
    refine r_pI (q := 4) rfl pX0_25 (by exact zlF hb) dX0_addRope_46 ?_
    refine r_vret dX0_addRope_49 ?_
    first | exact absurd hhi (by omega) | exact zP0.of rfl
def zsh (f : Int → Int) (g k : Int) : Int → Int := fun j => if g ≤ j ∧ j < k then f (j + 1) else f j
def zDrM (mem : zM) (b : Nat) (g k : Int) : zM := zr (zr (zr mem (b + 4) (zsh (mem (b + 4)) g k)) (b + 5) (zsh (mem (b + 5)) g k)) (b + 6) (zsh (mem (b + 6)) g k)
theorem zDrM_4 {mem : zM} {b : Nat} {g k : Int} : zDrM mem b g k (b + 4) = zsh (mem (b + 4)) g k := by unfold zDrM; simp (disch := omega) only [zr_s, zr_n]
theorem zDrM_5 {mem : zM} {b : Nat} {g k : Int} : zDrM mem b g k (b + 5) = zsh (mem (b + 5)) g k := by unfold zDrM; simp (disch := omega) only [zr_s, zr_n]
theorem zDrM_6 {mem : zM} {b : Nat} {g k : Int} : zDrM mem b g k (b + 6) = zsh (mem (b + 6)) g k := by unfold zDrM; simp (disch := omega) only [zr_s, zr_n]
theorem zDrM_o {mem : zM} {b o : Nat} {g k : Int} (h4 : o ≠ b + 4) (h5 : o ≠ b + 5) (h6 : o ≠ b + 6) : zDrM mem b g k o = mem o := by unfold zDrM; simp (disch := omega) only [zr_s, zr_n]
theorem zDrM_b {mem : zM} {b : Nat} {g k : Int} : zDrM mem b g k b = mem b := zDrM_o (by omega) (by omega) (by omega)
theorem zsh_s {f : Int → Int} {g k : Int} (h : g ≤ k) : zu (zsh f g k) k (zsh f g k (k + 1)) = zsh f g (k + 1) := by
  funext j
  unfold zu zsh
  rw [if_neg (show ¬ (g ≤ k + 1 ∧ k + 1 < k) by omega)]
  by_cases hj : j = k
  · rw [if_pos hj, if_pos (by omega), hj]
  · rw [if_neg hj]
    by_cases h2 : g ≤ j ∧ j < k
    · rw [if_pos h2, if_pos (by omega)]
    · rw [if_neg h2, if_neg (by omega)]
theorem zsh_0 {f : Int → Int} {g : Int} : zsh f g g = f := by
  funext j
  unfold zsh
  rw [if_neg (by omega)]
theorem zDrM_0 {mem : zM} {b : Nat} {g : Int} : zDrM mem b g g = mem := by
  funext o
  by_cases h4 : o = b + 4
  · subst h4; rw [zDrM_4, zsh_0]
  by_cases h5 : o = b + 5
  · subst h5; rw [zDrM_5, zsh_0]
  by_cases h6 : o = b + 6
  · subst h6; rw [zDrM_6, zsh_0]
  exact zDrM_o h4 h5 h6
theorem zDrM_s {mem : zM} {b : Nat} {g k : Int} (h : g ≤ k) : zs (zs (zs (zDrM mem b g k) (b + 4) k (zsh (mem (b + 4)) g k (k + 1))) (b + 5) k (zsh (mem (b + 5)) g k (k + 1))) (b + 6) k (zsh (mem (b + 6)) g k (k + 1)) = zDrM mem b g (k + 1) := by
  funext o
  by_cases h4 : o = b + 4
  · subst h4; simp (disch := omega) only [zs, zr_s, zr_n, zDrM_4]; exact zsh_s h
  by_cases h5 : o = b + 5
  · subst h5; simp (disch := omega) only [zs, zr_s, zr_n, zDrM_5]; exact zsh_s h
  by_cases h6 : o = b + 6
  · subst h6; simp (disch := omega) only [zs, zr_s, zr_n, zDrM_6]; exact zsh_s h
  rw [zDrM_o h4 h5 h6]
  simp (disch := omega) only [zs, zr_s, zr_n]
  exact zDrM_o h4 h5 h6
set_option maxRecDepth 100000 in
set_option maxHeartbeats 1000000 in
theorem c_X0_dropRope (hb : isF b) (g : Int) (hlo : 0 ≤ g) (hhi : g < mem b 4) (hr6 : mem b 4 ≤ 6) : KX0_dropRope l G 0 [zR b, zI g] mem (zP0 (zs (zDrM mem b g (mem b 4 - 1)) b 4 (mem b 4 - 1))) := by
  refine CT.of' (own := RX0) (ls0 := [zR b, zI g, zU]) rfl (by decide +kernel) (Nat.le_of_ble_eq_true rfl) rfl ?_
  have loop : ∀ (k : Nat) (x : Int), g ≤ x → x + 1 + k = mem b 4 → SW l G (zrm 0) RX0 cX0_dropRope 3 none (zZ G (zP0 (zs (zDrM mem b g (mem b 4 - 1)) b 4 (mem b 4 - 1)))) 0 0 (fun _ => True) 2 [zR b, zI g, zI x] [] (zDrM mem b g x) := by
    intro k
    induction k with
    | zero =>
      intro x h0 h1
      refine r_iload_n dX0_dropRope_2 rfl ?_
      refine r_iconst dX0_dropRope_3 (k := ?_)
      refine r_iadd dX0_dropRope_4 ?_
      try rw [zw_id (by omega) (by omega)]
      refine r_aload_n dX0_dropRope_5 rfl ?_
      refine r_gI (q := 4) rfl fX0_25 (by exact zlF hb) (by decide) dX0_dropRope_6 ?_
      try simp (disch := omega) only [zs_n, zs_s, zDrM_b, zDrM_4, zDrM_5, zDrM_6]
      refine r_icmp_ge (tgt := 60) dX0_dropRope_9 (by decide) (fun h9 => ?_) (fun h9 => ?_)
      · refine r_aload_n dX0_dropRope_60 rfl ?_
        refine r_dup dX0_dropRope_61 rfl ?_
        refine r_gI (q := 4) rfl fX0_25 (by exact zlF hb) (by decide) dX0_dropRope_62 ?_
        try simp (disch := omega) only [zs_n, zs_s, zDrM_b, zDrM_4, zDrM_5, zDrM_6]
        refine r_iconst dX0_dropRope_65 (k := ?_)
        refine r_isub dX0_dropRope_66 ?_
        try rw [zw_id (by omega) (by omega)]
        refine r_pI (q := 4) rfl pX0_25 (by exact zlF hb) dX0_dropRope_67 ?_
        refine r_vret dX0_dropRope_70 ?_
        refine zP0.of ?_
        rw [show x = mem b 4 - 1 by omega]
      · exact absurd (by omega) h9
    | succ k ih =>
      intro x h0 h1
      refine r_iload_n dX0_dropRope_2 rfl ?_
      refine r_iconst dX0_dropRope_3 (k := ?_)
      refine r_iadd dX0_dropRope_4 ?_
      try rw [zw_id (by omega) (by omega)]
      refine r_aload_n dX0_dropRope_5 rfl ?_
      refine r_gI (q := 4) rfl fX0_25 (by exact zlF hb) (by decide) dX0_dropRope_6 ?_
      try simp (disch := omega) only [zs_n, zs_s, zDrM_b, zDrM_4, zDrM_5, zDrM_6]
      refine r_icmp_ge (tgt := 60) dX0_dropRope_9 (by decide) (fun h9 => ?_) (fun h9 => ?_)
      · exact absurd h9 (by omega)
      · refine r_aload_n dX0_dropRope_12 rfl ?_
        refine r_getR fX0_28 (by exact zlF hb) (zrF5 hb) dX0_dropRope_13 ?_
        try simp (disch := omega) only [zs_n, zs_s, zDrM_b, zDrM_4, zDrM_5, zDrM_6]
        refine r_iload_n dX0_dropRope_16 rfl ?_
        refine r_aload_n dX0_dropRope_17 rfl ?_
        refine r_getR fX0_28 (by exact zlF hb) (zrF5 hb) dX0_dropRope_18 ?_
        try simp (disch := omega) only [zs_n, zs_s, zDrM_b, zDrM_4, zDrM_5, zDrM_6]
        refine r_iload_n dX0_dropRope_21 rfl ?_
        refine r_iconst dX0_dropRope_22 (k := ?_)
        refine r_iadd dX0_dropRope_23 ?_
        try rw [zw_id (by omega) (by omega)]
        refine r_iald (by first | exact zaF1 hb | exact zaF2 hb | exact zaF3 hb | exact zaF4 hb | exact zaF5 hb | exact zaF6 hb) (by omega) (by omega) dX0_dropRope_24 ?_
        try simp (disch := omega) only [zs_n, zs_s, zDrM_b, zDrM_4, zDrM_5, zDrM_6]
        refine r_iast (by first | exact zaF1 hb | exact zaF2 hb | exact zaF3 hb | exact zaF4 hb | exact zaF5 hb | exact zaF6 hb) (by omega) (by omega) dX0_dropRope_25 ?_
        refine r_aload_n dX0_dropRope_26 rfl ?_
        refine r_getR fX0_31 (by exact zlF hb) (zrF6 hb) dX0_dropRope_27 ?_
        try simp (disch := omega) only [zs_n, zs_s, zDrM_b, zDrM_4, zDrM_5, zDrM_6]
        refine r_iload_n dX0_dropRope_30 rfl ?_
        refine r_aload_n dX0_dropRope_31 rfl ?_
        refine r_getR fX0_31 (by exact zlF hb) (zrF6 hb) dX0_dropRope_32 ?_
        try simp (disch := omega) only [zs_n, zs_s, zDrM_b, zDrM_4, zDrM_5, zDrM_6]
        refine r_iload_n dX0_dropRope_35 rfl ?_
        refine r_iconst dX0_dropRope_36 (k := ?_)
        refine r_iadd dX0_dropRope_37 ?_
        try rw [zw_id (by omega) (by omega)]
        refine r_iald (by first | exact zaF1 hb | exact zaF2 hb | exact zaF3 hb | exact zaF4 hb | exact zaF5 hb | exact zaF6 hb) (by omega) (by omega) dX0_dropRope_38 ?_
        try simp (disch := omega) only [zs_n, zs_s, zDrM_b, zDrM_4, zDrM_5, zDrM_6]
        refine r_iast (by first | exact zaF1 hb | exact zaF2 hb | exact zaF3 hb | exact zaF4 hb | exact zaF5 hb | exact zaF6 hb) (by omega) (by omega) dX0_dropRope_39 ?_
        refine r_aload_n dX0_dropRope_40 rfl ?_
        refine r_getR fX0_34 (by exact zlF hb) (zrF7 hb) dX0_dropRope_41 ?_
        try simp (disch := omega) only [zs_n, zs_s, zDrM_b, zDrM_4, zDrM_5, zDrM_6]
        refine r_iload_n dX0_dropRope_44 rfl ?_
        refine r_aload_n dX0_dropRope_45 rfl ?_
        refine r_getR fX0_34 (by exact zlF hb) (zrF7 hb) dX0_dropRope_46 ?_
        try simp (disch := omega) only [zs_n, zs_s, zDrM_b, zDrM_4, zDrM_5, zDrM_6]
        refine r_iload_n dX0_dropRope_49 rfl ?_
        refine r_iconst dX0_dropRope_50 (k := ?_)
        refine r_iadd dX0_dropRope_51 ?_
        try rw [zw_id (by omega) (by omega)]
        refine r_iald (by first | exact zaF1 hb | exact zaF2 hb | exact zaF3 hb | exact zaF4 hb | exact zaF5 hb | exact zaF6 hb) (by omega) (by omega) dX0_dropRope_52 ?_
        try simp (disch := omega) only [zs_n, zs_s, zDrM_b, zDrM_4, zDrM_5, zDrM_6]
        refine r_iast (by first | exact zaF1 hb | exact zaF2 hb | exact zaF3 hb | exact zaF4 hb | exact zaF5 hb | exact zaF6 hb) (by omega) (by omega) dX0_dropRope_53 ?_
        refine r_iinc dX0_dropRope_54 rfl rfl ?_
        try rw [zw_id (by omega) (by omega)]
        refine r_goto (tgt := 2) dX0_dropRope_57 (by decide) ?_
        have fin := ih (x + 1) (by omega) (by omega)
        rw [← zDrM_s h0] at fin
        exact fin
  refine r_iload_n dX0_dropRope_0 rfl ?_
  refine r_istore_n dX0_dropRope_1 rfl ?_
  have fin := loop (mem b 4 - 1 - g).toNat g (by omega) (by omega)
  rw [zDrM_0] at fin
  exact fin
end
