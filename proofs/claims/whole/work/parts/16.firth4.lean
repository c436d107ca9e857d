/-! ===== Firth: days, and what is written ===== -/
/-- a world in which one firth's places, bumps and day are others -/
def zFy (mem : zM) (b : Nat) (s : (Int → Int) × Int × Int) : zM := zs (zFw mem b s.1 s.2.1) b 9 s.2.2
theorem zFy_2 {mem : zM} {b : Nat} {s : (Int → Int) × Int × Int} : zFy mem b s (b + 2) = s.1 := by
  unfold zFy zs
  rw [zr_n (by omega), zFw_2]
theorem zFy_o {mem : zM} {b o : Nat} {s : (Int → Int) × Int × Int} (h1 : o ≠ b) (h2 : o ≠ b + 2) : zFy mem b s o = mem o := by
  unfold zFy zs
  rw [zr_n h1, zFw_o h1 h2]
theorem zFy_b {mem : zM} {b : Nat} {s : (Int → Int) × Int × Int} {k : Int} (h : k ≠ 10) (h2 : k ≠ 9) : zFy mem b s b k = mem b k := by
  unfold zFy zs
  rw [zr_s, zu_n h2, zFw_b h]
theorem zFy_10 {mem : zM} {b : Nat} {s : (Int → Int) × Int × Int} : zFy mem b s b 10 = s.2.1 := by
  unfold zFy zs
  rw [zr_s, zu_n (by decide), zFw_10]
theorem zFy_9 {mem : zM} {b : Nat} {s : (Int → Int) × Int × Int} : zFy mem b s b 9 = s.2.2 := by
  unfold zFy zs
  rw [zr_s, zu_s]
theorem zFy_b0 {mem : zM} {b : Nat} {s : (Int → Int) × Int × Int} : zFy mem b s b 0 = mem b 0 := zFy_b (by decide) (by decide)
theorem zFy_b4 {mem : zM} {b : Nat} {s : (Int → Int) × Int × Int} : zFy mem b s b 4 = mem b 4 := zFy_b (by decide) (by decide)
theorem zFy_b8 {mem : zM} {b : Nat} {s : (Int → Int) × Int × Int} : zFy mem b s b 8 = mem b 8 := zFy_b (by decide) (by decide)
theorem zFy_1 {mem : zM} {b : Nat} {s : (Int → Int) × Int × Int} : zFy mem b s (b + 1) = mem (b + 1) := zFy_o (by omega) (by omega)
theorem zFy_3 {mem : zM} {b : Nat} {s : (Int → Int) × Int × Int} : zFy mem b s (b + 3) = mem (b + 3) := zFy_o (by omega) (by omega)
theorem zFy_4 {mem : zM} {b : Nat} {s : (Int → Int) × Int × Int} : zFy mem b s (b + 4) = mem (b + 4) := zFy_o (by omega) (by omega)
theorem zFy_5 {mem : zM} {b : Nat} {s : (Int → Int) × Int × Int} : zFy mem b s (b + 5) = mem (b + 5) := zFy_o (by omega) (by omega)
theorem zFy_6 {mem : zM} {b : Nat} {s : (Int → Int) × Int × Int} : zFy mem b s (b + 6) = mem (b + 6) := zFy_o (by omega) (by omega)
theorem zFy_ext {mem m2 : zM} {b : Nat} {s : (Int → Int) × Int × Int} (h1 : ∀ o, o ≠ b → o ≠ b + 2 → m2 o = mem o) (h2 : m2 (b + 2) = s.1) (h3 : ∀ k, k ≠ 10 → k ≠ 9 → m2 b k = mem b k) (h4 : m2 b 10 = s.2.1) (h5 : m2 b 9 = s.2.2) : m2 = zFy mem b s := by
  funext o
  by_cases h : o = b
  · subst h
    funext k
    by_cases hk : k = 10
    · subst hk; rw [h4, zFy_10]
    · by_cases hk9 : k = 9
      · subst hk9; rw [h5, zFy_9]
      · rw [h3 k hk hk9, zFy_b hk hk9]
  · by_cases h8 : o = b + 2
    · subst h8; rw [h2, zFy_2]
    · rw [h1 o h h8, zFy_o h h8]
theorem zFy_self {mem : zM} {b : Nat} : zFy mem b (mem (b + 2), mem b 10, mem b 9) = mem := (zFy_ext (fun _ _ _ => rfl) rfl (fun _ _ _ => rfl) rfl rfl).symm
theorem zFy_y {mem : zM} {b : Nat} {s t : (Int → Int) × Int × Int} : zFy (zFy mem b s) b t = zFy mem b t := zFy_ext (fun o h1 h2 => by rw [zFy_o h1 h2, zFy_o h1 h2]) zFy_2 (fun k h1 h2 => by rw [zFy_b h1 h2, zFy_b h1 h2]) zFy_10 zFy_9
theorem zFI.y {mem : zM} {b : Nat} {s : (Int → Int) × Int × Int} (h : zFI mem b) (hp : sPB (mem b 0) s.1) : zFI (zFy mem b s) b := by
  obtain ⟨h1, h2, h3, h4, h5, h6, h7⟩ := h
  unfold zFI
  rw [zFy_b0, zFy_b4, zFy_2, zFy_3, zFy_4, zFy_5, zFy_6]
  exact ⟨h1, h2, h3, h4, hp, h6, h7⟩
theorem sDays_bd {n r hol : Int} {t g e1 e2 ln : Int → Int} {k : Nat} {s : (Int → Int) × Int × Int} (hn : 0 ≤ n) (h : sPB n s.1) : sPB n (sDays n t g r e1 e2 ln hol k s).1 :=
  zfor_ind (f := fun _ s => sDay n t g r e1 e2 ln hol s) (P := fun _ s => sPB n s.1) k 0 s h (fun j a h1 h2 h3 => sDay_bd hn h3)
section
variable {l : Launch} {G : zG} {mem : zM} {b : Nat}
theorem c_X0_passDay' (hb : isF b) (hI : zFI mem b) : KX0_passDay l G 3 [zR b] mem (zP0 (zFy mem b (sDay (mem b 0) (mem (b + 1)) (mem (b + 3)) (mem b 4) (mem (b + 4)) (mem (b + 5)) (mem (b + 6)) (mem b 8) (mem (b + 2), mem b 10, mem b 9)))) := c_X0_passDay hb hI
set_option maxRecDepth 100000 in
theorem c_X0_passDays (hb : isF b) (hI : zFI mem b) (n : Int) (h0 : 0 ≤ n) (h9 : n ≤ 1000) : KX0_passDays l G 4 [zR b, zI n] mem (zP0 (zFy mem b (sDays (mem b 0) (mem (b + 1)) (mem (b + 3)) (mem b 4) (mem (b + 4)) (mem (b + 5)) (mem (b + 6)) (mem b 8) n.toNat (mem (b + 2), mem b 10, mem b 9)))) := by
  obtain ⟨hn0, hn5, hr0, hr6, hp, hg, hr⟩ := id hI
  refine CT.of' (own := RX0) (ls0 := [zR b, zI n, zU]) rfl (by decide +kernel) (Nat.le_of_ble_eq_true rfl) rfl ?_
  generalize hS : sDays (mem b 0) (mem (b + 1)) (mem (b + 3)) (mem b 4) (mem (b + 4)) (mem (b + 5)) (mem (b + 6)) (mem b 8) n.toNat (mem (b + 2), mem b 10, mem b 9) = S
  have loop : ∀ (k : Nat) (x : Int) (s : (Int → Int) × Int × Int), 0 ≤ x → x + k = n → sPB (mem b 0) s.1 → zfor (fun _ s => sDay (mem b 0) (mem (b + 1)) (mem (b + 3)) (mem b 4) (mem (b + 4)) (mem (b + 5)) (mem (b + 6)) (mem b 8) s) x k s = S → SW l G (zrm 4) RX0 cX0_passDays 3 none (zZ G (zP0 (zFy mem b S))) 0 0 (fun _ => True) 2 [zR b, zI n, zI x] [] (zFy mem b s) := by
    intro k
    induction k with
    | zero =>
      intro x s h1 h2 hpb he
      refine r_iload_n dX0_passDays_2 rfl ?_
      refine r_iload_n dX0_passDays_3 rfl ?_
      refine r_icmp_ge (tgt := 17) dX0_passDays_4 (by decide) (fun h4 => ?_) (fun h4 => ?_)
      · refine r_vret dX0_passDays_17 ?_
        exact zP0.of (by rw [← he]; rfl)
      · exact absurd (by omega) h4
    | succ k ih =>
      intro x s h1 h2 hpb he
      rw [zfor] at he
      refine r_iload_n dX0_passDays_2 rfl ?_
      refine r_iload_n dX0_passDays_3 rfl ?_
      refine r_icmp_ge (tgt := 17) dX0_passDays_4 (by decide) (fun h4 => ?_) (fun h4 => ?_)
      · exact absurd h4 (by omega)
      · refine r_aload_n dX0_passDays_7 rfl ?_
        refine r_w0 (c_X0_passDay' hb (hI.y hpb)) kX0_86 (by exact zlF hb) dX0_passDays_8 ?_
        try simp only [zFy_2, zFy_b0, zFy_b4, zFy_b8, zFy_1, zFy_3, zFy_4, zFy_5, zFy_6, zFy_10, zFy_9, zFy_y]
        refine r_iinc dX0_passDays_11 rfl rfl ?_
        try rw [zw_id (by omega) (by omega)]
        refine r_goto (tgt := 2) dX0_passDays_14 (by decide) ?_
        exact ih _ _ (by omega) (by omega) (sDay_bd hn0 hpb) he
  refine r_iconst dX0_passDays_0 (k := ?_)
  refine r_istore_n dX0_passDays_1 rfl ?_
  have fin := loop n.toNat 0 (mem (b + 2), mem b 10, mem b 9) (by omega) (by omega) hp hS
  rw [zFy_self] at fin
  exact fin
set_option maxRecDepth 100000 in
theorem c_X0_spreadBehind (hb : isF b) (hI : zFI mem b) (n : Int) (h0 : 0 ≤ n) (h9 : n ≤ 1000) : KX0_spreadBehind l G 5 [zR b, zI n] mem (zP1 (zI (sSpread (mem b 0) (sDays (mem b 0) (mem (b + 1)) (mem (b + 3)) (mem b 4) (mem (b + 4)) (mem (b + 5)) (mem (b + 6)) (mem b 8) n.toNat (mem (b + 2), mem b 10, mem b 9)).1)) (zFy mem b (sDays (mem b 0) (mem (b + 1)) (mem (b + 3)) (mem b 4) (mem (b + 4)) (mem (b + 5)) (mem (b + 6)) (mem b 8) n.toNat (mem (b + 2), mem b 10, mem b 9)))) := by
  obtain ⟨hn0, hn5, hr0, hr6, hp, hg, hr⟩ := id hI
  have hpb := sDays_bd (t := mem (b + 1)) (g := mem (b + 3)) (r := mem b 4) (e1 := mem (b + 4)) (e2 := mem (b + 5)) (ln := mem (b + 6)) (hol := mem b 8) (k := n.toNat) (s := (mem (b + 2), mem b 10, mem b 9)) hn0 hp
  refine CT.of' (own := RX0) (ls0 := [zR b, zI n]) rfl (by decide +kernel) (Nat.le_of_ble_eq_true rfl) rfl ?_
  refine r_aload_n dX0_spreadBehind_0 rfl ?_
  refine r_iload_n dX0_spreadBehind_1 rfl ?_
  refine r_w1 (c_X0_passDays hb hI n h0 h9) kX0_89 (by exact zlF hb) dX0_spreadBehind_2 ?_
  try simp only [zFy_2, zFy_b0]
  refine r_aload_n dX0_spreadBehind_5 rfl ?_
  refine r_v0 (c_X0_spread hb (hI.y hpb)) kX0_92 (by exact zlF hb) dX0_spreadBehind_6 ?_
  try simp only [zFy_2, zFy_b0]
  refine r_iret dX0_spreadBehind_9 ?_
  exact zP1.i
set_option maxRecDepth 100000 in
theorem c_X0_bumpsIn (hb : isF b) (hI : zFI mem b) (n : Int) (h0 : 0 ≤ n) (h9 : n ≤ 1000) : KX0_bumpsIn l G 5 [zR b, zI n] mem (zP1 (zI (zw ((sDays (mem b 0) (mem (b + 1)) (mem (b + 3)) (mem b 4) (mem (b + 4)) (mem (b + 5)) (mem (b + 6)) (mem b 8) n.toNat (mem (b + 2), mem b 10, mem b 9)).2.1 - mem b 10))) (zFy mem b (sDays (mem b 0) (mem (b + 1)) (mem (b + 3)) (mem b 4) (mem (b + 4)) (mem (b + 5)) (mem (b + 6)) (mem b 8) n.toNat (mem (b + 2), mem b 10, mem b 9)))) := by
  refine CT.of' (own := RX0) (ls0 := [zR b, zI n, zU]) rfl (by decide +kernel) (Nat.le_of_ble_eq_true rfl) rfl ?_
  refine r_aload_n dX0_bumpsIn_0 rfl ?_
  refine r_gI (q := 10) rfl fX0_43 (by exact zlF hb) (by decide) dX0_bumpsIn_1 ?_
  try simp only [zFy_10]
  refine r_istore_n dX0_bumpsIn_4 rfl ?_
  refine r_aload_n dX0_bumpsIn_5 rfl ?_
  refine r_iload_n dX0_bumpsIn_6 rfl ?_
  refine r_w1 (c_X0_passDays hb hI n h0 h9) kX0_89 (by exact zlF hb) dX0_bumpsIn_7 ?_
  try simp only [zFy_10]
  refine r_aload_n dX0_bumpsIn_10 rfl ?_
  refine r_gI (q := 10) rfl fX0_43 (by exact zlF hb) (by decide) dX0_bumpsIn_11 ?_
  try simp only [zFy_10]
  refine r_iload_n dX0_bumpsIn_14 rfl ?_
  refine r_isub dX0_bumpsIn_15 ?_
  refine r_iret dX0_bumpsIn_16 ?_
  exact zP1.i
/-- a firth as another is -/
def zBec (mem : zM) (b c : Nat) : zM := fun o => if o = b then (fun k => if k = 0 ∨ k = 4 ∨ k = 8 ∨ k = 9 ∨ k = 10 then mem c k else mem b k) else if o = b + 1 then zcp (mem (c + 1)) (mem (b + 1)) 0 0 5 else if o = b + 2 then zcp (mem (c + 2)) (mem (b + 2)) 0 0 5 else if o = b + 3 then zcp (mem (c + 3)) (mem (b + 3)) 0 0 25 else if o = b + 4 then zcp (mem (c + 4)) (mem (b + 4)) 0 0 6 else if o = b + 5 then zcp (mem (c + 5)) (mem (b + 5)) 0 0 6 else if o = b + 6 then zcp (mem (c + 6)) (mem (b + 6)) 0 0 6 else mem o
theorem lX0_52 : Cond.methodLink RX0 52 arraycopyName ∈ ztb := (ztb_at 464 (by decide +kernel) (by decide +kernel))
theorem lX4_25 : Cond.methodLink RX4 25 arraycopyName ∈ ztb := (ztb_at 742 (by decide +kernel) (by decide +kernel))
theorem lX5_269 : Cond.methodLink RX5 269 arraycopyName ∈ ztb := (ztb_at 667 (by decide +kernel) (by decide +kernel))
set_option maxRecDepth 100000 in
set_option maxHeartbeats 1000000 in
theorem c_X0_become {c : Nat} (hb : isF b) (hc : isF c) (hbc : b ≠ c) : KX0_become l G 1 [zR b, zR c] mem (zP0 (zBec mem b c)) := by
  have hb' := hb
  have hc' := hc
  unfold isF at hb' hc'
  refine CT.of' (own := RX0) (ls0 := [zR b, zR c]) rfl (by decide +kernel) (Nat.le_of_ble_eq_true rfl) rfl ?_
  refine r_aload_n dX0_become_0 rfl ?_
  refine r_aload_n dX0_become_1 rfl ?_
  refine r_gI (q := 0) rfl fX0_9 (by first | exact zlF hb | exact zlF hc) (by decide) dX0_become_2 ?_
  refine r_pI (q := 0) rfl pX0_9 (by first | exact zlF hb | exact zlF hc) dX0_become_5 ?_
  refine r_aload_n dX0_become_8 rfl ?_
  refine r_getR fX0_15 (by first | exact zlF hb | exact zlF hc) (zrF1 hc) dX0_become_9 ?_
  refine r_iconst dX0_become_12 (k := ?_)
  refine r_aload_n dX0_become_13 rfl ?_
  refine r_getR fX0_15 (by first | exact zlF hb | exact zlF hc) (zrF1 hb) dX0_become_14 ?_
  refine r_iconst dX0_become_17 (k := ?_)
  refine r_iconst dX0_become_18 (k := ?_)
  refine r_copy lX0_52 (by first | exact zaF1 hb | exact zaF2 hb | exact zaF3 hb | exact zaF4 hb | exact zaF5 hb | exact zaF6 hb | exact zaF1 hc | exact zaF2 hc | exact zaF3 hc | exact zaF4 hc | exact zaF5 hc | exact zaF6 hc) (by first | exact zaF1 hb | exact zaF2 hb | exact zaF3 hb | exact zaF4 hb | exact zaF5 hb | exact zaF6 hb | exact zaF1 hc | exact zaF2 hc | exact zaF3 hc | exact zaF4 hc | exact zaF5 hc | exact zaF6 hc) (by omega) (by omega) (by omega) (by omega) (by omega) dX0_become_19 ?_
  refine r_aload_n dX0_become_22 rfl ?_
  refine r_getR fX0_19 (by first | exact zlF hb | exact zlF hc) (zrF2 hc) dX0_become_23 ?_
  refine r_iconst dX0_become_26 (k := ?_)
  refine r_aload_n dX0_become_27 rfl ?_
  refine r_getR fX0_19 (by first | exact zlF hb | exact zlF hc) (zrF2 hb) dX0_become_28 ?_
  refine r_iconst dX0_become_31 (k := ?_)
  refine r_iconst dX0_become_32 (k := ?_)
  refine r_copy lX0_52 (by first | exact zaF1 hb | exact zaF2 hb | exact zaF3 hb | exact zaF4 hb | exact zaF5 hb | exact zaF6 hb | exact zaF1 hc | exact zaF2 hc | exact zaF3 hc | exact zaF4 hc | exact zaF5 hc | exact zaF6 hc) (by first | exact zaF1 hb | exact zaF2 hb | exact zaF3 hb | exact zaF4 hb | exact zaF5 hb | exact zaF6 hb | exact zaF1 hc | exact zaF2 hc | exact zaF3 hc | exact zaF4 hc | exact zaF5 hc | exact zaF6 hc) (by omega) (by omega) (by omega) (by omega) (by omega) dX0_become_33 ?_
  refine r_aload_n dX0_become_36 rfl ?_
  refine r_getR fX0_22 (by first | exact zlF hb | exact zlF hc) (zrF3 hc) dX0_become_37 ?_
  refine r_iconst dX0_become_40 (k := ?_)
  refine r_aload_n dX0_become_41 rfl ?_
  refine r_getR fX0_22 (by first | exact zlF hb | exact zlF hc) (zrF3 hb) dX0_become_42 ?_
  refine r_iconst dX0_become_45 (k := ?_)
  refine r_bipush dX0_become_46 (k := ?_)
  refine r_copy lX0_52 (by first | exact zaF1 hb | exact zaF2 hb | exact zaF3 hb | exact zaF4 hb | exact zaF5 hb | exact zaF6 hb | exact zaF1 hc | exact zaF2 hc | exact zaF3 hc | exact zaF4 hc | exact zaF5 hc | exact zaF6 hc) (by first | exact zaF1 hb | exact zaF2 hb | exact zaF3 hb | exact zaF4 hb | exact zaF5 hb | exact zaF6 hb | exact zaF1 hc | exact zaF2 hc | exact zaF3 hc | exact zaF4 hc | exact zaF5 hc | exact zaF6 hc) (by omega) (by omega) (by omega) (by omega) (by omega) dX0_become_48 ?_
  refine r_aload_n dX0_become_51 rfl ?_
  refine r_aload_n dX0_become_52 rfl ?_
  refine r_gI (q := 4) rfl fX0_25 (by first | exact zlF hb | exact zlF hc) (by decide) dX0_become_53 ?_
  refine r_pI (q := 4) rfl pX0_25 (by first | exact zlF hb | exact zlF hc) dX0_become_56 ?_
  refine r_aload_n dX0_become_59 rfl ?_
  refine r_getR fX0_28 (by first | exact zlF hb | exact zlF hc) (zrF5 hc) dX0_become_60 ?_
  refine r_iconst dX0_become_63 (k := ?_)
  refine r_aload_n dX0_become_64 rfl ?_
  refine r_getR fX0_28 (by first | exact zlF hb | exact zlF hc) (zrF5 hb) dX0_become_65 ?_
  refine r_iconst dX0_become_68 (k := ?_)
  refine r_bipush dX0_become_69 (k := ?_)
  refine r_copy lX0_52 (by first | exact zaF1 hb | exact zaF2 hb | exact zaF3 hb | exact zaF4 hb | exact zaF5 hb | exact zaF6 hb | exact zaF1 hc | exact zaF2 hc | exact zaF3 hc | exact zaF4 hc | exact zaF5 hc | exact zaF6 hc) (by first | exact zaF1 hb | exact zaF2 hb | exact zaF3 hb | exact zaF4 hb | exact zaF5 hb | exact zaF6 hb | exact zaF1 hc | exact zaF2 hc | exact zaF3 hc | exact zaF4 hc | exact zaF5 hc | exact zaF6 hc) (by omega) (by omega) (by omega) (by omega) (by omega) dX0_become_71 ?_
  refine r_aload_n dX0_become_74 rfl ?_
  refine r_getR fX0_31 (by first | exact zlF hb | exact zlF hc) (zrF6 hc) dX0_become_75 ?_
  refine r_iconst dX0_become_78 (k := ?_)
  refine r_aload_n dX0_become_79 rfl ?_
  refine r_getR fX0_31 (by first | exact zlF hb | exact zlF hc) (zrF6 hb) dX0_become_80 ?_
  refine r_iconst dX0_become_83 (k := ?_)
  refine r_bipush dX0_become_84 (k := ?_)
  refine r_copy lX0_52 (by first | exact zaF1 hb | exact zaF2 hb | exact zaF3 hb | exact zaF4 hb | exact zaF5 hb | exact zaF6 hb | exact zaF1 hc | exact zaF2 hc | exact zaF3 hc | exact zaF4 hc | exact zaF5 hc | exact zaF6 hc) (by first | exact zaF1 hb | exact zaF2 hb | exact zaF3 hb | exact zaF4 hb | exact zaF5 hb | exact zaF6 hb | exact zaF1 hc | exact zaF2 hc | exact zaF3 hc | exact zaF4 hc | exact zaF5 hc | exact zaF6 hc) (by omega) (by omega) (by omega) (by omega) (by omega) dX0_become_86 ?_
  refine r_aload_n dX0_become_89 rfl ?_
  refine r_getR fX0_34 (by first | exact zlF hb | exact zlF hc) (zrF7 hc) dX0_become_90 ?_
  refine r_iconst dX0_become_93 (k := ?_)
  refine r_aload_n dX0_become_94 rfl ?_
  refine r_getR fX0_34 (by first | exact zlF hb | exact zlF hc) (zrF7 hb) dX0_become_95 ?_
  refine r_iconst dX0_become_98 (k := ?_)
  refine r_bipush dX0_become_99 (k := ?_)
  refine r_copy lX0_52 (by first | exact zaF1 hb | exact zaF2 hb | exact zaF3 hb | exact zaF4 hb | exact zaF5 hb | exact zaF6 hb | exact zaF1 hc | exact zaF2 hc | exact zaF3 hc | exact zaF4 hc | exact zaF5 hc | exact zaF6 hc) (by first | exact zaF1 hb | exact zaF2 hb | exact zaF3 hb | exact zaF4 hb | exact zaF5 hb | exact zaF6 hb | exact zaF1 hc | exact zaF2 hc | exact zaF3 hc | exact zaF4 hc | exact zaF5 hc | exact zaF6 hc) (by omega) (by omega) (by omega) (by omega) (by omega) dX0_become_101 ?_
  refine r_aload_n dX0_become_104 rfl ?_
  refine r_aload_n dX0_become_105 rfl ?_
  refine r_gI (q := 8) rfl fX0_37 (by first | exact zlF hb | exact zlF hc) (by decide) dX0_become_106 ?_
  refine r_pI (q := 8) rfl pX0_37 (by first | exact zlF hb | exact zlF hc) dX0_become_109 ?_
  refine r_aload_n dX0_become_112 rfl ?_
  refine r_aload_n dX0_become_113 rfl ?_
  refine r_gI (q := 9) rfl fX0_40 (by first | exact zlF hb | exact zlF hc) (by decide) dX0_become_114 ?_
  refine r_pI (q := 9) rfl pX0_40 (by first | exact zlF hb | exact zlF hc) dX0_become_117 ?_
  refine r_aload_n dX0_become_120 rfl ?_
  refine r_aload_n dX0_become_121 rfl ?_
  refine r_gI (q := 10) rfl fX0_43 (by first | exact zlF hb | exact zlF hc) (by decide) dX0_become_122 ?_
  refine r_pI (q := 10) rfl pX0_43 (by first | exact zlF hb | exact zlF hc) dX0_become_125 ?_
  refine r_vret dX0_become_128 ?_
  refine zP0.of ?_
  sorry
end
