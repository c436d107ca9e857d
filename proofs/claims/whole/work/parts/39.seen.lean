/-! ===== what was seen: the class's kinds and sulks ===== -/
theorem zany_iff {f : Int → Bool} : ∀ (k : Nat) (i : Int), zany f i k = true ↔ ∃ j : Int, i ≤ j ∧ j < i + k ∧ f j = true
  | 0, i => by
    rw [zany]
    exact ⟨fun h => absurd h (by decide), fun ⟨j, a, b, _⟩ => absurd b (by omega)⟩
  | k + 1, i => by
    rw [zany]
    have ih := zany_iff (f := f) k (i + 1)
    constructor
    · intro h
      by_cases c : f i = true
      · exact ⟨i, by omega, by omega, c⟩
      · rw [Bool.eq_false_iff.mpr c, Bool.false_or] at h
        obtain ⟨j, a, b, d⟩ := ih.mp h
        exact ⟨j, by omega, by omega, d⟩
    · rintro ⟨j, a, b, d⟩
      by_cases c : j = i
      · rw [← c, d, Bool.true_or]
      · rw [ih.mpr ⟨j, by omega, by omega, d⟩, Bool.or_true]
theorem zany_no {f : Int → Bool} {k : Nat} {i : Int} : zany f i k = false ↔ ∀ j : Int, i ≤ j → j < i + k → f j = false := by
  rw [Bool.eq_false_iff, Ne, zany_iff]
  exact ⟨fun h j a b => by cases c : f j; rfl; exact absurd ⟨j, a, b, c⟩ h, fun h ⟨j, a, b, c⟩ => by rw [h j a b] at c; exact absurd c (by decide)⟩
def vPl (W : zVw) (k i : Int) : Int := (vDays W k.toNat).1 i
/-- whether all that was seen is so -/
def sSo (W : zVw) (num : Int) (sb sw sp : Int → Int) : Bool := !zany (fun s => decide (vPl W (sb s) (sw s) ≠ sp s)) 0 num.toNat
def sSB (N num : Int) (sb sw : Int → Int) : Prop := 0 ≤ num ∧ num ≤ 6 ∧ ∀ s, 0 ≤ s → s < num → 0 ≤ sb s ∧ sb s ≤ 20 ∧ 0 ≤ sw s ∧ sw s < N
theorem sSo_t {W : zVw} {num : Int} {sb sw sp : Int → Int} (h : ∀ s, 0 ≤ s → s < num → vPl W (sb s) (sw s) = sp s) : sSo W num sb sw sp = true := by
  unfold sSo
  rw [zany_no.mpr (fun j a b => by rw [decide_eq_false_iff_not]; exact not_not_intro (h j a (by omega)))]
  rfl
theorem sSo_f {W : zVw} {num : Int} {sb sw sp : Int → Int} {s : Int} (a : 0 ≤ s) (b : s < num) (h : vPl W (sb s) (sw s) ≠ sp s) : sSo W num sb sw sp = false := by
  unfold sSo
  rw [(zany_iff (f := fun s => decide (vPl W (sb s) (sw s) ≠ sp s)) num.toNat 0).mpr ⟨s, a, by omega, decide_eq_true h⟩]
  rfl
theorem vDays_s {W : zVw} {k : Nat} : vDays W (k + 1) = vStep W (vDays W k) := by
  obtain ⟨n, t, g, r, e1, e2, ln, hol, p, bu, dy⟩ := W
  exact zfor_succ k 0 (p, bu, dy)
theorem vDays_0 {W : zVw} : vDays W 0 = vS0 W := rfl
theorem VEQ.pl {W V : zVw} (h : VEQ W V) {k i : Int} (h0 : 0 ≤ i) (h1 : i < W.1) : vPl W k i = vPl V k i := (h.days k.toNat).2.1 i h0 h1
theorem VEQ.so {W V : zVw} (h : VEQ W V) {num : Int} {sb sw sp : Int → Int} (hs : sSB W.1 num sb sw) : sSo W num sb sw sp = sSo V num sb sw sp := by
  unfold sSo
  rw [zany_congr _ _ (fun j a b => by
    obtain ⟨q1, q2, q3, q4⟩ := hs.2.2 j a (by omega)
    rw [h.pl q3 q4])]
theorem vDays_bd {W : zVw} {k : Nat} (h0 : 0 ≤ W.1) (h : sPB W.1 (vS0 W).1) : sPB W.1 (vDays W k).1 := by
  obtain ⟨n, t, g, r, e1, e2, ln, hol, p, bu, dy⟩ := W
  exact sDays_bd h0 h
/-- bits of four answers -/
def sBits (f : Int → Bool) (v : Nat) : Int := zfor (fun v a => a + (if f v then 2 ^ v.toNat else 0)) 0 v 0
theorem sBits_s {f : Int → Bool} {v : Nat} : sBits f (v + 1) = sBits f v + (if f v then 2 ^ v else 0) := by
  unfold sBits
  rw [zfor_succ, Int.zero_add, Int.toNat_natCast]
theorem sBits_b {f : Int → Bool} : ∀ v : Nat, 0 ≤ sBits f v ∧ sBits f v < 2 ^ v
  | 0 => ⟨by show (0 : Int) ≤ 0; decide, by show (0 : Int) < 2 ^ 0; decide⟩
  | v + 1 => by
    obtain ⟨a, b⟩ := sBits_b (f := f) v
    rw [sBits_s]
    have e : (2 : Int) ^ (v + 1) = 2 ^ v + 2 ^ v := by rw [Int.pow_succ]; omega
    rw [e]
    split <;> omega
theorem zor_bit : ∀ (v : Fin 4) (a : Fin 8), (a : Nat) < 2 ^ (v : Nat) → zor (a : Nat) (zshl 1 (v : Nat)) = (a : Nat) + 2 ^ (v : Nat) := by decide +kernel
theorem zor_b0 : ∀ (v : Fin 4) (a : Fin 8), zor (a : Nat) (zshl 0 (v : Nat)) = (a : Nat) := by decide +kernel
theorem zand_bit : ∀ (v : Fin 4) (a : Fin 16), zand (zshr (a : Nat) (v : Nat)) 1 = ((a : Nat) / 2 ^ (v : Nat) % 2 : Nat) := by decide +kernel
theorem sBits_1 {f : Int → Bool} {v : Nat} (hv : v < 4) (h : f v = true) : zor (sBits f v) (zshl 1 v) = sBits f (v + 1) := by
  obtain ⟨a, b⟩ := sBits_b (f := f) v
  have h8 : (2 : Int) ^ v ≤ 8 := by
    rcases (show v = 0 ∨ v = 1 ∨ v = 2 ∨ v = 3 by omega) with rfl | rfl | rfl | rfl <;> decide
  have hz : ((2 ^ v : Nat) : Int) = 2 ^ v := by rw [Int.natCast_pow]; rfl
  have q := zor_bit ⟨v, hv⟩ ⟨(sBits f v).toNat, by omega⟩ (by dsimp only; omega)
  dsimp only at q
  rw [Int.toNat_of_nonneg a] at q
  rw [q, sBits_s, if_pos h]
theorem sBits_0 {f : Int → Bool} {v : Nat} (h : f v = false) : sBits f v = sBits f (v + 1) := by
  rw [sBits_s, h, if_neg (by decide), Int.add_zero]
theorem sBits_00 {f : Int → Bool} {v : Nat} (hv : v < 4) (h : f v = false) : zor (sBits f v) (zshl 0 v) = sBits f (v + 1) := by
  obtain ⟨a, b⟩ := sBits_b (f := f) v
  have h8 : (2 : Int) ^ v ≤ 8 := by
    rcases (show v = 0 ∨ v = 1 ∨ v = 2 ∨ v = 3 by omega) with rfl | rfl | rfl | rfl <;> decide
  have q := zor_b0 ⟨v, hv⟩ ⟨(sBits f v).toNat, by omega⟩
  dsimp only at q
  rw [Int.toNat_of_nonneg a] at q
  rw [q, sBits_0 h]
theorem sBits_at (f : Int → Bool) {v : Nat} (hv : v < 4) : zand (zshr (sBits f 4) v) 1 = zb (f v) := by
  obtain ⟨a, b⟩ := sBits_b (f := f) 4
  have b : sBits f 4 < 16 := b
  have e : sBits f 4 = zb (f 0) + 2 * zb (f 1) + 4 * zb (f 2) + 8 * zb (f 3) := by
    rw [sBits_s, sBits_s, sBits_s, sBits_s]
    show 0 + _ + _ + _ + _ = _
    cases f ((0 : Nat) : Int) <;> cases f ((1 : Nat) : Int) <;> cases f ((2 : Nat) : Int) <;> cases f ((3 : Nat) : Int) <;> decide
  have q := zand_bit ⟨v, hv⟩ ⟨(sBits f 4).toNat, by omega⟩
  dsimp only at q
  rw [Int.toNat_of_nonneg a] at q
  rw [q, e]
  rcases (show v = 0 ∨ v = 1 ∨ v = 2 ∨ v = 3 by omega) with rfl | rfl | rfl | rfl <;> (show _ = zb (f _)) <;> cases f 0 <;> cases f 1 <;> cases f 2 <;> cases f 3 <;> first | rfl | decide
section
variable {l : Launch} {G : zG} {mem : zM}
set_option maxRecDepth 100000 in
theorem c_agreeBehind (hs : sSB 5 (mem 15 0) (mem 16) (mem 17)) (n : Int) : KX4_agreeBehind l G 0 [zR 15, zI n, zR 8] mem (zP1 (zI (zb (!zany (fun s => decide (mem 16 s = n ∧ mem 10 (mem 17 s) ≠ mem 18 s)) 0 (mem 15 0).toNat))) mem) := by
  obtain ⟨s0, s6, sB⟩ := hs
  refine CT.of' (own := RX4) (ls0 := [zR 15, zI n, zR 8, zU]) rfl (by decide +kernel) (Nat.le_of_ble_eq_true rfl) rfl ?_
  have loop : ∀ (k : Nat) (x : Int), 0 ≤ x → x + k = mem 15 0 → zany (fun s => decide (mem 16 s = n ∧ mem 10 (mem 17 s) ≠ mem 18 s)) x k = zany (fun s => decide (mem 16 s = n ∧ mem 10 (mem 17 s) ≠ mem 18 s)) 0 (mem 15 0).toNat → SW l G (zrm 0) RX4 cX4_agreeBehind 4 (some .boolean) (zZ G (zP1 (zI (zb (!zany (fun s => decide (mem 16 s = n ∧ mem 10 (mem 17 s) ≠ mem 18 s)) 0 (mem 15 0).toNat))) mem)) 0 0 (fun _ => True) 2 [zR 15, zI n, zR 8, zI x] [] mem := by
    intro k
    induction k with
    | zero =>
      intro x h0 h1 he
      refine r_iload_n dX4_agreeBehind_2 rfl ?_
      refine r_aload_n dX4_agreeBehind_3 rfl ?_
      refine r_gI (q := 0) rfl fX4_9 rfl (by decide) dX4_agreeBehind_4 ?_
      refine r_icmp_ge (tgt := 48) dX4_agreeBehind_7 (by decide) (fun h7 => ?_) (fun h7 => ?_)
      · refine r_iconst dX4_agreeBehind_48 (k := ?_)
        refine r_zret dX4_agreeBehind_49 (by decide) ?_
        exact zP1.ofI (by rw [← he]; rfl)
      · exact absurd (by omega) h7
    | succ k ih =>
      intro x h0 h1 he
      rw [zany] at he
      refine r_iload_n dX4_agreeBehind_2 rfl ?_
      refine r_aload_n dX4_agreeBehind_3 rfl ?_
      refine r_gI (q := 0) rfl fX4_9 rfl (by decide) dX4_agreeBehind_4 ?_
      refine r_icmp_ge (tgt := 48) dX4_agreeBehind_7 (by decide) (fun h7 => ?_) (fun h7 => ?_)
      · exact absurd h7 (by omega)
      · refine r_aload_n dX4_agreeBehind_10 rfl ?_
        refine r_getR (q := 16) fX4_15 rfl rfl dX4_agreeBehind_11 ?_
        refine r_iload_n dX4_agreeBehind_14 rfl ?_
        refine r_iald rfl (by omega) (by omega) dX4_agreeBehind_15 ?_
        refine r_iload_n dX4_agreeBehind_16 rfl ?_
        refine r_icmp_ne (tgt := 42) dX4_agreeBehind_17 (by decide) (fun h17 => ?_) (fun h17 => ?_)
        · refine r_iinc dX4_agreeBehind_42 rfl rfl ?_
          try rw [zw_id (by omega) (by omega)]
          refine r_goto (tgt := 2) dX4_agreeBehind_45 (by decide) ?_
          first | exact ih _ (by omega) (by omega) (by rw [decide_eq_false (fun z => absurd z.1 h17), Bool.false_or] at he; exact he) | exact ih _ (by omega) (by omega) (by rw [decide_eq_false (fun z => absurd h37 z.2), Bool.false_or] at he; exact he)
        · refine r_aload_n dX4_agreeBehind_20 rfl ?_
          refine r_getR (q := 10) fX4_46 rfl rfl dX4_agreeBehind_21 ?_
          refine r_aload_n dX4_agreeBehind_24 rfl ?_
          refine r_getR (q := 17) fX4_19 rfl rfl dX4_agreeBehind_25 ?_
          refine r_iload_n dX4_agreeBehind_28 rfl ?_
          refine r_iald rfl (by omega) (by omega) dX4_agreeBehind_29 ?_
          refine r_iald rfl (sB x h0 (by omega)).2.2.1 (sB x h0 (by omega)).2.2.2 dX4_agreeBehind_30 ?_
          refine r_aload_n dX4_agreeBehind_31 rfl ?_
          refine r_getR (q := 18) fX4_22 rfl rfl dX4_agreeBehind_32 ?_
          refine r_iload_n dX4_agreeBehind_35 rfl ?_
          refine r_iald rfl (by omega) (by omega) dX4_agreeBehind_36 ?_
          refine r_icmp_eq (tgt := 42) dX4_agreeBehind_37 (by decide) (fun h37 => ?_) (fun h37 => ?_)
          · refine r_iinc dX4_agreeBehind_42 rfl rfl ?_
            try rw [zw_id (by omega) (by omega)]
            refine r_goto (tgt := 2) dX4_agreeBehind_45 (by decide) ?_
            first | exact ih _ (by omega) (by omega) (by rw [decide_eq_false (fun z => absurd z.1 h17), Bool.false_or] at he; exact he) | exact ih _ (by omega) (by omega) (by rw [decide_eq_false (fun z => absurd h37 z.2), Bool.false_or] at he; exact he)
          · refine r_iconst dX4_agreeBehind_40 (k := ?_)
            refine r_zret dX4_agreeBehind_41 (by decide) ?_
            exact zP1.ofI (by rw [← he, decide_eq_true ⟨by omega, h37⟩, Bool.true_or]; rfl)
  refine r_iconst dX4_agreeBehind_0 (k := ?_)
  refine r_istore_n dX4_agreeBehind_1 rfl ?_
  exact loop (mem 15 0).toNat 0 (by omega) (by omega) rfl
set_option maxRecDepth 100000 in
theorem c_agreeWith (hI : zFI mem 8) (hs : sSB (mem 8 0) (mem 15 0) (mem 16) (mem 17)) : KX4_agreeWith l G 4 [zR 15, zR 8] mem (zPC (zI (zb (sSo (vC mem 8) (mem 15 0) (mem 16) (mem 17) (mem 18)))) mem) := by
  obtain ⟨hn0, hn5, hr0, hr6, hp, hg, hr⟩ := id hI
  obtain ⟨s0, s6, sB⟩ := id hs
  have hs5 : sSB 5 (mem 15 0) (mem 16) (mem 17) := ⟨s0, s6, fun s a b => by obtain ⟨q1, q2, q3, q4⟩ := sB s a b; exact ⟨q1, q2, q3, by omega⟩⟩
  refine CT.of' (own := RX4) (ls0 := [zR 15, zR 8, zU, zU]) rfl (by decide +kernel) (Nat.le_of_ble_eq_true rfl) rfl ?_
  have sPc : ∀ k : Nat, sPB (mem 8 0) (vDays (vC mem 8) k).1 := fun k => vDays_bd (W := (vC mem 8)) hn0 hp
  have main : ∀ (last : Int) (q : Nat) (x : Int), 0 ≤ x → x + q = last + 1 → 0 ≤ last → last ≤ 20 → (∀ s, 0 ≤ s → s < mem 15 0 → mem 16 s ≤ last) → (∀ s, 0 ≤ s → s < mem 15 0 → mem 16 s < x → vPl (vC mem 8) (mem 16 s) (mem 17 s) = mem 18 s) → SW l G (zrm 4) RX4 cX4_agreeWith 4 (some .boolean) (zZ G (zPC (zI (zb (sSo (vC mem 8) (mem 15 0) (mem 16) (mem 17) (mem 18)))) mem)) 0 0 (fun _ => True) 31 [zR 15, zR 8, zI last, zI x] [] (zFy mem 8 (vDays (vC mem 8) (x.toNat - 1))) := by
    intro last q
    induction q with
    | zero =>
      intro x a0 a1 a2 a3 a4 a5
      refine r_iload_n dX4_agreeWith_31 rfl ?_
      refine r_iload_n dX4_agreeWith_32 rfl ?_
      refine r_icmp_gt (tgt := 61) dX4_agreeWith_33 (by decide) (fun h33 => ?_) (fun h33 => ?_)
      · refine r_iconst dX4_agreeWith_61 (k := ?_)
        refine r_zret dX4_agreeWith_62 (by decide) ?_
        exact zPC.i (by rw [sSo_t (fun s b0 b1 => a5 s b0 b1 (by have := a4 s b0 b1; omega))]; rfl) kC.rf.y
      · exact absurd (by omega) h33
    | succ q ih =>
      intro x a0 a1 a2 a3 a4 a5
      have go : SW l G (zrm 4) RX4 cX4_agreeWith 4 (some .boolean) (zZ G (zPC (zI (zb (sSo (vC mem 8) (mem 15 0) (mem 16) (mem 17) (mem 18)))) mem)) 0 0 (fun _ => True) 44 [zR 15, zR 8, zI last, zI x] [] (zFy mem 8 (vDays (vC mem 8) x.toNat)) := by
        refine r_aload_n dX4_agreeWith_44 rfl ?_
        refine r_iload_n dX4_agreeWith_45 rfl ?_
        refine r_aload_n dX4_agreeWith_46 rfl ?_
        refine r_v2 (c_agreeBehind (by rw [zFy_o (by decide) (by decide), zFy_o (by decide) (by decide), zFy_o (by decide) (by decide)]; exact hs5) _) kX4_42 rfl dX4_agreeWith_47 ?_
        try simp only [zFy_2, zFy_b0, zFy_b4, zFy_b8, zFy_1, zFy_3, zFy_4, zFy_5, zFy_6, zFy_10, zFy_9, zFy_y, zFy_10']
        rw [zFy_o (by decide) (by decide), zFy_o (by decide) (by decide), zFy_o (by decide) (by decide), zFy_o (by decide) (by decide)]
        cases hz : zany (fun s => decide (mem 16 s = x ∧ (vDays (vC mem 8) x.toNat).1 (mem 17 s) ≠ mem 18 s)) 0 (mem 15 0).toNat with
        | true =>
          obtain ⟨s, b0, b1, b2⟩ := (zany_iff _ _).mp hz
          have b3 := of_decide_eq_true b2
          refine r_ifb_ne (tgt := 55) dX4_agreeWith_50 (by decide) (fun h50 => ?_) (fun h50 => ?_)
          · exact absurd h50 (by decide)
          · refine r_iconst dX4_agreeWith_53 (k := ?_)
            refine r_zret dX4_agreeWith_54 (by decide) ?_
            refine zPC.i ?_ kC.rf.y
            rw [sSo_f b0 (by omega) (show vPl (vC mem 8) (mem 16 s) (mem 17 s) ≠ mem 18 s by rw [b3.1]; exact b3.2)]
            rfl
        | false =>
          have b3 := zany_no.mp hz
          refine r_ifb_ne (tgt := 55) dX4_agreeWith_50 (by decide) (fun h50 => ?_) (fun h50 => ?_)
          · refine r_iinc dX4_agreeWith_55 rfl rfl ?_
            try rw [zw_id (by omega) (by omega)]
            refine r_goto (tgt := 31) dX4_agreeWith_58 (by decide) ?_
            have fin := ih (x + 1) (by omega) (by omega) a2 a3 a4 (fun s b0 b1 b2 => ?_)
            · rw [show (x + 1).toNat - 1 = x.toNat by omega] at fin; exact fin
            · by_cases c : mem 16 s = x
              · have := b3 s b0 (by omega)
                rw [decide_eq_false_iff_not] at this
                rw [c]
                exact Decidable.byContradiction (fun z => this ⟨c, z⟩)
              · exact a5 s b0 b1 (by omega)
          · exact absurd h50 (by decide)
      have hpb := sPc (x.toNat - 1)
      refine r_iload_n dX4_agreeWith_31 rfl ?_
      refine r_iload_n dX4_agreeWith_32 rfl ?_
      refine r_icmp_gt (tgt := 61) dX4_agreeWith_33 (by decide) (fun h33 => ?_) (fun h33 => ?_)
      · exact absurd h33 (by omega)
      · refine r_iload_n dX4_agreeWith_36 rfl ?_
        refine r_if_le (tgt := 44) dX4_agreeWith_37 (by decide) (fun h37 => ?_) (fun h37 => ?_)
        · first
            | (rw [show x.toNat - 1 = x.toNat by omega]; exact go)
            | (have e := vDays_s (W := (vC mem 8)) (k := x.toNat - 1); rw [show x.toNat - 1 + 1 = x.toNat by omega] at e; rw [e] at go; exact go)
        · refine r_aload_n dX4_agreeWith_40 rfl ?_
          refine r_w0 (c_X0_passDay' hF8 (hI.y hpb)) kX4_37 rfl dX4_agreeWith_41 ?_
          try simp only [zFy_2, zFy_b0, zFy_b4, zFy_b8, zFy_1, zFy_3, zFy_4, zFy_5, zFy_6, zFy_10, zFy_9, zFy_y, zFy_10']
          first
            | (rw [show x.toNat - 1 = x.toNat by omega]; exact go)
            | (have e := vDays_s (W := (vC mem 8)) (k := x.toNat - 1); rw [show x.toNat - 1 + 1 = x.toNat by omega] at e; rw [e] at go; exact go)
  have loop : ∀ (q : Nat) (x a : Int), 0 ≤ x → x + q = mem 15 0 → 0 ≤ a → a ≤ 20 → (∀ s, 0 ≤ s → s < x → mem 16 s ≤ a) → SW l G (zrm 4) RX4 cX4_agreeWith 4 (some .boolean) (zZ G (zPC (zI (zb (sSo (vC mem 8) (mem 15 0) (mem 16) (mem 17) (mem 18)))) mem)) 0 0 (fun _ => True) 4 [zR 15, zR 8, zI a, zI x] [] mem := by
    intro q
    induction q with
    | zero =>
      intro x a h0 h1 q0 q1 q2
      have fin := main a (a + 1).toNat 0 (by omega) (by omega) q0 q1 (fun s b0 b1 => q2 s b0 (by omega)) (fun s b0 b1 b2 => absurd (sB s b0 b1).1 (by omega))
      rw [show (0 : Int).toNat - 1 = 0 from rfl, vDays_0, show zFy mem 8 (vS0 (vC mem 8)) = mem from zFy_self] at fin
      refine r_iload_n dX4_agreeWith_4 rfl ?_
      refine r_aload_n dX4_agreeWith_5 rfl ?_
      refine r_gI (q := 0) rfl fX4_9 rfl (by decide) dX4_agreeWith_6 ?_
      try simp only [zFy_2, zFy_b0, zFy_b4, zFy_b8, zFy_1, zFy_3, zFy_4, zFy_5, zFy_6, zFy_10, zFy_9, zFy_y, zFy_10']
      refine r_icmp_ge (tgt := 29) dX4_agreeWith_9 (by decide) (fun h9 => ?_) (fun h9 => ?_)
      · refine r_iconst dX4_agreeWith_29 (k := ?_)
        refine r_istore_n dX4_agreeWith_30 rfl ?_
        exact fin
      · exact absurd (by omega) h9
    | succ q ih =>
      intro x a h0 h1 q0 q1 q2
      have b := sB x h0 (by omega)
      refine r_iload_n dX4_agreeWith_4 rfl ?_
      refine r_aload_n dX4_agreeWith_5 rfl ?_
      refine r_gI (q := 0) rfl fX4_9 rfl (by decide) dX4_agreeWith_6 ?_
      try simp only [zFy_2, zFy_b0, zFy_b4, zFy_b8, zFy_1, zFy_3, zFy_4, zFy_5, zFy_6, zFy_10, zFy_9, zFy_y, zFy_10']
      refine r_icmp_ge (tgt := 29) dX4_agreeWith_9 (by decide) (fun h9 => ?_) (fun h9 => ?_)
      · exact absurd h9 (by omega)
      · refine r_iload_n dX4_agreeWith_12 rfl ?_
        refine r_aload_n dX4_agreeWith_13 rfl ?_
        refine r_getR (q := 16) fX4_15 rfl rfl dX4_agreeWith_14 ?_
        try simp only [zFy_2, zFy_b0, zFy_b4, zFy_b8, zFy_1, zFy_3, zFy_4, zFy_5, zFy_6, zFy_10, zFy_9, zFy_y, zFy_10']
        refine r_iload_n dX4_agreeWith_17 rfl ?_
        refine r_iald rfl (by omega) (by omega) dX4_agreeWith_18 ?_
        try simp only [zFy_2, zFy_b0, zFy_b4, zFy_b8, zFy_1, zFy_3, zFy_4, zFy_5, zFy_6, zFy_10, zFy_9, zFy_y, zFy_10']
        refine r_mmax kX4_31 dX4_agreeWith_19 ?_
        try simp only [zFy_2, zFy_b0, zFy_b4, zFy_b8, zFy_1, zFy_3, zFy_4, zFy_5, zFy_6, zFy_10, zFy_9, zFy_y, zFy_10']
        refine r_istore_n dX4_agreeWith_22 rfl ?_
        refine r_iinc dX4_agreeWith_23 rfl rfl ?_
        try rw [zw_id (by omega) (by omega)]
        refine r_goto (tgt := 4) dX4_agreeWith_26 (by decide) ?_
        refine ih _ _ (by omega) (by omega) (by omega) (by omega) (fun s b0 b1 => ?_)
        by_cases c : s = x
        · rw [c]; omega
        · have := q2 s b0 (by omega); omega
  refine r_iconst dX4_agreeWith_0 (k := ?_)
  refine r_istore_n dX4_agreeWith_1 rfl ?_
  refine r_iconst dX4_agreeWith_2 (k := ?_)
  refine r_istore_n dX4_agreeWith_3 rfl ?_
  exact loop (mem 15 0).toNat 0 0 (by omega) (by omega) (by omega) (by omega) (fun s b0 b1 => absurd b1 (by omega))

theorem c_tSo {m : zM} (hI : zFI m 8) {W : zVw} (hv : VEQ (vC m 8) W) (hk : kC mem m) (hs : sSB W.1 (mem 15 0) (mem 16) (mem 17)) : KX4_agreeWith l G 4 [zR 15, zR 8] m (zPC (zI (zb (sSo W (mem 15 0) (mem 16) (mem 17) (mem 18)))) m) := by
  have e0 : m 15 = mem 15 := hk.at (by omega) (by omega) (by omega)
  have e1 : m 16 = mem 16 := hk.at (by omega) (by omega) (by omega)
  have e2 : m 17 = mem 17 := hk.at (by omega) (by omega) (by omega)
  have e3 : m 18 = mem 18 := hk.at (by omega) (by omega) (by omega)
  have ew : (vC m 8).1 = W.1 := hv.1
  refine (c_agreeWith hI (by rw [e0, e1, e2, show m 8 0 = W.1 from ew]; exact hs)).imp (fun r m9 h => ?_)
  rw [e0, e1, e2, e3, hv.so (by rw [ew]; exact hs)] at h
  exact h
set_option maxRecDepth 100000 in
theorem c_kindsAsSeen (hI : zFI mem 1) (hs : sSB (mem 1 0) (mem 15 0) (mem 16) (mem 17)) (i : Int) (hi0 : 0 ≤ i) (hi1 : i < mem 1 0) : KX5_kindsAsSeen l G 5 [zR 0, zI i] mem (zPC (zI (sBits (fun v => sSo (vKind (vC mem 1) i v) (mem 15 0) (mem 16) (mem 17) (mem 18)) 4)) mem) := by
  obtain ⟨hn0, hn5, -⟩ := zFI1 hI
  refine CT.of' (own := RX5) (ls0 := [zR 0, zI i, zU, zU, zU]) rfl (by decide +kernel) (Nat.le_of_ble_eq_true rfl) rfl ?_
  have loop : ∀ (k : Nat) (x : Nat) (m : zM) (v4 : zV), x + k = 4 → kC mem m → SW l G (zrm 5) RX5 cX5_kindsAsSeen 5 (some .int) (zZ G (zPC (zI (sBits (fun v => sSo (vKind (vC mem 1) i v) (mem 15 0) (mem 16) (mem 17) (mem 18)) 4)) mem)) 0 0 (fun _ => True) 4 [zR 0, zI i, zI (sBits (fun v => sSo (vKind (vC mem 1) i v) (mem 15 0) (mem 16) (mem 17) (mem 18)) x), zI x, v4] [] m := by
    intro k
    induction k with
    | zero =>
      intro x m v4 h1 hk
      refine r_iload_n dX5_kindsAsSeen_4 rfl ?_
      refine r_iconst dX5_kindsAsSeen_5 (k := ?_)
      refine r_icmp_ge (tgt := 47) dX5_kindsAsSeen_6 (by decide) (fun h6 => ?_) (fun h6 => ?_)
      · refine r_iload_n dX5_kindsAsSeen_47 rfl ?_
        refine r_iret dX5_kindsAsSeen_48 ?_
        exact zPC.i (by rw [show x = 4 by omega]) hk
      · exact absurd (by omega) h6
    | succ k ih =>
      intro x m v4 h1 hk
      obtain ⟨g1, g2, g3⟩ := zBec_t hI hk
      refine r_iload_n dX5_kindsAsSeen_4 rfl ?_
      refine r_iconst dX5_kindsAsSeen_5 (k := ?_)
      refine r_icmp_ge (tgt := 47) dX5_kindsAsSeen_6 (by decide) (fun h6 => ?_) (fun h6 => ?_)
      · exact absurd h6 (by omega)
      · refine r_aload_n dX5_kindsAsSeen_9 rfl ?_
        refine r_v0 (c_asItIs) kX5_177 rfl dX5_kindsAsSeen_10 ?_
        refine r_astore dX5_kindsAsSeen_13 rfl ?_
        refine r_aload dX5_kindsAsSeen_15 rfl ?_
        refine r_getR (q := 9) fX5_115 rfl rfl dX5_kindsAsSeen_17 ?_
        refine r_iload_n dX5_kindsAsSeen_20 rfl ?_
        refine r_iload_n dX5_kindsAsSeen_21 rfl ?_
        refine r_iast rfl (by omega) (by omega) dX5_kindsAsSeen_22 ?_
        refine r_aload_n dX5_kindsAsSeen_23 rfl ?_
        refine r_getR (q := 15) fX5_22 rfl rfl dX5_kindsAsSeen_24 ?_
        refine r_aload dX5_kindsAsSeen_27 rfl ?_
        refine r_vC1 (c_tSo (mem := mem) (W := vKind (vC mem 1) i x) (g1.kind (k := i) (v := x)) (by rw [vC_kind]; exact g2.kind _ _) (g3.z (by omega)) hs) kX5_223 rfl dX5_kindsAsSeen_29 (fun m29 hk29 => ?_)
        refine r_ifb_eq (tgt := 41) dX5_kindsAsSeen_32 (by decide) (fun h32 => ?_) (fun h32 => ?_)
        · refine r_iinc dX5_kindsAsSeen_41 rfl rfl ?_
          try rw [zw_id (by omega) (by omega)]
          refine r_goto (tgt := 4) dX5_kindsAsSeen_44 (by decide) ?_
          first
            | (rw [sBits_1 (by omega) h32]; exact ih (x + 1) _ _ (by omega) ((g3.z (by omega)).tr hk29))
            | (rw [sBits_0 (v := x) h32]; exact ih (x + 1) _ _ (by omega) ((g3.z (by omega)).tr hk29))
        · refine r_iload_n dX5_kindsAsSeen_35 rfl ?_
          refine r_iconst dX5_kindsAsSeen_36 (k := ?_)
          refine r_iload_n dX5_kindsAsSeen_37 rfl ?_
          refine r_ishl dX5_kindsAsSeen_38 ?_
          refine r_ior dX5_kindsAsSeen_39 ?_
          refine r_istore_n dX5_kindsAsSeen_40 rfl ?_
          refine r_iinc dX5_kindsAsSeen_41 rfl rfl ?_
          try rw [zw_id (by omega) (by omega)]
          refine r_goto (tgt := 4) dX5_kindsAsSeen_44 (by decide) ?_
          first
            | (rw [sBits_1 (by omega) h32]; exact ih (x + 1) _ _ (by omega) ((g3.z (by omega)).tr hk29))
            | (rw [sBits_0 (v := x) h32]; exact ih (x + 1) _ _ (by omega) ((g3.z (by omega)).tr hk29))
  refine r_iconst dX5_kindsAsSeen_0 (k := ?_)
  refine r_istore_n dX5_kindsAsSeen_1 rfl ?_
  refine r_iconst dX5_kindsAsSeen_2 (k := ?_)
  refine r_istore_n dX5_kindsAsSeen_3 rfl ?_
  exact loop 4 0 mem _ (by omega) kC.rf
set_option maxRecDepth 100000 in
theorem c_X5_kinds (hI : zFI mem 1) (hs : sSB (mem 1 0) (mem 15 0) (mem 16) (mem 17)) (i : Int) : KX5_kinds l G 6 [zR 0, zI i] mem (zPC (zI (if 0 ≤ i ∧ i < mem 1 0 then sBits (fun v => sSo (vKind (vC mem 1) i v) (mem 15 0) (mem 16) (mem 17) (mem 18)) 4 else -1)) mem) := by
  refine CT.of' (own := RX5) (ls0 := [zR 0, zI i]) rfl (by decide +kernel) (Nat.le_of_ble_eq_true rfl) rfl ?_
  refine r_aload_n dX5_kinds_0 rfl ?_
  refine r_iload_n dX5_kinds_1 rfl ?_
  refine r_v1 (c_X5_isIsle _) kX5_111 rfl dX5_kinds_2 ?_
  refine r_ifd_eq (tgt := 16) dX5_kinds_5 (by decide) (fun h5 => ?_) (fun h5 => ?_)
  · refine r_iconst dX5_kinds_16 (k := ?_)
    refine r_iret dX5_kinds_17 ?_
    first | (rw [if_pos h5]; exact zPC.i rfl hk10) | (rw [if_neg h5]; exact zPC.i rfl kC.rf)
  · refine r_aload_n dX5_kinds_8 rfl ?_
    refine r_iload_n dX5_kinds_9 rfl ?_
    refine r_vC1 (c_kindsAsSeen hI hs _ (by omega) (by omega)) kX5_220 rfl dX5_kinds_10 (fun m10 hk10 => ?_)
    refine r_goto (tgt := 17) dX5_kinds_13 (by decide) ?_
    refine r_iret dX5_kinds_17 ?_
    first | (rw [if_pos h5]; exact zPC.i rfl hk10) | (rw [if_neg h5]; exact zPC.i rfl kC.rf)
set_option maxRecDepth 100000 in
theorem c_X5_sulks (hI : zFI mem 1) (hs : sSB (mem 1 0) (mem 15 0) (mem 16) (mem 17)) (i j : Int) : KX5_sulks l G 5 [zR 0, zI i, zI j] mem (zPC (zI (if 0 ≤ i ∧ i < mem 1 0 ∧ 0 ≤ j ∧ j < mem 1 0 ∧ i ≠ j then sBits (fun v => sSo (vGrudge (vC mem 1) i j v) (mem 15 0) (mem 16) (mem 17) (mem 18)) 4 else -1)) mem) := by
  obtain ⟨hn0, hn5, -⟩ := zFI1 hI
  refine CT.of' (own := RX5) (ls0 := [zR 0, zI i, zI j, zU, zU, zU]) rfl (by decide +kernel) (Nat.le_of_ble_eq_true rfl) rfl ?_
  by_cases hc : 0 ≤ i ∧ i < mem 1 0 ∧ 0 ≤ j ∧ j < mem 1 0 ∧ i ≠ j
  · rw [if_pos hc]
    have loop : ∀ (k : Nat) (x : Nat) (m : zM) (v5 : zV), x + k = 4 → kC mem m → SW l G (zrm 5) RX5 cX5_sulks 6 (some .int) (zZ G (zPC (zI (sBits (fun v => sSo (vGrudge (vC mem 1) i j v) (mem 15 0) (mem 16) (mem 17) (mem 18)) 4)) mem)) 0 0 (fun _ => True) 16 [zR 0, zI i, zI j, zI (sBits (fun v => sSo (vGrudge (vC mem 1) i j v) (mem 15 0) (mem 16) (mem 17) (mem 18)) x), zI x, v5] [] m := by
      intro k
      induction k with
      | zero =>
        intro x m v4 h1 hk
        refine r_iload dX5_sulks_16 rfl ?_
        refine r_iconst dX5_sulks_18 (k := ?_)
        refine r_icmp_gt (tgt := 62) dX5_sulks_19 (by decide) (fun h19 => ?_) (fun h19 => ?_)
        · refine r_iload_n dX5_sulks_62 rfl ?_
          refine r_iret dX5_sulks_63 ?_
          exact zPC.i (by rw [show x = 4 by omega]) hk
        · exact absurd (by omega) h19
      | succ k ih =>
        intro x m v4 h1 hk
        obtain ⟨g1, g2, g3⟩ := zBec_t hI hk
        refine r_iload dX5_sulks_16 rfl ?_
        refine r_iconst dX5_sulks_18 (k := ?_)
        refine r_icmp_gt (tgt := 62) dX5_sulks_19 (by decide) (fun h19 => ?_) (fun h19 => ?_)
        · exact absurd h19 (by omega)
        · refine r_aload_n dX5_sulks_22 rfl ?_
          refine r_v0 (c_asItIs) kX5_177 rfl dX5_sulks_23 ?_
          refine r_astore dX5_sulks_26 rfl ?_
          refine r_aload dX5_sulks_28 rfl ?_
          refine r_iload_n dX5_sulks_30 rfl ?_
          refine r_iload_n dX5_sulks_31 rfl ?_
          refine r_iload dX5_sulks_32 rfl ?_
          refine r_w3 (c_X0_setGrudge hF8 _ _ _ (by omega) (by omega) (by omega) (by omega)) kX5_166 rfl dX5_sulks_34 ?_
          refine r_aload_n dX5_sulks_37 rfl ?_
          refine r_getR (q := 15) fX5_22 rfl rfl dX5_sulks_38 ?_
          refine r_aload dX5_sulks_41 rfl ?_
          refine r_vC1 (c_tSo (mem := mem) (W := vGrudge (vC mem 1) i j x) (g1.grudge (k := 5 * i + j) (v := x) (by omega) (by omega)) (by rw [vC_grudge]; exact g2.grudge _ _ _) (g3.z (by omega)) hs) kX5_223 rfl dX5_sulks_43 (fun m43 hk43 => ?_)
          refine r_ifb_eq (tgt := 56) dX5_sulks_46 (by decide) (fun h46 => ?_) (fun h46 => ?_)
          · refine r_iinc dX5_sulks_56 rfl rfl ?_
            try rw [zw_id (by omega) (by omega)]
            refine r_goto (tgt := 16) dX5_sulks_59 (by decide) ?_
            first
              | (rw [sBits_1 (by omega) h46]; exact ih (x + 1) _ _ (by omega) ((g3.z (by omega)).tr hk43))
              | (rw [sBits_0 (v := x) h46]; exact ih (x + 1) _ _ (by omega) ((g3.z (by omega)).tr hk43))
          · refine r_iload_n dX5_sulks_49 rfl ?_
            refine r_iconst dX5_sulks_50 (k := ?_)
            refine r_iload dX5_sulks_51 rfl ?_
            refine r_ishl dX5_sulks_53 ?_
            refine r_ior dX5_sulks_54 ?_
            refine r_istore_n dX5_sulks_55 rfl ?_
            refine r_iinc dX5_sulks_56 rfl rfl ?_
            try rw [zw_id (by omega) (by omega)]
            refine r_goto (tgt := 16) dX5_sulks_59 (by decide) ?_
            first
              | (rw [sBits_1 (by omega) h46]; exact ih (x + 1) _ _ (by omega) ((g3.z (by omega)).tr hk43))
              | (rw [sBits_0 (v := x) h46]; exact ih (x + 1) _ _ (by omega) ((g3.z (by omega)).tr hk43))
    refine r_aload_n dX5_sulks_0 rfl ?_
    refine r_iload_n dX5_sulks_1 rfl ?_
    refine r_iload_n dX5_sulks_2 rfl ?_
    refine r_v2 (c_isPair _ _) kX5_136 rfl dX5_sulks_3 ?_
    refine r_ifd_ne (tgt := 11) dX5_sulks_6 (by decide) (fun h6 => ?_) (fun h6 => ?_)
    · refine r_iconst dX5_sulks_11 (k := ?_)
      refine r_istore_n dX5_sulks_12 rfl ?_
      refine r_iconst dX5_sulks_13 (k := ?_)
      refine r_istore dX5_sulks_14 rfl ?_
      exact loop 4 0 mem _ (by omega) kC.rf
    · exact absurd hc h6
  · rw [if_neg hc]
    refine r_aload_n dX5_sulks_0 rfl ?_
    refine r_iload_n dX5_sulks_1 rfl ?_
    refine r_iload_n dX5_sulks_2 rfl ?_
    refine r_v2 (c_isPair _ _) kX5_136 rfl dX5_sulks_3 ?_
    refine r_ifd_ne (tgt := 11) dX5_sulks_6 (by decide) (fun h6 => ?_) (fun h6 => ?_)
    · exact absurd h6 hc
    · refine r_iconst dX5_sulks_9 (k := ?_)
      refine r_iret dX5_sulks_10 ?_
      exact zPC.i rfl kC.rf
end
