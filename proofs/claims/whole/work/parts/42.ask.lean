/-! ===== ask: the class ===== -/
def sCn (f : Int → Bool) (v : Nat) : Int := zfor (fun u a => if f u then a + 1 else a) 0 v 0
theorem sCn_s {f : Int → Bool} {v : Nat} : sCn f (v + 1) = if f v then sCn f v + 1 else sCn f v := by
  unfold sCn
  rw [zfor_succ, Int.zero_add]
theorem sCn_b {f : Int → Bool} : ∀ v : Nat, 0 ≤ sCn f v ∧ sCn f v ≤ v
  | 0 => ⟨by show (0 : Int) ≤ 0; decide, by show (0 : Int) ≤ ((0 : Nat) : Int); decide⟩
  | v + 1 => by
    obtain ⟨a, b⟩ := sCn_b (f := f) v
    rw [sCn_s]
    split <;> omega
theorem sCn_lt {f : Int → Bool} {u : Nat} (h : f u = true) : ∀ v : Nat, u < v → sCn f u < sCn f v
  | 0, h2 => absurd h2 (by omega)
  | v + 1, h2 => by
    rw [sCn_s]
    by_cases e : u = v
    · rw [← e, h, if_pos rfl]; omega
    · have := sCn_lt h v (by omega)
      split <;> omega
theorem sCn_at {f : Int → Bool} {a : Int} (h0 : 0 ≤ a) : ∀ v : Nat, a < sCn f v → ∃ u : Nat, u < v ∧ f u = true ∧ sCn f u = a
  | 0, h => absurd h (show ¬ a < (0 : Int) by omega)
  | v + 1, h => by
    rw [sCn_s] at h
    by_cases e : a < sCn f v
    · obtain ⟨u, b, c⟩ := sCn_at h0 v e
      exact ⟨u, by omega, c⟩
    · split at h
      · rename_i hf
        exact ⟨v, by omega, hf, by omega⟩
      · exact absurd h e
/-- the courses of the kinds below v that may be -/
def sCrs (W : zVw) (i : Int) (f : Int → Bool) (v : Nat) (C : Int → Int) : Prop := ∀ u : Nat, u < v → f u = true → ∀ n j : Int, 0 ≤ n → n ≤ 20 → 0 ≤ j → j < W.1 → C (105 * sCn f u + (5 * n + j)) = vPl (vKind W i u) n j
def sMost (rows : Int) (C : Int → Int) (spot : Int) : Int := zfor (fun a m => max m (zfor (fun b al => if C (105 * a + spot) = C (105 * b + spot) then al + 1 else al) 0 rows.toNat 0)) 0 rows.toNat 0
def sAskS (N rows : Int) (C : Int → Int) : Int × Int := zfor (fun n a => zfor (fun j a => sJ (10 * n + j) (sMost rows C (5 * n + j)) a) 0 N.toNat a) 0 21 (-4, rows)
theorem sMost_c {rows : Int} {C D : Int → Int} {spot : Int} (h : ∀ a, 0 ≤ a → a < rows → C (105 * a + spot) = D (105 * a + spot)) : sMost rows C spot = sMost rows D spot := by
  unfold sMost
  refine zfor_congr _ _ _ (fun a m a0 a1 => ?_)
  rw [zfor_congr _ _ _ (fun b al b0 b1 => by rw [h a a0 (by omega), h b b0 (by omega)])]
/-- courses of the same world tell the same -/
theorem sAskS_c {W V : zVw} {i : Int} {f : Int → Bool} {C D : Int → Int} (h : VEQ W V) (hC : sCrs W i f 4 C) (hD : sCrs V i f 4 D) : sAskS W.1 (sCn f 4) C = sAskS V.1 (sCn f 4) D := by
  unfold sAskS
  have h1 : W.1 = V.1 := h.1
  rw [← h1]
  refine zfor_congr _ _ _ (fun n a n0 n1 => ?_)
  refine zfor_congr _ _ _ (fun j a j0 j1 => ?_)
  rw [sMost_c (fun a a0 a1 => ?_)]
  obtain ⟨u, u1, u2, u3⟩ := sCn_at a0 4 a1
  rw [← u3, hC u u1 u2 n j n0 (by omega) j0 (by omega), hD u u1 u2 n j n0 (by omega) j0 (by omega)]
  exact (h.kind i u).pl j0 (show j < W.1 by omega)
/-- the courses as they are -/
def sKk (f : Int → Bool) (a : Int) : Int := if f 0 = true ∧ a = sCn f 0 then 0 else if f 1 = true ∧ a = sCn f 1 then 1 else if f 2 = true ∧ a = sCn f 2 then 2 else 3
def sCan (W : zVw) (i : Int) (f : Int → Bool) : Int → Int := fun x => vPl (vKind W i (sKk f (x / 105))) (x % 105 / 5) (x % 5)
theorem sCan_ok {W : zVw} {i : Int} {f : Int → Bool} (h5 : W.1 ≤ 5) : sCrs W i f 4 (sCan W i f) := by
  intro u u1 u2 n j n0 n1 j0 j1
  unfold sCan
  have b := sCn_b (f := f) u
  rw [show (105 * sCn f u + (5 * n + j)) / 105 = sCn f u by omega, show (105 * sCn f u + (5 * n + j)) % 105 / 5 = n by omega, show (105 * sCn f u + (5 * n + j)) % 5 = j by omega]
  have e : sKk f (sCn f u) = u := by
    unfold sKk
    rcases (show u = 0 ∨ u = 1 ∨ u = 2 ∨ u = 3 by omega) with rfl | rfl | rfl | rfl
    · rw [if_pos ⟨u2, rfl⟩]; rfl
    · have q1 : f 0 = true → sCn f 0 < sCn f 1 := fun z => sCn_lt (u := 0) z 1 (by decide)
      rw [if_neg (fun z => by have := q1 z.1; omega), if_pos ⟨u2, rfl⟩]; rfl
    · have q1 : f 0 = true → sCn f 0 < sCn f 2 := fun z => sCn_lt (u := 0) z 2 (by decide)
      have q2 : f 1 = true → sCn f 1 < sCn f 2 := fun z => sCn_lt (u := 1) z 2 (by decide)
      rw [if_neg (fun z => by have := q1 z.1; omega), if_neg (fun z => by have := q2 z.1; omega), if_pos ⟨u2, rfl⟩]; rfl
    · have q1 : f 0 = true → sCn f 0 < sCn f 3 := fun z => sCn_lt (u := 0) z 3 (by decide)
      have q2 : f 1 = true → sCn f 1 < sCn f 3 := fun z => sCn_lt (u := 1) z 3 (by decide)
      have q3 : f 2 = true → sCn f 2 < sCn f 3 := fun z => sCn_lt (u := 2) z 3 (by decide)
      rw [if_neg (fun z => by have := q1 z.1; omega), if_neg (fun z => by have := q2 z.1; omega), if_neg (fun z => by have := q3 z.1; omega)]; rfl
  rw [e]
theorem zFy_63 {m : zM} {s : zS3} {Y : Int → Int} : zr (zFy m 8 s) 63 Y = zFy (zr m 63 Y) 8 s := zFy_ext (fun o h1 h2 => by
  by_cases e : o = 63
  · subst e; rw [zr_s, zr_s]
  · rw [zr_n e, zr_n e, zFy_o h1 h2]) (by rw [zr_n (by decide), zFy_2]) (fun k h1 h2 => by rw [zr_n (by decide), zr_n (by decide), zFy_b h1 h2]) (by rw [zr_n (by decide), zFy_10]) (by rw [zr_n (by decide), zFy_9])
theorem vC_63 {m : zM} {Y : Int → Int} : vC (zr m 63 Y) 8 = vC m 8 := by
  unfold vC
  simp (disch := decide) only [zr_n]
theorem zFI.z63 {m : zM} {Y : Int → Int} (h : zFI m 8) : zFI (zr m 63 Y) 8 := by
  unfold zFI
  simp (disch := decide) only [zr_n]
  exact h
/-- an answer with courses laid -/
def zPL (v : zV) (W : zVw) (i : Int) (f : Int → Bool) (m : zM) : Option zV → zM → Prop := fun r m' => r = some v ∧ kC m m' ∧ sCrs W i f 4 (m' 63)
section
variable {l : Launch} {G : zG} {R : Room} {own : String} {cc : ByteArray} {nL : Nat} {ret : Option FieldType} {Z : List Frame → Array Value → State → State → Prop} {kc ks : Nat} {Ex : State → Prop} {pc : Nat} {ls st : List zV} {mem mem' : zM}
variable {y : MethodName} {bytes : ByteArray} {nL' : Nat} {ret' : Option FieldType} {d index b ci : Nat} {v a1 a2 a3 : zV}
theorem r_vL2 {W : zVw} {i : Int} {f : Int → Bool} (hM : CT l G y bytes nL' ret' d (zR b :: [a1, a2]) mem (zPL v W i f mem)) (hk : zCl own index y bytes nL' ret' 2 ci) (hL9 : zL b = (ci, zNf ci)) (hd : decode cc pc = .ok (.invokevirtual index, 3)) (kk : ∀ m9, kC mem m9 → sCrs W i f 4 (m9 63) → SW l G R own cc nL ret Z kc ks Ex (pc + 3) ls (v :: st) m9) (hR : d + 1 ≤ R.frames ∧ 8 + (nL' + 11) + 100 * d ≤ R.locals := by exact ⟨Nat.le_of_ble_eq_true rfl, Nat.le_of_ble_eq_true rfl⟩) (hw : zwd st ≤ 8 := by exact Nat.le_of_ble_eq_true rfl) : SW l G R own cc nL ret Z kc ks Ex pc ls (a2 :: a1 :: zR b :: st) mem := by
  obtain ⟨h1, h2, h3, T, N, h4⟩ := hk
  exact r_callV hM h1 h2 hL9 h3 h4 rfl rfl hR hw hd (fun r m9 h9 => by obtain ⟨rfl, q1, q2⟩ := h9; exact kk m9 q1 q2)
end
section
variable {l : Launch} {G : zG} {mem : zM}
set_option maxRecDepth 100000 in
theorem c_mostLeft (rows spot : Int) (r0 : 0 ≤ rows) (r4 : rows ≤ 4) (p0 : 0 ≤ spot) (p1 : spot < 105) : KX5_mostLeft l G 1 [zR 0, zI rows, zI spot] mem (zP1 (zI (sMost rows (mem 63) spot)) mem) := by
  generalize hA : sMost rows (mem 63) spot = A
  refine CT.of' (own := RX5) (ls0 := [zR 0, zI rows, zI spot, zU, zU, zU, zU, zU]) rfl (by decide +kernel) (Nat.le_of_ble_eq_true rfl) rfl ?_
  have loop : ∀ (k : Nat) (x a : Int) (v6 v7 : zV), 0 ≤ x → x + k = rows → 0 ≤ a → a ≤ 4 → zfor (fun a m => max m (zfor (fun b al => if mem 63 (105 * a + spot) = mem 63 (105 * b + spot) then al + 1 else al) 0 rows.toNat 0)) x k a = A → SW l G (zrm 1) RX5 cX5_mostLeft 8 (some .int) (zZ G (zP1 (zI A) mem)) 0 0 (fun _ => True) 9 [zR 0, zI rows, zI spot, zI 105, zI a, zI x, v6, v7] [] mem := by
    intro k
    induction k with
    | zero =>
      intro x a v6 v7 h0 h1 a0 a1 he
      refine r_iload dX5_mostLeft_9 rfl ?_
      refine r_iload_n dX5_mostLeft_11 rfl ?_
      refine r_icmp_ge (tgt := 76) dX5_mostLeft_12 (by decide) (fun h12 => ?_) (fun h12 => ?_)
      · refine r_iload dX5_mostLeft_76 rfl ?_
        refine r_iret dX5_mostLeft_78 ?_
        exact zP1.ofI he
      · exact absurd (by omega) h12
    | succ k ih =>
      intro x a v6 v7 h0 h1 a0 a1 he
      rw [zfor] at he
      have inner : ∀ (q : Nat) (y al : Int), 0 ≤ y → y + q = rows → 0 ≤ al → al ≤ y → zfor (fun b al => if mem 63 (105 * x + spot) = mem 63 (105 * b + spot) then al + 1 else al) y q al = zfor (fun b al => if mem 63 (105 * x + spot) = mem 63 (105 * b + spot) then al + 1 else al) 0 rows.toNat 0 → SW l G (zrm 1) RX5 cX5_mostLeft 8 (some .int) (zZ G (zP1 (zI A) mem)) 0 0 (fun _ => True) 21 [zR 0, zI rows, zI spot, zI 105, zI a, zI x, zI al, zI y] [] mem := by
        intro q
        induction q with
        | zero =>
          intro y al g0 g1 g2 g3 hq
          rw [← hq] at he
          refine r_iload dX5_mostLeft_21 rfl ?_
          refine r_iload_n dX5_mostLeft_23 rfl ?_
          refine r_icmp_ge (tgt := 61) dX5_mostLeft_24 (by decide) (fun h24 => ?_) (fun h24 => ?_)
          · refine r_iload dX5_mostLeft_61 rfl ?_
            refine r_iload dX5_mostLeft_63 rfl ?_
            refine r_mmax kX5_275 dX5_mostLeft_65 ?_
            refine r_istore dX5_mostLeft_68 rfl ?_
            refine r_iinc dX5_mostLeft_70 rfl rfl ?_
            try rw [zw_id (by omega) (by omega)]
            refine r_goto (tgt := 9) dX5_mostLeft_73 (by decide) ?_
            exact ih _ _ _ _ (by omega) (by omega) (by omega) (by omega) he
          · exact absurd (by omega) h24
        | succ q ihq =>
          intro y al g0 g1 g2 g3 hq
          rw [zfor] at hq
          refine r_iload dX5_mostLeft_21 rfl ?_
          refine r_iload_n dX5_mostLeft_23 rfl ?_
          refine r_icmp_ge (tgt := 61) dX5_mostLeft_24 (by decide) (fun h24 => ?_) (fun h24 => ?_)
          · exact absurd h24 (by omega)
          · refine r_aload_n dX5_mostLeft_27 rfl ?_
            refine r_getR (q := 63) fX5_47 rfl rfl dX5_mostLeft_28 ?_
            refine r_iload dX5_mostLeft_31 rfl ?_
            refine r_iload_n dX5_mostLeft_33 rfl ?_
            refine r_imul dX5_mostLeft_34 ?_
            try rw [zw_id (by omega) (by omega)]
            rw [show x * 105 = 105 * x by omega]
            refine r_iload_n dX5_mostLeft_35 rfl ?_
            refine r_iadd dX5_mostLeft_36 ?_
            try rw [zw_id (by omega) (by omega)]
            refine r_iald rfl (by omega) (by omega) dX5_mostLeft_37 ?_
            refine r_aload_n dX5_mostLeft_38 rfl ?_
            refine r_getR (q := 63) fX5_47 rfl rfl dX5_mostLeft_39 ?_
            refine r_iload dX5_mostLeft_42 rfl ?_
            refine r_iload_n dX5_mostLeft_44 rfl ?_
            refine r_imul dX5_mostLeft_45 ?_
            try rw [zw_id (by omega) (by omega)]
            rw [show y * 105 = 105 * y by omega]
            refine r_iload_n dX5_mostLeft_46 rfl ?_
            refine r_iadd dX5_mostLeft_47 ?_
            try rw [zw_id (by omega) (by omega)]
            refine r_iald rfl (by omega) (by omega) dX5_mostLeft_48 ?_
            refine r_icmp_ne (tgt := 55) dX5_mostLeft_49 (by decide) (fun h49 => ?_) (fun h49 => ?_)
            · refine r_iinc dX5_mostLeft_55 rfl rfl ?_
              try rw [zw_id (by omega) (by omega)]
              refine r_goto (tgt := 21) dX5_mostLeft_58 (by decide) ?_
              first | exact ihq _ _ (by omega) (by omega) (by omega) (by omega) (by rw [if_pos h49] at hq; exact hq) | exact ihq _ _ (by omega) (by omega) (by omega) (by omega) (by rw [if_neg h49] at hq; exact hq)
            · refine r_iinc dX5_mostLeft_52 rfl rfl ?_
              try rw [zw_id (by omega) (by omega)]
              refine r_iinc dX5_mostLeft_55 rfl rfl ?_
              try rw [zw_id (by omega) (by omega)]
              refine r_goto (tgt := 21) dX5_mostLeft_58 (by decide) ?_
              first | exact ihq _ _ (by omega) (by omega) (by omega) (by omega) (by rw [if_pos h49] at hq; exact hq) | exact ihq _ _ (by omega) (by omega) (by omega) (by omega) (by rw [if_neg h49] at hq; exact hq)
      refine r_iload dX5_mostLeft_9 rfl ?_
      refine r_iload_n dX5_mostLeft_11 rfl ?_
      refine r_icmp_ge (tgt := 76) dX5_mostLeft_12 (by decide) (fun h12 => ?_) (fun h12 => ?_)
      · exact absurd h12 (by omega)
      · refine r_iconst dX5_mostLeft_15 (k := ?_)
        refine r_istore dX5_mostLeft_16 rfl ?_
        refine r_iconst dX5_mostLeft_18 (k := ?_)
        refine r_istore dX5_mostLeft_19 rfl ?_
        exact inner rows.toNat 0 0 (by omega) (by omega) (by omega) (by omega) rfl
  refine r_bipush dX5_mostLeft_0 (k := ?_)
  refine r_istore_n dX5_mostLeft_2 rfl ?_
  refine r_iconst dX5_mostLeft_3 (k := ?_)
  refine r_istore dX5_mostLeft_4 rfl ?_
  refine r_iconst dX5_mostLeft_6 (k := ?_)
  refine r_istore dX5_mostLeft_7 rfl ?_
  exact loop rows.toNat 0 0 _ _ (by omega) (by omega) (by omega) (by omega) hA
set_option maxRecDepth 100000 in
set_option maxHeartbeats 1000000 in
theorem c_layCourses (hI : zFI mem 1) (i : Int) (f : Int → Bool) (hi0 : 0 ≤ i) (hi1 : i < mem 1 0) : KX5_layCourses l G 5 [zR 0, zI i, zI (sBits f 4)] mem (zPL (zI (sCn f 4)) (vC mem 1) i f mem) := by
  obtain ⟨hn0, hn5, -⟩ := zFI1 hI
  refine CT.of' (own := RX5) (ls0 := [zR 0, zI i, zI (sBits f 4), zU, zU, zU, zU, zU]) rfl (by decide +kernel) (Nat.le_of_ble_eq_true rfl) rfl ?_
  have loop : ∀ (k : Nat) (x : Nat) (m : zM) (v5 v6 v7 : zV), x + k = 4 → kC mem m → sCrs (vC mem 1) i f x (m 63) → SW l G (zrm 5) RX5 cX5_layCourses 8 (some .int) (zZ G (zPL (zI (sCn f 4)) (vC mem 1) i f mem)) 0 0 (fun _ => True) 5 [zR 0, zI i, zI (sBits f 4), zI (sCn f x), zI x, v5, v6, v7] [] m := by
    intro k
    induction k with
    | zero =>
      intro x m v5 v6 v7 h1 hk hC
      have e4 : x = 4 := by omega
      subst e4
      refine r_iload dX5_layCourses_5 rfl ?_
      refine r_iconst dX5_layCourses_7 (k := ?_)
      refine r_icmp_ge (tgt := 95) dX5_layCourses_8 (by decide) (fun h8 => ?_) (fun h8 => ?_)
      · refine r_iload_n dX5_layCourses_95 rfl ?_
        refine r_iret dX5_layCourses_96 ?_
        exact ⟨rfl, hk, hC⟩
      · exact absurd (by omega) h8
    | succ k ih =>
      intro x m v5 v6 v7 h1 hk hC
      have hcn := sCn_b (f := f) x
      obtain ⟨g1, g2, g3⟩ := zBec_t hI hk
      have g5 : zFI (zs (zBec m 8 1) 9 i x) 8 := g1.kind
      have g6 : VEQ (vC (zs (zBec m 8 1) 9 i x) 8) (vKind (vC mem 1) i x) := by rw [show vC (zs (zBec m 8 1) 9 i x) 8 = vKind (vC (zBec m 8 1) 8) i x from vC_kind]; exact g2.kind _ _
      have g7 : kC mem (zs (zBec m 8 1) 9 i x) := g3.z (by omega)
      have g8 : (zs (zBec m 8 1) 9 i x) 63 = m 63 := by rw [zs_n (by decide), zBec_o (by omega)]
      generalize hM : zs (zBec m 8 1) 9 i x = M at *
      have ew : (vC M 8).1 = mem 1 0 := g6.1
      have e80 : M 8 0 = mem 1 0 := ew
      have sPc : ∀ k : Nat, sPB (M 8 0) (vDays (vC M 8) k).1 := fun k => vDays_bd (W := vC M 8) g5.1 g5.2.2.2.2.1
      have inner : f x = true → ∀ (q : Nat) (n : Nat) (Y : Int → Int) (v7 : zV), n + q = 21 → sCrs (vC mem 1) i f x Y → (∀ k j : Int, 0 ≤ k → k < n → 0 ≤ j → j < mem 1 0 → Y (105 * sCn f x + (5 * k + j)) = vPl (vC M 8) k j) → SW l G (zrm 5) RX5 cX5_layCourses 8 (some .int) (zZ G (zPL (zI (sCn f 4)) (vC mem 1) i f mem)) 0 0 (fun _ => True) 41 [zR 0, zI i, zI (sBits f 4), zI (sCn f x), zI x, zR 8, zI n, v7] [] (zFy (zr M 63 Y) 8 (vDays (vC M 8) n)) := by
        intro hf q
        induction q with
        | zero =>
          intro n Y v7 q1 q2 q3
          have fin := ih (x + 1) (zFy (zr M 63 Y) 8 (vDays (vC M 8) n)) (zR 8) (zI n) v7 (by omega) ((g7.r (by omega)).y) (by
            rw [zFy_o (by decide) (by decide), zr_s]
            intro u u1 u2 n' j n0 n1 j0 j1
            by_cases e : u = x
            · subst e
              rw [q3 n' j n0 (by omega) j0 j1]
              exact g6.pl j0 (show j < (vC M 8).1 by rw [ew]; exact j1)
            · exact q2 u (by omega) u2 n' j n0 n1 j0 j1)
          rw [sCn_s (v := x), if_pos hf] at fin
          refine r_iload dX5_layCourses_41 rfl ?_
          refine r_bipush dX5_layCourses_43 (k := ?_)
          refine r_icmp_gt (tgt := 86) dX5_layCourses_45 (by decide) (fun h45 => ?_) (fun h45 => ?_)
          · refine r_iinc dX5_layCourses_86 rfl rfl ?_
            try rw [zw_id (by omega) (by omega)]
            refine r_iinc dX5_layCourses_89 rfl rfl ?_
            try rw [zw_id (by omega) (by omega)]
            refine r_goto (tgt := 5) dX5_layCourses_92 (by decide) ?_
            exact fin
          · exact absurd (by omega) h45
        | succ q ihq =>
          intro n Y v7 q1 q2 q3
          have g4 : zFI (zr M 63 (zcp (vDays (vC M 8) n).1 Y 0 (105 * sCn f x + 5 * n) 5)) 8 := g5.z63
          have hpb : sPB (zr M 63 (zcp (vDays (vC M 8) n).1 Y 0 (105 * sCn f x + 5 * n) 5) 8 0) (vDays (vC M 8) n).1 := by rw [zr_n (by decide)]; exact sPc n
          have fin := ihq (n + 1) (zcp (vDays (vC M 8) n).1 Y 0 (105 * sCn f x + 5 * n) 5) (zI (105 * sCn f x + 5 * n)) (by omega) (fun u u1 u2 n' j n0 n1 j0 j1 => by
            have := sCn_lt u2 x u1
            have j1' : j < mem 1 0 := j1
            unfold zcp
            rw [if_neg (by omega)]
            exact q2 u u1 u2 n' j n0 n1 j0 j1) (fun k j k0 k1 j0 j1 => by
            unfold zcp
            by_cases e : k = n
            · rw [if_pos (by omega), e, show 0 + (105 * sCn f x + (5 * (n : Int) + j) - (105 * sCn f x + 5 * n)) = j by omega]
              unfold vPl
              rw [Int.toNat_natCast]
            · rw [if_neg (by omega)]
              exact q3 k j k0 (by omega) j0 j1)
          rw [vDays_s] at fin
          refine r_iload dX5_layCourses_41 rfl ?_
          refine r_bipush dX5_layCourses_43 (k := ?_)
          refine r_icmp_gt (tgt := 86) dX5_layCourses_45 (by decide) (fun h45 => ?_) (fun h45 => ?_)
          · exact absurd h45 (by omega)
          · refine r_iload_n dX5_layCourses_48 rfl ?_
            refine r_bipush dX5_layCourses_49 (k := ?_)
            refine r_imul dX5_layCourses_51 ?_
            try rw [zw_id (by omega) (by omega)]
            refine r_iload dX5_layCourses_52 rfl ?_
            refine r_iadd dX5_layCourses_54 ?_
            try rw [zw_id (by omega) (by omega)]
            refine r_iconst dX5_layCourses_55 (k := ?_)
            refine r_imul dX5_layCourses_56 ?_
            try rw [zw_id (by omega) (by omega)]
            rw [show (sCn f x * 21 + (n : Int)) * 5 = 105 * sCn f x + 5 * n by omega]
            refine r_istore dX5_layCourses_57 rfl ?_
            refine r_aload dX5_layCourses_59 rfl ?_
            refine r_getR (q := 10) fX5_118 rfl rfl dX5_layCourses_61 ?_
            try simp only [zFy_2, zFy_b0, zFy_b4, zFy_b8, zFy_1, zFy_3, zFy_4, zFy_5, zFy_6, zFy_10, zFy_9, zFy_y, zFy_10']
            refine r_iconst dX5_layCourses_64 (k := ?_)
            refine r_aload_n dX5_layCourses_65 rfl ?_
            refine r_getR (q := 63) fX5_47 rfl rfl dX5_layCourses_66 ?_
            try simp only [zFy_2, zFy_b0, zFy_b4, zFy_b8, zFy_1, zFy_3, zFy_4, zFy_5, zFy_6, zFy_10, zFy_9, zFy_y, zFy_10']
            refine r_iload dX5_layCourses_69 rfl ?_
            refine r_iconst dX5_layCourses_71 (k := ?_)
            refine r_copy lX5_269 rfl rfl (by omega) (by omega) (by omega) (by omega) (by omega) dX5_layCourses_72 ?_
            try simp only [zFy_2, zFy_b0, zFy_b4, zFy_b8, zFy_1, zFy_3, zFy_4, zFy_5, zFy_6, zFy_10, zFy_9, zFy_y, zFy_10']
            rw [zFy_63, zr_zr, zFy_o (by decide) (by decide), zr_s]
            refine r_aload dX5_layCourses_75 rfl ?_
            refine r_w0 (c_X0_passDay' hF8 (g4.y hpb)) kX5_181 rfl dX5_layCourses_77 ?_
            try simp only [zFy_2, zFy_b0, zFy_b4, zFy_b8, zFy_1, zFy_3, zFy_4, zFy_5, zFy_6, zFy_10, zFy_9, zFy_y, zFy_10']
            refine r_iinc dX5_layCourses_80 rfl rfl ?_
            try rw [zw_id (by omega) (by omega)]
            refine r_goto (tgt := 41) dX5_layCourses_83 (by decide) ?_
            have e2 : vStep (vC M 8) = vStep (vC (zr M 63 (zcp (vDays (vC M 8) n).1 Y 0 (105 * sCn f x + 5 * n) 5)) 8) := by rw [vC_63]
            rw [e2] at fin
            exact fin
      have fin := fun (hf : f x = true) v7 => inner hf 21 0 (m 63) v7 (by omega) hC (fun k j a b c d => absurd b (by omega))
      rw [vDays_0, zr_id g8, show zFy M 8 (vS0 (vC M 8)) = M from zFy_self] at fin
      have nf := fun (hf : f x = false) v5 v6 v7 => ih (x + 1) m v5 v6 v7 (by omega) hk (fun u u1 u2 => hC u (by
        have : u ≠ x := fun e => by rw [e, hf] at u2; exact absurd u2 (by decide)
        omega) u2)
      have nf2 : f x = false → sCn f (x + 1) = sCn f x := fun hf => by rw [sCn_s, hf, if_neg (by decide)]
      refine r_iload dX5_layCourses_5 rfl ?_
      refine r_iconst dX5_layCourses_7 (k := ?_)
      refine r_icmp_ge (tgt := 95) dX5_layCourses_8 (by decide) (fun h8 => ?_) (fun h8 => ?_)
      · exact absurd h8 (by omega)
      · refine r_iload_n dX5_layCourses_11 rfl ?_
        refine r_iload dX5_layCourses_12 rfl ?_
        refine r_ishr dX5_layCourses_14 ?_
        refine r_iconst dX5_layCourses_15 (k := ?_)
        refine r_iand dX5_layCourses_16 ?_
        rw [sBits_at f (by omega)]
        refine r_ifb_ne (tgt := 23) dX5_layCourses_17 (by decide) (fun h17 => ?_) (fun h17 => ?_)
        · refine r_aload_n dX5_layCourses_23 rfl ?_
          refine r_v0 (c_asItIs) kX5_177 rfl dX5_layCourses_24 ?_
          refine r_astore dX5_layCourses_27 rfl ?_
          refine r_aload dX5_layCourses_29 rfl ?_
          refine r_getR (q := 9) fX5_115 rfl rfl dX5_layCourses_31 ?_
          refine r_iload_n dX5_layCourses_34 rfl ?_
          refine r_iload dX5_layCourses_35 rfl ?_
          refine r_iast rfl (by omega) (by omega) dX5_layCourses_37 ?_
          rw [hM]
          refine r_iconst dX5_layCourses_38 (k := ?_)
          refine r_istore dX5_layCourses_39 rfl ?_
          exact fin h17 _
        · refine r_goto (tgt := 89) dX5_layCourses_20 (by decide) ?_
          refine r_iinc dX5_layCourses_89 rfl rfl ?_
          try rw [zw_id (by omega) (by omega)]
          refine r_goto (tgt := 5) dX5_layCourses_92 (by decide) ?_
          have nf := nf h17 v5 v6 v7
          rw [nf2 h17] at nf
          exact nf
  refine r_iconst dX5_layCourses_0 (k := ?_)
  refine r_istore_n dX5_layCourses_1 rfl ?_
  refine r_iconst dX5_layCourses_2 (k := ?_)
  refine r_istore dX5_layCourses_3 rfl ?_
  exact loop 4 0 mem _ _ _ (by omega) kC.rf (fun u u1 => absurd u1 (by omega))
end
