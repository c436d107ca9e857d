/-! ===== the class: lines ===== -/
def dC (m : zM) : zDr := (vC m 55, m 62, m 53 7, m 53 8)
def qPr (m : zM) (a : Int × Int × Int × Int) (m' : zM) : Prop := (∀ o, o ≠ 53 → m' o = m o) ∧ (∀ j, j < 8 → m' 53 j = m 53 j) ∧ m' 53 8 = max (m 53 8) (max a.1 a.2.1) ∧ m' 53 9 = a.2.2.1 ∧ m' 53 11 = a.2.2.2 ∧ m' 53 13 = a.1 ∧ m' 53 14 = a.2.1
def qLn (m : zM) (b : zDr × Int) (m' : zM) : Prop := dC m' = b.1 ∧ m' 53 9 = b.2 ∧ m' 53 3 = m 53 3 ∧ m' 53 4 = m 53 4
theorem dC_k {m m' : zM} (h : kK m m') : dC m' = dC m := by
  unfold dC vC
  rw [h.1 62 (by decide), h.1 55 (by decide), h.1 (55 + 1) (by decide), h.1 (55 + 2) (by decide), h.1 (55 + 3) (by decide), h.1 (55 + 4) (by decide), h.1 (55 + 5) (by decide), h.1 (55 + 6) (by decide), h.2 7 (by decide) (by decide) (by decide) (by decide), h.2 8 (by decide) (by decide) (by decide) (by decide)]
theorem kL.of {m m' : zM} (h : kL m) (h1 : m' 53 1 = m 53 1) (h2 : m 53 9 ≤ m' 53 9) (h3 : m' 53 9 ≤ m 53 1) : kL m' := by
  obtain ⟨a, b, c⟩ := h
  exact ⟨by omega, by omega, by omega⟩
theorem sRs_e {t : Int → Int} {L : Int} {x : Except zEr (zDr × Int)} {e : zEr} (h : x = .error e) : sRs t L x = .error e := by subst h; rfl
theorem sRs_2 {t : Int → Int} {L : Int} {x : Except zEr (zDr × Int)} {b : zDr × Int} {e : zEr} (h : x = .ok b) (h2 : sStp t L b.2 = .error e) : sRs t L x = .error e := by subst h; unfold sRs; simp only [h2]
theorem sRs_k {t : Int → Int} {L q : Int} {x : Except zEr (zDr × Int)} {b : zDr × Int} (h : x = .ok b) (h2 : sStp t L b.2 = .ok q) : sRs t L x = .ok (b.1, q) := by subst h; unfold sRs; simp only [h2]
/-- the end of each line, behind its two isles or its name -/
def sEg (t : Int → Int) (L p : Int) (D : zDr) (i j f : Int) : Except zEr (zDr × Int) := if D.2.1 (5 * i + j) = 0 then (match sNum t L p 0 3 with
  | .error e => .error e
  | .ok b => .ok ((vGrudge D.1 i j b.1, zu D.2.1 (5 * i + j) 1, D.2.2.1, D.2.2.2), b.2.1)) else .error (4, f)
def sEr (t : Int → Int) (L p : Int) (D : zDr) (i j : Int) : Except zEr (zDr × Int) := match sNum t L p 1 30 with
  | .error e => .error e
  | .ok b => .ok ((vRope D.1 i j b.1, D.2.1, D.2.2.1, D.2.2.2), b.2.1)
def sEf (t : Int → Int) (L p : Int) (D : zDr) : Except zEr (zDr × Int) := match sNum t L p 0 6 with
  | .error e => .error e
  | .ok b => .ok (dFeast D b.1, b.2.1)
def sEi (t : Int → Int) (L p : Int) (D : zDr) (kd : Int) : Except zEr (zDr × Int) := match sNum t L p 0 99 with
  | .error e => .error e
  | .ok a => if sTaken D.1.1 (dP D) a.1 (-4) = true then .error (4, a.2.2) else .ok (dIsle D kd a.1, a.2.1)
section
variable {l : Launch} {G : zG} {mem : zM} {t : Int → Int} {L p : Int}
set_option maxRecDepth 100000 in
theorem c_takePair (hL : kL mem) (ht : mem 54 = t) (hl : mem 53 1 = L) (hp : mem 53 9 = p) : KX2_takePair l G 3 [zR 53] mem (zPX (sPr t L p) (qPr mem) mem) := by
  obtain ⟨b0, b1, b2⟩ := id hL
  refine CT.of' (own := RX2) (ls0 := [zR 53]) rfl (by decide +kernel) (Nat.le_of_ble_eq_true rfl) rfl ?_
  refine r_aload_n dX2_takePair_0 rfl ?_
  refine r_iconst dX2_takePair_1 (k := ?_)
  refine r_iconst dX2_takePair_2 (k := ?_)
  refine r_vX2 (c_takeNumber 0 4 hL ht hl hp) kX2_132 rfl dX2_takePair_3 (fun e3 m3 x3 k3 f3 g3 => ?_) (fun a3 m3 x3 k3 q3 => ?_)
  ·
    refine r_if_ne (tgt := 11) dX2_takePair_6 (by decide) (fun h6 => absurd h6 (by decide)) (fun h6 => ?_)
    refine r_iconst dX2_takePair_9 (k := ?_)
    refine r_zret dX2_takePair_10 (by decide) ?_
    exact zPX.e (sPr_1 x3) k3 f3 g3
  · obtain ⟨hk, q9, q11, q12⟩ := q3
    have n3 := sNum_ok (by omega) x3
    have l3 := hk.2 1 (by decide) (by decide) (by decide) (by decide)
    have hL2 : kL (zs m3 53 13 (m3 53 12)) := hL.of (by simp (disch := omega) only [zs_n, zs_v, zs_k]; exact l3) (by simp (disch := omega) only [zs_n, zs_v, zs_k]; omega) (by simp (disch := omega) only [zs_n, zs_v, zs_k]; omega)
    refine r_if_ne (tgt := 11) dX2_takePair_6 (by decide) (fun h6 => ?_) (fun h6 => absurd h6 (by decide))
    refine r_aload_n dX2_takePair_11 rfl ?_
    refine r_aload_n dX2_takePair_12 rfl ?_
    refine r_gI (q := 12) rfl fX2_55 rfl (by decide) dX2_takePair_13 ?_
    refine r_pI (q := 13) rfl pX2_58 rfl dX2_takePair_16 ?_
    refine r_aload_n dX2_takePair_19 rfl ?_
    refine r_iconst dX2_takePair_20 (k := ?_)
    refine r_iconst dX2_takePair_21 (k := ?_)
    refine r_vX2 (c_takeNumber (t := t) (L := L) (p := a3.2.1) 0 4 hL2 (by rw [zs_n (by decide), hk.1 54 (by decide)]; exact ht) (by rw [zs_k (by decide), l3]; exact hl) (by rw [zs_k (by decide)]; exact q9)) kX2_132 rfl dX2_takePair_22 (fun e22 m22 x22 k22 f22 g22 => ?_) (fun a22 m22 x22 k22 q22 => ?_)
    ·
      refine r_if_ne (tgt := 30) dX2_takePair_25 (by decide) (fun h25 => absurd h25 (by decide)) (fun h25 => ?_)
      refine r_iconst dX2_takePair_28 (k := ?_)
      refine r_zret dX2_takePair_29 (by decide) ?_
      exact zPX.e (sPr_2 x3 x22) ((k3.s (by decide)).tr k22) f22 g22
    · obtain ⟨hk2, r9, r11, r12⟩ := q22
      have kt := (k3.s (k := 13) (v := m3 53 12) (by decide)).tr k22
      have o13 : m22 53 13 = a3.1 := by rw [hk2.2 13 (by decide) (by decide) (by decide) (by decide), zs_v]; exact q12
      have o8 : m22 53 8 = mem 53 8 := by rw [hk2.2 8 (by decide) (by decide) (by decide) (by decide), zs_k (by decide), hk.2 8 (by decide) (by decide) (by decide) (by decide)]
      refine r_if_ne (tgt := 30) dX2_takePair_25 (by decide) (fun h25 => ?_) (fun h25 => absurd h25 (by decide))
      refine r_aload_n dX2_takePair_30 rfl ?_
      refine r_aload_n dX2_takePair_31 rfl ?_
      refine r_gI (q := 12) rfl fX2_55 rfl (by decide) dX2_takePair_32 ?_
      try simp (disch := omega) only [zs_n, zs_v, zs_k, o13, o8, r12]
      refine r_pI (q := 14) rfl pX2_61 rfl dX2_takePair_35 ?_
      refine r_aload_n dX2_takePair_38 rfl ?_
      refine r_aload_n dX2_takePair_39 rfl ?_
      refine r_gI (q := 8) rfl fX2_43 rfl (by decide) dX2_takePair_40 ?_
      try simp (disch := omega) only [zs_n, zs_v, zs_k, o13, o8, r12]
      refine r_aload_n dX2_takePair_43 rfl ?_
      refine r_gI (q := 13) rfl fX2_58 rfl (by decide) dX2_takePair_44 ?_
      try simp (disch := omega) only [zs_n, zs_v, zs_k, o13, o8, r12]
      refine r_aload_n dX2_takePair_47 rfl ?_
      refine r_gI (q := 14) rfl fX2_61 rfl (by decide) dX2_takePair_48 ?_
      try simp (disch := omega) only [zs_n, zs_v, zs_k, o13, o8, r12]
      refine r_mmax kX2_146 dX2_takePair_51 ?_
      try simp (disch := omega) only [zs_n, zs_v, zs_k, o13, o8, r12]
      refine r_mmax kX2_146 dX2_takePair_54 ?_
      try simp (disch := omega) only [zs_n, zs_v, zs_k, o13, o8, r12]
      refine r_pI (q := 8) rfl pX2_43 rfl dX2_takePair_57 ?_
      refine r_aload_n dX2_takePair_60 rfl ?_
      refine r_gI (q := 13) rfl fX2_58 rfl (by decide) dX2_takePair_61 ?_
      try simp (disch := omega) only [zs_n, zs_v, zs_k, o13, o8, r12]
      refine r_aload_n dX2_takePair_64 rfl ?_
      refine r_gI (q := 14) rfl fX2_61 rfl (by decide) dX2_takePair_65 ?_
      try simp (disch := omega) only [zs_n, zs_v, zs_k, o13, o8, r12]
      refine r_icmp_ne (tgt := 79) dX2_takePair_68 (by decide) (fun h68 => ?_) (fun h68 => ?_)
      · refine r_iconst dX2_takePair_79 (k := ?_)
        refine r_goto (tgt := 84) dX2_takePair_80 (by decide) ?_
        refine r_zret dX2_takePair_84 (by decide) ?_
        first
          | exact zPX.k (sPr_k x3 x22 (by omega)) (by repeat first | exact kt | refine kT.s ?_ (by decide)) ⟨fun o ho => by rw [zs_n ho, zs_n ho, hk2.1 o ho, zs_n ho, hk.1 o ho], fun j hj => by rw [zs_k (by omega), zs_k (by omega), hk2.2 j (by omega) (by omega) (by omega) (by omega), zs_k (by omega), hk.2 j (by omega) (by omega) (by omega) (by omega)], by rw [zs_v], by rw [zs_k (by decide), zs_k (by decide)]; exact r9, by rw [zs_k (by decide), zs_k (by decide)]; exact r11, by rw [zs_k (by decide), zs_k (by decide)]; exact o13, by rw [zs_k (by decide), zs_v]⟩
          | exact zPX.e (sPr_3 x3 x22 (by omega)) (by repeat first | exact kt | refine kT.s ?_ (by decide)) (by simp (disch := omega) only [zs_n, zs_v, zs_k]) (by simp (disch := omega) only [zs_n, zs_v, zs_k]; exact r11)
      · refine r_aload_n dX2_takePair_71 rfl ?_
        refine r_iconst dX2_takePair_72 (k := ?_)
        refine r_v1 (c_fail _) kX2_74 rfl dX2_takePair_73 ?_
        try simp (disch := omega) only [zs_n, zs_v, zs_k, o13, o8, r12]
        refine r_if_eq (tgt := 83) dX2_takePair_76 (by decide) (fun h76 => ?_) (fun h76 => absurd h76 (by decide))
        refine r_iconst dX2_takePair_83 (k := ?_)
        refine r_zret dX2_takePair_84 (by decide) ?_
        first
          | exact zPX.k (sPr_k x3 x22 (by omega)) (by repeat first | exact kt | refine kT.s ?_ (by decide)) ⟨fun o ho => by rw [zs_n ho, zs_n ho, hk2.1 o ho, zs_n ho, hk.1 o ho], fun j hj => by rw [zs_k (by omega), zs_k (by omega), hk2.2 j (by omega) (by omega) (by omega) (by omega), zs_k (by omega), hk.2 j (by omega) (by omega) (by omega) (by omega)], by rw [zs_v], by rw [zs_k (by decide), zs_k (by decide)]; exact r9, by rw [zs_k (by decide), zs_k (by decide)]; exact r11, by rw [zs_k (by decide), zs_k (by decide)]; exact o13, by rw [zs_k (by decide), zs_v]⟩
          | exact zPX.e (sPr_3 x3 x22 (by omega)) (by repeat first | exact kt | refine kT.s ?_ (by decide)) (by simp (disch := omega) only [zs_n, zs_v, zs_k]) (by simp (disch := omega) only [zs_n, zs_v, zs_k]; exact r11)
theorem dC_gr {m : zM} {i j v : Int} : dC (zs (zs m 62 (5 * i + j) 1) 58 (5 * i + j) v) = (vGrudge (dC m).1 i j v, zu (dC m).2.1 (5 * i + j) 1, (dC m).2.2.1, (dC m).2.2.2) := by
  unfold dC vGrudge vC
  simp (disch := omega) only [zs_n, zs_s, zs_v, zs_k]
set_option maxRecDepth 100000 in
theorem c_takeGrudge {i j : Int} (hL : kL mem) (ht : mem 54 = t) (hl : mem 53 1 = L) (hp : mem 53 9 = p) (h13 : mem 53 13 = i) (h14 : mem 53 14 = j) (i0 : 0 ≤ i) (i4 : i ≤ 4) (j0 : 0 ≤ j) (j4 : j ≤ 4) : KX2_takeGrudge l G 3 [zR 53] mem (zPX (sRs t L (sEg t L p (dC mem) i j (mem 53 11))) (qLn mem) mem) := by
  obtain ⟨b0, b1, b2⟩ := id hL
  have e5 : i * 5 + j = 5 * i + j := by omega
  refine CT.of' (own := RX2) (ls0 := [zR 53]) rfl (by decide +kernel) (Nat.le_of_ble_eq_true rfl) rfl ?_
  refine r_aload_n dX2_takeGrudge_0 rfl ?_
  refine r_getR (q := 62) fX2_35 rfl rfl dX2_takeGrudge_1 ?_
  try simp only [h13, h14]
  refine r_aload_n dX2_takeGrudge_4 rfl ?_
  refine r_gI (q := 13) rfl fX2_58 rfl (by decide) dX2_takeGrudge_5 ?_
  try simp only [h13, h14]
  refine r_iconst dX2_takeGrudge_8 (k := ?_)
  refine r_imul dX2_takeGrudge_9 ?_
  try rw [zw_id (by omega) (by omega)]
  refine r_aload_n dX2_takeGrudge_10 rfl ?_
  refine r_gI (q := 14) rfl fX2_61 rfl (by decide) dX2_takeGrudge_11 ?_
  try simp only [h13, h14]
  refine r_iadd dX2_takeGrudge_14 ?_
  try rw [zw_id (by omega) (by omega)]
  rw [e5]
  refine r_zald rfl (by omega) (by omega) dX2_takeGrudge_15 ?_
  try simp only [h13, h14]
  refine r_if_eq (tgt := 25) dX2_takeGrudge_16 (by decide) (fun h16 => ?_) (fun h16 => ?_)
  · have h16 : (dC mem).2.1 (5 * i + j) = 0 := h16
    refine r_aload_n dX2_takeGrudge_25 rfl ?_
    refine r_iconst dX2_takeGrudge_26 (k := ?_)
    refine r_iconst dX2_takeGrudge_27 (k := ?_)
    refine r_vX2 (c_takeNumber 0 3 hL ht hl hp) kX2_132 rfl dX2_takeGrudge_28 (fun e28 m28 x28 k28 f28 g28 => ?_) (fun a28 m28 x28 k28 q28 => ?_)
    · have hs : sEg t L p (dC mem) i j (mem 53 11) = .error e28 := by unfold sEg; rw [if_pos h16]; simp only [x28]
      refine r_if_ne (tgt := 36) dX2_takeGrudge_31 (by decide) (fun h31 => absurd h31 (by decide)) (fun h31 => ?_)
      refine r_iconst dX2_takeGrudge_34 (k := ?_)
      refine r_zret dX2_takeGrudge_35 (by decide) ?_
      exact zPX.e (sRs_e hs) k28 f28 g28
    · have hs : sEg t L p (dC mem) i j (mem 53 11) = .ok ((vGrudge (dC mem).1 i j a28.1, zu (dC mem).2.1 (5 * i + j) 1, (dC mem).2.2.1, (dC mem).2.2.2), a28.2.1) := by unfold sEg; rw [if_pos h16]; simp only [x28]
      obtain ⟨hk, q9, q11, q12⟩ := q28
      have n3 := sNum_ok (by omega) x28
      have l3 := hk.2 1 (by decide) (by decide) (by decide) (by decide)
      have o13 : m28 53 13 = i := by rw [hk.2 13 (by decide) (by decide) (by decide) (by decide)]; exact h13
      have o14 : m28 53 14 = j := by rw [hk.2 14 (by decide) (by decide) (by decide) (by decide)]; exact h14
      have hL2 : kL (zs (zs m28 62 (5 * i + j) 1) 58 (5 * i + j) a28.1) := hL.of (by simp (disch := omega) only [zs_n, zs_v, zs_k]; exact l3) (by simp (disch := omega) only [zs_n, zs_v, zs_k]; omega) (by simp (disch := omega) only [zs_n, zs_v, zs_k]; omega)
      refine r_if_ne (tgt := 36) dX2_takeGrudge_31 (by decide) (fun h31 => ?_) (fun h31 => absurd h31 (by decide))
      refine r_aload_n dX2_takeGrudge_36 rfl ?_
      refine r_getR (q := 62) fX2_35 rfl rfl dX2_takeGrudge_37 ?_
      try simp (disch := omega) only [zs_n, zs_v, zs_k, o13, o14, q12]
      refine r_aload_n dX2_takeGrudge_40 rfl ?_
      refine r_gI (q := 13) rfl fX2_58 rfl (by decide) dX2_takeGrudge_41 ?_
      try simp (disch := omega) only [zs_n, zs_v, zs_k, o13, o14, q12]
      refine r_iconst dX2_takeGrudge_44 (k := ?_)
      refine r_imul dX2_takeGrudge_45 ?_
      try rw [zw_id (by omega) (by omega)]
      refine r_aload_n dX2_takeGrudge_46 rfl ?_
      refine r_gI (q := 14) rfl fX2_61 rfl (by decide) dX2_takeGrudge_47 ?_
      try simp (disch := omega) only [zs_n, zs_v, zs_k, o13, o14, q12]
      refine r_iadd dX2_takeGrudge_50 ?_
      try rw [zw_id (by omega) (by omega)]
      rw [e5]
      refine r_iconst dX2_takeGrudge_51 (k := ?_)
      refine r_zast rfl (by omega) (by omega) (by decide) dX2_takeGrudge_52 ?_
      refine r_aload_n dX2_takeGrudge_53 rfl ?_
      refine r_getR (q := 55) fX2_22 rfl rfl dX2_takeGrudge_54 ?_
      try simp (disch := omega) only [zs_n, zs_v, zs_k, o13, o14, q12]
      refine r_aload_n dX2_takeGrudge_57 rfl ?_
      refine r_gI (q := 13) rfl fX2_58 rfl (by decide) dX2_takeGrudge_58 ?_
      try simp (disch := omega) only [zs_n, zs_v, zs_k, o13, o14, q12]
      refine r_aload_n dX2_takeGrudge_61 rfl ?_
      refine r_gI (q := 14) rfl fX2_61 rfl (by decide) dX2_takeGrudge_62 ?_
      try simp (disch := omega) only [zs_n, zs_v, zs_k, o13, o14, q12]
      refine r_aload_n dX2_takeGrudge_65 rfl ?_
      refine r_gI (q := 12) rfl fX2_55 rfl (by decide) dX2_takeGrudge_66 ?_
      try simp (disch := omega) only [zs_n, zs_v, zs_k, o13, o14, q12]
      refine r_w3 (c_X0_setGrudge hF55 _ _ _ i0 (by omega) j0 (by omega)) kX2_152 rfl dX2_takeGrudge_69 ?_
      try simp (disch := omega) only [zs_n, zs_v, zs_k, o13, o14, q12]
      refine r_aload_n dX2_takeGrudge_72 rfl ?_
      refine r_vX0 (c_takeStop (t := t) (L := L) (p := a28.2.1) hL2 (by rw [zs_n (by decide), zs_n (by decide), hk.1 54 (by decide)]; exact ht) (by rw [zs_n (by decide), zs_n (by decide), l3]; exact hl) (by rw [zs_n (by decide), zs_n (by decide)]; exact q9)) kX2_143 rfl dX2_takeGrudge_73 (fun e73 m73 x73 k73 f73 g73 => ?_) (fun a73 m73 x73 k73 q73 => ?_)
      · refine r_zret dX2_takeGrudge_76 (by decide) ?_
        exact zPX.e (sRs_2 hs x73) (((k28.z (by decide)).z (by decide)).tr k73) f73 g73
      · obtain ⟨hk3, r9⟩ := q73
        have kt := ((k28.z (o := 62) (k := 5 * i + j) (v := 1) (by decide)).z (o := 58) (k := 5 * i + j) (v := a28.1) (by decide)).tr k73
        refine r_zret dX2_takeGrudge_76 (by decide) ?_
        refine zPX.k (sRs_k hs x73) kt ⟨?_, r9, ?_, ?_⟩
        · rw [dC_k hk3, ← dC_k hk]; exact dC_gr
        · rw [hk3.2 3 (by decide) (by decide) (by decide) (by decide), zs_n (by decide), zs_n (by decide), hk.2 3 (by decide) (by decide) (by decide) (by decide)]
        · rw [hk3.2 4 (by decide) (by decide) (by decide) (by decide), zs_n (by decide), zs_n (by decide), hk.2 4 (by decide) (by decide) (by decide) (by decide)]
  · have h16 : ¬ (dC mem).2.1 (5 * i + j) = 0 := h16
    have hs : sEg t L p (dC mem) i j (mem 53 11) = .error (4, mem 53 11) := by unfold sEg; rw [if_neg h16]
    refine r_aload_n dX2_takeGrudge_19 rfl ?_
    refine r_iconst dX2_takeGrudge_20 (k := ?_)
    refine r_v1 (c_fail _) kX2_74 rfl dX2_takeGrudge_21 ?_
    try simp (disch := omega) only [zs_n, zs_v, zs_k, o13, o14, q12]
    refine r_zret dX2_takeGrudge_24 (by decide) ?_
    exact zPX.e (sRs_e hs) (by repeat first | assumption | exact kT.rf | refine kT.s ?_ (by decide) | refine kT.z ?_ (by decide)) (by simp (disch := omega) only [zs_n, zs_v, zs_k]) (by simp (disch := omega) only [zs_n, zs_v, zs_k])
set_option maxRecDepth 100000 in
theorem c_takeRope {i j : Int} (hL : kL mem) (ht : mem 54 = t) (hl : mem 53 1 = L) (hp : mem 53 9 = p) (h13 : mem 53 13 = i) (h14 : mem 53 14 = j) (r0 : 0 ≤ mem 55 4) (r6 : mem 55 4 < 6) : KX2_takeRope l G 3 [zR 53] mem (zPX (sRs t L (sEr t L p (dC mem) i j)) (qLn mem) mem) := by
  obtain ⟨b0, b1, b2⟩ := id hL
  refine CT.of' (own := RX2) (ls0 := [zR 53]) rfl (by decide +kernel) (Nat.le_of_ble_eq_true rfl) rfl ?_
  refine r_aload_n dX2_takeRope_0 rfl ?_
  refine r_iconst dX2_takeRope_1 (k := ?_)
  refine r_bipush dX2_takeRope_2 (k := ?_)
  refine r_vX2 (c_takeNumber 1 30 hL ht hl hp) kX2_132 rfl dX2_takeRope_4 (fun e4 m4 x4 k4 f4 g4 => ?_) (fun a4 m4 x4 k4 q4 => ?_)
  · have hs : sEr t L p (dC mem) i j = .error e4 := by unfold sEr; simp only [x4]
    refine r_if_ne (tgt := 12) dX2_takeRope_7 (by decide) (fun h7 => absurd h7 (by decide)) (fun h7 => ?_)
    refine r_iconst dX2_takeRope_10 (k := ?_)
    refine r_zret dX2_takeRope_11 (by decide) ?_
    exact zPX.e (sRs_e hs) k4 f4 g4
  · have hs : sEr t L p (dC mem) i j = .ok ((vRope (dC mem).1 i j a4.1, (dC mem).2.1, (dC mem).2.2.1, (dC mem).2.2.2), a4.2.1) := by unfold sEr; simp only [x4]
    obtain ⟨hk, q9, q11, q12⟩ := q4
    have n3 := sNum_ok (by omega) x4
    have l3 := hk.2 1 (by decide) (by decide) (by decide) (by decide)
    have o13 : m4 53 13 = i := by rw [hk.2 13 (by decide) (by decide) (by decide) (by decide)]; exact h13
    have o14 : m4 53 14 = j := by rw [hk.2 14 (by decide) (by decide) (by decide) (by decide)]; exact h14
    have o55 : m4 55 = mem 55 := hk.1 55 (by decide)
    have o4 : m4 55 4 = mem 55 4 := by rw [o55]
    have hL2 : kL (zs (zs (zs (zs m4 59 (m4 55 4) i) 60 (m4 55 4) j) 61 (m4 55 4) a4.1) 55 4 (m4 55 4 + 1)) := hL.of (by simp (disch := omega) only [zs_n, zs_v, zs_k]; exact l3) (by simp (disch := omega) only [zs_n, zs_v, zs_k]; omega) (by simp (disch := omega) only [zs_n, zs_v, zs_k]; omega)
    refine r_if_ne (tgt := 12) dX2_takeRope_7 (by decide) (fun h7 => ?_) (fun h7 => absurd h7 (by decide))
    refine r_aload_n dX2_takeRope_12 rfl ?_
    refine r_getR (q := 55) fX2_22 rfl rfl dX2_takeRope_13 ?_
    try simp (disch := omega) only [zs_n, zs_v, zs_k, o13, o14, q12]
    refine r_aload_n dX2_takeRope_16 rfl ?_
    refine r_gI (q := 13) rfl fX2_58 rfl (by decide) dX2_takeRope_17 ?_
    try simp (disch := omega) only [zs_n, zs_v, zs_k, o13, o14, q12]
    refine r_aload_n dX2_takeRope_20 rfl ?_
    refine r_gI (q := 14) rfl fX2_61 rfl (by decide) dX2_takeRope_21 ?_
    try simp (disch := omega) only [zs_n, zs_v, zs_k, o13, o14, q12]
    refine r_aload_n dX2_takeRope_24 rfl ?_
    refine r_gI (q := 12) rfl fX2_55 rfl (by decide) dX2_takeRope_25 ?_
    try simp (disch := omega) only [zs_n, zs_v, zs_k, o13, o14, q12]
    refine r_w3 (c_X0_addRope hF55 _ _ _ (by omega) (by omega)) kX2_156 rfl dX2_takeRope_28 ?_
    try simp (disch := omega) only [zs_n, zs_v, zs_k, o13, o14, q12]
    refine r_aload_n dX2_takeRope_31 rfl ?_
    refine r_vX0 (c_takeStop (t := t) (L := L) (p := a4.2.1) hL2 (by simp (disch := omega) only [zs_n, zs_v, zs_k]; rw [hk.1 54 (by decide)]; exact ht) (by simp (disch := omega) only [zs_n, zs_v, zs_k]; rw [l3]; exact hl) (by simp (disch := omega) only [zs_n, zs_v, zs_k]; exact q9)) kX2_143 rfl dX2_takeRope_32 (fun e32 m32 x32 k32 f32 g32 => ?_) (fun a32 m32 x32 k32 q32 => ?_)
    · refine r_zret dX2_takeRope_35 (by decide) ?_
      exact zPX.e (sRs_2 hs x32) (((((k4.z (by decide)).z (by decide)).z (by decide)).z (by decide)).tr k32) f32 g32
    · obtain ⟨hk3, r9⟩ := q32
      have kt := ((((k4.z (o := 59) (k := m4 55 4) (v := i) (by decide)).z (o := 60) (k := m4 55 4) (v := j) (by decide)).z (o := 61) (k := m4 55 4) (v := a4.1) (by decide)).z (o := 55) (k := 4) (v := m4 55 4 + 1) (by decide)).tr k32
      refine r_zret dX2_takeRope_35 (by decide) ?_
      refine zPX.k (sRs_k hs x32) kt ⟨?_, r9, ?_, ?_⟩
      · rw [dC_k hk3, ← dC_k hk]
        unfold dC
        rw [vC_rope (b := 55)]
        simp (disch := omega) only [zs_n, zs_v, zs_k]
      · rw [hk3.2 3 (by decide) (by decide) (by decide) (by decide)]; simp (disch := omega) only [zs_n, zs_v, zs_k]; exact hk.2 3 (by decide) (by decide) (by decide) (by decide)
      · rw [hk3.2 4 (by decide) (by decide) (by decide) (by decide)]; simp (disch := omega) only [zs_n, zs_v, zs_k]; exact hk.2 4 (by decide) (by decide) (by decide) (by decide)
set_option maxRecDepth 100000 in
theorem c_takeFeast (hL : kL mem) (ht : mem 54 = t) (hl : mem 53 1 = L) (hp : mem 53 9 = p) : KX2_takeFeast l G 3 [zR 53] mem (zPX (sRs t L (sEf t L p (dC mem))) (qLn mem) mem) := by
  obtain ⟨b0, b1, b2⟩ := id hL
  refine CT.of' (own := RX2) (ls0 := [zR 53]) rfl (by decide +kernel) (Nat.le_of_ble_eq_true rfl) rfl ?_
  refine r_aload_n dX2_takeFeast_0 rfl ?_
  refine r_iconst dX2_takeFeast_1 (k := ?_)
  refine r_bipush dX2_takeFeast_2 (k := ?_)
  refine r_vX2 (c_takeNumber 0 6 hL ht hl hp) kX2_132 rfl dX2_takeFeast_4 (fun e4 m4 x4 k4 f4 g4 => ?_) (fun a4 m4 x4 k4 q4 => ?_)
  · have hs : sEf t L p (dC mem) = .error e4 := by unfold sEf; simp only [x4]
    refine r_if_ne (tgt := 12) dX2_takeFeast_7 (by decide) (fun h7 => absurd h7 (by decide)) (fun h7 => ?_)
    refine r_iconst dX2_takeFeast_10 (k := ?_)
    refine r_zret dX2_takeFeast_11 (by decide) ?_
    exact zPX.e (sRs_e hs) k4 f4 g4
  · have hs : sEf t L p (dC mem) = .ok (dFeast (dC mem) a4.1, a4.2.1) := by unfold sEf; simp only [x4]
    obtain ⟨hk, q9, q11, q12⟩ := q4
    have n3 := sNum_ok (by omega) x4
    have l3 := hk.2 1 (by decide) (by decide) (by decide) (by decide)
    have hL2 : kL (zs (zs m4 53 7 1) 55 8 a4.1) := hL.of (by simp (disch := omega) only [zs_n, zs_v, zs_k]; exact l3) (by simp (disch := omega) only [zs_n, zs_v, zs_k]; omega) (by simp (disch := omega) only [zs_n, zs_v, zs_k]; omega)
    refine r_if_ne (tgt := 12) dX2_takeFeast_7 (by decide) (fun h7 => ?_) (fun h7 => absurd h7 (by decide))
    refine r_aload_n dX2_takeFeast_12 rfl ?_
    refine r_iconst dX2_takeFeast_13 (k := ?_)
    refine r_pZ (q := 7) rfl pX2_39 rfl (by decide) dX2_takeFeast_14 ?_
    refine r_aload_n dX2_takeFeast_17 rfl ?_
    refine r_getR (q := 55) fX2_22 rfl rfl dX2_takeFeast_18 ?_
    try simp (disch := omega) only [zs_n, zs_v, zs_k, q12]
    refine r_aload_n dX2_takeFeast_21 rfl ?_
    refine r_gI (q := 12) rfl fX2_55 rfl (by decide) dX2_takeFeast_22 ?_
    try simp (disch := omega) only [zs_n, zs_v, zs_k, q12]
    refine r_pI (q := 8) rfl pX2_159 rfl dX2_takeFeast_25 ?_
    refine r_aload_n dX2_takeFeast_28 rfl ?_
    refine r_vX0 (c_takeStop (t := t) (L := L) (p := a4.2.1) hL2 (by simp (disch := omega) only [zs_n, zs_v, zs_k]; rw [hk.1 54 (by decide)]; exact ht) (by simp (disch := omega) only [zs_n, zs_v, zs_k]; rw [l3]; exact hl) (by simp (disch := omega) only [zs_n, zs_v, zs_k]; exact q9)) kX2_143 rfl dX2_takeFeast_29 (fun e29 m29 x29 k29 f29 g29 => ?_) (fun a29 m29 x29 k29 q29 => ?_)
    · refine r_zret dX2_takeFeast_32 (by decide) ?_
      exact zPX.e (sRs_2 hs x29) (((k4.s (by decide)).z (by decide)).tr k29) f29 g29
    · obtain ⟨hk3, r9⟩ := q29
      have kt := ((k4.s (k := 7) (v := 1) (by decide)).z (o := 55) (k := 8) (v := a4.1) (by decide)).tr k29
      refine r_zret dX2_takeFeast_32 (by decide) ?_
      refine zPX.k (sRs_k hs x29) kt ⟨?_, r9, ?_, ?_⟩
      · rw [dC_k hk3, ← dC_k hk]
        unfold dC dFeast
        rw [vC_hol (b := 55)]
        simp (disch := omega) only [zs_n, zs_v, zs_k]
        congr 1
      · rw [hk3.2 3 (by decide) (by decide) (by decide) (by decide)]; simp (disch := omega) only [zs_n, zs_v, zs_k]; exact hk.2 3 (by decide) (by decide) (by decide) (by decide)
      · rw [hk3.2 4 (by decide) (by decide) (by decide) (by decide)]; simp (disch := omega) only [zs_n, zs_v, zs_k]; exact hk.2 4 (by decide) (by decide) (by decide) (by decide)
theorem dC_isle {m : zM} {kd v : Int} : dC (zs (zs (zs m 56 (m 55 0) kd) 57 (m 55 0) v) 55 0 (m 55 0 + 1)) = dIsle (dC m) kd v := by
  unfold dC dIsle vC
  simp (disch := omega) only [zs_n, zs_s, zs_v, zs_k]
set_option maxRecDepth 100000 in
theorem c_takeIsle (kd : Int) (hL : kL mem) (ht : mem 54 = t) (hl : mem 53 1 = L) (hp : mem 53 9 = p) (r0 : 0 ≤ mem 55 0) (r6 : mem 55 0 < 5) : KX2_takeIsle l G 3 [zR 53, zI kd] mem (zPX (sRs t L (sEi t L p (dC mem) kd)) (qLn mem) mem) := by
  obtain ⟨b0, b1, b2⟩ := id hL
  refine CT.of' (own := RX2) (ls0 := [zR 53, zI kd]) rfl (by decide +kernel) (Nat.le_of_ble_eq_true rfl) rfl ?_
  refine r_aload_n dX2_takeIsle_0 rfl ?_
  refine r_iconst dX2_takeIsle_1 (k := ?_)
  refine r_bipush dX2_takeIsle_2 (k := ?_)
  refine r_vX2 (c_takeNumber 0 99 hL ht hl hp) kX2_132 rfl dX2_takeIsle_4 (fun e4 m4 x4 k4 f4 g4 => ?_) (fun a4 m4 x4 k4 q4 => ?_)
  · have hs : sEi t L p (dC mem) kd = .error e4 := by unfold sEi; simp only [x4]
    refine r_if_ne (tgt := 12) dX2_takeIsle_7 (by decide) (fun h7 => absurd h7 (by decide)) (fun h7 => ?_)
    refine r_iconst dX2_takeIsle_10 (k := ?_)
    refine r_zret dX2_takeIsle_11 (by decide) ?_
    exact zPX.e (sRs_e hs) k4 f4 g4
  · obtain ⟨hk, q9, q11, q12⟩ := q4
    have n3 := sNum_ok (by omega) x4
    have l3 := hk.2 1 (by decide) (by decide) (by decide) (by decide)
    have o55 : m4 55 = mem 55 := hk.1 55 (by decide)
    have o0 : m4 55 0 = mem 55 0 := by rw [o55]
    have eT : sTaken (m4 55 0) (m4 (55 + 2)) a4.1 (-4) = sTaken (dC mem).1.1 (dP (dC mem)) a4.1 (-4) := by rw [← dC_k hk]; rfl
    have hL2 : kL (zs (zs (zs m4 56 (m4 55 0) kd) 57 (m4 55 0) a4.1) 55 0 (m4 55 0 + 1)) := hL.of (by simp (disch := omega) only [zs_n, zs_v, zs_k]; exact l3) (by simp (disch := omega) only [zs_n, zs_v, zs_k]; omega) (by simp (disch := omega) only [zs_n, zs_v, zs_k]; omega)
    refine r_if_ne (tgt := 12) dX2_takeIsle_7 (by decide) (fun h7 => ?_) (fun h7 => absurd h7 (by decide))
    refine r_aload_n dX2_takeIsle_12 rfl ?_
    refine r_getR (q := 55) fX2_22 rfl rfl dX2_takeIsle_13 ?_
    try simp (disch := omega) only [zs_n, zs_v, zs_k, q12, q11]
    refine r_aload_n dX2_takeIsle_16 rfl ?_
    refine r_gI (q := 12) rfl fX2_55 rfl (by decide) dX2_takeIsle_17 ?_
    try simp (disch := omega) only [zs_n, zs_v, zs_k, q12, q11]
    refine r_bipush dX2_takeIsle_20 (k := ?_)
    refine r_v2 (c_X0_isTaken hF55 _ _ (by omega) (by omega)) kX2_136 rfl dX2_takeIsle_22 ?_
    try simp (disch := omega) only [zs_n, zs_v, zs_k, q12, q11]
    refine r_ifb_eq (tgt := 34) dX2_takeIsle_25 (by decide) (fun h25 => ?_) (fun h25 => ?_)
    · rw [eT] at h25
      have hs : sEi t L p (dC mem) kd = .ok (dIsle (dC mem) kd a4.1, a4.2.1) := by unfold sEi; simp only [x4]; rw [if_neg (by rw [h25]; decide)]
      refine r_aload_n dX2_takeIsle_34 rfl ?_
      refine r_getR (q := 55) fX2_22 rfl rfl dX2_takeIsle_35 ?_
      try simp (disch := omega) only [zs_n, zs_v, zs_k, q12, q11]
      refine r_iload_n dX2_takeIsle_38 rfl ?_
      refine r_aload_n dX2_takeIsle_39 rfl ?_
      refine r_gI (q := 12) rfl fX2_55 rfl (by decide) dX2_takeIsle_40 ?_
      try simp (disch := omega) only [zs_n, zs_v, zs_k, q12, q11]
      refine r_w2 (c_X0_addIsle hF55 _ _ (by omega) (by omega)) kX2_139 rfl dX2_takeIsle_43 ?_
      try simp (disch := omega) only [zs_n, zs_v, zs_k, q12, q11]
      refine r_aload_n dX2_takeIsle_46 rfl ?_
      refine r_vX0 (c_takeStop (t := t) (L := L) (p := a4.2.1) hL2 (by simp (disch := omega) only [zs_n, zs_v, zs_k]; rw [hk.1 54 (by decide)]; exact ht) (by simp (disch := omega) only [zs_n, zs_v, zs_k]; rw [l3]; exact hl) (by simp (disch := omega) only [zs_n, zs_v, zs_k]; exact q9)) kX2_143 rfl dX2_takeIsle_47 (fun e47 m47 x47 k47 f47 g47 => ?_) (fun a47 m47 x47 k47 q47 => ?_)
      · refine r_zret dX2_takeIsle_50 (by decide) ?_
        exact zPX.e (sRs_2 hs x47) ((((k4.z (by decide)).z (by decide)).z (by decide)).tr k47) f47 g47
      · obtain ⟨hk3, r9⟩ := q47
        have kt := (((k4.z (o := 56) (k := m4 55 0) (v := kd) (by decide)).z (o := 57) (k := m4 55 0) (v := a4.1) (by decide)).z (o := 55) (k := 0) (v := m4 55 0 + 1) (by decide)).tr k47
        refine r_zret dX2_takeIsle_50 (by decide) ?_
        refine zPX.k (sRs_k hs x47) kt ⟨?_, r9, ?_, ?_⟩
        · rw [dC_k hk3, dC_isle, dC_k hk]
        · rw [hk3.2 3 (by decide) (by decide) (by decide) (by decide)]; simp (disch := omega) only [zs_n, zs_v, zs_k]; exact hk.2 3 (by decide) (by decide) (by decide) (by decide)
        · rw [hk3.2 4 (by decide) (by decide) (by decide) (by decide)]; simp (disch := omega) only [zs_n, zs_v, zs_k]; exact hk.2 4 (by decide) (by decide) (by decide) (by decide)
    · rw [eT] at h25
      have hs : sEi t L p (dC mem) kd = .error (4, a4.2.2) := by unfold sEi; simp only [x4]; rw [if_pos h25]
      refine r_aload_n dX2_takeIsle_28 rfl ?_
      refine r_iconst dX2_takeIsle_29 (k := ?_)
      refine r_v1 (c_fail _) kX2_74 rfl dX2_takeIsle_30 ?_
      try simp (disch := omega) only [zs_n, zs_v, zs_k, q12, q11]
      refine r_zret dX2_takeIsle_33 (by decide) ?_
      exact zPX.e (sRs_e hs) (by repeat first | assumption | exact kT.rf | refine kT.s ?_ (by decide) | refine kT.z ?_ (by decide)) (by simp (disch := omega) only [zs_n, zs_v, zs_k]) (by simp (disch := omega) only [zs_n, zs_v, zs_k])
end
