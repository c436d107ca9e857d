/-! ===== Firth: what a day does ===== -/
def sCome (n r : Int) (e1 e2 ln : Int → Int) (i : Int) (p : Int → Int) : Int → Int := if sNear n p i < 0 then p else if 1 < sSz (p (sNear n p i) - p i) ∧ sHeld r e1 e2 ln p i (p i + zsg (p (sNear n p i) - p i)) = false then zu p i (p i + zsg (p (sNear n p i) - p i)) else p
def sOff (n r : Int) (e1 e2 ln : Int → Int) (i way : Int) : Nat → (Int → Int) × Int → (Int → Int) × Int
  | 0, s => s
  | k + 1, s => if s.1 i + way < 0 ∨ 99 < s.1 i + way ∨ sHeld r e1 e2 ln s.1 i (s.1 i + way) = true then s else if sTaken n s.1 (s.1 i + way) i = true then (s.1, zw (s.2 + 1)) else sOff n r e1 e2 ln i way k (zu s.1 i (s.1 i + way), s.2)
def sOne (n : Int) (t g : Int → Int) (r : Int) (e1 e2 ln : Int → Int) (fest : Bool) (i : Int) (s : (Int → Int) × Int) : (Int → Int) × Int :=
  if fest = true then (sCome n r e1 e2 ln i s.1, s.2) else sOff n r e1 e2 ln i (zsg (sDriftOf (t i) (sPlain n s.1 g i))) (sSz (sDriftOf (t i) (sPlain n s.1 g i))).toNat s
def sAll (n : Int) (t g : Int → Int) (r : Int) (e1 e2 ln : Int → Int) (fest : Bool) (s : (Int → Int) × Int) : (Int → Int) × Int := zfor (fun i s => sOne n t g r e1 e2 ln fest i s) 0 n.toNat s
def sFest (hol day : Int) : Bool := decide (zw (day.tmod 7) = hol)
/-- a day: places, bumps, the day's number -/
def sDay (n : Int) (t g : Int → Int) (r : Int) (e1 e2 ln : Int → Int) (hol : Int) (s : (Int → Int) × Int × Int) : (Int → Int) × Int × Int :=
  ((sAll n t g r e1 e2 ln (sFest hol s.2.2) (s.1, s.2.1)).1, (sAll n t g r e1 e2 ln (sFest hol s.2.2) (s.1, s.2.1)).2, zw (s.2.2 + 1))
def sDays (n : Int) (t g : Int → Int) (r : Int) (e1 e2 ln : Int → Int) (hol : Int) (k : Nat) (s : (Int → Int) × Int × Int) : (Int → Int) × Int × Int := zfor (fun _ s => sDay n t g r e1 e2 ln hol s) 0 k s
/-- a world in which one firth's places and bumps are others -/
def zFw (mem : zM) (b : Nat) (p : Int → Int) (bu : Int) : zM := zs (zr mem (b + 2) p) b 10 bu
theorem zFw_2 {mem : zM} {b : Nat} {p : Int → Int} {bu : Int} : zFw mem b p bu (b + 2) = p := by
  unfold zFw zs
  rw [zr_n (by omega), zr_s]
theorem zFw_o {mem : zM} {b o : Nat} {p : Int → Int} {bu : Int} (h1 : o ≠ b) (h2 : o ≠ b + 2) : zFw mem b p bu o = mem o := by
  unfold zFw zs
  rw [zr_n h1, zr_n h2]
theorem zFw_b {mem : zM} {b : Nat} {p : Int → Int} {bu k : Int} (h : k ≠ 10) : zFw mem b p bu b k = mem b k := by
  unfold zFw zs
  rw [zr_s, zu_n h, zr_n (by omega)]
theorem zFw_10 {mem : zM} {b : Nat} {p : Int → Int} {bu : Int} : zFw mem b p bu b 10 = bu := by
  unfold zFw zs
  rw [zr_s, zu_s]
theorem zFw_b0 {mem : zM} {b : Nat} {p : Int → Int} {bu : Int} : zFw mem b p bu b 0 = mem b 0 := zFw_b (by decide)
theorem zFw_b4 {mem : zM} {b : Nat} {p : Int → Int} {bu : Int} : zFw mem b p bu b 4 = mem b 4 := zFw_b (by decide)
theorem zFw_b8 {mem : zM} {b : Nat} {p : Int → Int} {bu : Int} : zFw mem b p bu b 8 = mem b 8 := zFw_b (by decide)
theorem zFw_b9 {mem : zM} {b : Nat} {p : Int → Int} {bu : Int} : zFw mem b p bu b 9 = mem b 9 := zFw_b (by decide)
theorem zFw_1 {mem : zM} {b : Nat} {p : Int → Int} {bu : Int} : zFw mem b p bu (b + 1) = mem (b + 1) := zFw_o (by omega) (by omega)
theorem zFw_3 {mem : zM} {b : Nat} {p : Int → Int} {bu : Int} : zFw mem b p bu (b + 3) = mem (b + 3) := zFw_o (by omega) (by omega)
theorem zFw_4 {mem : zM} {b : Nat} {p : Int → Int} {bu : Int} : zFw mem b p bu (b + 4) = mem (b + 4) := zFw_o (by omega) (by omega)
theorem zFw_5 {mem : zM} {b : Nat} {p : Int → Int} {bu : Int} : zFw mem b p bu (b + 5) = mem (b + 5) := zFw_o (by omega) (by omega)
theorem zFw_6 {mem : zM} {b : Nat} {p : Int → Int} {bu : Int} : zFw mem b p bu (b + 6) = mem (b + 6) := zFw_o (by omega) (by omega)
theorem zFw_self {mem : zM} {b : Nat} : zFw mem b (mem (b + 2)) (mem b 10) = mem := by
  funext o
  by_cases h : o = b
  · subst h
    funext k
    by_cases hk : k = 10
    · subst hk; exact zFw_10
    · exact zFw_b hk
  · by_cases h2 : o = b + 2
    · subst h2; exact zFw_2
    · exact zFw_o h h2
theorem zFw_r {mem : zM} {b : Nat} {p q : Int → Int} {bu : Int} : zr (zFw mem b p bu) (b + 2) q = zFw mem b q bu := by
  funext o
  by_cases h2 : o = b + 2
  · subst h2; rw [zr_s, zFw_2]
  · rw [zr_n h2]
    by_cases h : o = b
    · subst h
      funext k
      by_cases hk : k = 10
      · subst hk; rw [zFw_10, zFw_10]
      · rw [zFw_b hk, zFw_b hk]
    · rw [zFw_o h h2, zFw_o h h2]
theorem zFw_p {mem : zM} {b : Nat} {p : Int → Int} {bu i v : Int} : zs (zFw mem b p bu) (b + 2) i v = zFw mem b (zu p i v) bu := by
  unfold zs
  rw [zFw_2, zFw_r]
theorem zFw_s {mem : zM} {b : Nat} {p : Int → Int} {bu v : Int} : zs (zFw mem b p bu) b 10 v = zFw mem b p v := by
  funext o
  by_cases h : o = b
  · subst h
    funext k
    unfold zs
    rw [zr_s]
    by_cases hk : k = 10
    · subst hk; rw [zu_s, zFw_10]
    · rw [zu_n hk, zFw_b hk, zFw_b hk]
  · unfold zs
    rw [zr_n h]
    by_cases h2 : o = b + 2
    · subst h2; rw [zFw_2, zFw_2]
    · rw [zFw_o h h2, zFw_o h h2]
theorem zFw_w {mem : zM} {b : Nat} {p q : Int → Int} {bu bv : Int} : zFw (zFw mem b p bu) b q bv = zFw mem b q bv := by
  show zs (zr (zFw mem b p bu) (b + 2) q) b 10 bv = _
  rw [zFw_r, zFw_s]
def sPB (n : Int) (p : Int → Int) : Prop := ∀ i, 0 ≤ i → i < n → 0 ≤ p i ∧ p i ≤ 99
theorem zFI.w {mem : zM} {b : Nat} {p : Int → Int} {bu : Int} (h : zFI mem b) (hp : sPB (mem b 0) p) : zFI (zFw mem b p bu) b := by
  obtain ⟨h1, h2, h3, h4, h5, h6, h7⟩ := h
  unfold zFI
  rw [zFw_b0, zFw_b4, zFw_2, zFw_3, zFw_4, zFw_5, zFw_6]
  exact ⟨h1, h2, h3, h4, hp, h6, h7⟩
theorem zfor_ind {α : Type} {f : Int → α → α} (P : Int → α → Prop) : ∀ (k : Nat) (i : Int) (a : α), P i a → (∀ (j : Int) (a : α), i ≤ j → j < i + k → P j a → P (j + 1) (f j a)) → P (i + k) (zfor f i k a)
  | 0, i, a, h, _ => by rw [zfor, show i + ((0 : Nat) : Int) = i by omega]; exact h
  | k + 1, i, a, h, hs => by
    rw [zfor, show i + ((k + 1 : Nat) : Int) = (i + 1) + (k : Int) by omega]
    exact zfor_ind P k (i + 1) (f i a) (hs i a (by omega) (by omega) h) (fun j a h1 h2 h3 => hs j a (by omega) (by omega) h3)
theorem sNear_rng {n : Int} {p : Int → Int} {i : Int} (hn : 0 ≤ n) : sNear n p i = -4 ∨ (0 ≤ sNear n p i ∧ sNear n p i < n ∧ sNear n p i ≠ i) := by
  unfold sNear
  have := zfor_ind (f := fun j (a : Int × Int) => if j ≠ i ∧ sSz (p i - p j) < a.1 then (sSz (p i - p j), j) else a) (P := fun _ a => a.2 = -4 ∨ (0 ≤ a.2 ∧ a.2 < n ∧ a.2 ≠ i)) n.toNat 0 (100, -4) (Or.inl rfl) (fun j a h1 h2 h3 => by
    split
    · rename_i h; exact Or.inr ⟨by omega, by dsimp only; omega, h.1⟩
    · exact h3)
  exact this
theorem sPB.u {n : Int} {p : Int → Int} {i v : Int} (h : sPB n p) (h1 : 0 ≤ v) (h2 : v ≤ 99) : sPB n (zu p i v) := by
  intro j h3 h4
  by_cases hj : j = i
  · subst hj; rw [zu_s]; exact ⟨h1, h2⟩
  · rw [zu_n hj]; exact h j h3 h4
theorem sCome_bd {n r : Int} {e1 e2 ln : Int → Int} {i : Int} {p : Int → Int} (hn : 0 ≤ n) (hi0 : 0 ≤ i) (hi1 : i < n) (h : sPB n p) : sPB n (sCome n r e1 e2 ln i p) := by
  unfold sCome
  split
  · exact h
  · rename_i hnn
    split
    · rename_i hc
      rcases sNear_rng (p := p) (i := i) hn with q | ⟨q1, q2, q3⟩
      · omega
      · have a1 := h _ q1 q2
        have a2 := h i hi0 hi1
        refine h.u ?_ ?_
        · unfold zsg; split <;> (try split) <;> omega
        · unfold zsg; split <;> (try split) <;> omega
    · exact h
theorem sOff_bd {n r : Int} {e1 e2 ln : Int → Int} {i way : Int} : ∀ (k : Nat) (s : (Int → Int) × Int), sPB n s.1 → sPB n (sOff n r e1 e2 ln i way k s).1
  | 0, s, h => h
  | k + 1, s, h => by
    rw [sOff]
    split
    · exact h
    · split
      · exact h
      · exact sOff_bd k _ (h.u (by omega) (by omega))
theorem sOne_bd {n r : Int} {t g e1 e2 ln : Int → Int} {fest : Bool} {i : Int} {s : (Int → Int) × Int} (hn : 0 ≤ n) (hi0 : 0 ≤ i) (hi1 : i < n) (h : sPB n s.1) : sPB n (sOne n t g r e1 e2 ln fest i s).1 := by
  unfold sOne
  split
  · exact sCome_bd hn hi0 hi1 h
  · exact sOff_bd _ _ h
theorem sAll_bd {n r : Int} {t g e1 e2 ln : Int → Int} {fest : Bool} {s : (Int → Int) × Int} (hn : 0 ≤ n) (h : sPB n s.1) : sPB n (sAll n t g r e1 e2 ln fest s).1 :=
  zfor_ind (f := fun i s => sOne n t g r e1 e2 ln fest i s) (P := fun _ s => sPB n s.1) n.toNat 0 s h (fun j a h1 h2 h3 => sOne_bd hn (by omega) (by omega) h3)
theorem sDay_bd {n r hol : Int} {t g e1 e2 ln : Int → Int} {s : (Int → Int) × Int × Int} (hn : 0 ≤ n) (h : sPB n s.1) : sPB n (sDay n t g r e1 e2 ln hol s).1 := sAll_bd hn h
section
variable {l : Launch} {G : zG} {mem : zM} {b : Nat}
set_option maxRecDepth 100000 in
theorem c_X0_comeIn (hb : isF b) (hI : zFI mem b) (i : Int) (hi0 : 0 ≤ i) (hi1 : i < mem b 0) : KX0_comeIn l G 2 [zR b, zI i] mem (zP0 (zr mem (b + 2) (sCome (mem b 0) (mem b 4) (mem (b + 4)) (mem (b + 5)) (mem (b + 6)) i (mem (b + 2))))) := by
  obtain ⟨hn0, hn5, hr0, hr6, hp, hg, hr⟩ := id hI
  have hpi := hp i hi0 hi1
  have hsame : zr mem (b + 2) (mem (b + 2)) = mem := by
    funext o
    by_cases h : o = b + 2
    · subst h; exact zr_s
    · exact zr_n h
  refine CT.of' (own := RX0) (ls0 := [zR b, zI i, zU, zU, zU]) rfl (by decide +kernel) (Nat.le_of_ble_eq_true rfl) rfl ?_
  refine r_aload_n dX0_comeIn_0 rfl ?_
  refine r_iload_n dX0_comeIn_1 rfl ?_
  refine r_v1 (c_X0_nearestTo hb hI i hi0 hi1) kX0_96 (by exact zlF hb) dX0_comeIn_2 ?_
  refine r_istore_n dX0_comeIn_5 rfl ?_
  refine r_iload_n dX0_comeIn_6 rfl ?_
  refine r_if_ge (tgt := 11) dX0_comeIn_7 (by decide) (fun h7 => ?_) (fun h7 => ?_)
  ·
    rcases sNear_rng (p := mem (b + 2)) (i := i) hn0 with q | ⟨q1, q2, q3⟩
    · rw [q] at h7; exact absurd h7 (by decide)
    have hpn := hp _ q1 q2
    have hz := zsg_bd (mem (b + 2) (sNear (mem b 0) (mem (b + 2)) i) - mem (b + 2) i)
    refine r_aload_n dX0_comeIn_11 rfl ?_
    refine r_getR fX0_19 (by exact zlF hb) (zrF2 hb) dX0_comeIn_12 ?_
    refine r_iload_n dX0_comeIn_15 rfl ?_
    refine r_iald (by first | exact zaF1 hb | exact zaF2 hb | exact zaF3 hb | exact zaF4 hb | exact zaF5 hb | exact zaF6 hb) (by omega) (by omega) dX0_comeIn_16 ?_
    refine r_aload_n dX0_comeIn_17 rfl ?_
    refine r_getR fX0_19 (by exact zlF hb) (zrF2 hb) dX0_comeIn_18 ?_
    refine r_iload_n dX0_comeIn_21 rfl ?_
    refine r_iald (by first | exact zaF1 hb | exact zaF2 hb | exact zaF3 hb | exact zaF4 hb | exact zaF5 hb | exact zaF6 hb) (by omega) (by omega) dX0_comeIn_22 ?_
    refine r_isub dX0_comeIn_23 ?_
    try rw [zw_id (by omega) (by omega)]
    refine r_istore_n dX0_comeIn_24 rfl ?_
    refine r_aload_n dX0_comeIn_25 rfl ?_
    refine r_getR fX0_19 (by exact zlF hb) (zrF2 hb) dX0_comeIn_26 ?_
    refine r_iload_n dX0_comeIn_29 rfl ?_
    refine r_iald (by first | exact zaF1 hb | exact zaF2 hb | exact zaF3 hb | exact zaF4 hb | exact zaF5 hb | exact zaF6 hb) (by omega) (by omega) dX0_comeIn_30 ?_
    refine r_iload_n dX0_comeIn_31 rfl ?_
    refine r_s1 (c_signum _ ⟨by omega, by omega⟩) kX0_74 dX0_comeIn_32 ?_
    refine r_iadd dX0_comeIn_35 ?_
    try rw [zw_id (by omega) (by omega)]
    refine r_istore dX0_comeIn_36 rfl ?_
    refine r_iload_n dX0_comeIn_38 rfl ?_
    refine r_mabs kX0_70 dX0_comeIn_39 ?_
    rw [zabs_sz (by omega) (by omega)]
    refine r_iconst dX0_comeIn_42 (k := ?_)
    refine r_icmp_le (tgt := 64) dX0_comeIn_43 (by decide) (fun h43 => ?_) (fun h43 => ?_)
    · refine r_vret dX0_comeIn_64 ?_
      refine zP0.of ?_
      unfold sCome
      rw [if_neg (by omega)]
      first | (rw [if_neg (fun q => by first | (have := q.1; omega) | (rw [h53] at q; exact absurd q.2 (by decide)))]; exact hsame.symm) | (rw [if_pos ⟨by omega, h53⟩]; rfl)
    · refine r_aload_n dX0_comeIn_46 rfl ?_
      refine r_iload_n dX0_comeIn_47 rfl ?_
      refine r_iload dX0_comeIn_48 rfl ?_
      refine r_v2 (c_X0_isHeld hb hI i _ hi0 hi1 (by omega) (by omega)) kX0_99 (by exact zlF hb) dX0_comeIn_50 ?_
      refine r_ifb_ne (tgt := 64) dX0_comeIn_53 (by decide) (fun h53 => ?_) (fun h53 => ?_)
      · refine r_vret dX0_comeIn_64 ?_
        refine zP0.of ?_
        unfold sCome
        rw [if_neg (by omega)]
        first | (rw [if_neg (fun q => by first | (have := q.1; omega) | (rw [h53] at q; exact absurd q.2 (by decide)))]; exact hsame.symm) | (rw [if_pos ⟨by omega, h53⟩]; rfl)
      · refine r_aload_n dX0_comeIn_56 rfl ?_
        refine r_getR fX0_19 (by exact zlF hb) (zrF2 hb) dX0_comeIn_57 ?_
        refine r_iload_n dX0_comeIn_60 rfl ?_
        refine r_iload dX0_comeIn_61 rfl ?_
        refine r_iast (by first | exact zaF1 hb | exact zaF2 hb | exact zaF3 hb | exact zaF4 hb | exact zaF5 hb | exact zaF6 hb) (by omega) (by omega) dX0_comeIn_63 ?_
        refine r_vret dX0_comeIn_64 ?_
        refine zP0.of ?_
        unfold sCome
        rw [if_neg (by omega)]
        first | (rw [if_neg (fun q => by first | (have := q.1; omega) | (rw [h53] at q; exact absurd q.2 (by decide)))]; exact hsame.symm) | (rw [if_pos ⟨by omega, h53⟩]; rfl)
  ·
    refine r_vret dX0_comeIn_10 ?_
    refine zP0.of ?_
    unfold sCome
    rw [if_pos (by omega), hsame]
theorem sDriftOf_bd {t a : Int} (h1 : -15 ≤ a) (h2 : a ≤ 15) : -40 ≤ sDriftOf t a ∧ sDriftOf t a ≤ 40 := by
  have := tdiv2_bd h1 h2
  have := zsg_bd a
  unfold sDriftOf
  split <;> (try split) <;> (try split) <;> omega
theorem sPlain_bd {n : Int} {p g : Int → Int} {i : Int} (hn0 : 0 ≤ n) (hn : n ≤ 5) (hg : ∀ j, 0 ≤ j → j < n → 0 ≤ g (5 * i + j) ∧ g (5 * i + j) ≤ 3) : -15 ≤ sPlain n p g i ∧ sPlain n p g i ≤ 15 := by
  have := zfor_ind (f := fun j a => if j = i then a else a + if p j < p i then g (5 * i + j) else -g (5 * i + j)) (P := fun j a => -(3 * j) ≤ a ∧ a ≤ 3 * j) n.toNat 0 0 (by omega) (fun j a h1 h2 h3 => by
    have := hg j h1 (by omega)
    split
    · omega
    · split <;> omega)
  unfold sPlain
  omega
set_option maxRecDepth 100000 in
theorem c_X0_driftOff (hb : isF b) (hI : zFI mem b) (i : Int) (hi0 : 0 ≤ i) (hi1 : i < mem b 0) : KX0_driftOff l G 2 [zR b, zI i] mem (zP0 (zFw mem b (sOff (mem b 0) (mem b 4) (mem (b + 4)) (mem (b + 5)) (mem (b + 6)) i (zsg (sDriftOf (mem (b + 1) i) (sPlain (mem b 0) (mem (b + 2)) (mem (b + 3)) i))) (sSz (sDriftOf (mem (b + 1) i) (sPlain (mem b 0) (mem (b + 2)) (mem (b + 3)) i))).toNat (mem (b + 2), mem b 10)).1 (sOff (mem b 0) (mem b 4) (mem (b + 4)) (mem (b + 5)) (mem (b + 6)) i (zsg (sDriftOf (mem (b + 1) i) (sPlain (mem b 0) (mem (b + 2)) (mem (b + 3)) i))) (sSz (sDriftOf (mem (b + 1) i) (sPlain (mem b 0) (mem (b + 2)) (mem (b + 3)) i))).toNat (mem (b + 2), mem b 10)).2)) := by
  obtain ⟨hn0, hn5, hr0, hr6, hp, hg, hr⟩ := id hI
  have hD := sDriftOf_bd (t := mem (b + 1) i) (sPlain_bd (p := mem (b + 2)) hn0 hn5 (fun j h1 h2 => hg i j hi0 hi1 h1 h2)).1 (sPlain_bd (p := mem (b + 2)) hn0 hn5 (fun j h1 h2 => hg i j hi0 hi1 h1 h2)).2
  refine CT.of' (own := RX0) (ls0 := [zR b, zI i, zU, zU, zU, zU]) rfl (by decide +kernel) (Nat.le_of_ble_eq_true rfl) rfl ?_
  generalize hS : sOff (mem b 0) (mem b 4) (mem (b + 4)) (mem (b + 5)) (mem (b + 6)) i (zsg (sDriftOf (mem (b + 1) i) (sPlain (mem b 0) (mem (b + 2)) (mem (b + 3)) i))) (sSz (sDriftOf (mem (b + 1) i) (sPlain (mem b 0) (mem (b + 2)) (mem (b + 3)) i))).toNat (mem (b + 2), mem b 10) = S
  have loop : ∀ (k : Nat) (x w D : Int) (p : Int → Int) (bu : Int) (v : zV), x = k → k ≤ 40 → -1 ≤ w → w ≤ 1 → sPB (mem b 0) p → sOff (mem b 0) (mem b 4) (mem (b + 4)) (mem (b + 5)) (mem (b + 6)) i w k (p, bu) = S → SW l G (zrm 2) RX0 cX0_driftOff 6 none (zZ G (zP0 (zFw mem b S.1 S.2))) 0 0 (fun _ => True) 17 [zR b, zI i, zI D, zI w, zI x, v] [] (zFw mem b p bu) := by
    intro k
    induction k with
    | zero =>
      intro x w D p bu v hx hk h1 h2 hpb he
      refine r_iload dX0_driftOff_17 rfl ?_
      refine r_if_le (tgt := 90) dX0_driftOff_19 (by decide) (fun h19 => ?_) (fun h19 => ?_)
      · refine r_vret dX0_driftOff_90 ?_
        exact zP0.of (by rw [← he]; rfl)
      · exact absurd (by omega) h19
    | succ k ih =>
      intro x w D p bu v hx hk h1 h2 hpb he
      have hJ := hI.w (bu := bu) hpb
      have hpi := hpb i hi0 hi1
      rw [sOff] at he
      dsimp only at he
      refine r_iload dX0_driftOff_17 rfl ?_
      refine r_if_le (tgt := 90) dX0_driftOff_19 (by decide) (fun h19 => absurd h19 (by omega)) (fun h19 => ?_)
      refine r_aload_n dX0_driftOff_22 rfl ?_
      refine r_getR fX0_19 (by exact zlF hb) (zrF2 hb) dX0_driftOff_23 ?_
      try simp only [zFw_2, zFw_b0, zFw_b4, zFw_4, zFw_5, zFw_6, zFw_10]
      refine r_iload_n dX0_driftOff_26 rfl ?_
      refine r_iald (by first | exact zaF1 hb | exact zaF2 hb | exact zaF3 hb | exact zaF4 hb | exact zaF5 hb | exact zaF6 hb) (by omega) (by omega) dX0_driftOff_27 ?_
      try simp only [zFw_2, zFw_b0, zFw_b4, zFw_4, zFw_5, zFw_6, zFw_10]
      refine r_iload_n dX0_driftOff_28 rfl ?_
      refine r_iadd dX0_driftOff_29 ?_
      try rw [zw_id (by omega) (by omega)]
      refine r_istore dX0_driftOff_30 rfl ?_
      refine r_iload dX0_driftOff_32 rfl ?_
      refine r_if_lt (tgt := 54) dX0_driftOff_34 (by decide) (fun h34 => ?_) (fun h34 => ?_)
      ·
        refine r_vret dX0_driftOff_54 ?_
        exact zP0.of (by rw [← he, if_pos (by omega)])
      refine r_iload dX0_driftOff_37 rfl ?_
      refine r_bipush dX0_driftOff_39 (k := ?_)
      refine r_icmp_gt (tgt := 54) dX0_driftOff_41 (by decide) (fun h41 => ?_) (fun h41 => ?_)
      ·
        refine r_vret dX0_driftOff_54 ?_
        exact zP0.of (by rw [← he, if_pos (by omega)])
      refine r_aload_n dX0_driftOff_44 rfl ?_
      refine r_iload_n dX0_driftOff_45 rfl ?_
      refine r_iload dX0_driftOff_46 rfl ?_
      refine r_v2 (c_X0_isHeld hb hJ i _ hi0 (by rw [zFw_b0]; exact hi1) (by omega) (by omega)) kX0_99 (by exact zlF hb) dX0_driftOff_48 ?_
      try simp only [zFw_2, zFw_b0, zFw_b4, zFw_4, zFw_5, zFw_6, zFw_10]
      refine r_ifb_eq (tgt := 55) dX0_driftOff_51 (by decide) (fun h51 => ?_) (fun h51 => ?_)
      rotate_left
      ·
        refine r_vret dX0_driftOff_54 ?_
        exact zP0.of (by rw [← he, if_pos (Or.inr (Or.inr h51))])
      rw [if_neg (by rintro (q | q | q); omega; omega; rw [h51] at q; exact absurd q (by decide))] at he
      refine r_aload_n dX0_driftOff_55 rfl ?_
      refine r_iload dX0_driftOff_56 rfl ?_
      refine r_iload_n dX0_driftOff_58 rfl ?_
      refine r_v2 (c_X0_isTaken hb _ i (by rw [zFw_b0]; exact hn0) (by rw [zFw_b0]; exact hn5)) kX0_106 (by exact zlF hb) dX0_driftOff_59 ?_
      try simp only [zFw_2, zFw_b0, zFw_b4, zFw_4, zFw_5, zFw_6, zFw_10]
      refine r_ifb_eq (tgt := 76) dX0_driftOff_62 (by decide) (fun h62 => ?_) (fun h62 => ?_)
      rotate_left
      ·
        rw [if_pos h62] at he
        refine r_aload_n dX0_driftOff_65 rfl ?_
        refine r_dup dX0_driftOff_66 rfl ?_
        refine r_gI (q := 10) rfl fX0_43 (by exact zlF hb) (by decide) dX0_driftOff_67 ?_
        try simp only [zFw_2, zFw_b0, zFw_b4, zFw_4, zFw_5, zFw_6, zFw_10]
        refine r_iconst dX0_driftOff_70 (k := ?_)
        refine r_iadd dX0_driftOff_71 ?_
        try rw [zw_id (by omega) (by omega)]
        refine r_pI (q := 10) rfl pX0_43 (by exact zlF hb) dX0_driftOff_72 ?_
        refine r_vret dX0_driftOff_75 ?_
        exact zP0.of (by rw [← he]; exact zFw_s)
      rw [if_neg (by rw [h62]; decide)] at he
      refine r_aload_n dX0_driftOff_76 rfl ?_
      refine r_getR fX0_19 (by exact zlF hb) (zrF2 hb) dX0_driftOff_77 ?_
      try simp only [zFw_2, zFw_b0, zFw_b4, zFw_4, zFw_5, zFw_6, zFw_10]
      refine r_iload_n dX0_driftOff_80 rfl ?_
      refine r_iload dX0_driftOff_81 rfl ?_
      refine r_iast (by first | exact zaF1 hb | exact zaF2 hb | exact zaF3 hb | exact zaF4 hb | exact zaF5 hb | exact zaF6 hb) (by omega) (by omega) dX0_driftOff_83 ?_
      refine r_iinc dX0_driftOff_84 rfl rfl ?_
      try rw [zw_id (by omega) (by omega)]
      refine r_goto (tgt := 17) dX0_driftOff_87 (by decide) ?_
      rw [zFw_p]
      exact ih _ _ _ _ _ _ (by omega) (by omega) h1 h2 (hpb.u (by omega) (by omega)) he
  have hz := zsg_bd (sDriftOf (mem (b + 1) i) (sPlain (mem b 0) (mem (b + 2)) (mem (b + 3)) i))
  have hsz := sSz_le (x := sDriftOf (mem (b + 1) i) (sPlain (mem b 0) (mem (b + 2)) (mem (b + 3)) i)) (m := 40) (by omega) (by omega)
  have hs0 := sSz_0 (sDriftOf (mem (b + 1) i) (sPlain (mem b 0) (mem (b + 2)) (mem (b + 3)) i))
  refine r_aload_n dX0_driftOff_0 rfl ?_
  refine r_iload_n dX0_driftOff_1 rfl ?_
  refine r_v1 (c_X0_driftOf hb hI i hi0 hi1) kX0_103 (by exact zlF hb) dX0_driftOff_2 ?_
  try simp only [zFw_2, zFw_b0, zFw_b4, zFw_4, zFw_5, zFw_6, zFw_10]
  refine r_istore_n dX0_driftOff_5 rfl ?_
  refine r_iload_n dX0_driftOff_6 rfl ?_
  refine r_s1 (c_signum _ ⟨by omega, by omega⟩) kX0_74 dX0_driftOff_7 ?_
  try simp only [zFw_2, zFw_b0, zFw_b4, zFw_4, zFw_5, zFw_6, zFw_10]
  refine r_istore_n dX0_driftOff_10 rfl ?_
  refine r_iload_n dX0_driftOff_11 rfl ?_
  refine r_mabs kX0_70 dX0_driftOff_12 ?_
  try simp only [zFw_2, zFw_b0, zFw_b4, zFw_4, zFw_5, zFw_6, zFw_10]
  rw [zabs_sz (by omega) (by omega)]
  refine r_istore dX0_driftOff_15 rfl ?_
  have fin := loop (sSz (sDriftOf (mem (b + 1) i) (sPlain (mem b 0) (mem (b + 2)) (mem (b + 3)) i))).toNat (sSz (sDriftOf (mem (b + 1) i) (sPlain (mem b 0) (mem (b + 2)) (mem (b + 3)) i))) (zsg (sDriftOf (mem (b + 1) i) (sPlain (mem b 0) (mem (b + 2)) (mem (b + 3)) i))) (sDriftOf (mem (b + 1) i) (sPlain (mem b 0) (mem (b + 2)) (mem (b + 3)) i)) (mem (b + 2)) (mem b 10) zU (by omega) (by omega) hz.1 hz.2 hp hS
  rw [zFw_self] at fin
  exact fin
set_option maxRecDepth 100000 in
theorem c_X0_passDay (hb : isF b) (hI : zFI mem b) : KX0_passDay l G 3 [zR b] mem (zP0 (zs (zFw mem b (sDay (mem b 0) (mem (b + 1)) (mem (b + 3)) (mem b 4) (mem (b + 4)) (mem (b + 5)) (mem (b + 6)) (mem b 8) (mem (b + 2), mem b 10, mem b 9)).1 (sDay (mem b 0) (mem (b + 1)) (mem (b + 3)) (mem b 4) (mem (b + 4)) (mem (b + 5)) (mem (b + 6)) (mem b 8) (mem (b + 2), mem b 10, mem b 9)).2.1) b 9 (sDay (mem b 0) (mem (b + 1)) (mem (b + 3)) (mem b 4) (mem (b + 4)) (mem (b + 5)) (mem (b + 6)) (mem b 8) (mem (b + 2), mem b 10, mem b 9)).2.2)) := by
  obtain ⟨hn0, hn5, hr0, hr6, hp, hg, hr⟩ := id hI
  refine CT.of' (own := RX0) (ls0 := [zR b, zU, zU]) rfl (by decide +kernel) (Nat.le_of_ble_eq_true rfl) rfl ?_
  unfold sDay
  dsimp only
  generalize hS : sAll (mem b 0) (mem (b + 1)) (mem (b + 3)) (mem b 4) (mem (b + 4)) (mem (b + 5)) (mem (b + 6)) (sFest (mem b 8) (mem b 9)) (mem (b + 2), mem b 10) = S
  have loop : ∀ (k : Nat) (x : Int) (p : Int → Int) (bu : Int), 0 ≤ x → x + k = mem b 0 → sPB (mem b 0) p → zfor (fun i s => sOne (mem b 0) (mem (b + 1)) (mem (b + 3)) (mem b 4) (mem (b + 4)) (mem (b + 5)) (mem (b + 6)) (sFest (mem b 8) (mem b 9)) i s) x k (p, bu) = S → SW l G (zrm 3) RX0 cX0_passDay 3 none (zZ G (zP0 (zs (zFw mem b S.1 S.2) b 9 (zw (mem b 9 + 1))))) 0 0 (fun _ => True) 22 [zR b, zI (zb (sFest (mem b 8) (mem b 9))), zI x] [] (zFw mem b p bu) := by
    intro k
    induction k with
    | zero =>
      intro x p bu h0 h1 hpb he
      refine r_iload_n dX0_passDay_22 rfl ?_
      refine r_aload_n dX0_passDay_23 rfl ?_
      refine r_gI (q := 0) rfl fX0_9 (by exact zlF hb) (by decide) dX0_passDay_24 ?_
      try simp only [zFw_2, zFw_b0, zFw_b4, zFw_b9, zFw_1, zFw_3, zFw_4, zFw_5, zFw_6, zFw_10]
      refine r_icmp_ge (tgt := 53) dX0_passDay_27 (by decide) (fun h27 => ?_) (fun h27 => ?_)
      · refine r_aload_n dX0_passDay_53 rfl ?_
        refine r_dup dX0_passDay_54 rfl ?_
        refine r_gI (q := 9) rfl fX0_40 (by exact zlF hb) (by decide) dX0_passDay_55 ?_
        try simp only [zFw_2, zFw_b0, zFw_b4, zFw_b9, zFw_1, zFw_3, zFw_4, zFw_5, zFw_6, zFw_10]
        refine r_iconst dX0_passDay_58 (k := ?_)
        refine r_iadd dX0_passDay_59 ?_
        try rw [zw_id (by omega) (by omega)]
        refine r_pI (q := 9) rfl pX0_40 (by exact zlF hb) dX0_passDay_60 ?_
        refine r_vret dX0_passDay_63 ?_
        exact zP0.of (by rw [← he]; rfl)
      · exact absurd (by omega) h27
    | succ k ih =>
      intro x p bu h0 h1 hpb he
      have hJ := hI.w (bu := bu) hpb
      rw [zfor] at he
      have hpb2 := sOne_bd (t := mem (b + 1)) (g := mem (b + 3)) (r := mem b 4) (e1 := mem (b + 4)) (e2 := mem (b + 5)) (ln := mem (b + 6)) (fest := sFest (mem b 8) (mem b 9)) (s := (p, bu)) hn0 h0 (by omega) hpb
      refine r_iload_n dX0_passDay_22 rfl ?_
      refine r_aload_n dX0_passDay_23 rfl ?_
      refine r_gI (q := 0) rfl fX0_9 (by exact zlF hb) (by decide) dX0_passDay_24 ?_
      try simp only [zFw_2, zFw_b0, zFw_b4, zFw_b9, zFw_1, zFw_3, zFw_4, zFw_5, zFw_6, zFw_10]
      refine r_icmp_ge (tgt := 53) dX0_passDay_27 (by decide) (fun h27 => absurd h27 (by omega)) (fun h27 => ?_)
      refine r_iload_n dX0_passDay_30 rfl ?_
      refine r_ifb_eq (tgt := 42) dX0_passDay_31 (by decide) (fun h31 => ?_) (fun h31 => ?_)
      ·
        refine r_aload_n dX0_passDay_42 rfl ?_
        refine r_iload_n dX0_passDay_43 rfl ?_
        refine r_w1 (c_X0_driftOff hb hJ _ h0 (by rw [zFw_b0]; omega)) kX0_83 (by exact zlF hb) dX0_passDay_44 ?_
        try simp only [zFw_2, zFw_b0, zFw_b4, zFw_b9, zFw_1, zFw_3, zFw_4, zFw_5, zFw_6, zFw_10]
        rw [zFw_w]
        have e1 : sOne (mem b 0) (mem (b + 1)) (mem (b + 3)) (mem b 4) (mem (b + 4)) (mem (b + 5)) (mem (b + 6)) (sFest (mem b 8) (mem b 9)) x (p, bu) = sOff (mem b 0) (mem b 4) (mem (b + 4)) (mem (b + 5)) (mem (b + 6)) x (zsg (sDriftOf (mem (b + 1) x) (sPlain (mem b 0) p (mem (b + 3)) x))) (sSz (sDriftOf (mem (b + 1) x) (sPlain (mem b 0) p (mem (b + 3)) x))).toNat (p, bu) := by
          unfold sOne
          rw [if_neg (by rw [h31]; decide)]
        rw [e1] at he hpb2
        refine r_iinc dX0_passDay_47 rfl rfl ?_
        rw [zw_id (x := x + 1) (by omega) (by omega)]
        refine r_goto (tgt := 22) dX0_passDay_50 (by decide) ?_
        exact ih _ _ _ (by omega) (by omega) hpb2 he
      ·
        refine r_aload_n dX0_passDay_34 rfl ?_
        refine r_iload_n dX0_passDay_35 rfl ?_
        refine r_w1 (c_X0_comeIn hb hJ _ h0 (by rw [zFw_b0]; omega)) kX0_79 (by exact zlF hb) dX0_passDay_36 ?_
        try simp only [zFw_2, zFw_b0, zFw_b4, zFw_b9, zFw_1, zFw_3, zFw_4, zFw_5, zFw_6, zFw_10]
        rw [zFw_r]
        have e1 : sOne (mem b 0) (mem (b + 1)) (mem (b + 3)) (mem b 4) (mem (b + 4)) (mem (b + 5)) (mem (b + 6)) (sFest (mem b 8) (mem b 9)) x (p, bu) = (sCome (mem b 0) (mem b 4) (mem (b + 4)) (mem (b + 5)) (mem (b + 6)) x p, bu) := by
          unfold sOne
          rw [if_pos h31]
        rw [e1] at he hpb2
        refine r_goto (tgt := 47) dX0_passDay_39 (by decide) ?_
        refine r_iinc dX0_passDay_47 rfl rfl ?_
        rw [zw_id (x := x + 1) (by omega) (by omega)]
        refine r_goto (tgt := 22) dX0_passDay_50 (by decide) ?_
        exact ih _ _ _ (by omega) (by omega) hpb2 he
  refine r_aload_n dX0_passDay_0 rfl ?_
  refine r_gI (q := 9) rfl fX0_40 (by exact zlF hb) (by decide) dX0_passDay_1 ?_
  try simp only [zFw_2, zFw_b0, zFw_b4, zFw_b9, zFw_1, zFw_3, zFw_4, zFw_5, zFw_6, zFw_10]
  refine r_bipush dX0_passDay_4 (k := ?_)
  refine r_irem dX0_passDay_6 (by omega) ?_
  refine r_aload_n dX0_passDay_7 rfl ?_
  refine r_gI (q := 8) rfl fX0_37 (by exact zlF hb) (by decide) dX0_passDay_8 ?_
  try simp only [zFw_2, zFw_b0, zFw_b4, zFw_b9, zFw_1, zFw_3, zFw_4, zFw_5, zFw_6, zFw_10]
  have fin := loop (mem b 0).toNat 0 (mem (b + 2)) (mem b 10) (by omega) (by omega) hp hS
  rw [zFw_self] at fin
  refine r_icmp_ne (tgt := 18) dX0_passDay_11 (by decide) (fun h11 => ?_) (fun h11 => ?_)
  ·
    refine r_iconst dX0_passDay_18 (k := ?_)
    refine r_istore_n dX0_passDay_19 rfl ?_
    refine r_iconst dX0_passDay_20 (k := ?_)
    refine r_istore_n dX0_passDay_21 rfl ?_
    have hf : sFest (mem b 8) (mem b 9) = false := decide_eq_false h11
    rw [hf] at fin
    exact fin
  ·
    refine r_iconst dX0_passDay_14 (k := ?_)
    refine r_goto (tgt := 19) dX0_passDay_15 (by decide) ?_
    refine r_istore_n dX0_passDay_19 rfl ?_
    refine r_iconst dX0_passDay_20 (k := ?_)
    refine r_istore_n dX0_passDay_21 rfl ?_
    have hf : sFest (mem b 8) (mem b 9) = true := decide_eq_true h11
    rw [hf] at fin
    exact fin
end
