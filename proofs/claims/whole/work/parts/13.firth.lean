/-! ===== the class's Firth: places, numbers, and the methods that read ===== -/
section
variable {l : Launch} {G : zG} {R : Room} {own : String} {cc : ByteArray} {nL : Nat} {ret : Option FieldType} {Z : List Frame → Array Value → State → State → Prop} {kc ks : Nat} {Ex : State → Prop} {pc : Nat} {ls st : List zV} {mem : zM}
theorem r_gI {index ci k t o : Nat} {q : Int} (hq : ((k : Nat) : Int) = q) (hf : zFd own index ci k t) (hL9 : zL o = (ci, zNf ci)) (ht9 : t = 0 ∨ t = 3) (hd : decode cc pc = .ok (.getfield index, 3)) (kk : SW l G R own cc nL ret Z kc ks Ex (pc + 3) ls (zI (mem o q) :: st) mem) : SW l G R own cc nL ret Z kc ks Ex pc ls (zR o :: st) mem := by
  subst hq
  exact r_getI hf hL9 ht9 hd kk
theorem r_gJ {index ci k o : Nat} {q : Int} (hq : ((k : Nat) : Int) = q) (hf : zFd own index ci k 1) (hL9 : zL o = (ci, zNf ci)) (hd : decode cc pc = .ok (.getfield index, 3)) (kk : SW l G R own cc nL ret Z kc ks Ex (pc + 3) ls (zJ (mem o q) :: st) mem) : SW l G R own cc nL ret Z kc ks Ex pc ls (zR o :: st) mem := by
  subst hq
  exact r_getJ hf hL9 hd kk
theorem r_pI {index ci k o : Nat} {q x : Int} (hq : ((k : Nat) : Int) = q) (hf : zFp own index ci k 0) (hL9 : zL o = (ci, zNf ci)) (hd : decode cc pc = .ok (.putfield index, 3)) (kk : SW l G R own cc nL ret Z kc ks Ex (pc + 3) ls st (zs mem o q x)) : SW l G R own cc nL ret Z kc ks Ex pc ls (zI x :: zR o :: st) mem := by
  subst hq
  exact r_putI hf hL9 hd kk
theorem r_pZ {index ci k o : Nat} {q x : Int} (hq : ((k : Nat) : Int) = q) (hf : zFp own index ci k 3) (hL9 : zL o = (ci, zNf ci)) (h01 : x = 0 ∨ x = 1) (hd : decode cc pc = .ok (.putfield index, 3)) (kk : SW l G R own cc nL ret Z kc ks Ex (pc + 3) ls st (zs mem o q x)) : SW l G R own cc nL ret Z kc ks Ex pc ls (zI x :: zR o :: st) mem := by
  subst hq
  exact r_putZ hf hL9 h01 hd kk
theorem r_pJ {index ci k o : Nat} {q x : Int} (hq : ((k : Nat) : Int) = q) (hf : zFp own index ci k 1) (hL9 : zL o = (ci, zNf ci)) (hd : decode cc pc = .ok (.putfield index, 3)) (kk : SW l G R own cc nL ret Z kc ks Ex (pc + 3) ls st (zs mem o q x)) : SW l G R own cc nL ret Z kc ks Ex pc ls (zJ x :: zR o :: st) mem := by
  subst hq
  exact r_putJ hf hL9 hd kk
end
def isF (b : Nat) : Prop := b = 1 ∨ b = 8 ∨ b = 21 ∨ b = 33 ∨ b = 55
theorem zlF {b : Nat} (h : isF b) : zL b = (0, zNf 0) := by rcases h with rfl | rfl | rfl | rfl | rfl <;> rfl
theorem zrF1 {b : Nat} (h : isF b) : zRf b 1 = b + 1 := by rcases h with rfl | rfl | rfl | rfl | rfl <;> rfl
theorem zrF2 {b : Nat} (h : isF b) : zRf b 2 = b + 2 := by rcases h with rfl | rfl | rfl | rfl | rfl <;> rfl
theorem zrF3 {b : Nat} (h : isF b) : zRf b 3 = b + 3 := by rcases h with rfl | rfl | rfl | rfl | rfl <;> rfl
theorem zrF5 {b : Nat} (h : isF b) : zRf b 5 = b + 4 := by rcases h with rfl | rfl | rfl | rfl | rfl <;> rfl
theorem zrF6 {b : Nat} (h : isF b) : zRf b 6 = b + 5 := by rcases h with rfl | rfl | rfl | rfl | rfl <;> rfl
theorem zrF7 {b : Nat} (h : isF b) : zRf b 7 = b + 6 := by rcases h with rfl | rfl | rfl | rfl | rfl <;> rfl
theorem zaF1 {b : Nat} (h : isF b) : zL (b + 1) = (10, 5) := by rcases h with rfl | rfl | rfl | rfl | rfl <;> rfl
theorem zaF2 {b : Nat} (h : isF b) : zL (b + 2) = (10, 5) := by rcases h with rfl | rfl | rfl | rfl | rfl <;> rfl
theorem zaF3 {b : Nat} (h : isF b) : zL (b + 3) = (10, 25) := by rcases h with rfl | rfl | rfl | rfl | rfl <;> rfl
theorem zaF4 {b : Nat} (h : isF b) : zL (b + 4) = (10, 6) := by rcases h with rfl | rfl | rfl | rfl | rfl <;> rfl
theorem zaF5 {b : Nat} (h : isF b) : zL (b + 5) = (10, 6) := by rcases h with rfl | rfl | rfl | rfl | rfl <;> rfl
theorem zaF6 {b : Nat} (h : isF b) : zL (b + 6) = (10, 6) := by rcases h with rfl | rfl | rfl | rfl | rfl <;> rfl
/-! ===== the words of the firth, for class and reference ===== -/
def zfor {α : Type} (f : Int → α → α) (i : Int) : Nat → α → α
  | 0, a => a
  | k + 1, a => zfor f (i + 1) k (f i a)
def zany (f : Int → Bool) (i : Int) : Nat → Bool
  | 0 => false
  | k + 1 => f i || zany f (i + 1) k
def sRopes (r : Int) (e1 e2 : Int → Int) (i : Int) : Int := zfor (fun k a => if e1 k = i ∨ e2 k = i then a + 1 else a) 0 r.toNat 0
def sLens (r : Int) (ln : Int → Int) : Int := zfor (fun k a => a + ln k) 0 r.toNat 0
def sGrudges (n : Int) (g : Int → Int) : Int := zfor (fun i a => zfor (fun j c => c + if i = j then 0 else g (5 * i + j)) 0 n.toNat a) 0 n.toNat 0
def sMin (p : Int → Int) (k : Nat) : Int := zfor (fun i a => min a (p i)) 1 k (p 0)
def sMax (p : Int → Int) (k : Nat) : Int := zfor (fun i a => max a (p i)) 1 k (p 0)
def sSpread (n : Int) (p : Int → Int) : Int := if n < 2 then 0 else sMax p (n - 1).toNat - sMin p (n - 1).toNat
def sMoved (n : Int) (p q : Int → Int) : Int := zfor (fun i a => if p i = q i then a else a + 1) 0 n.toNat 0
def sTaken (n : Int) (p : Int → Int) (v but : Int) : Bool := zany (fun i => decide (i ≠ but ∧ p i = v)) 0 n.toNat
def sSz (x : Int) : Int := if 0 ≤ x then x else -x
def sNear (n : Int) (p : Int → Int) (i : Int) : Int := (zfor (fun j (a : Int × Int) => if j ≠ i ∧ sSz (p i - p j) < a.1 then (sSz (p i - p j), j) else a) 0 n.toNat (100, -4)).2
def sPlain (n : Int) (p g : Int → Int) (i : Int) : Int := zfor (fun j a => if j = i then a else a + if p j < p i then g (5 * i + j) else -g (5 * i + j)) 0 n.toNat 0
def sDriftOf (t plain : Int) : Int := if t = 1 then 2 * plain else if t = 2 then plain.tdiv 2 else if t = 3 then 2 * plain - zsg plain else plain
def sHeld (r : Int) (e1 e2 ln p : Int → Int) (i to : Int) : Bool := zany (fun k => decide ((e1 k = i ∨ e2 k = i) ∧ ln k < sSz (to - p (if e1 k = i then e2 k else e1 k)) ∧ sSz (p i - p (if e1 k = i then e2 k else e1 k)) < sSz (to - p (if e1 k = i then e2 k else e1 k)))) 0 r.toNat
theorem zabs_sz {x : Int} (h : -2147483648 < x) (h2 : x < 2147483648) : zabs x = sSz x := by
  unfold zabs sSz
  split
  · rfl
  · exact zw_id (by omega) (by omega)
theorem sSz_0 (x : Int) : 0 ≤ sSz x := by unfold sSz; split <;> omega
theorem sSz_le {x m : Int} (h1 : -m ≤ x) (h2 : x ≤ m) : sSz x ≤ m := by unfold sSz; split <;> omega
/-- what holds of a firth's numbers -/
def zFI (mem : zM) (b : Nat) : Prop := 0 ≤ mem b 0 ∧ mem b 0 ≤ 5 ∧ 0 ≤ mem b 4 ∧ mem b 4 ≤ 6 ∧ (∀ i, 0 ≤ i → i < mem b 0 → 0 ≤ mem (b + 2) i ∧ mem (b + 2) i ≤ 99) ∧ (∀ i j, 0 ≤ i → i < mem b 0 → 0 ≤ j → j < mem b 0 → 0 ≤ mem (b + 3) (5 * i + j) ∧ mem (b + 3) (5 * i + j) ≤ 3) ∧ (∀ k, 0 ≤ k → k < mem b 4 → 0 ≤ mem (b + 4) k ∧ mem (b + 4) k < mem b 0 ∧ 0 ≤ mem (b + 5) k ∧ mem (b + 5) k < mem b 0 ∧ 0 ≤ mem (b + 6) k ∧ mem (b + 6) k ≤ 30)
section
variable {l : Launch} {G : zG} {mem : zM} {b : Nat}
set_option maxRecDepth 100000 in
theorem c_X0_grudge (hb : isF b) (i j : Int) (h1 : 0 ≤ i) (h2 : i < 5) (h3 : 0 ≤ j) (h4 : j < 5) : KX0_grudge l G 0 [zR b, zI i, zI j] mem (zP1 (zI (mem (b + 3) (5 * i + j))) mem) := by
  refine CT.of' (own := RX0) (ls0 := [zR b, zI i, zI j]) rfl (by decide +kernel) (Nat.le_of_ble_eq_true rfl) rfl ?_
  refine r_aload_n dX0_grudge_0 rfl ?_
  refine r_getR fX0_22 (by exact zlF hb) (zrF3 hb) dX0_grudge_1 ?_
  refine r_iload_n dX0_grudge_4 rfl ?_
  refine r_iconst dX0_grudge_5 (k := ?_)
  refine r_imul dX0_grudge_6 ?_
  try rw [zw_id (by omega) (by omega)]
  refine r_iload_n dX0_grudge_7 rfl ?_
  refine r_iadd dX0_grudge_8 ?_
  try rw [zw_id (by omega) (by omega)]
  refine r_iald (by first | exact zaF1 hb | exact zaF2 hb | exact zaF3 hb | exact zaF4 hb | exact zaF5 hb | exact zaF6 hb) (by omega) (by omega) dX0_grudge_9 ?_
  refine r_iret dX0_grudge_10 ?_
  exact zP1.ofI (by rw [show i * 5 + j = 5 * i + j by omega])
set_option maxRecDepth 100000 in
theorem c_X0_setGrudge (hb : isF b) (i j v : Int) (h1 : 0 ≤ i) (h2 : i < 5) (h3 : 0 ≤ j) (h4 : j < 5) : KX0_setGrudge l G 0 [zR b, zI i, zI j, zI v] mem (zP0 (zs mem (b + 3) (5 * i + j) v)) := by
  refine CT.of' (own := RX0) (ls0 := [zR b, zI i, zI j, zI v]) rfl (by decide +kernel) (Nat.le_of_ble_eq_true rfl) rfl ?_
  refine r_aload_n dX0_setGrudge_0 rfl ?_
  refine r_getR fX0_22 (by exact zlF hb) (zrF3 hb) dX0_setGrudge_1 ?_
  refine r_iload_n dX0_setGrudge_4 rfl ?_
  refine r_iconst dX0_setGrudge_5 (k := ?_)
  refine r_imul dX0_setGrudge_6 ?_
  try rw [zw_id (by omega) (by omega)]
  refine r_iload_n dX0_setGrudge_7 rfl ?_
  refine r_iadd dX0_setGrudge_8 ?_
  try rw [zw_id (by omega) (by omega)]
  refine r_iload_n dX0_setGrudge_9 rfl ?_
  refine r_iast (by first | exact zaF1 hb | exact zaF2 hb | exact zaF3 hb | exact zaF4 hb | exact zaF5 hb | exact zaF6 hb) (by omega) (by omega) dX0_setGrudge_10 ?_
  refine r_vret dX0_setGrudge_11 ?_
  exact zP0.of (by rw [show i * 5 + j = 5 * i + j by omega])
set_option maxRecDepth 100000 in
theorem c_X0_ropesOf (hb : isF b) (i : Int) (hr0 : 0 ≤ mem b 4) (hr6 : mem b 4 ≤ 6) : KX0_ropesOf l G 0 [zR b, zI i] mem (zP1 (zI (sRopes (mem b 4) (mem (b + 4)) (mem (b + 5)) i)) mem) := by
  refine CT.of' (own := RX0) (ls0 := [zR b, zI i, zU, zU]) rfl (by decide +kernel) (Nat.le_of_ble_eq_true rfl) rfl ?_
  refine r_iconst dX0_ropesOf_0 (k := ?_)
  refine r_istore_n dX0_ropesOf_1 rfl ?_
  refine r_iconst dX0_ropesOf_2 (k := ?_)
  refine r_istore_n dX0_ropesOf_3 rfl ?_
  have loop : ∀ (k : Nat) (x a : Int), 0 ≤ x → x + k = mem b 4 → 0 ≤ a → a ≤ x → zfor (fun k a => if mem (b + 4) k = i ∨ mem (b + 5) k = i then a + 1 else a) x k a = sRopes (mem b 4) (mem (b + 4)) (mem (b + 5)) i → SW l G (zrm 0) RX0 cX0_ropesOf 4 (some .int) (zZ G (zP1 (zI (sRopes (mem b 4) (mem (b + 4)) (mem (b + 5)) i)) mem)) 0 0 (fun _ => True) 4 [zR b, zI i, zI a, zI x] [] mem := by
    intro k
    induction k with
    | zero =>
      intro x a h0 h1 h2 h3 he
      refine r_iload_n dX0_ropesOf_4 rfl ?_
      refine r_aload_n dX0_ropesOf_5 rfl ?_
      refine r_gI (q := 4) rfl fX0_25 (by exact zlF hb) (by decide) dX0_ropesOf_6 ?_
      refine r_icmp_ge (tgt := 41) dX0_ropesOf_9 (by decide) (fun h9 => ?_) (fun h9 => ?_)
      · refine r_iload_n dX0_ropesOf_41 rfl ?_
        refine r_iret dX0_ropesOf_42 ?_
        exact zP1.ofI he
      · exact absurd (by omega) h9
    | succ k ih =>
      intro x a h0 h1 h2 h3 he
      refine r_iload_n dX0_ropesOf_4 rfl ?_
      refine r_aload_n dX0_ropesOf_5 rfl ?_
      refine r_gI (q := 4) rfl fX0_25 (by exact zlF hb) (by decide) dX0_ropesOf_6 ?_
      refine r_icmp_ge (tgt := 41) dX0_ropesOf_9 (by decide) (fun h9 => ?_) (fun h9 => ?_)
      · exact absurd h9 (by omega)
      · refine r_aload_n dX0_ropesOf_12 rfl ?_
        refine r_getR fX0_28 (by exact zlF hb) (zrF5 hb) dX0_ropesOf_13 ?_
        refine r_iload_n dX0_ropesOf_16 rfl ?_
        refine r_iald (by first | exact zaF1 hb | exact zaF2 hb | exact zaF3 hb | exact zaF4 hb | exact zaF5 hb | exact zaF6 hb) (by omega) (by omega) dX0_ropesOf_17 ?_
        refine r_iload_n dX0_ropesOf_18 rfl ?_
        refine r_icmp_eq (tgt := 32) dX0_ropesOf_19 (by decide) (fun h19 => ?_) (fun h19 => ?_)
        · refine r_iinc dX0_ropesOf_32 rfl rfl ?_
          try rw [zw_id (by omega) (by omega)]
          refine r_iinc dX0_ropesOf_35 rfl rfl ?_
          try rw [zw_id (by omega) (by omega)]
          refine r_goto (tgt := 4) dX0_ropesOf_38 (by decide) ?_
          exact ih _ _ (by omega) (by omega) (by omega) (by omega) (by rw [zfor] at he; simpa [*] using he)
        · refine r_aload_n dX0_ropesOf_22 rfl ?_
          refine r_getR fX0_31 (by exact zlF hb) (zrF6 hb) dX0_ropesOf_23 ?_
          refine r_iload_n dX0_ropesOf_26 rfl ?_
          refine r_iald (by first | exact zaF1 hb | exact zaF2 hb | exact zaF3 hb | exact zaF4 hb | exact zaF5 hb | exact zaF6 hb) (by omega) (by omega) dX0_ropesOf_27 ?_
          refine r_iload_n dX0_ropesOf_28 rfl ?_
          refine r_icmp_ne (tgt := 35) dX0_ropesOf_29 (by decide) (fun h29 => ?_) (fun h29 => ?_)
          · refine r_iinc dX0_ropesOf_35 rfl rfl ?_
            try rw [zw_id (by omega) (by omega)]
            refine r_goto (tgt := 4) dX0_ropesOf_38 (by decide) ?_
            exact ih _ _ (by omega) (by omega) (by omega) (by omega) (by rw [zfor] at he; simpa [*] using he)
          · refine r_iinc dX0_ropesOf_32 rfl rfl ?_
            try rw [zw_id (by omega) (by omega)]
            refine r_iinc dX0_ropesOf_35 rfl rfl ?_
            try rw [zw_id (by omega) (by omega)]
            refine r_goto (tgt := 4) dX0_ropesOf_38 (by decide) ?_
            exact ih _ _ (by omega) (by omega) (by omega) (by omega) (by rw [zfor] at he; simpa [*] using he)
  exact loop (mem b 4).toNat 0 0 (by omega) (by omega) (by omega) (by omega) rfl
end
