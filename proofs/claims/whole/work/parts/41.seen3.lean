/-! ===== what was seen: the reference's kinds and sulks ===== -/
theorem sBits_z {f : Int → Bool} {v : Nat} (hv : v < 4) : zor (sBits f v) (zshl (zb (f v)) v) = sBits f (v + 1) := by
  cases h : f v with
  | true => exact sBits_1 hv h
  | false => exact sBits_00 hv h
section
variable {l : Launch} {G : zG} {mem : zM}
theorem c_mSo {m : zM} (hk : kM mem m) {W : zVw} (k v : Int) (hk0 : 0 ≤ k) (hk1 : k < 76) (hI : mI (mem 65 3) (zu (zcp (m 66) (m 67) 0 0 76) k v)) (hv : VEQ (vM (mem 65 3) (zu (zcp (m 66) (m 67) 0 0 76) k v)) W) (hs : sSB W.1 (mem 66 57) (sb3 (mem 66)) (sw3 (mem 66))) : KX6_isSoWith l G 5 [zR 65, zI k, zI v] m (zPW W (zI (zb (sSo W (mem 66 57) (sb3 (mem 66)) (sw3 (mem 66)) (sp3 (mem 66))))) m) := by
  have e65 : m 65 3 = mem 65 3 := hk.2 3 (by decide) (by decide) (by decide) (by decide) (by decide)
  have e66 : m 66 = mem 66 := hk.at (by decide) (by decide) (by decide) (by decide)
  have q := c_isSoWith (l := l) (G := G) (mem := m) (W := W) k v hk0 hk1 (by rw [e65]; exact hI) (by rw [e65]; exact hv) (by rw [e66]; exact hs)
  rw [e66] at q
  exact q
set_option maxRecDepth 100000 in
theorem c_which {F : Int → zVw} (cell : Int) (hc0 : 0 ≤ cell) (hc1 : cell < 76) (hW : ∀ m, kM mem m → ∀ v, 0 ≤ v → v ≤ 3 → mI (mem 65 3) (zu (zcp (m 66) (m 67) 0 0 76) cell v) ∧ VEQ (vM (mem 65 3) (zu (zcp (m 66) (m 67) 0 0 76) cell v)) (F v)) (hs : sSB (mem 65 3) (mem 66 57) (sb3 (mem 66)) (sw3 (mem 66))) : KX6_which l G 6 [zR 65, zI cell, zI 3] mem (zPM (zI (sBits (fun v => sSo (F v) (mem 66 57) (sb3 (mem 66)) (sw3 (mem 66)) (sp3 (mem 66))) 4)) mem) := by
  refine CT.of' (own := RX6) (ls0 := [zR 65, zI cell, zI 3, zU, zU]) rfl (by decide +kernel) (Nat.le_of_ble_eq_true rfl) rfl ?_
  have loop : ∀ (k : Nat) (x : Nat) (m : zM), x + k = 4 → kM mem m → SW l G (zrm 6) RX6 cX6_which 5 (some .int) (zZ G (zPM (zI (sBits (fun v => sSo (F v) (mem 66 57) (sb3 (mem 66)) (sw3 (mem 66)) (sp3 (mem 66))) 4)) mem)) 0 0 (fun _ => True) 5 [zR 65, zI cell, zI 3, zI (sBits (fun v => sSo (F v) (mem 66 57) (sb3 (mem 66)) (sw3 (mem 66)) (sp3 (mem 66))) x), zI x] [] m := by
    intro k
    induction k with
    | zero =>
      intro x m h1 hk
      refine r_iload dX6_which_5 rfl ?_
      refine r_iload_n dX6_which_7 rfl ?_
      refine r_icmp_gt (tgt := 33) dX6_which_8 (by decide) (fun h8 => ?_) (fun h8 => ?_)
      · refine r_iload_n dX6_which_33 rfl ?_
        refine r_iret dX6_which_34 ?_
        exact zPM.i (by rw [show x = 4 by omega]) hk
      · exact absurd (by omega) h8
    | succ k ih =>
      intro x m h1 hk
      refine r_iload dX6_which_5 rfl ?_
      refine r_iload_n dX6_which_7 rfl ?_
      refine r_icmp_gt (tgt := 33) dX6_which_8 (by decide) (fun h8 => ?_) (fun h8 => ?_)
      · exact absurd h8 (by omega)
      · refine r_iload_n dX6_which_11 rfl ?_
        refine r_aload_n dX6_which_12 rfl ?_
        refine r_iload_n dX6_which_13 rfl ?_
        refine r_iload dX6_which_14 rfl ?_
        refine r_vW2 (c_mSo hk _ _ hc0 hc1 (hW m hk x (by omega) (by omega)).1 (hW m hk x (by omega) (by omega)).2 (by rw [← (hW m hk x (by omega) (by omega)).2.1]; exact hs)) kX6_300 rfl dX6_which_16 (fun X16 Y16 hY16 => ?_)
        refine r_s1 (c_flag _ (zb_01 _)) kX6_200 dX6_which_19 ?_
        refine r_iload dX6_which_22 rfl ?_
        refine r_ishl dX6_which_24 ?_
        refine r_ior dX6_which_25 ?_
        refine r_istore_n dX6_which_26 rfl ?_
        refine r_iinc dX6_which_27 rfl rfl ?_
        try rw [zw_id (by omega) (by omega)]
        refine r_goto (tgt := 5) dX6_which_30 (by decide) ?_
        rw [sBits_z (f := fun v => sSo (F v) (mem 66 57) (sb3 (mem 66)) (sw3 (mem 66)) (sp3 (mem 66))) (by omega)]
        exact ih (x + 1) _ (by omega) ((hk.r (Or.inl rfl)).r (Or.inr (Or.inl rfl)))
  refine r_iconst dX6_which_0 (k := ?_)
  refine r_istore_n dX6_which_1 rfl ?_
  refine r_iconst dX6_which_2 (k := ?_)
  refine r_istore dX6_which_3 rfl ?_
  exact loop 4 0 mem (by omega) kM.rf
theorem mKind {i : Int} (hI : mI (mem 65 3) (mem 66)) (h0 : 0 ≤ i) (h1 : i < mem 65 3) : ∀ m, kM mem m → ∀ v, 0 ≤ v → v ≤ 3 → mI (mem 65 3) (zu (zcp (m 66) (m 67) 0 0 76) (2 * i) v) ∧ VEQ (vM (mem 65 3) (zu (zcp (m 66) (m 67) 0 0 76) (2 * i) v)) (vKind (vM (mem 65 3) (mem 66)) i v) := fun m hk v a b => by
  obtain ⟨g1, g2, g3⟩ := mStart hI hk
  exact ⟨(vM_kind g1 h0 h1).1, (vM_kind g1 h0 h1).2.trans (g2.kind i v)⟩
theorem mSulk {i j : Int} (hI : mI (mem 65 3) (mem 66)) (h0 : 0 ≤ i) (h1 : i < mem 65 3) (h2 : 0 ≤ j) (h3 : j < mem 65 3) : ∀ m, kM mem m → ∀ v, 0 ≤ v → v ≤ 3 → mI (mem 65 3) (zu (zcp (m 66) (m 67) 0 0 76) (10 + (5 * i + j)) v) ∧ VEQ (vM (mem 65 3) (zu (zcp (m 66) (m 67) 0 0 76) (10 + (5 * i + j)) v)) (vGrudge (vM (mem 65 3) (mem 66)) i j v) := fun m hk v a b => by
  obtain ⟨g1, g2, g3⟩ := mStart hI hk
  exact ⟨(vM_grudge g1 a b h0 h1 h2 h3).1, (vM_grudge g1 a b h0 h1 h2 h3).2.trans (g2.grudge i j v)⟩
set_option maxRecDepth 100000 in
theorem c_X6_kinds (hI : mI (mem 65 3) (mem 66)) (hs : sSB (mem 65 3) (mem 66 57) (sb3 (mem 66)) (sw3 (mem 66))) (i : Int) : KX6_kinds l G 7 [zR 65, zI i] mem (zPM (zI (if 0 ≤ i ∧ i < mem 65 3 then sBits (fun v => sSo (vKind (vM (mem 65 3) (mem 66)) i v) (mem 66 57) (sb3 (mem 66)) (sw3 (mem 66)) (sp3 (mem 66))) 4 else -1)) mem) := by
  have hn0 := hI.1
  have hn5 := hI.2.1
  refine CT.of' (own := RX6) (ls0 := [zR 65, zI i]) rfl (by decide +kernel) (Nat.le_of_ble_eq_true rfl) rfl ?_
  refine r_aload_n dX6_kinds_0 rfl ?_
  refine r_iload_n dX6_kinds_1 rfl ?_
  refine r_v1 (c_isIsle _ hn0 hn5) kX6_151 rfl dX6_kinds_2 ?_
  refine r_ifd_eq (tgt := 21) dX6_kinds_5 (by decide) (fun h5 => ?_) (fun h5 => ?_)
  · refine r_iconst dX6_kinds_21 (k := ?_)
    refine r_iret dX6_kinds_22 ?_
    first | (rw [if_pos h5]; exact zPM.i rfl hk15) | (rw [if_neg h5]; exact zPM.i rfl kM.rf)
  · refine r_aload_n dX6_kinds_8 rfl ?_
    refine r_iconst dX6_kinds_9 (k := ?_)
    refine r_iload_n dX6_kinds_10 rfl ?_
    refine r_imul dX6_kinds_11 ?_
    try rw [zw_id (by omega) (by omega)]
    refine r_iconst dX6_kinds_12 (k := ?_)
    refine r_iadd dX6_kinds_13 ?_
    try rw [zw_id (by omega) (by omega)]
    rw [show 2 * i + 0 = 2 * i by omega]
    refine r_iconst dX6_kinds_14 (k := ?_)
    refine r_vM2 (c_which (F := fun v => vKind (vM (mem 65 3) (mem 66)) i v) _ (by omega) (by omega) (mKind hI h5.1 h5.2) hs) kX6_303 rfl dX6_kinds_15 (fun m15 hk15 => ?_)
    refine r_goto (tgt := 22) dX6_kinds_18 (by decide) ?_
    refine r_iret dX6_kinds_22 ?_
    first | (rw [if_pos h5]; exact zPM.i rfl hk15) | (rw [if_neg h5]; exact zPM.i rfl kM.rf)
set_option maxRecDepth 100000 in
theorem c_X6_sulks (hI : mI (mem 65 3) (mem 66)) (hs : sSB (mem 65 3) (mem 66 57) (sb3 (mem 66)) (sw3 (mem 66))) (i j : Int) : KX6_sulks l G 7 [zR 65, zI i, zI j] mem (zPM (zI (if 0 ≤ i ∧ i < mem 65 3 ∧ 0 ≤ j ∧ j < mem 65 3 ∧ i ≠ j then sBits (fun v => sSo (vGrudge (vM (mem 65 3) (mem 66)) i j v) (mem 66 57) (sb3 (mem 66)) (sw3 (mem 66)) (sp3 (mem 66))) 4 else -1)) mem) := by
  have hn0 := hI.1
  have hn5 := hI.2.1
  refine CT.of' (own := RX6) (ls0 := [zR 65, zI i, zI j]) rfl (by decide +kernel) (Nat.le_of_ble_eq_true rfl) rfl ?_
  refine r_aload_n dX6_sulks_0 rfl ?_
  refine r_iload_n dX6_sulks_1 rfl ?_
  refine r_iload_n dX6_sulks_2 rfl ?_
  refine r_v2 (c_areTwo _ _ hn0 hn5) kX6_207 rfl dX6_sulks_3 ?_
  refine r_ifd_eq (tgt := 25) dX6_sulks_6 (by decide) (fun h6 => ?_) (fun h6 => ?_)
  · refine r_iconst dX6_sulks_25 (k := ?_)
    refine r_iret dX6_sulks_26 ?_
    first | (rw [if_pos h6]; exact zPM.i rfl hk19) | (rw [if_neg h6]; exact zPM.i rfl kM.rf)
  · refine r_aload_n dX6_sulks_9 rfl ?_
    refine r_bipush dX6_sulks_10 (k := ?_)
    refine r_iconst dX6_sulks_12 (k := ?_)
    refine r_iload_n dX6_sulks_13 rfl ?_
    refine r_imul dX6_sulks_14 ?_
    try rw [zw_id (by omega) (by omega)]
    refine r_iadd dX6_sulks_15 ?_
    try rw [zw_id (by omega) (by omega)]
    refine r_iload_n dX6_sulks_16 rfl ?_
    refine r_iadd dX6_sulks_17 ?_
    try rw [zw_id (by omega) (by omega)]
    rw [show 10 + 5 * i + j = 10 + (5 * i + j) by omega]
    refine r_iconst dX6_sulks_18 (k := ?_)
    refine r_vM2 (c_which (F := fun v => vGrudge (vM (mem 65 3) (mem 66)) i j v) _ (by omega) (by omega) (mSulk hI h6.1 h6.2.1 h6.2.2.1 h6.2.2.2.1) hs) kX6_303 rfl dX6_sulks_19 (fun m19 hk19 => ?_)
    refine r_goto (tgt := 26) dX6_sulks_22 (by decide) ?_
    refine r_iret dX6_sulks_26 ?_
    first | (rw [if_pos h6]; exact zPM.i rfl hk19) | (rw [if_neg h6]; exact zPM.i rfl kM.rf)
end
