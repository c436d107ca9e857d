/-! ===== luck and mean of the reference, told ===== -/
theorem sVal_n {w : Int} (h : w ≠ -1) : sVal w = sNr w := by
  funext x; unfold sVal sNr; rw [if_neg h]
theorem sVal_i : sVal (-1) = fun x => x := by
  funext x; unfold sVal; rw [if_pos rfl]
theorem vT_M {n : Int} {c val : Int → Int} {v : Int} {k : Nat} : sMS n (mT c) (mG c) (c 53) (m1 c) (m2 c) (m3 c) (c 55) val v k (mP c) (c 54) = vT (vM n c) val v k := sMS_T k _ _
theorem vT_bdM {n : Int} {c : Int → Int} (hI : mI n c) {v w : Int} (hv0 : 0 ≤ v) (hv1 : v ≤ 10) {k : Nat} (hk : k ≤ 8) : 0 ≤ vT (vM n c) (sVal w) v k ∧ vT (vM n c) (sVal w) v k ≤ 9900000000 := by
  have a := sT_bd (n := n) (t := mT c) (g := mG c) (r := c 53) (e1 := m1 c) (e2 := m2 c) (ln := m3 c) (hol := c 55) (w := w) hv0 hv1 hI.1 k (dy := c 54) hI.2.2.2.2.1
  have e := z_10 hk
  have e : vT (vM n c) (sVal w) v k = sT n (mT c) (mG c) (c 53) (m1 c) (m2 c) (m3 c) (c 55) (sVal w) v k (mP c) (c 54) := rfl
  omega
section
variable {l : Launch} {G : zG} {mem : zM}
set_option maxRecDepth 100000 in
theorem c_X6_luck (hI : mI (mem 65 3) (mem 66)) (v n w q : Int) : KX6_luck l G 6 [zR 65, zI v, zI n, zI w, zI q] mem (zPM (zJ (if 0 ≤ v ∧ v ≤ 10 ∧ 0 ≤ n ∧ n ≤ 8 ∧ 0 ≤ q ∧ q ≤ 1 ∧ 0 ≤ w ∧ w ≤ 99 then sFr (vT (vM (mem 65 3) (mem 66)) (sVal w) v n.toNat) n q else -1)) mem) := by
  by_cases hc : 0 ≤ v ∧ v ≤ 10 ∧ 0 ≤ n ∧ n ≤ 8 ∧ 0 ≤ q ∧ q ≤ 1 ∧ 0 ≤ w ∧ w ≤ 99
  · rw [if_pos hc]
    have hb := vT_bdM hI (v := v) (w := w) (k := n.toNat) (by omega) (by omega) (by omega)
    have hM := c_findOdds (l := l) (G := G) hI v n w (by omega) (by omega) (by omega) (by omega)
    rw [vT_M, vT_M, ← sVal_n (show w ≠ -1 by omega)] at hM
    refine CT.of' (own := RX6) (ls0 := [zR 65, zI v, zI n, zI w, zI q]) rfl (by decide +kernel) (Nat.le_of_ble_eq_true rfl) rfl ?_
    refine r_iload_n dX6_luck_0 rfl ?_
    refine r_i2l dX6_luck_1 ?_
    refine r_lconst dX6_luck_2 rfl (k := ?_)
    refine r_ldc2 nX6_285 dX6_luck_3 (x := 10) (k := ?_)
    refine r_s3 (c_in _ _ _) kX6_69 dX6_luck_6 ?_
    refine r_ifd_eq (tgt := 39) dX6_luck_9 (by decide) (fun h9 => ?_) (fun h9 => ?_)
    · first
        | exact absurd hc (by omega)
        | (have z : ¬ (0 ≤ n ∧ n ≤ 8) := h21; exact absurd hc (by omega))
        | (have z : ¬ (0 ≤ v ∧ v ≤ 10) := h9; exact absurd hc (by omega))
    · refine r_iload_n dX6_luck_12 rfl ?_
      refine r_i2l dX6_luck_13 ?_
      refine r_lconst dX6_luck_14 rfl (k := ?_)
      refine r_ldc2 nX6_287 dX6_luck_15 (x := 8) (k := ?_)
      refine r_s3 (c_in _ _ _) kX6_69 dX6_luck_18 ?_
      refine r_ifd_eq (tgt := 39) dX6_luck_21 (by decide) (fun h21 => ?_) (fun h21 => ?_)
      · first
          | exact absurd hc (by omega)
          | (have z : ¬ (0 ≤ n ∧ n ≤ 8) := h21; exact absurd hc (by omega))
          | (have z : ¬ (0 ≤ v ∧ v ≤ 10) := h9; exact absurd hc (by omega))
      · refine r_iload_n dX6_luck_24 rfl ?_
        refine r_s1 (c_isFathom _) kX6_171 dX6_luck_25 ?_
        refine r_ifd_eq (tgt := 39) dX6_luck_28 (by decide) (fun h28 => ?_) (fun h28 => ?_)
        · first
            | exact absurd hc (by omega)
            | (have z : ¬ (0 ≤ n ∧ n ≤ 8) := h21; exact absurd hc (by omega))
            | (have z : ¬ (0 ≤ v ∧ v ≤ 10) := h9; exact absurd hc (by omega))
        · refine r_iload dX6_luck_31 rfl ?_
          refine r_s1 (c_isPart _) kX6_251 dX6_luck_33 ?_
          refine r_ifd_ne (tgt := 43) dX6_luck_36 (by decide) (fun h36 => ?_) (fun h36 => ?_)
          · refine r_aload_n dX6_luck_43 rfl ?_
            refine r_iload_n dX6_luck_44 rfl ?_
            refine r_iload_n dX6_luck_45 rfl ?_
            refine r_iload_n dX6_luck_46 rfl ?_
            refine r_wO3 hM kX6_291 rfl dX6_luck_47 (fun m hk e1 e2 e3 => ?_)
            refine r_aload_n dX6_luck_50 rfl ?_
            refine r_gJ (q := 19) rfl fX6_275 rfl dX6_luck_51 ?_
            rw [e1]
            refine r_aload_n dX6_luck_54 rfl ?_
            refine r_gJ (q := 21) rfl fX6_282 rfl dX6_luck_55 ?_
            rw [e3]
            refine r_iload dX6_luck_58 rfl ?_
            refine r_s3 (c_told _ _ _ hb.1 (Int.lt_of_le_of_lt hb.2 (by decide)) (by omega) (by omega)) kX6_294 dX6_luck_60 ?_
            refine r_lret dX6_luck_63 ?_
            exact ⟨rfl, hk⟩
          · first
              | exact absurd hc (by omega)
              | (have z : ¬ (0 ≤ n ∧ n ≤ 8) := h21; exact absurd hc (by omega))
              | (have z : ¬ (0 ≤ v ∧ v ≤ 10) := h9; exact absurd hc (by omega))
  · rw [if_neg hc]
    refine CT.of' (own := RX6) (ls0 := [zR 65, zI v, zI n, zI w, zI q]) rfl (by decide +kernel) (Nat.le_of_ble_eq_true rfl) rfl ?_
    refine r_iload_n dX6_luck_0 rfl ?_
    refine r_i2l dX6_luck_1 ?_
    refine r_lconst dX6_luck_2 rfl (k := ?_)
    refine r_ldc2 nX6_285 dX6_luck_3 (x := 10) (k := ?_)
    refine r_s3 (c_in _ _ _) kX6_69 dX6_luck_6 ?_
    refine r_ifd_eq (tgt := 39) dX6_luck_9 (by decide) (fun h9 => ?_) (fun h9 => ?_)
    · refine r_ldc2 nX6_289 dX6_luck_39 (x := -1) (k := ?_)
      refine r_lret dX6_luck_42 ?_
      exact ⟨rfl, kM.rf⟩
    · refine r_iload_n dX6_luck_12 rfl ?_
      refine r_i2l dX6_luck_13 ?_
      refine r_lconst dX6_luck_14 rfl (k := ?_)
      refine r_ldc2 nX6_287 dX6_luck_15 (x := 8) (k := ?_)
      refine r_s3 (c_in _ _ _) kX6_69 dX6_luck_18 ?_
      refine r_ifd_eq (tgt := 39) dX6_luck_21 (by decide) (fun h21 => ?_) (fun h21 => ?_)
      · refine r_ldc2 nX6_289 dX6_luck_39 (x := -1) (k := ?_)
        refine r_lret dX6_luck_42 ?_
        exact ⟨rfl, kM.rf⟩
      · refine r_iload_n dX6_luck_24 rfl ?_
        refine r_s1 (c_isFathom _) kX6_171 dX6_luck_25 ?_
        refine r_ifd_eq (tgt := 39) dX6_luck_28 (by decide) (fun h28 => ?_) (fun h28 => ?_)
        · refine r_ldc2 nX6_289 dX6_luck_39 (x := -1) (k := ?_)
          refine r_lret dX6_luck_42 ?_
          exact ⟨rfl, kM.rf⟩
        · refine r_iload dX6_luck_31 rfl ?_
          refine r_s1 (c_isPart _) kX6_251 dX6_luck_33 ?_
          refine r_ifd_ne (tgt := 43) dX6_luck_36 (by decide) (fun h36 => ?_) (fun h36 => ?_)
          · have z1 : 0 ≤ n ∧ n ≤ 8 := h21
            have z2 : 0 ≤ v ∧ v ≤ 10 := h9
            exact absurd (by omega) hc
          · refine r_ldc2 nX6_289 dX6_luck_39 (x := -1) (k := ?_)
            refine r_lret dX6_luck_42 ?_
            exact ⟨rfl, kM.rf⟩
set_option maxRecDepth 100000 in
theorem c_X6_mean (hI : mI (mem 65 3) (mem 66)) (v n q : Int) : KX6_mean l G 6 [zR 65, zI v, zI n, zI q] mem (zPM (zJ (if 0 ≤ v ∧ v ≤ 10 ∧ 0 ≤ n ∧ n ≤ 8 ∧ 0 ≤ q ∧ q ≤ 1 then sFr (vT (vM (mem 65 3) (mem 66)) (sVal (-1)) v n.toNat) n q else -1)) mem) := by
  by_cases hc : 0 ≤ v ∧ v ≤ 10 ∧ 0 ≤ n ∧ n ≤ 8 ∧ 0 ≤ q ∧ q ≤ 1
  · rw [if_pos hc]
    have hb := vT_bdM hI (v := v) (w := -1) (k := n.toNat) (by omega) (by omega) (by omega)
    have hM := c_findOdds (l := l) (G := G) hI v n 0 (by omega) (by omega) (by omega) (by omega)
    rw [vT_M, vT_M, ← sVal_i] at hM
    refine CT.of' (own := RX6) (ls0 := [zR 65, zI v, zI n, zI q]) rfl (by decide +kernel) (Nat.le_of_ble_eq_true rfl) rfl ?_
    refine r_iload_n dX6_mean_0 rfl ?_
    refine r_i2l dX6_mean_1 ?_
    refine r_lconst dX6_mean_2 rfl (k := ?_)
    refine r_ldc2 nX6_285 dX6_mean_3 (x := 10) (k := ?_)
    refine r_s3 (c_in _ _ _) kX6_69 dX6_mean_6 ?_
    refine r_ifd_eq (tgt := 31) dX6_mean_9 (by decide) (fun h9 => ?_) (fun h9 => ?_)
    · first
        | exact absurd hc (by omega)
        | (have z : ¬ (0 ≤ n ∧ n ≤ 8) := h21; exact absurd hc (by omega))
        | (have z : ¬ (0 ≤ v ∧ v ≤ 10) := h9; exact absurd hc (by omega))
    · refine r_iload_n dX6_mean_12 rfl ?_
      refine r_i2l dX6_mean_13 ?_
      refine r_lconst dX6_mean_14 rfl (k := ?_)
      refine r_ldc2 nX6_287 dX6_mean_15 (x := 8) (k := ?_)
      refine r_s3 (c_in _ _ _) kX6_69 dX6_mean_18 ?_
      refine r_ifd_eq (tgt := 31) dX6_mean_21 (by decide) (fun h21 => ?_) (fun h21 => ?_)
      · first
          | exact absurd hc (by omega)
          | (have z : ¬ (0 ≤ n ∧ n ≤ 8) := h21; exact absurd hc (by omega))
          | (have z : ¬ (0 ≤ v ∧ v ≤ 10) := h9; exact absurd hc (by omega))
      · refine r_iload_n dX6_mean_24 rfl ?_
        refine r_s1 (c_isPart _) kX6_251 dX6_mean_25 ?_
        refine r_ifd_ne (tgt := 35) dX6_mean_28 (by decide) (fun h28 => ?_) (fun h28 => ?_)
        · refine r_aload_n dX6_mean_35 rfl ?_
          refine r_iload_n dX6_mean_36 rfl ?_
          refine r_iload_n dX6_mean_37 rfl ?_
          refine r_iconst dX6_mean_38 (k := ?_)
          refine r_wO3 hM kX6_291 rfl dX6_mean_39 (fun m hk e1 e2 e3 => ?_)
          refine r_aload_n dX6_mean_42 rfl ?_
          refine r_gJ (q := 20) rfl fX6_279 rfl dX6_mean_43 ?_
          rw [e2]
          refine r_aload_n dX6_mean_46 rfl ?_
          refine r_gJ (q := 21) rfl fX6_282 rfl dX6_mean_47 ?_
          rw [e3]
          refine r_iload_n dX6_mean_50 rfl ?_
          refine r_s3 (c_told _ _ _ hb.1 (Int.lt_of_le_of_lt hb.2 (by decide)) (by omega) (by omega)) kX6_294 dX6_mean_51 ?_
          refine r_lret dX6_mean_54 ?_
          exact ⟨rfl, hk⟩
        · first
            | exact absurd hc (by omega)
            | (have z : ¬ (0 ≤ n ∧ n ≤ 8) := h21; exact absurd hc (by omega))
            | (have z : ¬ (0 ≤ v ∧ v ≤ 10) := h9; exact absurd hc (by omega))
  · rw [if_neg hc]
    refine CT.of' (own := RX6) (ls0 := [zR 65, zI v, zI n, zI q]) rfl (by decide +kernel) (Nat.le_of_ble_eq_true rfl) rfl ?_
    refine r_iload_n dX6_mean_0 rfl ?_
    refine r_i2l dX6_mean_1 ?_
    refine r_lconst dX6_mean_2 rfl (k := ?_)
    refine r_ldc2 nX6_285 dX6_mean_3 (x := 10) (k := ?_)
    refine r_s3 (c_in _ _ _) kX6_69 dX6_mean_6 ?_
    refine r_ifd_eq (tgt := 31) dX6_mean_9 (by decide) (fun h9 => ?_) (fun h9 => ?_)
    · refine r_ldc2 nX6_289 dX6_mean_31 (x := -1) (k := ?_)
      refine r_lret dX6_mean_34 ?_
      exact ⟨rfl, kM.rf⟩
    · refine r_iload_n dX6_mean_12 rfl ?_
      refine r_i2l dX6_mean_13 ?_
      refine r_lconst dX6_mean_14 rfl (k := ?_)
      refine r_ldc2 nX6_287 dX6_mean_15 (x := 8) (k := ?_)
      refine r_s3 (c_in _ _ _) kX6_69 dX6_mean_18 ?_
      refine r_ifd_eq (tgt := 31) dX6_mean_21 (by decide) (fun h21 => ?_) (fun h21 => ?_)
      · refine r_ldc2 nX6_289 dX6_mean_31 (x := -1) (k := ?_)
        refine r_lret dX6_mean_34 ?_
        exact ⟨rfl, kM.rf⟩
      · refine r_iload_n dX6_mean_24 rfl ?_
        refine r_s1 (c_isPart _) kX6_251 dX6_mean_25 ?_
        refine r_ifd_ne (tgt := 35) dX6_mean_28 (by decide) (fun h28 => ?_) (fun h28 => ?_)
        · have z1 : 0 ≤ n ∧ n ≤ 8 := h21
          have z2 : 0 ≤ v ∧ v ≤ 10 := h9
          exact absurd (by omega) hc
        · refine r_ldc2 nX6_289 dX6_mean_31 (x := -1) (k := ?_)
          refine r_lret dX6_mean_34 ?_
          exact ⟨rfl, kM.rf⟩
end
