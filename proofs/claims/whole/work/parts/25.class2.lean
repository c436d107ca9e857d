/-! ===== the class: what would be ===== -/
def zPC (v : zV) (m : zM) : Option zV → zM → Prop := fun r m' => r = some v ∧ kC m m'
def zPM (v : zV) (m : zM) : Option zV → zM → Prop := fun r m' => r = some v ∧ kM m m'
def zPC0 (m : zM) : Option zV → zM → Prop := fun r m' => r = none ∧ kC m m'
def zPM0 (m : zM) : Option zV → zM → Prop := fun r m' => r = none ∧ kM m m'
theorem zPC.i {v w : Int} {m m' : zM} (h : w = v) (hk : kC m m') : zPC (zI v) m (some (zI w)) m' := ⟨by rw [h], hk⟩
theorem zPM.i {v w : Int} {m m' : zM} (h : w = v) (hk : kM m m') : zPM (zI v) m (some (zI w)) m' := ⟨by rw [h], hk⟩
section
variable {l : Launch} {G : zG} {R : Room} {own : String} {cc : ByteArray} {nL : Nat} {ret : Option FieldType} {Z : List Frame → Array Value → State → State → Prop} {kc ks : Nat} {Ex : State → Prop} {pc : Nat} {ls st : List zV} {mem mem' : zM}
variable {y : MethodName} {bytes : ByteArray} {nL' : Nat} {ret' : Option FieldType} {d index b ci : Nat} {v a1 a2 a3 : zV}
theorem r_vC0 (hM : CT l G y bytes nL' ret' d (zR b :: []) mem (zPC v mem)) (hk : zCl own index y bytes nL' ret' 0 ci) (hL9 : zL b = (ci, zNf ci)) (hd : decode cc pc = .ok (.invokevirtual index, 3)) (kk : ∀ m9, kC mem m9 → SW l G R own cc nL ret Z kc ks Ex (pc + 3) ls (v :: st) m9) (hR : d + 1 ≤ R.frames ∧ 8 + (nL' + 11) + 100 * d ≤ R.locals := by exact ⟨Nat.le_of_ble_eq_true rfl, Nat.le_of_ble_eq_true rfl⟩) (hw : zwd st ≤ 8 := by exact Nat.le_of_ble_eq_true rfl) : SW l G R own cc nL ret Z kc ks Ex pc ls (zR b :: st) mem := by
  obtain ⟨h1, h2, h3, T, N, h4⟩ := hk
  exact r_callV hM h1 h2 hL9 h3 h4 rfl rfl hR hw hd (fun r m9 h9 => by obtain ⟨rfl, h9⟩ := h9; exact kk m9 h9)
theorem r_wC0 (hM : CT l G y bytes nL' ret' d (zR b :: []) mem (zPC0 mem)) (hk : zCl own index y bytes nL' ret' 0 ci) (hL9 : zL b = (ci, zNf ci)) (hd : decode cc pc = .ok (.invokevirtual index, 3)) (kk : ∀ m9, kC mem m9 → SW l G R own cc nL ret Z kc ks Ex (pc + 3) ls st m9) (hR : d + 1 ≤ R.frames ∧ 8 + (nL' + 11) + 100 * d ≤ R.locals := by exact ⟨Nat.le_of_ble_eq_true rfl, Nat.le_of_ble_eq_true rfl⟩) (hw : zwd st ≤ 8 := by exact Nat.le_of_ble_eq_true rfl) : SW l G R own cc nL ret Z kc ks Ex pc ls (zR b :: st) mem := by
  obtain ⟨h1, h2, h3, T, N, h4⟩ := hk
  exact r_callV hM h1 h2 hL9 h3 h4 rfl rfl hR hw hd (fun r m9 h9 => by obtain ⟨rfl, h9⟩ := h9; exact kk m9 h9)
theorem r_vC1 (hM : CT l G y bytes nL' ret' d (zR b :: [a1]) mem (zPC v mem)) (hk : zCl own index y bytes nL' ret' 1 ci) (hL9 : zL b = (ci, zNf ci)) (hd : decode cc pc = .ok (.invokevirtual index, 3)) (kk : ∀ m9, kC mem m9 → SW l G R own cc nL ret Z kc ks Ex (pc + 3) ls (v :: st) m9) (hR : d + 1 ≤ R.frames ∧ 8 + (nL' + 11) + 100 * d ≤ R.locals := by exact ⟨Nat.le_of_ble_eq_true rfl, Nat.le_of_ble_eq_true rfl⟩) (hw : zwd st ≤ 8 := by exact Nat.le_of_ble_eq_true rfl) : SW l G R own cc nL ret Z kc ks Ex pc ls (a1 :: zR b :: st) mem := by
  obtain ⟨h1, h2, h3, T, N, h4⟩ := hk
  exact r_callV hM h1 h2 hL9 h3 h4 rfl rfl hR hw hd (fun r m9 h9 => by obtain ⟨rfl, h9⟩ := h9; exact kk m9 h9)
theorem r_wC1 (hM : CT l G y bytes nL' ret' d (zR b :: [a1]) mem (zPC0 mem)) (hk : zCl own index y bytes nL' ret' 1 ci) (hL9 : zL b = (ci, zNf ci)) (hd : decode cc pc = .ok (.invokevirtual index, 3)) (kk : ∀ m9, kC mem m9 → SW l G R own cc nL ret Z kc ks Ex (pc + 3) ls st m9) (hR : d + 1 ≤ R.frames ∧ 8 + (nL' + 11) + 100 * d ≤ R.locals := by exact ⟨Nat.le_of_ble_eq_true rfl, Nat.le_of_ble_eq_true rfl⟩) (hw : zwd st ≤ 8 := by exact Nat.le_of_ble_eq_true rfl) : SW l G R own cc nL ret Z kc ks Ex pc ls (a1 :: zR b :: st) mem := by
  obtain ⟨h1, h2, h3, T, N, h4⟩ := hk
  exact r_callV hM h1 h2 hL9 h3 h4 rfl rfl hR hw hd (fun r m9 h9 => by obtain ⟨rfl, h9⟩ := h9; exact kk m9 h9)
theorem r_vC2 (hM : CT l G y bytes nL' ret' d (zR b :: [a1, a2]) mem (zPC v mem)) (hk : zCl own index y bytes nL' ret' 2 ci) (hL9 : zL b = (ci, zNf ci)) (hd : decode cc pc = .ok (.invokevirtual index, 3)) (kk : ∀ m9, kC mem m9 → SW l G R own cc nL ret Z kc ks Ex (pc + 3) ls (v :: st) m9) (hR : d + 1 ≤ R.frames ∧ 8 + (nL' + 11) + 100 * d ≤ R.locals := by exact ⟨Nat.le_of_ble_eq_true rfl, Nat.le_of_ble_eq_true rfl⟩) (hw : zwd st ≤ 8 := by exact Nat.le_of_ble_eq_true rfl) : SW l G R own cc nL ret Z kc ks Ex pc ls (a2 :: a1 :: zR b :: st) mem := by
  obtain ⟨h1, h2, h3, T, N, h4⟩ := hk
  exact r_callV hM h1 h2 hL9 h3 h4 rfl rfl hR hw hd (fun r m9 h9 => by obtain ⟨rfl, h9⟩ := h9; exact kk m9 h9)
theorem r_wC2 (hM : CT l G y bytes nL' ret' d (zR b :: [a1, a2]) mem (zPC0 mem)) (hk : zCl own index y bytes nL' ret' 2 ci) (hL9 : zL b = (ci, zNf ci)) (hd : decode cc pc = .ok (.invokevirtual index, 3)) (kk : ∀ m9, kC mem m9 → SW l G R own cc nL ret Z kc ks Ex (pc + 3) ls st m9) (hR : d + 1 ≤ R.frames ∧ 8 + (nL' + 11) + 100 * d ≤ R.locals := by exact ⟨Nat.le_of_ble_eq_true rfl, Nat.le_of_ble_eq_true rfl⟩) (hw : zwd st ≤ 8 := by exact Nat.le_of_ble_eq_true rfl) : SW l G R own cc nL ret Z kc ks Ex pc ls (a2 :: a1 :: zR b :: st) mem := by
  obtain ⟨h1, h2, h3, T, N, h4⟩ := hk
  exact r_callV hM h1 h2 hL9 h3 h4 rfl rfl hR hw hd (fun r m9 h9 => by obtain ⟨rfl, h9⟩ := h9; exact kk m9 h9)
theorem r_vC3 (hM : CT l G y bytes nL' ret' d (zR b :: [a1, a2, a3]) mem (zPC v mem)) (hk : zCl own index y bytes nL' ret' 3 ci) (hL9 : zL b = (ci, zNf ci)) (hd : decode cc pc = .ok (.invokevirtual index, 3)) (kk : ∀ m9, kC mem m9 → SW l G R own cc nL ret Z kc ks Ex (pc + 3) ls (v :: st) m9) (hR : d + 1 ≤ R.frames ∧ 8 + (nL' + 11) + 100 * d ≤ R.locals := by exact ⟨Nat.le_of_ble_eq_true rfl, Nat.le_of_ble_eq_true rfl⟩) (hw : zwd st ≤ 8 := by exact Nat.le_of_ble_eq_true rfl) : SW l G R own cc nL ret Z kc ks Ex pc ls (a3 :: a2 :: a1 :: zR b :: st) mem := by
  obtain ⟨h1, h2, h3, T, N, h4⟩ := hk
  exact r_callV hM h1 h2 hL9 h3 h4 rfl rfl hR hw hd (fun r m9 h9 => by obtain ⟨rfl, h9⟩ := h9; exact kk m9 h9)
theorem r_wC3 (hM : CT l G y bytes nL' ret' d (zR b :: [a1, a2, a3]) mem (zPC0 mem)) (hk : zCl own index y bytes nL' ret' 3 ci) (hL9 : zL b = (ci, zNf ci)) (hd : decode cc pc = .ok (.invokevirtual index, 3)) (kk : ∀ m9, kC mem m9 → SW l G R own cc nL ret Z kc ks Ex (pc + 3) ls st m9) (hR : d + 1 ≤ R.frames ∧ 8 + (nL' + 11) + 100 * d ≤ R.locals := by exact ⟨Nat.le_of_ble_eq_true rfl, Nat.le_of_ble_eq_true rfl⟩) (hw : zwd st ≤ 8 := by exact Nat.le_of_ble_eq_true rfl) : SW l G R own cc nL ret Z kc ks Ex pc ls (a3 :: a2 :: a1 :: zR b :: st) mem := by
  obtain ⟨h1, h2, h3, T, N, h4⟩ := hk
  exact r_callV hM h1 h2 hL9 h3 h4 rfl rfl hR hw hd (fun r m9 h9 => by obtain ⟨rfl, h9⟩ := h9; exact kk m9 h9)
theorem r_vM0 (hM : CT l G y bytes nL' ret' d (zR b :: []) mem (zPM v mem)) (hk : zCl own index y bytes nL' ret' 0 ci) (hL9 : zL b = (ci, zNf ci)) (hd : decode cc pc = .ok (.invokevirtual index, 3)) (kk : ∀ m9, kM mem m9 → SW l G R own cc nL ret Z kc ks Ex (pc + 3) ls (v :: st) m9) (hR : d + 1 ≤ R.frames ∧ 8 + (nL' + 11) + 100 * d ≤ R.locals := by exact ⟨Nat.le_of_ble_eq_true rfl, Nat.le_of_ble_eq_true rfl⟩) (hw : zwd st ≤ 8 := by exact Nat.le_of_ble_eq_true rfl) : SW l G R own cc nL ret Z kc ks Ex pc ls (zR b :: st) mem := by
  obtain ⟨h1, h2, h3, T, N, h4⟩ := hk
  exact r_callV hM h1 h2 hL9 h3 h4 rfl rfl hR hw hd (fun r m9 h9 => by obtain ⟨rfl, h9⟩ := h9; exact kk m9 h9)
theorem r_wM0 (hM : CT l G y bytes nL' ret' d (zR b :: []) mem (zPM0 mem)) (hk : zCl own index y bytes nL' ret' 0 ci) (hL9 : zL b = (ci, zNf ci)) (hd : decode cc pc = .ok (.invokevirtual index, 3)) (kk : ∀ m9, kM mem m9 → SW l G R own cc nL ret Z kc ks Ex (pc + 3) ls st m9) (hR : d + 1 ≤ R.frames ∧ 8 + (nL' + 11) + 100 * d ≤ R.locals := by exact ⟨Nat.le_of_ble_eq_true rfl, Nat.le_of_ble_eq_true rfl⟩) (hw : zwd st ≤ 8 := by exact Nat.le_of_ble_eq_true rfl) : SW l G R own cc nL ret Z kc ks Ex pc ls (zR b :: st) mem := by
  obtain ⟨h1, h2, h3, T, N, h4⟩ := hk
  exact r_callV hM h1 h2 hL9 h3 h4 rfl rfl hR hw hd (fun r m9 h9 => by obtain ⟨rfl, h9⟩ := h9; exact kk m9 h9)
theorem r_vM1 (hM : CT l G y bytes nL' ret' d (zR b :: [a1]) mem (zPM v mem)) (hk : zCl own index y bytes nL' ret' 1 ci) (hL9 : zL b = (ci, zNf ci)) (hd : decode cc pc = .ok (.invokevirtual index, 3)) (kk : ∀ m9, kM mem m9 → SW l G R own cc nL ret Z kc ks Ex (pc + 3) ls (v :: st) m9) (hR : d + 1 ≤ R.frames ∧ 8 + (nL' + 11) + 100 * d ≤ R.locals := by exact ⟨Nat.le_of_ble_eq_true rfl, Nat.le_of_ble_eq_true rfl⟩) (hw : zwd st ≤ 8 := by exact Nat.le_of_ble_eq_true rfl) : SW l G R own cc nL ret Z kc ks Ex pc ls (a1 :: zR b :: st) mem := by
  obtain ⟨h1, h2, h3, T, N, h4⟩ := hk
  exact r_callV hM h1 h2 hL9 h3 h4 rfl rfl hR hw hd (fun r m9 h9 => by obtain ⟨rfl, h9⟩ := h9; exact kk m9 h9)
theorem r_wM1 (hM : CT l G y bytes nL' ret' d (zR b :: [a1]) mem (zPM0 mem)) (hk : zCl own index y bytes nL' ret' 1 ci) (hL9 : zL b = (ci, zNf ci)) (hd : decode cc pc = .ok (.invokevirtual index, 3)) (kk : ∀ m9, kM mem m9 → SW l G R own cc nL ret Z kc ks Ex (pc + 3) ls st m9) (hR : d + 1 ≤ R.frames ∧ 8 + (nL' + 11) + 100 * d ≤ R.locals := by exact ⟨Nat.le_of_ble_eq_true rfl, Nat.le_of_ble_eq_true rfl⟩) (hw : zwd st ≤ 8 := by exact Nat.le_of_ble_eq_true rfl) : SW l G R own cc nL ret Z kc ks Ex pc ls (a1 :: zR b :: st) mem := by
  obtain ⟨h1, h2, h3, T, N, h4⟩ := hk
  exact r_callV hM h1 h2 hL9 h3 h4 rfl rfl hR hw hd (fun r m9 h9 => by obtain ⟨rfl, h9⟩ := h9; exact kk m9 h9)
theorem r_vM2 (hM : CT l G y bytes nL' ret' d (zR b :: [a1, a2]) mem (zPM v mem)) (hk : zCl own index y bytes nL' ret' 2 ci) (hL9 : zL b = (ci, zNf ci)) (hd : decode cc pc = .ok (.invokevirtual index, 3)) (kk : ∀ m9, kM mem m9 → SW l G R own cc nL ret Z kc ks Ex (pc + 3) ls (v :: st) m9) (hR : d + 1 ≤ R.frames ∧ 8 + (nL' + 11) + 100 * d ≤ R.locals := by exact ⟨Nat.le_of_ble_eq_true rfl, Nat.le_of_ble_eq_true rfl⟩) (hw : zwd st ≤ 8 := by exact Nat.le_of_ble_eq_true rfl) : SW l G R own cc nL ret Z kc ks Ex pc ls (a2 :: a1 :: zR b :: st) mem := by
  obtain ⟨h1, h2, h3, T, N, h4⟩ := hk
  exact r_callV hM h1 h2 hL9 h3 h4 rfl rfl hR hw hd (fun r m9 h9 => by obtain ⟨rfl, h9⟩ := h9; exact kk m9 h9)
theorem r_wM2 (hM : CT l G y bytes nL' ret' d (zR b :: [a1, a2]) mem (zPM0 mem)) (hk : zCl own index y bytes nL' ret' 2 ci) (hL9 : zL b = (ci, zNf ci)) (hd : decode cc pc = .ok (.invokevirtual index, 3)) (kk : ∀ m9, kM mem m9 → SW l G R own cc nL ret Z kc ks Ex (pc + 3) ls st m9) (hR : d + 1 ≤ R.frames ∧ 8 + (nL' + 11) + 100 * d ≤ R.locals := by exact ⟨Nat.le_of_ble_eq_true rfl, Nat.le_of_ble_eq_true rfl⟩) (hw : zwd st ≤ 8 := by exact Nat.le_of_ble_eq_true rfl) : SW l G R own cc nL ret Z kc ks Ex pc ls (a2 :: a1 :: zR b :: st) mem := by
  obtain ⟨h1, h2, h3, T, N, h4⟩ := hk
  exact r_callV hM h1 h2 hL9 h3 h4 rfl rfl hR hw hd (fun r m9 h9 => by obtain ⟨rfl, h9⟩ := h9; exact kk m9 h9)
theorem r_vM3 (hM : CT l G y bytes nL' ret' d (zR b :: [a1, a2, a3]) mem (zPM v mem)) (hk : zCl own index y bytes nL' ret' 3 ci) (hL9 : zL b = (ci, zNf ci)) (hd : decode cc pc = .ok (.invokevirtual index, 3)) (kk : ∀ m9, kM mem m9 → SW l G R own cc nL ret Z kc ks Ex (pc + 3) ls (v :: st) m9) (hR : d + 1 ≤ R.frames ∧ 8 + (nL' + 11) + 100 * d ≤ R.locals := by exact ⟨Nat.le_of_ble_eq_true rfl, Nat.le_of_ble_eq_true rfl⟩) (hw : zwd st ≤ 8 := by exact Nat.le_of_ble_eq_true rfl) : SW l G R own cc nL ret Z kc ks Ex pc ls (a3 :: a2 :: a1 :: zR b :: st) mem := by
  obtain ⟨h1, h2, h3, T, N, h4⟩ := hk
  exact r_callV hM h1 h2 hL9 h3 h4 rfl rfl hR hw hd (fun r m9 h9 => by obtain ⟨rfl, h9⟩ := h9; exact kk m9 h9)
theorem r_wM3 (hM : CT l G y bytes nL' ret' d (zR b :: [a1, a2, a3]) mem (zPM0 mem)) (hk : zCl own index y bytes nL' ret' 3 ci) (hL9 : zL b = (ci, zNf ci)) (hd : decode cc pc = .ok (.invokevirtual index, 3)) (kk : ∀ m9, kM mem m9 → SW l G R own cc nL ret Z kc ks Ex (pc + 3) ls st m9) (hR : d + 1 ≤ R.frames ∧ 8 + (nL' + 11) + 100 * d ≤ R.locals := by exact ⟨Nat.le_of_ble_eq_true rfl, Nat.le_of_ble_eq_true rfl⟩) (hw : zwd st ≤ 8 := by exact Nat.le_of_ble_eq_true rfl) : SW l G R own cc nL ret Z kc ks Ex pc ls (a3 :: a2 :: a1 :: zR b :: st) mem := by
  obtain ⟨h1, h2, h3, T, N, h4⟩ := hk
  exact r_callV hM h1 h2 hL9 h3 h4 rfl rfl hR hw hd (fun r m9 h9 => by obtain ⟨rfl, h9⟩ := h9; exact kk m9 h9)
end
theorem zFI_bec {m : zM} {b c : Nat} (h : zFI m c) : zFI (zBec m b c) b := by
  obtain ⟨hn0, hn5, hr0, hr6, hp, hg, hr⟩ := h
  unfold zFI
  rw [zBec_2, zBec_3, zBec_4, zBec_5, zBec_6]
  simp only [zBec_b]
  refine ⟨hn0, hn5, hr0, hr6, fun i h0 h1 => ?_, fun i j h0 h1 h2 h3 => ?_, fun k h0 h1 => ?_⟩
  · have h1 : i < m c 0 := h1
    rw [zcp_at h0 (by omega)]; exact hp i h0 h1
  · have h1 : i < m c 0 := h1
    have h3 : j < m c 0 := h3
    rw [zcp_at (by omega) (by omega)]; exact hg i j h0 h1 h2 h3
  · have h1 : k < m c 4 := h1
    rw [zcp_at h0 (by omega), zcp_at h0 (by omega), zcp_at h0 (by omega)]; exact hr k h0 h1
theorem zFI.k {m m' : zM} (h : zFI m 1) (hk : kC m m') : zFI m' 1 := by
  obtain ⟨hn0, hn5, hr0, hr6, hp, hg, hr⟩ := zFI1 h
  unfold zFI
  rw [hk.at (o := 1) (by omega) (by omega) (by omega), hk.at (o := 1 + 2) (by omega) (by omega) (by omega), hk.at (o := 1 + 3) (by omega) (by omega) (by omega), hk.at (o := 1 + 4) (by omega) (by omega) (by omega), hk.at (o := 1 + 5) (by omega) (by omega) (by omega), hk.at (o := 1 + 6) (by omega) (by omega) (by omega)]
  exact ⟨hn0, hn5, hr0, hr6, hp, hg, hr⟩
theorem vC.k {m m' : zM} (hk : kC m m') : vC m' 1 = vC m 1 := by
  unfold vC
  rw [hk.at (o := 1) (by omega) (by omega) (by omega), hk.at (o := 1 + 1) (by omega) (by omega) (by omega), hk.at (o := 1 + 2) (by omega) (by omega) (by omega), hk.at (o := 1 + 3) (by omega) (by omega) (by omega), hk.at (o := 1 + 4) (by omega) (by omega) (by omega), hk.at (o := 1 + 5) (by omega) (by omega) (by omega), hk.at (o := 1 + 6) (by omega) (by omega) (by omega)]
theorem zFI.grudge {m : zM} {b : Nat} {k v : Int} (h : zFI m b) (h0 : 0 ≤ v) (h3 : v ≤ 3) : zFI (zs m (b + 3) k v) b := by
  obtain ⟨hn0, hn5, hr0, hr6, hp, hg, hr⟩ := h
  unfold zFI
  simp (disch := omega) only [zs_n, zs_s]
  refine ⟨hn0, hn5, hr0, hr6, hp, fun i j a1 a2 a3 a4 => ?_, hr⟩
  by_cases e : 5 * i + j = k
  · rw [e, zu_s]; omega
  · rw [zu_n e]; exact hg i j a1 a2 a3 a4
theorem zFI.kind {m : zM} {b : Nat} {k v : Int} (h : zFI m b) : zFI (zs m (b + 1) k v) b := by
  obtain ⟨hn0, hn5, hr0, hr6, hp, hg, hr⟩ := h
  unfold zFI
  simp (disch := omega) only [zs_n, zs_s]
  exact ⟨hn0, hn5, hr0, hr6, hp, hg, hr⟩
theorem zFI.hol {m : zM} {b : Nat} {v : Int} (h : zFI m b) : zFI (zs m b 8 v) b := by
  obtain ⟨hn0, hn5, hr0, hr6, hp, hg, hr⟩ := h
  unfold zFI
  simp (disch := omega) only [zs_n, zs_s, zu_n]
  exact ⟨hn0, hn5, hr0, hr6, hp, hg, hr⟩
theorem zFI.len {m : zM} {b : Nat} {k v : Int} (h : zFI m b) (h0 : 0 ≤ v) (h3 : v ≤ 30) : zFI (zs m (b + 6) k v) b := by
  obtain ⟨hn0, hn5, hr0, hr6, hp, hg, hr⟩ := h
  unfold zFI
  simp (disch := omega) only [zs_n, zs_s]
  refine ⟨hn0, hn5, hr0, hr6, hp, hg, fun x a1 a2 => ?_⟩
  obtain ⟨q1, q2, q3, q4, q5, q6⟩ := hr x a1 a2
  by_cases e : x = k
  · rw [e, zu_s]; rw [e] at q1 q2 q3 q4; exact ⟨q1, q2, q3, q4, h0, h3⟩
  · rw [zu_n e]; exact ⟨q1, q2, q3, q4, q5, q6⟩
theorem zFI.rope {m : zM} {b : Nat} {i j v : Int} (h : zFI m b) (h6 : m b 4 < 6) (hi0 : 0 ≤ i) (hi1 : i < m b 0) (hj0 : 0 ≤ j) (hj1 : j < m b 0) (h0 : 0 ≤ v) (h3 : v ≤ 30) : zFI (zs (zs (zs (zs m (b + 4) (m b 4) i) (b + 5) (m b 4) j) (b + 6) (m b 4) v) b 4 (m b 4 + 1)) b := by
  obtain ⟨hn0, hn5, hr0, hr6, hp, hg, hr⟩ := h
  unfold zFI
  simp (disch := omega) only [zs_n, zs_s, zu_n, zu_s]
  refine ⟨hn0, hn5, by omega, by omega, hp, hg, fun x a1 a2 => ?_⟩
  by_cases e : x = m b 4
  · rw [e, zu_s, zu_s, zu_s]; exact ⟨hi0, hi1, hj0, hj1, h0, h3⟩
  · rw [zu_n e, zu_n e, zu_n e]; exact hr x a1 (by omega)
theorem zFI.drop {m : zM} {b : Nat} {k : Int} (h : zFI m b) (hk0 : 0 ≤ k) (hk1 : k < m b 4) : zFI (zs (zDrM m b k (m b 4 - 1)) b 4 (m b 4 - 1)) b := by
  obtain ⟨hn0, hn5, hr0, hr6, hp, hg, hr⟩ := h
  unfold zFI
  simp (disch := omega) only [zs_n, zs_s, zu_n, zu_s, zDrM_b, zDrM_4, zDrM_5, zDrM_6, zDrM_o]
  refine ⟨hn0, hn5, by omega, by omega, hp, hg, fun x a1 a2 => ?_⟩
  unfold zsh
  by_cases e : k ≤ x ∧ x < m b 4 - 1
  · simp only [if_pos e]; exact hr (x + 1) (by omega) (by omega)
  · simp only [if_neg e]; exact hr x a1 (by omega)
theorem vC_grudge {m : zM} {b : Nat} {i j v : Int} : vC (zs m (b + 3) (5 * i + j) v) b = vGrudge (vC m b) i j v := by
  unfold vC vGrudge
  simp (disch := omega) only [zs_n, zs_s]
theorem vC_kind {m : zM} {b : Nat} {i v : Int} : vC (zs m (b + 1) i v) b = vKind (vC m b) i v := by
  unfold vC vKind
  simp (disch := omega) only [zs_n, zs_s]
theorem vC_hol {m : zM} {b : Nat} {v : Int} : vC (zs m b 8 v) b = vHol (vC m b) v := by
  unfold vC vHol
  simp (disch := omega) only [zs_n, zs_s, zu_n, zu_s]
theorem vC_len {m : zM} {b : Nat} {k v : Int} : vC (zs m (b + 6) k v) b = vLen (vC m b) k v := by
  unfold vC vLen
  simp (disch := omega) only [zs_n, zs_s]
theorem vC_rope {m : zM} {b : Nat} {i j v : Int} : vC (zs (zs (zs (zs m (b + 4) (m b 4) i) (b + 5) (m b 4) j) (b + 6) (m b 4) v) b 4 (m b 4 + 1)) b = vRope (vC m b) i j v := by
  unfold vC vRope
  simp (disch := omega) only [zs_n, zs_s, zu_n, zu_s]
theorem vC_drop {m : zM} {b : Nat} {k : Int} : vC (zs (zDrM m b k (m b 4 - 1)) b 4 (m b 4 - 1)) b = vDrop (vC m b) k := by
  unfold vC vDrop
  simp (disch := omega) only [zs_n, zs_s, zu_n, zu_s, zDrM_b, zDrM_4, zDrM_5, zDrM_6, zDrM_o]
section
variable {l : Launch} {G : zG} {mem : zM}
/-- the trial's spread behind n days, when it is as W -/
theorem c_tSpread (hI : zFI mem 8) {W : zVw} (hv : VEQ (vC mem 8) W) (n : Int) (h0 : 0 ≤ n) (h9 : n ≤ 1000) : KX0_spreadBehind l G 5 [zR 8, zI n] mem (zPC (zI (vSpread W n.toNat)) mem) :=
  (c_X0_spreadBehind hF8 hI n h0 h9).imp (fun r m h => by
    obtain ⟨rfl, rfl⟩ := h
    refine ⟨?_, kC.rf.y⟩
    rw [← hv.spread]
    rfl)
theorem c_tBumps (hI : zFI mem 8) {W : zVw} (hv : VEQ (vC mem 8) W) (n : Int) (h0 : 0 ≤ n) (h9 : n ≤ 1000) : KX0_bumpsIn l G 5 [zR 8, zI n] mem (zPC (zI (vBumps W n.toNat)) mem) :=
  (c_X0_bumpsIn hF8 hI n h0 h9).imp (fun r m h => by
    obtain ⟨rfl, rfl⟩ := h
    refine ⟨?_, kC.rf.y⟩
    rw [← hv.bumps]
    rfl)
end
