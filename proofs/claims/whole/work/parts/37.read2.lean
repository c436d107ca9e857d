/-! ===== the reference's read; count on both sides ===== -/
/-- an answer; the row st, the torn fault behind it; what the reference keeps for itself -/
def zPT (v : zV) (m : zM) (S : Int → Int) (t : Int) : Option zV → zM → Prop := fun r m' => r = some v ∧ ∃ X, m' = zs (zr (zr m 76 X) 66 S) 65 27 t
theorem zcp_s0 {f g : Int → Int} {x : Int} (h : 0 ≤ x) : zu (zcp f g 0 0 x) x (f x) = zcp f g 0 0 (x + 1) := by
  funext j
  unfold zu zcp
  by_cases hj : j = x
  · rw [if_pos hj, if_pos (by omega), show 0 + (j - 0) = x by omega]
  · rw [if_neg hj]
    by_cases h2 : 0 ≤ j ∧ j < 0 + x
    · rw [if_pos h2, if_pos (by omega)]
    · rw [if_neg h2, if_neg (by omega)]
theorem zr_id {m : zM} {o : Nat} {X : Int → Int} (h : m o = X) : zr m o X = m := by rw [← h, zr_self]
theorem zs_u {mem : zM} {o : Nat} {k v : Int} (h : mem o k = v) : zs mem o k v = mem := by
  unfold zs
  rw [show zu (mem o) k v = mem o from by funext j; unfold zu; split; (· rename_i e; rw [e, h]); rfl, zr_self]
section
variable {l : Launch} {G : zG} {mem : zM}
set_option maxRecDepth 100000 in
set_option maxHeartbeats 1000000 in
theorem c_X6_read (hI : mI (mem 65 3) (mem 66)) (k ln f n : Int) (hf : zin32 f) (hs0 : ∀ k, 0 ≤ k → k ≤ 3 → 0 ≤ mem 74 k ∧ mem 74 k ≤ 40) : KX6_read l G 4 [zR 65, zI k, zI ln, zI f, zI n] mem (zPT (zI (if ((0 ≤ k ∧ k ≤ 3) ∧ (0 ≤ ln ∧ ln ≤ 2) ∧ 0 ≤ n ∧ n ≤ 13) then (if (sRd (mem 65 3) (mem 73 k) (mem 74 k) ln f (fun x => mem 75 (40 * k + x)) n.toNat 0).1 = true then -20 - (sRd (mem 65 3) (mem 73 k) (mem 74 k) ln f (fun x => mem 75 (40 * k + x)) n.toNat 0).2.2 else (sRd (mem 65 3) (mem 73 k) (mem 74 k) ln f (fun x => mem 75 (40 * k + x)) n.toNat 0).2.2) else -1)) mem (if ((0 ≤ k ∧ k ≤ 3) ∧ (0 ≤ ln ∧ ln ≤ 2) ∧ 0 ≤ n ∧ n ≤ 13) then (if (sRd (mem 65 3) (mem 73 k) (mem 74 k) ln f (fun x => mem 75 (40 * k + x)) n.toNat 0).1 = true then mem 66 else sGo 10 f (fun x => mem 75 (40 * k + x)) (sRd (mem 65 3) (mem 73 k) (mem 74 k) ln f (fun x => mem 75 (40 * k + x)) n.toNat 0).2.2.toNat (mem 66)) else mem 66) (if ((0 ≤ k ∧ k ≤ 3) ∧ (0 ≤ ln ∧ ln ≤ 2) ∧ 0 ≤ n ∧ n ≤ 13) then (if (sRd (mem 65 3) (mem 73 k) (mem 74 k) ln f (fun x => mem 75 (40 * k + x)) n.toNat 0).1 = true then mem 65 27 else (sRd (mem 65 3) (mem 73 k) (mem 74 k) ln f (fun x => mem 75 (40 * k + x)) n.toNat 0).2.1) else mem 65 27)) := by
  have hn0 := hI.1
  have hn5 := hI.2.1
  obtain ⟨hf1, hf2⟩ := hf
  by_cases hc : ((0 ≤ k ∧ k ≤ 3) ∧ (0 ≤ ln ∧ ln ≤ 2) ∧ 0 ≤ n ∧ n ≤ 13)
  · simp only [if_pos hc]
    obtain ⟨s0, s1⟩ := hs0 k hc.1.1 hc.1.2
    generalize hR : (sRd (mem 65 3) (mem 73 k) (mem 74 k) ln f (fun x => mem 75 (40 * k + x)) n.toNat 0) = R
    refine CT.of' (own := RX6) (ls0 := [zR 65, zI k, zI ln, zI f, zI n, zU, zU, zU, zU, zU, zU]) rfl (by decide +kernel) (Nat.le_of_ble_eq_true rfl) rfl ?_
    have fin : ∀ (v8 v9 v10 : zV) (x r : Int) (S : Int → Int) (t : Nat), (x = n ∨ r ≠ 0) → R.1 = false → R.2.1 = r → R.2.2 = t → S = sGo 10 f (fun x => mem 75 (40 * k + x)) t (mem 66) → SW l G (zrm 4) RX6 cX6_read 11 (some .int) (zZ G (zPT (zI (if R.1 = true then -20 - R.2.2 else R.2.2)) mem (if R.1 = true then mem 66 else sGo 10 f (fun x => mem 75 (40 * k + x)) R.2.2.toNat (mem 66)) (if R.1 = true then mem 65 27 else R.2.1))) 0 0 (fun _ => True) 62 [zR 65, zI k, zI ln, zI f, zI n, zI r, zI t, zI x, v8, v9, v10] [] (zr (zr mem 76 (zcp (mem 66) (mem 76) 0 0 76)) 66 S) := by
      intro v8 v9 v10 x r S t e1 e2 e3 e4 e5
      refine r_iload dX6_read_62 rfl ?_
      refine r_iload dX6_read_64 rfl ?_
      refine r_icmp_ge (tgt := 259) dX6_read_66 (by decide) (fun h66 => ?_) (fun h66 => ?_)
      · refine r_aload_n dX6_read_259 rfl ?_
        refine r_iload dX6_read_260 rfl ?_
        refine r_pI (q := 27) rfl pX6_319 rfl dX6_read_262 ?_
        refine r_iload dX6_read_265 rfl ?_
        refine r_iret dX6_read_267 ?_
        rw [if_neg (by rw [e2]; decide), if_neg (by rw [e2]; decide), if_neg (by rw [e2]; decide), e4, Int.toNat_natCast, e3, e5]
        exact ⟨rfl, _, rfl⟩
      · refine r_iload dX6_read_69 rfl ?_
        refine r_if_ne (tgt := 259) dX6_read_71 (by decide) (fun h71 => ?_) (fun h71 => ?_)
        · refine r_aload_n dX6_read_259 rfl ?_
          refine r_iload dX6_read_260 rfl ?_
          refine r_pI (q := 27) rfl pX6_319 rfl dX6_read_262 ?_
          refine r_iload dX6_read_265 rfl ?_
          refine r_iret dX6_read_267 ?_
          rw [if_neg (by rw [e2]; decide), if_neg (by rw [e2]; decide), if_neg (by rw [e2]; decide), e4, Int.toNat_natCast, e3, e5]
          exact ⟨rfl, _, rfl⟩
        · exact absurd e1 (by omega)
    have refd : ∀ (q : Nat) (v8 : Int) (v10 : zV) (w x y : Int) (S Y : Int → Int), 0 ≤ y → y + q = 76 → 0 ≤ x → x ≤ 13 → R.1 = true → R.2.2 = x → Y = zcp (mem 66) S 0 0 y → (∀ j, ¬ (0 ≤ j ∧ j < 76) → S j = mem 66 j) → SW l G (zrm 4) RX6 cX6_read 11 (some .int) (zZ G (zPT (zI (if R.1 = true then -20 - R.2.2 else R.2.2)) mem (if R.1 = true then mem 66 else sGo 10 f (fun x => mem 75 (40 * k + x)) R.2.2.toNat (mem 66)) (if R.1 = true then mem 65 27 else R.2.1))) 0 0 (fun _ => True) 217 [zR 65, zI k, zI ln, zI f, zI n, zI 0, zI w, zI x, zI v8, zI y, v10] [] (zr (zr mem 76 (zcp (mem 66) (mem 76) 0 0 76)) 66 Y) := by
      intro q
      induction q with
      | zero =>
        intro v8 v10 w x y S Y a b x0 x1 e1 e2 e3 e4
        have e5 : Y = mem 66 := by
          rw [e3, show y = 76 by omega]
          funext j
          by_cases hj : 0 ≤ j ∧ j < 76
          · rw [zcp_at hj.1 hj.2]
          · rw [zcp_out hj, e4 j hj]
        refine r_iload dX6_read_217 rfl ?_
        refine r_bipush dX6_read_219 (k := ?_)
        refine r_icmp_ge (tgt := 244) dX6_read_221 (by decide) (fun h221 => ?_) (fun h221 => ?_)
        · refine r_bipush dX6_read_244 (k := ?_)
          refine r_iload dX6_read_246 rfl ?_
          refine r_isub dX6_read_248 ?_
          try rw [zw_id (by omega) (by omega)]
          refine r_iret dX6_read_249 ?_
          rw [if_pos e1, if_pos e1, if_pos e1, e2, e5]
          exact ⟨rfl, _, (zs_u (by rw [zr_n (by decide), zr_n (by decide)])).symm⟩
        · exact absurd (by omega) h221
      | succ q ih =>
        intro v8 v10 w x y S Y a b x0 x1 e1 e2 e3 e4
        have e5 : (zcp (mem 66) (mem 76) 0 0 76) y = mem 66 y := zcp_at a (by omega)
        refine r_iload dX6_read_217 rfl ?_
        refine r_bipush dX6_read_219 (k := ?_)
        refine r_icmp_ge (tgt := 244) dX6_read_221 (by decide) (fun h221 => ?_) (fun h221 => ?_)
        · exact absurd h221 (by omega)
        · refine r_aload_n dX6_read_224 rfl ?_
          refine r_getR (q := 66) fX6_7 rfl rfl dX6_read_225 ?_
          try simp (disch := decide) only [zr_n, zr_s]
          refine r_iload dX6_read_228 rfl ?_
          refine r_aload_n dX6_read_230 rfl ?_
          refine r_getR (q := 76) fX6_41 rfl rfl dX6_read_231 ?_
          try simp (disch := decide) only [zr_n, zr_s]
          refine r_iload dX6_read_234 rfl ?_
          refine r_iald rfl (by omega) (by omega) dX6_read_236 ?_
          try simp (disch := decide) only [zr_n, zr_s]
          rw [e5]
          refine r_iast rfl (by omega) (by omega) dX6_read_237 ?_
          refine r_iinc dX6_read_238 rfl rfl ?_
          try rw [zw_id (by omega) (by omega)]
          refine r_goto (tgt := 217) dX6_read_241 (by decide) ?_
          rw [zs_zr, e3, zcp_s0 a]
          exact ih _ _ _ _ _ S _ (by omega) (by omega) x0 x1 e1 e2 rfl e4
    have loop : ∀ (q : Nat) (x : Nat) (v8 v9 v10 : zV) (S : Int → Int), (x : Int) + q = n → mI (mem 65 3) S → (∀ j, ¬ (0 ≤ j ∧ j < 76) → S j = mem 66 j) → S = sGo 10 f (fun x => mem 75 (40 * k + x)) x (mem 66) → sRd (mem 65 3) (mem 73 k) (mem 74 k) ln f (fun x => mem 75 (40 * k + x)) q x = R → SW l G (zrm 4) RX6 cX6_read 11 (some .int) (zZ G (zPT (zI (if R.1 = true then -20 - R.2.2 else R.2.2)) mem (if R.1 = true then mem 66 else sGo 10 f (fun x => mem 75 (40 * k + x)) R.2.2.toNat (mem 66)) (if R.1 = true then mem 65 27 else R.2.1))) 0 0 (fun _ => True) 62 [zR 65, zI k, zI ln, zI f, zI n, zI 0, zI x, zI x, v8, v9, v10] [] (zr (zr mem 76 (zcp (mem 66) (mem 76) 0 0 76)) 66 S) := by
      intro q
      induction q with
      | zero =>
        intro x v8 v9 v10 S b hJ hS1 hS he
        exact fin _ _ _ _ _ _ _ (Or.inl (by omega)) (by rw [← he]; rfl) (by rw [← he]; rfl) (by rw [← he]; rfl) hS
      | succ q ih =>
        intro x v8 v9 v10 S b hJ hS1 hS he
        rw [sRd] at he
        have hx13 : (x : Int) ≤ 12 := by omega
        -- the three cells
        have three : ∀ (Q : Nat) (y r : Int) (v9 v10 : zV), 0 ≤ y → y + Q = 3 → (r = 0 → y = 3 → sF3 (mem 73 k) (mem 74 k) ln (f + 3 * x) = 0) → (r ≠ 0 → sF3 (mem 73 k) (mem 74 k) ln (f + 3 * x) = r) → (r = 0 → 0 < y → mem 73 k ≠ -4 ∧ mem 73 k = ln ∧ 0 ≤ f + 3 * x ∧ f + 3 * x + (y - 1) < mem 74 k) → (∀ v8 v9 v10, SW l G (zrm 4) RX6 cX6_read 11 (some .int) (zZ G (zPT (zI (if R.1 = true then -20 - R.2.2 else R.2.2)) mem (if R.1 = true then mem 66 else sGo 10 f (fun x => mem 75 (40 * k + x)) R.2.2.toNat (mem 66)) (if R.1 = true then mem 65 27 else R.2.1))) 0 0 (fun _ => True) 164 [zR 65, zI k, zI ln, zI f, zI n, zI (sF3 (mem 73 k) (mem 74 k) ln (f + 3 * x)), zI x, zI x, v8, v9, v10] [] (zr (zr mem 76 (zcp (mem 66) (mem 76) 0 0 76)) 66 S)) → SW l G (zrm 4) RX6 cX6_read 11 (some .int) (zZ G (zPT (zI (if R.1 = true then -20 - R.2.2 else R.2.2)) mem (if R.1 = true then mem 66 else sGo 10 f (fun x => mem 75 (40 * k + x)) R.2.2.toNat (mem 66)) (if R.1 = true then mem 65 27 else R.2.1))) 0 0 (fun _ => True) 77 [zR 65, zI k, zI ln, zI f, zI n, zI r, zI x, zI x, zI y, v9, v10] [] (zr (zr mem 76 (zcp (mem 66) (mem 76) 0 0 76)) 66 S) := by
          intro Q
          induction Q with
          | zero =>
            intro y r v9 v10 a0 a1 a2 a3 a4 kk
            have er : r = sF3 (mem 73 k) (mem 74 k) ln (f + 3 * x) := by
              by_cases r0 : r = 0
              · rw [a2 r0 (by omega), r0]
              · exact (a3 r0).symm
            refine r_iload dX6_read_77 rfl ?_
            refine r_iconst dX6_read_79 (k := ?_)
            refine r_icmp_ge (tgt := 164) dX6_read_80 (by decide) (fun h80 => ?_) (fun h80 => ?_)
            · rw [er]
              exact kk _ _ _
            · exact absurd (by omega) h80
          | succ Q ihQ =>
            intro y r v9 v10 a0 a1 a2 a3 a4 kk
            refine r_iload dX6_read_77 rfl ?_
            refine r_iconst dX6_read_79 (k := ?_)
            refine r_icmp_ge (tgt := 164) dX6_read_80 (by decide) (fun h80 => ?_) (fun h80 => ?_)
            · first
                | exact absurd h80 (by omega)
                | (rw [← a3 h85]; exact kk _ _ _)
            · refine r_iload dX6_read_83 rfl ?_
              refine r_if_ne (tgt := 164) dX6_read_85 (by decide) (fun h85 => ?_) (fun h85 => ?_)
              · first
                  | exact absurd h80 (by omega)
                  | (rw [← a3 h85]; exact kk _ _ _)
              · refine r_iload_n dX6_read_88 rfl ?_
                refine r_i2l dX6_read_89 ?_
                refine r_iconst dX6_read_90 (k := ?_)
                refine r_iload dX6_read_91 rfl ?_
                refine r_imul dX6_read_93 ?_
                try rw [zw_id (by omega) (by omega)]
                refine r_i2l dX6_read_94 ?_
                refine r_ladd dX6_read_95 ?_
                try rw [zw64_id (by omega) (by omega)]
                refine r_iload dX6_read_96 rfl ?_
                refine r_i2l dX6_read_98 ?_
                refine r_ladd dX6_read_99 ?_
                try rw [zw64_id (by omega) (by omega)]
                refine r_lstore dX6_read_100 rfl ?_
                refine r_aload_n dX6_read_102 rfl ?_
                refine r_getR (q := 73) fX6_32 rfl rfl dX6_read_103 ?_
                try simp (disch := decide) only [zr_n, zr_s]
                refine r_iload_n dX6_read_106 rfl ?_
                refine r_iald rfl (by omega) (by omega) dX6_read_107 ?_
                try simp (disch := decide) only [zr_n, zr_s]
                refine r_bipush dX6_read_108 (k := ?_)
                refine r_icmp_ne (tgt := 117) dX6_read_110 (by decide) (fun h110 => ?_) (fun h110 => ?_)
                · refine r_aload_n dX6_read_117 rfl ?_
                  refine r_getR (q := 73) fX6_32 rfl rfl dX6_read_118 ?_
                  try simp (disch := decide) only [zr_n, zr_s]
                  refine r_iload_n dX6_read_121 rfl ?_
                  refine r_iald rfl (by omega) (by omega) dX6_read_122 ?_
                  try simp (disch := decide) only [zr_n, zr_s]
                  refine r_iload_n dX6_read_123 rfl ?_
                  refine r_icmp_eq (tgt := 131) dX6_read_124 (by decide) (fun h124 => ?_) (fun h124 => ?_)
                  · refine r_lload dX6_read_131 rfl ?_
                    refine r_lconst dX6_read_133 rfl (k := ?_)
                    refine r_lcmp dX6_read_134 ?_
                    refine r_if_lt (tgt := 151) dX6_read_135 (by decide) (fun h135 => ?_) (fun h135 => ?_)
                    · refine r_iconst dX6_read_151 (k := ?_)
                      refine r_goto (tgt := 156) dX6_read_152 (by decide) ?_
                      refine r_istore dX6_read_156 rfl ?_
                      refine r_iinc dX6_read_158 rfl rfl ?_
                      try rw [zw_id (by omega) (by omega)]
                      refine r_goto (tgt := 77) dX6_read_161 (by decide) ?_
                      first
                        | exact ihQ _ 1 _ _ (by omega) (by omega) (by omega) (fun _ => by unfold sF3; rw [if_pos h110]) (by omega) kk
                        | exact ihQ _ 3 _ _ (by omega) (by omega) (by omega) (fun _ => by unfold sF3; rw [if_neg h110, if_neg h124]) (by omega) kk
                        | (simp only [zcmp_lt] at h135; exact ihQ _ 2 _ _ (by omega) (by omega) (by omega) (fun _ => by unfold sF3; rw [if_neg h110, if_pos (by omega), if_pos (by omega)]) (by omega) kk)
                        | (simp only [zcmp_lt] at h135 h148; exact ihQ _ 2 _ _ (by omega) (by omega) (by omega) (fun _ => by unfold sF3; rw [if_neg h110, if_pos (by omega), if_pos (by omega)]) (by omega) kk)
                        | (simp only [zcmp_lt] at h135 h148; exact ihQ _ 0 _ _ (by omega) (by omega) (fun _ e => by unfold sF3; rw [if_neg h110, if_pos (by omega), if_neg (by omega)]) (by omega) (by omega) kk)
                    · refine r_lload dX6_read_138 rfl ?_
                      refine r_aload_n dX6_read_140 rfl ?_
                      refine r_getR (q := 74) fX6_35 rfl rfl dX6_read_141 ?_
                      try simp (disch := decide) only [zr_n, zr_s]
                      refine r_iload_n dX6_read_144 rfl ?_
                      refine r_iald rfl (by omega) (by omega) dX6_read_145 ?_
                      try simp (disch := decide) only [zr_n, zr_s]
                      refine r_i2l dX6_read_146 ?_
                      refine r_lcmp dX6_read_147 ?_
                      refine r_if_lt (tgt := 155) dX6_read_148 (by decide) (fun h148 => ?_) (fun h148 => ?_)
                      · refine r_iconst dX6_read_155 (k := ?_)
                        refine r_istore dX6_read_156 rfl ?_
                        refine r_iinc dX6_read_158 rfl rfl ?_
                        try rw [zw_id (by omega) (by omega)]
                        refine r_goto (tgt := 77) dX6_read_161 (by decide) ?_
                        first
                          | exact ihQ _ 1 _ _ (by omega) (by omega) (by omega) (fun _ => by unfold sF3; rw [if_pos h110]) (by omega) kk
                          | exact ihQ _ 3 _ _ (by omega) (by omega) (by omega) (fun _ => by unfold sF3; rw [if_neg h110, if_neg h124]) (by omega) kk
                          | (simp only [zcmp_lt] at h135; exact ihQ _ 2 _ _ (by omega) (by omega) (by omega) (fun _ => by unfold sF3; rw [if_neg h110, if_pos (by omega), if_pos (by omega)]) (by omega) kk)
                          | (simp only [zcmp_lt] at h135 h148; exact ihQ _ 2 _ _ (by omega) (by omega) (by omega) (fun _ => by unfold sF3; rw [if_neg h110, if_pos (by omega), if_pos (by omega)]) (by omega) kk)
                          | (simp only [zcmp_lt] at h135 h148; exact ihQ _ 0 _ _ (by omega) (by omega) (fun _ e => by unfold sF3; rw [if_neg h110, if_pos (by omega), if_neg (by omega)]) (by omega) (by omega) kk)
                      · refine r_iconst dX6_read_151 (k := ?_)
                        refine r_goto (tgt := 156) dX6_read_152 (by decide) ?_
                        refine r_istore dX6_read_156 rfl ?_
                        refine r_iinc dX6_read_158 rfl rfl ?_
                        try rw [zw_id (by omega) (by omega)]
                        refine r_goto (tgt := 77) dX6_read_161 (by decide) ?_
                        first
                          | exact ihQ _ 1 _ _ (by omega) (by omega) (by omega) (fun _ => by unfold sF3; rw [if_pos h110]) (by omega) kk
                          | exact ihQ _ 3 _ _ (by omega) (by omega) (by omega) (fun _ => by unfold sF3; rw [if_neg h110, if_neg h124]) (by omega) kk
                          | (simp only [zcmp_lt] at h135; exact ihQ _ 2 _ _ (by omega) (by omega) (by omega) (fun _ => by unfold sF3; rw [if_neg h110, if_pos (by omega), if_pos (by omega)]) (by omega) kk)
                          | (simp only [zcmp_lt] at h135 h148; exact ihQ _ 2 _ _ (by omega) (by omega) (by omega) (fun _ => by unfold sF3; rw [if_neg h110, if_pos (by omega), if_pos (by omega)]) (by omega) kk)
                          | (simp only [zcmp_lt] at h135 h148; exact ihQ _ 0 _ _ (by omega) (by omega) (fun _ e => by unfold sF3; rw [if_neg h110, if_pos (by omega), if_neg (by omega)]) (by omega) (by omega) kk)
                  · refine r_iconst dX6_read_127 (k := ?_)
                    refine r_goto (tgt := 156) dX6_read_128 (by decide) ?_
                    refine r_istore dX6_read_156 rfl ?_
                    refine r_iinc dX6_read_158 rfl rfl ?_
                    try rw [zw_id (by omega) (by omega)]
                    refine r_goto (tgt := 77) dX6_read_161 (by decide) ?_
                    first
                      | exact ihQ _ 1 _ _ (by omega) (by omega) (by omega) (fun _ => by unfold sF3; rw [if_pos h110]) (by omega) kk
                      | exact ihQ _ 3 _ _ (by omega) (by omega) (by omega) (fun _ => by unfold sF3; rw [if_neg h110, if_neg h124]) (by omega) kk
                      | (simp only [zcmp_lt] at h135; exact ihQ _ 2 _ _ (by omega) (by omega) (by omega) (fun _ => by unfold sF3; rw [if_neg h110, if_pos (by omega), if_pos (by omega)]) (by omega) kk)
                      | (simp only [zcmp_lt] at h135 h148; exact ihQ _ 2 _ _ (by omega) (by omega) (by omega) (fun _ => by unfold sF3; rw [if_neg h110, if_pos (by omega), if_pos (by omega)]) (by omega) kk)
                      | (simp only [zcmp_lt] at h135 h148; exact ihQ _ 0 _ _ (by omega) (by omega) (fun _ e => by unfold sF3; rw [if_neg h110, if_pos (by omega), if_neg (by omega)]) (by omega) (by omega) kk)
                · refine r_iconst dX6_read_113 (k := ?_)
                  refine r_goto (tgt := 156) dX6_read_114 (by decide) ?_
                  refine r_istore dX6_read_156 rfl ?_
                  refine r_iinc dX6_read_158 rfl rfl ?_
                  try rw [zw_id (by omega) (by omega)]
                  refine r_goto (tgt := 77) dX6_read_161 (by decide) ?_
                  first
                    | exact ihQ _ 1 _ _ (by omega) (by omega) (by omega) (fun _ => by unfold sF3; rw [if_pos h110]) (by omega) kk
                    | exact ihQ _ 3 _ _ (by omega) (by omega) (by omega) (fun _ => by unfold sF3; rw [if_neg h110, if_neg h124]) (by omega) kk
                    | (simp only [zcmp_lt] at h135; exact ihQ _ 2 _ _ (by omega) (by omega) (by omega) (fun _ => by unfold sF3; rw [if_neg h110, if_pos (by omega), if_pos (by omega)]) (by omega) kk)
                    | (simp only [zcmp_lt] at h135 h148; exact ihQ _ 2 _ _ (by omega) (by omega) (by omega) (fun _ => by unfold sF3; rw [if_neg h110, if_pos (by omega), if_pos (by omega)]) (by omega) kk)
                    | (simp only [zcmp_lt] at h135 h148; exact ihQ _ 0 _ _ (by omega) (by omega) (fun _ e => by unfold sF3; rw [if_neg h110, if_pos (by omega), if_neg (by omega)]) (by omega) (by omega) kk)
        have go : (∀ v8 v9 v10, SW l G (zrm 4) RX6 cX6_read 11 (some .int) (zZ G (zPT (zI (if R.1 = true then -20 - R.2.2 else R.2.2)) mem (if R.1 = true then mem 66 else sGo 10 f (fun x => mem 75 (40 * k + x)) R.2.2.toNat (mem 66)) (if R.1 = true then mem 65 27 else R.2.1))) 0 0 (fun _ => True) 164 [zR 65, zI k, zI ln, zI f, zI n, zI (sF3 (mem 73 k) (mem 74 k) ln (f + 3 * x)), zI x, zI x, v8, v9, v10] [] (zr (zr mem 76 (zcp (mem 66) (mem 76) 0 0 76)) 66 S)) := by
          intro v8 v9 v10
          by_cases z0 : sF3 (mem 73 k) (mem 74 k) ln (f + 3 * x) = 0
          · obtain ⟨w1, w2⟩ := sF3_0 z0
            rw [if_pos z0] at he
            rw [z0]
            by_cases z1 : sTri (mem 65 3) (fun x => mem 75 (40 * k + x)) (f + 3 * x)
            · rw [if_pos z1] at he
              have z2 : 0 ≤ mem 75 (40 * k + (f + 3 * x)) ∧ mem 75 (40 * k + (f + 3 * x)) < mem 65 3 ∧ 0 ≤ mem 75 (40 * k + (f + 3 * x + 1)) ∧ mem 75 (40 * k + (f + 3 * x + 1)) < mem 65 3 ∧ mem 75 (40 * k + (f + 3 * x)) ≠ mem 75 (40 * k + (f + 3 * x + 1)) ∧ 0 ≤ mem 75 (40 * k + (f + 3 * x + 2)) ∧ mem 75 (40 * k + (f + 3 * x + 2)) ≤ 3 := z1
              obtain ⟨q1, q2, q3, q4, q5, q6, q7⟩ := id z2
              have hG := (hJ.2.2.2.2.2.1 _ _ q1 q2 q3 q4).1
              rw [← mG_at (c := S) (k := 5 * mem 75 (40 * k + (f + 3 * x)) + mem 75 (40 * k + (f + 3 * x + 1))) (by omega) rfl] at hG
              refine r_iload dX6_read_164 rfl ?_
              refine r_if_ne (tgt := 253) dX6_read_166 (by decide) (fun h166 => ?_) (fun h166 => ?_)
              · refine r_iinc dX6_read_253 rfl rfl ?_
                try rw [zw_id (by omega) (by omega)]
                refine r_goto (tgt := 62) dX6_read_256 (by decide) ?_
                first
                  | exact absurd rfl h166
                  | (rw [show (x : Int) + 1 = ((x + 1 : Nat) : Int) by omega]; exact ih (x + 1) _ _ _ _ (by omega) (vM_grudge hJ q6 q7 q1 q2 q3 q4).1 (fun j hj => by rw [zu_n (by omega)]; exact hS1 j hj) (by rw [hS, sGo_s]) he)
              · refine r_bipush dX6_read_169 (k := ?_)
                refine r_iload_n dX6_read_171 rfl ?_
                refine r_imul dX6_read_172 ?_
                try rw [zw_id (by omega) (by omega)]
                refine r_iload_n dX6_read_173 rfl ?_
                refine r_iadd dX6_read_174 ?_
                try rw [zw_id (by omega) (by omega)]
                refine r_iconst dX6_read_175 (k := ?_)
                refine r_iload dX6_read_176 rfl ?_
                refine r_imul dX6_read_178 ?_
                try rw [zw_id (by omega) (by omega)]
                refine r_iadd dX6_read_179 ?_
                try rw [zw_id (by omega) (by omega)]
                rw [show 40 * k + f + 3 * x = 40 * k + (f + 3 * x) by omega]
                refine r_istore dX6_read_180 rfl ?_
                refine r_aload_n dX6_read_182 rfl ?_
                refine r_aload_n dX6_read_183 rfl ?_
                refine r_getR (q := 75) fX6_38 rfl rfl dX6_read_184 ?_
                try simp (disch := decide) only [zr_n, zr_s]
                refine r_iload dX6_read_187 rfl ?_
                refine r_iald rfl (by omega) (by omega) dX6_read_189 ?_
                try simp (disch := decide) only [zr_n, zr_s]
                refine r_aload_n dX6_read_190 rfl ?_
                refine r_getR (q := 75) fX6_38 rfl rfl dX6_read_191 ?_
                try simp (disch := decide) only [zr_n, zr_s]
                refine r_iload dX6_read_194 rfl ?_
                refine r_iconst dX6_read_196 (k := ?_)
                refine r_iadd dX6_read_197 ?_
                try rw [zw_id (by omega) (by omega)]
                rw [show 40 * k + (f + 3 * x) + 1 = 40 * k + (f + 3 * x + 1) by omega]
                refine r_iald rfl (by omega) (by omega) dX6_read_198 ?_
                try simp (disch := decide) only [zr_n, zr_s]
                refine r_aload_n dX6_read_199 rfl ?_
                refine r_getR (q := 75) fX6_38 rfl rfl dX6_read_200 ?_
                try simp (disch := decide) only [zr_n, zr_s]
                refine r_iload dX6_read_203 rfl ?_
                refine r_iconst dX6_read_205 (k := ?_)
                refine r_iadd dX6_read_206 ?_
                try rw [zw_id (by omega) (by omega)]
                rw [show 40 * k + (f + 3 * x) + 2 = 40 * k + (f + 3 * x + 2) by omega]
                refine r_iald rfl (by omega) (by omega) dX6_read_207 ?_
                try simp (disch := decide) only [zr_n, zr_s]
                refine r_v3 (c_X6_sulk (by rw [zr_n (by decide), zr_n (by decide)]; exact hn0) (by rw [zr_n (by decide), zr_n (by decide)]; exact hn5) _ _ _) kX6_315 rfl dX6_read_208 ?_
                try simp (disch := decide) only [zr_n, zr_s]
                rw [if_pos z2, if_pos z2, zs_zr]
                refine r_if_ge (tgt := 250) dX6_read_211 (by decide) (fun h211 => ?_) (fun h211 => ?_)
                · refine r_iinc dX6_read_250 rfl rfl ?_
                  try rw [zw_id (by omega) (by omega)]
                  refine r_iinc dX6_read_253 rfl rfl ?_
                  try rw [zw_id (by omega) (by omega)]
                  refine r_goto (tgt := 62) dX6_read_256 (by decide) ?_
                  first
                    | exact absurd rfl h166
                    | (rw [show (x : Int) + 1 = ((x + 1 : Nat) : Int) by omega]; exact ih (x + 1) _ _ _ _ (by omega) (vM_grudge hJ q6 q7 q1 q2 q3 q4).1 (fun j hj => by rw [zu_n (by omega)]; exact hS1 j hj) (by rw [hS, sGo_s]) he)
                · exact absurd hG h211
            · rw [if_neg z1] at he
              have z2 : ¬ (0 ≤ mem 75 (40 * k + (f + 3 * x)) ∧ mem 75 (40 * k + (f + 3 * x)) < mem 65 3 ∧ 0 ≤ mem 75 (40 * k + (f + 3 * x + 1)) ∧ mem 75 (40 * k + (f + 3 * x + 1)) < mem 65 3 ∧ mem 75 (40 * k + (f + 3 * x)) ≠ mem 75 (40 * k + (f + 3 * x + 1)) ∧ 0 ≤ mem 75 (40 * k + (f + 3 * x + 2)) ∧ mem 75 (40 * k + (f + 3 * x + 2)) ≤ 3) := z1
              refine r_iload dX6_read_164 rfl ?_
              refine r_if_ne (tgt := 253) dX6_read_166 (by decide) (fun h166 => ?_) (fun h166 => ?_)
              · exact absurd rfl h166
              · refine r_bipush dX6_read_169 (k := ?_)
                refine r_iload_n dX6_read_171 rfl ?_
                refine r_imul dX6_read_172 ?_
                try rw [zw_id (by omega) (by omega)]
                refine r_iload_n dX6_read_173 rfl ?_
                refine r_iadd dX6_read_174 ?_
                try rw [zw_id (by omega) (by omega)]
                refine r_iconst dX6_read_175 (k := ?_)
                refine r_iload dX6_read_176 rfl ?_
                refine r_imul dX6_read_178 ?_
                try rw [zw_id (by omega) (by omega)]
                refine r_iadd dX6_read_179 ?_
                try rw [zw_id (by omega) (by omega)]
                rw [show 40 * k + f + 3 * x = 40 * k + (f + 3 * x) by omega]
                refine r_istore dX6_read_180 rfl ?_
                refine r_aload_n dX6_read_182 rfl ?_
                refine r_aload_n dX6_read_183 rfl ?_
                refine r_getR (q := 75) fX6_38 rfl rfl dX6_read_184 ?_
                try simp (disch := decide) only [zr_n, zr_s]
                refine r_iload dX6_read_187 rfl ?_
                refine r_iald rfl (by omega) (by omega) dX6_read_189 ?_
                try simp (disch := decide) only [zr_n, zr_s]
                refine r_aload_n dX6_read_190 rfl ?_
                refine r_getR (q := 75) fX6_38 rfl rfl dX6_read_191 ?_
                try simp (disch := decide) only [zr_n, zr_s]
                refine r_iload dX6_read_194 rfl ?_
                refine r_iconst dX6_read_196 (k := ?_)
                refine r_iadd dX6_read_197 ?_
                try rw [zw_id (by omega) (by omega)]
                rw [show 40 * k + (f + 3 * x) + 1 = 40 * k + (f + 3 * x + 1) by omega]
                refine r_iald rfl (by omega) (by omega) dX6_read_198 ?_
                try simp (disch := decide) only [zr_n, zr_s]
                refine r_aload_n dX6_read_199 rfl ?_
                refine r_getR (q := 75) fX6_38 rfl rfl dX6_read_200 ?_
                try simp (disch := decide) only [zr_n, zr_s]
                refine r_iload dX6_read_203 rfl ?_
                refine r_iconst dX6_read_205 (k := ?_)
                refine r_iadd dX6_read_206 ?_
                try rw [zw_id (by omega) (by omega)]
                rw [show 40 * k + (f + 3 * x) + 2 = 40 * k + (f + 3 * x + 2) by omega]
                refine r_iald rfl (by omega) (by omega) dX6_read_207 ?_
                try simp (disch := decide) only [zr_n, zr_s]
                refine r_v3 (c_X6_sulk (by rw [zr_n (by decide), zr_n (by decide)]; exact hn0) (by rw [zr_n (by decide), zr_n (by decide)]; exact hn5) _ _ _) kX6_315 rfl dX6_read_208 ?_
                try simp (disch := decide) only [zr_n, zr_s]
                rw [if_neg z2, if_neg z2]
                refine r_if_ge (tgt := 250) dX6_read_211 (by decide) (fun h211 => ?_) (fun h211 => ?_)
                · exact absurd h211 (by decide)
                · refine r_iconst dX6_read_214 (k := ?_)
                  refine r_istore dX6_read_215 rfl ?_
                  exact refd 76 _ _ _ _ _ S S (by omega) (by omega) (by omega) (by omega) (by rw [← he]) (by rw [← he]) zcp_0.symm hS1
          · rw [if_neg z0] at he
            refine r_iload dX6_read_164 rfl ?_
            refine r_if_ne (tgt := 253) dX6_read_166 (by decide) (fun h166 => ?_) (fun h166 => ?_)
            · refine r_iinc dX6_read_253 rfl rfl ?_
              try rw [zw_id (by omega) (by omega)]
              refine r_goto (tgt := 62) dX6_read_256 (by decide) ?_
              exact fin _ _ _ _ _ _ _ (Or.inr z0) (by rw [← he]) (by rw [← he]) (by rw [← he]) hS
            · exact absurd h166 z0
        refine r_iload dX6_read_62 rfl ?_
        refine r_iload dX6_read_64 rfl ?_
        refine r_icmp_ge (tgt := 259) dX6_read_66 (by decide) (fun h66 => ?_) (fun h66 => ?_)
        · first | exact absurd h66 (by omega) | exact absurd rfl h71
        · refine r_iload dX6_read_69 rfl ?_
          refine r_if_ne (tgt := 259) dX6_read_71 (by decide) (fun h71 => ?_) (fun h71 => ?_)
          · first | exact absurd h66 (by omega) | exact absurd rfl h71
          · refine r_iconst dX6_read_74 (k := ?_)
            refine r_istore dX6_read_75 rfl ?_
            exact three 3 0 0 _ _ (by omega) (by omega) (by omega) (by omega) (by omega) go
    have loop0 : ∀ (q : Nat) (x : Int), 0 ≤ x → x + q = 76 → SW l G (zrm 4) RX6 cX6_read 11 (some .int) (zZ G (zPT (zI (if R.1 = true then -20 - R.2.2 else R.2.2)) mem (if R.1 = true then mem 66 else sGo 10 f (fun x => mem 75 (40 * k + x)) R.2.2.toNat (mem 66)) (if R.1 = true then mem 65 27 else R.2.1))) 0 0 (fun _ => True) 26 [zR 65, zI k, zI ln, zI f, zI n, zI x, zU, zU, zU, zU, zU] [] (zr mem 76 (zcp (mem 66) (mem 76) 0 0 x)) := by
      intro q
      induction q with
      | zero =>
        intro x a b
        have e76 : x = 76 := by omega
        subst e76
        have fin := loop n.toNat 0 zU zU zU (mem 66) (by omega) hI (fun _ _ => rfl) rfl hR
        rw [show zr (zr mem 76 (zcp (mem 66) (mem 76) 0 0 76)) 66 (mem 66) = zr mem 76 (zcp (mem 66) (mem 76) 0 0 76) from zr_id (by rw [zr_n (by decide)])] at fin
        refine r_iload dX6_read_26 rfl ?_
        refine r_bipush dX6_read_28 (k := ?_)
        refine r_icmp_ge (tgt := 53) dX6_read_30 (by decide) (fun h30 => ?_) (fun h30 => ?_)
        · refine r_iconst dX6_read_53 (k := ?_)
          refine r_istore dX6_read_54 rfl ?_
          refine r_iconst dX6_read_56 (k := ?_)
          refine r_istore dX6_read_57 rfl ?_
          refine r_iconst dX6_read_59 (k := ?_)
          refine r_istore dX6_read_60 rfl ?_
          exact fin
        · exact absurd (by omega) h30
      | succ q ih =>
        intro x a b
        refine r_iload dX6_read_26 rfl ?_
        refine r_bipush dX6_read_28 (k := ?_)
        refine r_icmp_ge (tgt := 53) dX6_read_30 (by decide) (fun h30 => ?_) (fun h30 => ?_)
        · exact absurd h30 (by omega)
        · refine r_aload_n dX6_read_33 rfl ?_
          refine r_getR (q := 76) fX6_41 rfl rfl dX6_read_34 ?_
          try simp (disch := decide) only [zr_n, zr_s]
          refine r_iload dX6_read_37 rfl ?_
          refine r_aload_n dX6_read_39 rfl ?_
          refine r_getR (q := 66) fX6_7 rfl rfl dX6_read_40 ?_
          try simp (disch := decide) only [zr_n, zr_s]
          refine r_iload dX6_read_43 rfl ?_
          refine r_iald rfl (by omega) (by omega) dX6_read_45 ?_
          try simp (disch := decide) only [zr_n, zr_s]
          refine r_iast rfl (by omega) (by omega) dX6_read_46 ?_
          refine r_iinc dX6_read_47 rfl rfl ?_
          try rw [zw_id (by omega) (by omega)]
          refine r_goto (tgt := 26) dX6_read_50 (by decide) ?_
          rw [zs_zr, zcp_s0 a]
          exact ih _ (by omega) (by omega)
    have st := loop0 76 0 (by omega) (by omega)
    rw [zcp_0, zr_self] at st
    refine r_iload_n dX6_read_0 rfl ?_
    refine r_iload_n dX6_read_1 rfl ?_
    refine r_s2 (c_isSheet _ _) kX6_310 dX6_read_2 ?_
    try simp (disch := decide) only [zr_n, zr_s]
    refine r_ifd_eq (tgt := 21) dX6_read_5 (by decide) (fun h5 => ?_) (fun h5 => ?_)
    · first
        | (have b : ¬ (0 ≤ n ∧ n ≤ 13) := h18; exact absurd hc (by omega))
        | exact absurd hc (by omega)
    · refine r_iload dX6_read_8 rfl ?_
      refine r_i2l dX6_read_10 ?_
      refine r_lconst dX6_read_11 rfl (k := ?_)
      refine r_ldc2 nX6_313 dX6_read_12 (x := 13) (k := ?_)
      refine r_s3 (c_in _ _ _) kX6_69 dX6_read_15 ?_
      try simp (disch := decide) only [zr_n, zr_s]
      refine r_ifd_ne (tgt := 23) dX6_read_18 (by decide) (fun h18 => ?_) (fun h18 => ?_)
      · refine r_iconst dX6_read_23 (k := ?_)
        refine r_istore dX6_read_24 rfl ?_
        exact st
      · first
          | (have b : ¬ (0 ≤ n ∧ n ≤ 13) := h18; exact absurd hc (by omega))
          | exact absurd hc (by omega)
  · simp only [if_neg hc]
    refine CT.of' (own := RX6) (ls0 := [zR 65, zI k, zI ln, zI f, zI n, zU, zU, zU, zU, zU, zU]) rfl (by decide +kernel) (Nat.le_of_ble_eq_true rfl) rfl ?_
    refine r_iload_n dX6_read_0 rfl ?_
    refine r_iload_n dX6_read_1 rfl ?_
    refine r_s2 (c_isSheet _ _) kX6_310 dX6_read_2 ?_
    refine r_ifd_eq (tgt := 21) dX6_read_5 (by decide) (fun h5 => ?_) (fun h5 => ?_)
    · refine r_iconst dX6_read_21 (k := ?_)
      refine r_iret dX6_read_22 ?_
      exact ⟨rfl, mem 76, by rw [zr_self, zr_self, zs_u rfl]⟩
    · refine r_iload dX6_read_8 rfl ?_
      refine r_i2l dX6_read_10 ?_
      refine r_lconst dX6_read_11 rfl (k := ?_)
      refine r_ldc2 nX6_313 dX6_read_12 (x := 13) (k := ?_)
      refine r_s3 (c_in _ _ _) kX6_69 dX6_read_15 ?_
      refine r_ifd_ne (tgt := 23) dX6_read_18 (by decide) (fun h18 => ?_) (fun h18 => ?_)
      · exact absurd (by have b : 0 ≤ n ∧ n ≤ 13 := h18; omega) hc
      · refine r_iconst dX6_read_21 (k := ?_)
        refine r_iret dX6_read_22 ?_
        exact ⟨rfl, mem 76, by rw [zr_self, zr_self, zs_u rfl]⟩
end
