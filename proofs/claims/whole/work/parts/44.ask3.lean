/-! ===== ask of the reference ===== -/
theorem z_tmod {x y : Int} (h0 : 0 ≤ x) (h1 : x < 2147483648) (h2 : 0 < y) : zw (x.tmod y) = x % y := by
  rw [Int.tmod_eq_emod_of_nonneg h0]
  have a := Int.emod_nonneg x (show y ≠ 0 by omega)
  have d := Int.ediv_nonneg h0 (show 0 ≤ y by omega)
  have c := Int.mul_nonneg (show 0 ≤ y by omega) d
  have b : x % y + y * (x / y) = x := Int.emod_add_mul_ediv x y
  exact zw_id (by omega) (by omega)
theorem z_tdiv {x y : Int} (h0 : 0 ≤ x) (h1 : x < 2147483648) (h2 : 0 < y) : zw (x.tdiv y) = x / y := by
  rw [Int.tdiv_eq_ediv_of_nonneg h0]
  have a := Int.ediv_nonneg h0 (show 0 ≤ y by omega)
  have b : x / y ≤ x := Int.ediv_le_self y h0
  exact zw_id (by omega) (by omega)
theorem zfor_add {α : Type} {f : Int → α → α} : ∀ (p q : Nat) (i : Int) (a : α), zfor f i (p + q) a = zfor f (i + p) q (zfor f i p a)
  | 0, q, i, a => by rw [Nat.zero_add, zfor, show i + ((0 : Nat) : Int) = i by omega]
  | p + 1, q, i, a => by
    rw [show p + 1 + q = (p + q) + 1 by omega, zfor, zfor, zfor_add p q (i + 1) (f i a), show i + 1 + (p : Int) = i + ((p + 1 : Nat) : Int) by omega]
theorem zfor_five {α : Type} {N : Int} {g : Int → Int → α → α} (h0 : 0 ≤ N) (h5 : N ≤ 5) (n : Int) (a : α) : zfor (fun c a => if c % 5 < N then g (c / 5) (c % 5) a else a) (5 * n) 5 a = zfor (fun j a => g n j a) 0 N.toNat a := by
  have e0 : (5 * n) % 5 = 0 := by omega
  have e1 : (5 * n + 1) % 5 = 1 := by omega
  have e2 : (5 * n + 1 + 1) % 5 = 2 := by omega
  have e3 : (5 * n + 1 + 1 + 1) % 5 = 3 := by omega
  have e4 : (5 * n + 1 + 1 + 1 + 1) % 5 = 4 := by omega
  have d0 : (5 * n) / 5 = n := by omega
  have d1 : (5 * n + 1) / 5 = n := by omega
  have d2 : (5 * n + 1 + 1) / 5 = n := by omega
  have d3 : (5 * n + 1 + 1 + 1) / 5 = n := by omega
  have d4 : (5 * n + 1 + 1 + 1 + 1) / 5 = n := by omega
  simp only [zfor, e0, e1, e2, e3, e4, d0, d1, d2, d3, d4]
  rcases (show N = 0 ∨ N = 1 ∨ N = 2 ∨ N = 3 ∨ N = 4 ∨ N = 5 by omega) with rfl | rfl | rfl | rfl | rfl | rfl <;> rfl
theorem zfor_fives {α : Type} {N : Int} {g : Int → Int → α → α} (h0 : 0 ≤ N) (h5 : N ≤ 5) : ∀ (k : Nat) (n : Int) (a : α), zfor (fun c a => if c % 5 < N then g (c / 5) (c % 5) a else a) (5 * n) (5 * k) a = zfor (fun n a => zfor (fun j a => g n j a) 0 N.toNat a) n k a
  | 0, n, a => rfl
  | k + 1, n, a => by
    rw [show 5 * (k + 1) = 5 + 5 * k by omega, zfor_add, zfor_five h0 h5, zfor, show 5 * n + ((5 : Nat) : Int) = 5 * (n + 1) by omega, zfor_fives h0 h5 k]
def sAskC (N rows : Int) (C : Int → Int) : Int × Int := zfor (fun c a => if c % 5 < N then sJ (10 * (c / 5) + c % 5) (sMost rows C c) a else a) 0 105 (-4, rows)
theorem sAskC_e {N rows : Int} {C : Int → Int} (h0 : 0 ≤ N) (h5 : N ≤ 5) : sAskC N rows C = sAskS N rows C := by
  have q := zfor_fives (N := N) (g := fun n j a => sJ (10 * n + j) (sMost rows C (5 * n + j)) a) h0 h5 21 0 (-4, rows)
  unfold sAskC sAskS
  rw [show zfor (fun c a => if c % 5 < N then sJ (10 * (c / 5) + c % 5) (sMost rows C c) a else a) 0 105 (-4, rows) = zfor (fun c a => if c % 5 < N then (fun n j a => sJ (10 * n + j) (sMost rows C (5 * n + j)) a) (c / 5) (c % 5) a else a) 0 105 (-4, rows) from zfor_congr _ _ _ (fun c a _ _ => by dsimp only; rw [show 5 * (c / 5) + c % 5 = c by omega])]
  exact q
section
variable {l : Launch} {G : zG} {mem : zM}
set_option maxRecDepth 100000 in
set_option maxHeartbeats 1000000 in
theorem c_X6_ask (hI : mI (mem 65 3) (mem 66)) (hs : sSB (mem 65 3) (mem 66 57) (sb3 (mem 66)) (sw3 (mem 66))) (i w : Int) : KX6_ask l G 6 [zR 65, zI i, zI w] mem (zPM (zI (if 0 ≤ i ∧ i < mem 65 3 ∧ 0 ≤ w ∧ w ≤ 1 then sAdv (sAskS (mem 65 3) (sCn (fun v => sSo (vKind (vM (mem 65 3) (mem 66)) i v) (mem 66 57) (sb3 (mem 66)) (sw3 (mem 66)) (sp3 (mem 66))) 4) (sCan (vM (mem 65 3) (mem 66)) i (fun v => sSo (vKind (vM (mem 65 3) (mem 66)) i v) (mem 66 57) (sb3 (mem 66)) (sw3 (mem 66)) (sp3 (mem 66))))).1 (sAskS (mem 65 3) (sCn (fun v => sSo (vKind (vM (mem 65 3) (mem 66)) i v) (mem 66 57) (sb3 (mem 66)) (sw3 (mem 66)) (sp3 (mem 66))) 4) (sCan (vM (mem 65 3) (mem 66)) i (fun v => sSo (vKind (vM (mem 65 3) (mem 66)) i v) (mem 66 57) (sb3 (mem 66)) (sw3 (mem 66)) (sp3 (mem 66))))).2 w else -1)) mem) := by
  have hn0 := hI.1
  have hn5 := hI.2.1
  obtain ⟨f1, f2, f3⟩ := mStart hI kM.rf
  have vv : VEQ (vM (mem 65 3) (mem 66)) (vM (mem 65 3) (mem 66)) := f2.symm.trans f2
  have hcn := sCn_b (f := (fun v => sSo (vKind (vM (mem 65 3) (mem 66)) i v) (mem 66 57) (sb3 (mem 66)) (sw3 (mem 66)) (sp3 (mem 66)))) 4
  by_cases hc : 0 ≤ i ∧ i < mem 65 3 ∧ 0 ≤ w ∧ w ≤ 1
  · rw [if_pos hc]
    have hcan : ∀ C, sCrs (vM (mem 65 3) (mem 66)) i (fun v => sSo (vKind (vM (mem 65 3) (mem 66)) i v) (mem 66 57) (sb3 (mem 66)) (sw3 (mem 66)) (sp3 (mem 66))) 4 C → sAskC (mem 65 3) (sCn (fun v => sSo (vKind (vM (mem 65 3) (mem 66)) i v) (mem 66 57) (sb3 (mem 66)) (sw3 (mem 66)) (sp3 (mem 66))) 4) C = (sAskS (mem 65 3) (sCn (fun v => sSo (vKind (vM (mem 65 3) (mem 66)) i v) (mem 66 57) (sb3 (mem 66)) (sw3 (mem 66)) (sp3 (mem 66))) 4) (sCan (vM (mem 65 3) (mem 66)) i (fun v => sSo (vKind (vM (mem 65 3) (mem 66)) i v) (mem 66 57) (sb3 (mem 66)) (sw3 (mem 66)) (sp3 (mem 66))))) := fun C h => by rw [sAskC_e hn0 hn5]; exact sAskS_c vv h (sCan_ok hn5)
    generalize (sAskS (mem 65 3) (sCn (fun v => sSo (vKind (vM (mem 65 3) (mem 66)) i v) (mem 66 57) (sb3 (mem 66)) (sw3 (mem 66)) (sp3 (mem 66))) 4) (sCan (vM (mem 65 3) (mem 66)) i (fun v => sSo (vKind (vM (mem 65 3) (mem 66)) i v) (mem 66 57) (sb3 (mem 66)) (sw3 (mem 66)) (sp3 (mem 66))))) = A at *
    have hW := mKind (mem := mem) hI hc.1 hc.2.1
    have hfx : ∀ x : Int, (fun v => sSo (vKind (vM (mem 65 3) (mem 66)) i v) (mem 66 57) (sb3 (mem 66)) (sw3 (mem 66)) (sp3 (mem 66))) x = sSo (vKind (vM (mem 65 3) (mem 66)) i x) (mem 66 57) (sb3 (mem 66)) (sw3 (mem 66)) (sp3 (mem 66)) := fun _ => rfl
    generalize hf : (fun v => sSo (vKind (vM (mem 65 3) (mem 66)) i v) (mem 66 57) (sb3 (mem 66)) (sw3 (mem 66)) (sp3 (mem 66))) = f at *
    refine CT.of' (own := RX6) (ls0 := [zR 65, zI i, zI w, zU, zU, zU, zU, zU, zU]) rfl (by decide +kernel) (Nat.le_of_ble_eq_true rfl) rfl ?_
    have judge : ∀ (C : Int → Int) (k : Nat) (x : Int) (m : zM) (v5 v6 v7 v8 : zV), 0 ≤ x → x + k = 105 → kM mem m → m 72 = C → zfor (fun c a => if c % 5 < mem 65 3 then sJ (10 * (c / 5) + c % 5) (sMost (sCn f 4) C c) a else a) x k (m 65 17, m 65 18) = A → SW l G (zrm 6) RX6 cX6_ask 9 (some .int) (zZ G (zPM (zI (sAdv A.1 A.2 w)) mem)) 0 0 (fun _ => True) 94 [zR 65, zI i, zI w, zI (sCn f 4), zI x, v5, v6, v7, v8] [] m := by
      intro C k
      induction k with
      | zero =>
        intro x m v5 v6 v7 v8 h0 h1 hk hC he
        refine r_iload dX6_ask_94 rfl ?_
        refine r_bipush dX6_ask_96 (k := ?_)
        refine r_icmp_ge (tgt := 230) dX6_ask_98 (by decide) (fun h98 => ?_) (fun h98 => ?_)
        · refine r_aload_n dX6_ask_230 rfl ?_
          refine r_iload_n dX6_ask_231 rfl ?_
          refine r_v1 (c_judged _) kX6_264 rfl dX6_ask_232 ?_
          try simp (disch := decide) only [zr_n, zr_s]
          refine r_iret dX6_ask_235 ?_
          exact zPM.i (by rw [← he]; rfl) hk
        · exact absurd (by omega) h98
      | succ k ih =>
        intro x m v5 v6 v7 v8 h0 h1 hk hC he
        have e65 : m 65 3 = mem 65 3 := hk.2 3 (by decide) (by decide) (by decide) (by decide) (by decide)
        rw [zfor] at he
        have fin : ∀ (wo : Int) (v6 v7 v8 : zV), wo = sMost (sCn f 4) C x → SW l G (zrm 6) RX6 cX6_ask 9 (some .int) (zZ G (zPM (zI (sAdv A.1 A.2 w)) mem)) 0 0 (fun _ => True) 195 [zR 65, zI i, zI w, zI (sCn f 4), zI x, zI wo, v6, v7, v8] [] m := by
          intro wo v6 v7 v8 hwo
          refine r_iload dX6_ask_195 rfl ?_
          refine r_iconst dX6_ask_197 (k := ?_)
          refine r_irem dX6_ask_198 (by omega) ?_
          rw [z_tmod h0 (by omega) (by decide)]
          refine r_aload_n dX6_ask_199 rfl ?_
          refine r_gI (q := 3) rfl fX6_64 rfl (by decide) dX6_ask_200 ?_
          try rw [e65]
          refine r_icmp_ge (tgt := 224) dX6_ask_203 (by decide) (fun h203 => ?_) (fun h203 => ?_)
          · refine r_iinc dX6_ask_224 rfl rfl ?_
            try rw [zw_id (by omega) (by omega)]
            refine r_goto (tgt := 94) dX6_ask_227 (by decide) ?_
            first
              | exact ih _ _ _ _ _ _ (by omega) (by omega) (mJ_k hk) (by unfold mJ; rw [zs_n (by decide), zs_n (by decide)]; exact hC) (by rw [if_pos (by omega), ← hwo, ← mJ_a (X := m 67), zr_self] at he; exact he)
              | exact ih _ _ _ _ _ _ (by omega) (by omega) hk hC (by rw [if_neg (by omega)] at he; exact he)
          · refine r_aload_n dX6_ask_206 rfl ?_
            refine r_bipush dX6_ask_207 (k := ?_)
            refine r_iload dX6_ask_209 rfl ?_
            refine r_iconst dX6_ask_211 (k := ?_)
            refine r_idiv dX6_ask_212 (by omega) ?_
            rw [z_tdiv h0 (by omega) (by decide)]
            refine r_imul dX6_ask_213 ?_
            try rw [zw_id (by omega) (by omega)]
            refine r_iload dX6_ask_214 rfl ?_
            refine r_iconst dX6_ask_216 (k := ?_)
            refine r_irem dX6_ask_217 (by omega) ?_
            rw [z_tmod h0 (by omega) (by decide)]
            refine r_iadd dX6_ask_218 ?_
            try rw [zw_id (by omega) (by omega)]
            refine r_iload dX6_ask_219 rfl ?_
            refine r_w2 (c_judges' _ _) kX6_260 rfl dX6_ask_221 ?_
            try rw [e65]
            refine r_iinc dX6_ask_224 rfl rfl ?_
            try rw [zw_id (by omega) (by omega)]
            refine r_goto (tgt := 94) dX6_ask_227 (by decide) ?_
            first
              | exact ih _ _ _ _ _ _ (by omega) (by omega) (mJ_k hk) (by unfold mJ; rw [zs_n (by decide), zs_n (by decide)]; exact hC) (by rw [if_pos (by omega), ← hwo, ← mJ_a (X := m 67), zr_self] at he; exact he)
              | exact ih _ _ _ _ _ _ (by omega) (by omega) hk hC (by rw [if_neg (by omega)] at he; exact he)
        have rows : ∀ (k : Nat) (y wo : Int) (v7 v8 : zV), 0 ≤ y → y + k = sCn f 4 → 0 ≤ wo → wo ≤ 4 → zfor (fun a m => max m (zfor (fun b al => if C (105 * a + x) = C (105 * b + x) then al + 1 else al) 0 (sCn f 4).toNat 0)) y k wo = sMost (sCn f 4) C x → SW l G (zrm 6) RX6 cX6_ask 9 (some .int) (zZ G (zPM (zI (sAdv A.1 A.2 w)) mem)) 0 0 (fun _ => True) 107 [zR 65, zI i, zI w, zI (sCn f 4), zI x, zI wo, zI y, v7, v8] [] m := by
          intro k
          induction k with
          | zero =>
            intro y wo v7 v8 g0 g1 g2 g3 hq
            refine r_iload dX6_ask_107 rfl ?_
            refine r_iload_n dX6_ask_109 rfl ?_
            refine r_icmp_ge (tgt := 195) dX6_ask_110 (by decide) (fun h110 => ?_) (fun h110 => ?_)
            · exact fin _ _ _ _ hq
            · exact absurd (by omega) h110
          | succ k ihk =>
            intro y wo v7 v8 g0 g1 g2 g3 hq
            rw [zfor] at hq
            have cols : ∀ (p : Nat) (z al : Int), 0 ≤ z → z + p = sCn f 4 → 0 ≤ al → al ≤ z → zfor (fun b al => if C (105 * y + x) = C (105 * b + x) then al + 1 else al) z p al = zfor (fun b al => if C (105 * y + x) = C (105 * b + x) then al + 1 else al) 0 (sCn f 4).toNat 0 → SW l G (zrm 6) RX6 cX6_ask 9 (some .int) (zZ G (zPM (zI (sAdv A.1 A.2 w)) mem)) 0 0 (fun _ => True) 119 [zR 65, zI i, zI w, zI (sCn f 4), zI x, zI wo, zI y, zI al, zI z] [] m := by
              intro p
              induction p with
              | zero =>
                intro z al b0 b1 b2 b3 hz
                rw [← hz] at hq
                refine r_iload dX6_ask_119 rfl ?_
                refine r_iload_n dX6_ask_121 rfl ?_
                refine r_icmp_ge (tgt := 173) dX6_ask_122 (by decide) (fun h122 => ?_) (fun h122 => ?_)
                · refine r_iload dX6_ask_173 rfl ?_
                  refine r_iload dX6_ask_175 rfl ?_
                  refine r_icmp_le (tgt := 185) dX6_ask_177 (by decide) (fun h177 => ?_) (fun h177 => ?_)
                  · refine r_iload dX6_ask_185 rfl ?_
                    refine r_istore dX6_ask_187 rfl ?_
                    refine r_iinc dX6_ask_189 rfl rfl ?_
                    try rw [zw_id (by omega) (by omega)]
                    refine r_goto (tgt := 107) dX6_ask_192 (by decide) ?_
                    first
                      | exact ihk _ _ _ _ (by omega) (by omega) (by omega) (by omega) (by rw [show max wo (zfor _ z 0 al) = al from (by show max wo al = al; omega)] at hq; exact hq)
                      | exact ihk _ _ _ _ (by omega) (by omega) (by omega) (by omega) (by rw [show max wo (zfor _ z 0 al) = wo from (by show max wo al = wo; omega)] at hq; exact hq)
                  · refine r_iload dX6_ask_180 rfl ?_
                    refine r_goto (tgt := 187) dX6_ask_182 (by decide) ?_
                    refine r_istore dX6_ask_187 rfl ?_
                    refine r_iinc dX6_ask_189 rfl rfl ?_
                    try rw [zw_id (by omega) (by omega)]
                    refine r_goto (tgt := 107) dX6_ask_192 (by decide) ?_
                    first
                      | exact ihk _ _ _ _ (by omega) (by omega) (by omega) (by omega) (by rw [show max wo (zfor _ z 0 al) = al from (by show max wo al = al; omega)] at hq; exact hq)
                      | exact ihk _ _ _ _ (by omega) (by omega) (by omega) (by omega) (by rw [show max wo (zfor _ z 0 al) = wo from (by show max wo al = wo; omega)] at hq; exact hq)
                · exact absurd (by omega) h122
              | succ p ihp =>
                intro z al b0 b1 b2 b3 hz
                rw [zfor] at hz
                refine r_iload dX6_ask_119 rfl ?_
                refine r_iload_n dX6_ask_121 rfl ?_
                refine r_icmp_ge (tgt := 173) dX6_ask_122 (by decide) (fun h122 => ?_) (fun h122 => ?_)
                · exact absurd h122 (by omega)
                · refine r_iload dX6_ask_125 rfl ?_
                  refine r_aload_n dX6_ask_127 rfl ?_
                  refine r_getR (q := 72) fX6_29 rfl rfl dX6_ask_128 ?_
                  try rw [hC]
                  refine r_bipush dX6_ask_131 (k := ?_)
                  refine r_iload dX6_ask_133 rfl ?_
                  refine r_imul dX6_ask_135 ?_
                  try rw [zw_id (by omega) (by omega)]
                  refine r_iload dX6_ask_136 rfl ?_
                  refine r_iadd dX6_ask_138 ?_
                  try rw [zw_id (by omega) (by omega)]
                  refine r_iald rfl (by omega) (by omega) dX6_ask_139 ?_
                  try rw [hC]
                  refine r_aload_n dX6_ask_140 rfl ?_
                  refine r_getR (q := 72) fX6_29 rfl rfl dX6_ask_141 ?_
                  try rw [hC]
                  refine r_bipush dX6_ask_144 (k := ?_)
                  refine r_iload dX6_ask_146 rfl ?_
                  refine r_imul dX6_ask_148 ?_
                  try rw [zw_id (by omega) (by omega)]
                  refine r_iload dX6_ask_149 rfl ?_
                  refine r_iadd dX6_ask_151 ?_
                  try rw [zw_id (by omega) (by omega)]
                  refine r_iald rfl (by omega) (by omega) dX6_ask_152 ?_
                  try rw [hC]
                  refine r_icmp_ne (tgt := 160) dX6_ask_153 (by decide) (fun h153 => ?_) (fun h153 => ?_)
                  · refine r_iconst dX6_ask_160 (k := ?_)
                    refine r_s1 (c_flag _ (by decide)) kX6_200 dX6_ask_161 ?_
                    try rw [hC]
                    refine r_iadd dX6_ask_164 ?_
                    try rw [zw_id (by omega) (by omega)]
                    refine r_istore dX6_ask_165 rfl ?_
                    refine r_iinc dX6_ask_167 rfl rfl ?_
                    try rw [zw_id (by omega) (by omega)]
                    refine r_goto (tgt := 119) dX6_ask_170 (by decide) ?_
                    first
                      | exact ihp _ _ (by omega) (by omega) (by omega) (by omega) (by rw [if_pos (by omega)] at hz; exact hz)
                      | (rw [Int.add_zero]; exact ihp _ _ (by omega) (by omega) (by omega) (by omega) (by rw [if_neg (by omega)] at hz; exact hz))
                  · refine r_iconst dX6_ask_156 (k := ?_)
                    refine r_goto (tgt := 161) dX6_ask_157 (by decide) ?_
                    refine r_s1 (c_flag _ (by decide)) kX6_200 dX6_ask_161 ?_
                    try rw [hC]
                    refine r_iadd dX6_ask_164 ?_
                    try rw [zw_id (by omega) (by omega)]
                    refine r_istore dX6_ask_165 rfl ?_
                    refine r_iinc dX6_ask_167 rfl rfl ?_
                    try rw [zw_id (by omega) (by omega)]
                    refine r_goto (tgt := 119) dX6_ask_170 (by decide) ?_
                    first
                      | exact ihp _ _ (by omega) (by omega) (by omega) (by omega) (by rw [if_pos (by omega)] at hz; exact hz)
                      | (rw [Int.add_zero]; exact ihp _ _ (by omega) (by omega) (by omega) (by omega) (by rw [if_neg (by omega)] at hz; exact hz))
            refine r_iload dX6_ask_107 rfl ?_
            refine r_iload_n dX6_ask_109 rfl ?_
            refine r_icmp_ge (tgt := 195) dX6_ask_110 (by decide) (fun h110 => ?_) (fun h110 => ?_)
            · exact absurd h110 (by omega)
            · refine r_iconst dX6_ask_113 (k := ?_)
              refine r_istore dX6_ask_114 rfl ?_
              refine r_iconst dX6_ask_116 (k := ?_)
              refine r_istore dX6_ask_117 rfl ?_
              exact cols (sCn f 4).toNat 0 0 (by omega) (by omega) (by omega) (by omega) rfl
        refine r_iload dX6_ask_94 rfl ?_
        refine r_bipush dX6_ask_96 (k := ?_)
        refine r_icmp_ge (tgt := 230) dX6_ask_98 (by decide) (fun h98 => ?_) (fun h98 => ?_)
        · exact absurd h98 (by omega)
        · refine r_iconst dX6_ask_101 (k := ?_)
          refine r_istore dX6_ask_102 rfl ?_
          refine r_iconst dX6_ask_104 (k := ?_)
          refine r_istore dX6_ask_105 rfl ?_
          exact rows (sCn f 4).toNat 0 0 _ _ (by omega) (by omega) (by omega) (by omega) rfl
    have loop : ∀ (k : Nat) (x : Nat) (m : zM) (v5 v6 v7 v8 : zV), x + k = 4 → kM mem m → sCrs (vM (mem 65 3) (mem 66)) i f x (m 72) → SW l G (zrm 6) RX6 cX6_ask 9 (some .int) (zZ G (zPM (zI (sAdv A.1 A.2 w)) mem)) 0 0 (fun _ => True) 22 [zR 65, zI i, zI w, zI (sCn f x), zI x, v5, v6, v7, v8] [] m := by
      intro k
      induction k with
      | zero =>
        intro x m v5 v6 v7 v8 h1 hk hC
        have e4 : x = 4 := by omega
        subst e4
        refine r_iload dX6_ask_22 rfl ?_
        refine r_iconst dX6_ask_24 (k := ?_)
        refine r_icmp_ge (tgt := 86) dX6_ask_25 (by decide) (fun h25 => ?_) (fun h25 => ?_)
        · refine r_aload_n dX6_ask_86 rfl ?_
          refine r_iload_n dX6_ask_87 rfl ?_
          refine r_w1 (c_sJudging' _) kX6_257 rfl dX6_ask_88 ?_
          try simp (disch := decide) only [zr_n, zr_s]
          refine r_iconst dX6_ask_91 (k := ?_)
          refine r_istore dX6_ask_92 rfl ?_
          exact judge (m 72) 105 0 _ _ _ _ _ (by omega) (by omega) (mS_k hk) (by unfold mS; rw [zs_n (by decide), zs_n (by decide)]) (by rw [mS_a]; exact hcan _ hC)
        · exact absurd (by omega) h25
      | succ k ih =>
        intro x m v5 v6 v7 v8 h1 hk hC
        have hb := sCn_b (f := f) x
        have copy : ∀ (X Y : Int → Int), f x = true → (∀ k j, 0 ≤ k → k ≤ 20 → 0 ≤ j → j < mem 65 3 → Y (5 * k + j) = vPl (vKind (vM (mem 65 3) (mem 66)) i x) k j) → ∀ (q : Nat) (c : Int), 0 ≤ c → c + q = 105 → SW l G (zrm 6) RX6 cX6_ask 9 (some .int) (zZ G (zPM (zI (sAdv A.1 A.2 w)) mem)) 0 0 (fun _ => True) 45 [zR 65, zI i, zI w, zI (sCn f x), zI x, zI c, v6, v7, v8] [] (zr (zr (zr m 67 X) 71 Y) 72 (zcp Y (m 72) 0 (105 * sCn f x) c)) := by
          intro X Y hfx hY q
          induction q with
          | zero =>
            intro c c0 c1
            have e : c = 105 := by omega
            subst e
            have fin := ih (x + 1) (zr (zr (zr m 67 X) 71 Y) 72 (zcp Y (m 72) 0 (105 * sCn f x) 105)) (zI 105) v6 v7 v8 (by omega) (((hk.r (Or.inl rfl)).r (Or.inr (Or.inl rfl))).r (Or.inr (Or.inr rfl))) (by
              rw [zr_s]
              intro u u1 u2 n j n0 n1 j0 j1
              have j1' : j < mem 65 3 := j1
              unfold zcp
              by_cases e : u = x
              · subst e
                rw [if_pos (by omega), show 0 + (105 * sCn f u + (5 * n + j) - 105 * sCn f u) = 5 * n + j by omega]
                exact hY n j n0 n1 j0 j1
              · have := sCn_lt u2 x (by omega)
                rw [if_neg (by omega)]
                exact hC u (by omega) u2 n j n0 n1 j0 j1)
            rw [sCn_s (v := x), if_pos hfx] at fin
            refine r_iload dX6_ask_45 rfl ?_
            refine r_bipush dX6_ask_47 (k := ?_)
            refine r_icmp_ge (tgt := 77) dX6_ask_49 (by decide) (fun h49 => ?_) (fun h49 => ?_)
            · refine r_iinc dX6_ask_77 rfl rfl ?_
              try rw [zw_id (by omega) (by omega)]
              refine r_iinc dX6_ask_80 rfl rfl ?_
              try rw [zw_id (by omega) (by omega)]
              refine r_goto (tgt := 22) dX6_ask_83 (by decide) ?_
              exact fin
            · exact absurd (by omega) h49
          | succ q ihq =>
            intro c c0 c1
            have e : zu (zcp Y (m 72) 0 (105 * sCn f x) c) (105 * sCn f x + c) (Y c) = zcp Y (m 72) 0 (105 * sCn f x) (c + 1) := by
              funext j
              unfold zu zcp
              by_cases hj : j = 105 * sCn f x + c
              · rw [if_pos hj, if_pos (by omega), show 0 + (j - 105 * sCn f x) = c by omega]
              · rw [if_neg hj]
                by_cases h2 : 105 * sCn f x ≤ j ∧ j < 105 * sCn f x + c
                · rw [if_pos h2, if_pos (by omega)]
                · rw [if_neg h2, if_neg (by omega)]
            refine r_iload dX6_ask_45 rfl ?_
            refine r_bipush dX6_ask_47 (k := ?_)
            refine r_icmp_ge (tgt := 77) dX6_ask_49 (by decide) (fun h49 => ?_) (fun h49 => ?_)
            · exact absurd h49 (by omega)
            · refine r_aload_n dX6_ask_52 rfl ?_
              refine r_getR (q := 72) fX6_29 rfl rfl dX6_ask_53 ?_
              try simp (disch := decide) only [zr_n, zr_s]
              refine r_bipush dX6_ask_56 (k := ?_)
              refine r_iload_n dX6_ask_58 rfl ?_
              refine r_imul dX6_ask_59 ?_
              try rw [zw_id (by omega) (by omega)]
              refine r_iload dX6_ask_60 rfl ?_
              refine r_iadd dX6_ask_62 ?_
              try rw [zw_id (by omega) (by omega)]
              refine r_aload_n dX6_ask_63 rfl ?_
              refine r_getR (q := 71) fX6_26 rfl rfl dX6_ask_64 ?_
              try simp (disch := decide) only [zr_n, zr_s]
              refine r_iload dX6_ask_67 rfl ?_
              refine r_iald rfl (by omega) (by omega) dX6_ask_69 ?_
              try simp (disch := decide) only [zr_n, zr_s]
              refine r_iast rfl (by omega) (by omega) dX6_ask_70 ?_
              refine r_iinc dX6_ask_71 rfl rfl ?_
              try rw [zw_id (by omega) (by omega)]
              refine r_goto (tgt := 45) dX6_ask_74 (by decide) ?_
              rw [zs_zr, e]
              exact ihq _ (by omega) (by omega)
        have nf := fun (hf : f x = false) (X Y : Int → Int) => ih (x + 1) (zr (zr m 67 X) 71 Y) v5 v6 v7 v8 (by omega) ((hk.r (Or.inl rfl)).r (Or.inr (Or.inl rfl))) (fun u u1 u2 => by
          rw [zr_n (by decide), zr_n (by decide)]
          exact hC u (by
            have : u ≠ x := fun e => by rw [e, hf] at u2; exact absurd u2 (by decide)
            omega) u2)
        have nf2 : f x = false → sCn f (x + 1) = sCn f x := fun hf => by rw [sCn_s, hf, if_neg (by decide)]
        have z0 : ∀ (X Y : Int → Int), zr (zr (zr m 67 X) 71 Y) 72 (zcp Y (m 72) 0 (105 * sCn f x) 0) = zr (zr m 67 X) 71 Y := fun X Y => zr_id (by rw [zr_n (by decide), zr_n (by decide), zcp_0'])
        refine r_iload dX6_ask_22 rfl ?_
        refine r_iconst dX6_ask_24 (k := ?_)
        refine r_icmp_ge (tgt := 86) dX6_ask_25 (by decide) (fun h25 => ?_) (fun h25 => ?_)
        · exact absurd h25 (by omega)
        · refine r_aload_n dX6_ask_28 rfl ?_
          refine r_iconst dX6_ask_29 (k := ?_)
          refine r_iload_n dX6_ask_30 rfl ?_
          refine r_imul dX6_ask_31 ?_
          try rw [zw_id (by omega) (by omega)]
          refine r_iconst dX6_ask_32 (k := ?_)
          refine r_iadd dX6_ask_33 ?_
          try rw [zw_id (by omega) (by omega)]
          rw [show 2 * i + 0 = 2 * i by omega]
          refine r_iload dX6_ask_34 rfl ?_
          refine r_vW2 (c_mSo hk _ _ (by omega) (by omega) (hW m hk x (by omega) (by omega)).1 (hW m hk x (by omega) (by omega)).2 hs) kX6_300 rfl dX6_ask_36 (fun X Y hY => ?_)
          try simp (disch := decide) only [zr_n, zr_s]
          rw [← hfx]
          refine r_ifb_eq (tgt := 80) dX6_ask_39 (by decide) (fun h39 => ?_) (fun h39 => ?_)
          · refine r_iinc dX6_ask_80 rfl rfl ?_
            try rw [zw_id (by omega) (by omega)]
            refine r_goto (tgt := 22) dX6_ask_83 (by decide) ?_
            have nf := nf h39 X Y
            rw [nf2 h39] at nf
            exact nf
          · refine r_iconst dX6_ask_42 (k := ?_)
            refine r_istore dX6_ask_43 rfl ?_
            have cp := copy X Y h39 hY 105 0 (by omega) (by omega)
            rw [z0] at cp
            exact cp
    refine r_aload_n dX6_ask_0 rfl ?_
    refine r_iload_n dX6_ask_1 rfl ?_
    refine r_v1 (c_isIsle _ hn0 hn5) kX6_151 rfl dX6_ask_2 ?_
    try simp (disch := decide) only [zr_n, zr_s]
    refine r_ifd_eq (tgt := 15) dX6_ask_5 (by decide) (fun h5 => ?_) (fun h5 => ?_)
    · exact absurd hc (by omega)
    · refine r_iload_n dX6_ask_8 rfl ?_
      refine r_s1 (c_isPart _) kX6_251 dX6_ask_9 ?_
      try simp (disch := decide) only [zr_n, zr_s]
      refine r_ifd_ne (tgt := 17) dX6_ask_12 (by decide) (fun h12 => ?_) (fun h12 => ?_)
      · refine r_iconst dX6_ask_17 (k := ?_)
        refine r_istore_n dX6_ask_18 rfl ?_
        refine r_iconst dX6_ask_19 (k := ?_)
        refine r_istore dX6_ask_20 rfl ?_
        exact loop 4 0 mem _ _ _ _ (by omega) kM.rf (fun u u1 => absurd u1 (by omega))
      · exact absurd hc (by omega)
  · rw [if_neg hc]
    refine CT.of' (own := RX6) (ls0 := [zR 65, zI i, zI w, zU, zU, zU, zU, zU, zU]) rfl (by decide +kernel) (Nat.le_of_ble_eq_true rfl) rfl ?_
    refine r_aload_n dX6_ask_0 rfl ?_
    refine r_iload_n dX6_ask_1 rfl ?_
    refine r_v1 (c_isIsle _ hn0 hn5) kX6_151 rfl dX6_ask_2 ?_
    refine r_ifd_eq (tgt := 15) dX6_ask_5 (by decide) (fun h5 => ?_) (fun h5 => ?_)
    · refine r_iconst dX6_ask_15 (k := ?_)
      refine r_iret dX6_ask_16 ?_
      exact zPM.i rfl kM.rf
    · refine r_iload_n dX6_ask_8 rfl ?_
      refine r_s1 (c_isPart _) kX6_251 dX6_ask_9 ?_
      refine r_ifd_ne (tgt := 17) dX6_ask_12 (by decide) (fun h12 => ?_) (fun h12 => ?_)
      · exact absurd (by omega) hc
      · refine r_iconst dX6_ask_15 (k := ?_)
        refine r_iret dX6_ask_16 ?_
        exact zPM.i rfl kM.rf
end
