/-! ===== the calls that change the firth: rows and cells ===== -/
def CA1 (n : Int) (c : Int → Int) (m : zM) : Prop := m 1 0 = n ∧ m 1 4 = c 53 ∧ m 1 8 = c 55 ∧ m 1 9 = c 54 ∧ m 1 10 = c 56 ∧ (∀ i, 0 ≤ i → i < n → m 2 i = c (2 * i) ∧ m 3 i = c (2 * i + 1)) ∧ (∀ k, 0 ≤ k → k < 25 → m 4 k = c (10 + k)) ∧ (∀ k, 0 ≤ k → k < c 53 → m 5 k = c (35 + 3 * k) ∧ m 6 k = c (36 + 3 * k) ∧ m 7 k = c (37 + 3 * k)) ∧ m 15 0 = c 57 ∧ (∀ k, 0 ≤ k → k < c 57 → m 16 k = c (58 + 3 * k) ∧ m 17 k = c (59 + 3 * k) ∧ m 18 k = c (60 + 3 * k))
theorem CA.l {n : Int} {c : Int → Int} {m : zM} (h : CA n c m 1 15) : CA1 n c m := h
theorem CA1.r {n : Int} {c : Int → Int} {m : zM} (h : CA1 n c m) : CA n c m 1 15 := h
theorem CA1.o {n : Int} {c : Int → Int} {m : zM} {X : Int → Int} {o : Nat} (h : CA1 n c m) (ho : 19 ≤ o) : CA1 n c (zr m o X) := (h.r.m (fun o' ho' => zr_n (by omega))).l
section
variable {n : Int} {c : Int → Int} {m : zM}
theorem CI.loose (h : CI n c) {v : Int} (h0 : 0 ≤ v) (h1 : v ≤ c 53) : CI n (zu c 53 v) := by
  obtain ⟨⟨n0, n5⟩, ⟨b0, b6⟩, ⟨d0, d9⟩, p, q, g, z, r, ⟨s0, s6⟩, w⟩ := h
  refine ⟨⟨n0, n5⟩, ?_, ?_, fun i i0 i1 => ?_, fun i j i0 i1 j0 j1 hij => ?_, fun k k0 k1 => ?_, fun i j i0 i1 j0 j1 hz => ?_, fun k k0 k1 => ?_, ?_, fun k k0 k1 => ?_⟩
  · simp (disch := omega) only [zu_n, zu_s]
    omega
  · simp (disch := omega) only [zu_n, zu_s]
    omega
  · have u := p i i0 i1
    simp (disch := omega) only [zu_n, zu_s]
    exact u
  · have u := q i j i0 i1 j0 j1 hij
    simp (disch := omega) only [zu_n, zu_s]
    exact u
  · have u := g k k0 k1
    simp (disch := omega) only [zu_n, zu_s]
    exact u
  · simp (disch := omega) only [zu_n, zu_s] at hz
    exact z i j i0 i1 j0 j1 hz
  · simp (disch := omega) only [zu_n, zu_s] at k1
    have u := r k k0 (by omega)
    simp (disch := omega) only [zu_n, zu_s]
    exact u
  · simp (disch := omega) only [zu_n, zu_s]
    omega
  · simp (disch := omega) only [zu_n, zu_s] at k1
    have u := w k k0 k1
    simp (disch := omega) only [zu_n, zu_s]
    exact u
theorem CA1.loose (h : CA1 n c m) (hI : CI n c) {v : Int} (h0 : 0 ≤ v) (h1 : v ≤ c 53) : CA1 n (zu c 53 v) (zs m 1 4 v) := by
  obtain ⟨⟨n0, n5⟩, ⟨b0, b6⟩, ⟨d0, d9⟩, -, -, -, -, -, ⟨s0, s6⟩, -⟩ := hI
  obtain ⟨a0, a4, a8, a9, a10, p, g, r, e0, w⟩ := h
  refine ⟨?_, ?_, ?_, ?_, ?_, fun i i0 i1 => ?_, fun k k0 k1 => ?_, fun k k0 k1 => ?_, ?_, fun k k0 k1 => ?_⟩
  · simp (disch := omega) only [zs_n, zs_k, zs_v, zu_n, zu_s]
    exact a0
  · simp (disch := omega) only [zs_n, zs_k, zs_v, zu_n, zu_s]
  · simp (disch := omega) only [zs_n, zs_k, zs_v, zu_n, zu_s]
    exact a8
  · simp (disch := omega) only [zs_n, zs_k, zs_v, zu_n, zu_s]
    exact a9
  · simp (disch := omega) only [zs_n, zs_k, zs_v, zu_n, zu_s]
    exact a10
  · have u := p i i0 i1
    simp (disch := omega) only [zs_n, zs_k, zs_v, zu_n, zu_s]
    exact u
  · have u := g k k0 k1
    simp (disch := omega) only [zs_n, zs_k, zs_v, zu_n, zu_s]
    exact u
  · simp (disch := omega) only [zu_n, zu_s] at k1
    have u := r k k0 (by omega)
    simp (disch := omega) only [zs_n, zs_k, zs_v, zu_n, zu_s]
    exact u
  · simp (disch := omega) only [zs_n, zs_k, zs_v, zu_n, zu_s]
    exact e0
  · try simp (disch := omega) only [zu_n, zu_s] at k1
    have u := w k k0 k1
    simp (disch := omega) only [zs_n, zs_k, zs_v, zu_n, zu_s]
    exact u
theorem CI.forget (h : CI n c) {v : Int} (h0 : 0 ≤ v) (h1 : v ≤ c 57) : CI n (zu c 57 v) := by
  obtain ⟨⟨n0, n5⟩, ⟨b0, b6⟩, ⟨d0, d9⟩, p, q, g, z, r, ⟨s0, s6⟩, w⟩ := h
  refine ⟨⟨n0, n5⟩, ?_, ?_, fun i i0 i1 => ?_, fun i j i0 i1 j0 j1 hij => ?_, fun k k0 k1 => ?_, fun i j i0 i1 j0 j1 hz => ?_, fun k k0 k1 => ?_, ?_, fun k k0 k1 => ?_⟩
  · simp (disch := omega) only [zu_n, zu_s]
    omega
  · simp (disch := omega) only [zu_n, zu_s]
    omega
  · have u := p i i0 i1
    simp (disch := omega) only [zu_n, zu_s]
    exact u
  · have u := q i j i0 i1 j0 j1 hij
    simp (disch := omega) only [zu_n, zu_s]
    exact u
  · have u := g k k0 k1
    simp (disch := omega) only [zu_n, zu_s]
    exact u
  · simp (disch := omega) only [zu_n, zu_s] at hz
    exact z i j i0 i1 j0 j1 hz
  · simp (disch := omega) only [zu_n, zu_s] at k1
    have u := r k k0 k1
    simp (disch := omega) only [zu_n, zu_s]
    exact u
  · simp (disch := omega) only [zu_n, zu_s]
    omega
  · simp (disch := omega) only [zu_n, zu_s] at k1
    have u := w k k0 (by omega)
    simp (disch := omega) only [zu_n, zu_s]
    exact u
theorem CA1.forget (h : CA1 n c m) (hI : CI n c) {v : Int} (h0 : 0 ≤ v) (h1 : v ≤ c 57) : CA1 n (zu c 57 v) (zs m 15 0 v) := by
  obtain ⟨⟨n0, n5⟩, ⟨b0, b6⟩, ⟨d0, d9⟩, -, -, -, -, -, ⟨s0, s6⟩, -⟩ := hI
  obtain ⟨a0, a4, a8, a9, a10, p, g, r, e0, w⟩ := h
  refine ⟨?_, ?_, ?_, ?_, ?_, fun i i0 i1 => ?_, fun k k0 k1 => ?_, fun k k0 k1 => ?_, ?_, fun k k0 k1 => ?_⟩
  · simp (disch := omega) only [zs_n, zs_k, zs_v, zu_n, zu_s]
    exact a0
  · simp (disch := omega) only [zs_n, zs_k, zs_v, zu_n, zu_s]
    exact a4
  · simp (disch := omega) only [zs_n, zs_k, zs_v, zu_n, zu_s]
    exact a8
  · simp (disch := omega) only [zs_n, zs_k, zs_v, zu_n, zu_s]
    exact a9
  · simp (disch := omega) only [zs_n, zs_k, zs_v, zu_n, zu_s]
    exact a10
  · have u := p i i0 i1
    simp (disch := omega) only [zs_n, zs_k, zs_v, zu_n, zu_s]
    exact u
  · have u := g k k0 k1
    simp (disch := omega) only [zs_n, zs_k, zs_v, zu_n, zu_s]
    exact u
  · try simp (disch := omega) only [zu_n, zu_s] at k1
    have u := r k k0 k1
    simp (disch := omega) only [zs_n, zs_k, zs_v, zu_n, zu_s]
    exact u
  · simp (disch := omega) only [zs_n, zs_k, zs_v, zu_n, zu_s]
  · simp (disch := omega) only [zu_n, zu_s] at k1
    have u := w k k0 (by omega)
    simp (disch := omega) only [zs_n, zs_k, zs_v, zu_n, zu_s]
    exact u
theorem CI.feast (h : CI n c) {v : Int} : CI n (zu c 55 v) := by
  obtain ⟨⟨n0, n5⟩, ⟨b0, b6⟩, ⟨d0, d9⟩, p, q, g, z, r, ⟨s0, s6⟩, w⟩ := h
  refine ⟨⟨n0, n5⟩, ?_, ?_, fun i i0 i1 => ?_, fun i j i0 i1 j0 j1 hij => ?_, fun k k0 k1 => ?_, fun i j i0 i1 j0 j1 hz => ?_, fun k k0 k1 => ?_, ?_, fun k k0 k1 => ?_⟩
  · simp (disch := omega) only [zu_n, zu_s]
    omega
  · simp (disch := omega) only [zu_n, zu_s]
    omega
  · have u := p i i0 i1
    simp (disch := omega) only [zu_n, zu_s]
    exact u
  · have u := q i j i0 i1 j0 j1 hij
    simp (disch := omega) only [zu_n, zu_s]
    exact u
  · have u := g k k0 k1
    simp (disch := omega) only [zu_n, zu_s]
    exact u
  · simp (disch := omega) only [zu_n, zu_s] at hz
    exact z i j i0 i1 j0 j1 hz
  · simp (disch := omega) only [zu_n, zu_s] at k1
    have u := r k k0 k1
    simp (disch := omega) only [zu_n, zu_s]
    exact u
  · simp (disch := omega) only [zu_n, zu_s]
    omega
  · simp (disch := omega) only [zu_n, zu_s] at k1
    have u := w k k0 k1
    simp (disch := omega) only [zu_n, zu_s]
    exact u
theorem CA1.feast (h : CA1 n c m) (hI : CI n c) {v : Int} : CA1 n (zu c 55 v) (zs m 1 8 v) := by
  obtain ⟨⟨n0, n5⟩, ⟨b0, b6⟩, ⟨d0, d9⟩, -, -, -, -, -, ⟨s0, s6⟩, -⟩ := hI
  obtain ⟨a0, a4, a8, a9, a10, p, g, r, e0, w⟩ := h
  refine ⟨?_, ?_, ?_, ?_, ?_, fun i i0 i1 => ?_, fun k k0 k1 => ?_, fun k k0 k1 => ?_, ?_, fun k k0 k1 => ?_⟩
  · simp (disch := omega) only [zs_n, zs_k, zs_v, zu_n, zu_s]
    exact a0
  · simp (disch := omega) only [zs_n, zs_k, zs_v, zu_n, zu_s]
    exact a4
  · simp (disch := omega) only [zs_n, zs_k, zs_v, zu_n, zu_s]
  · simp (disch := omega) only [zs_n, zs_k, zs_v, zu_n, zu_s]
    exact a9
  · simp (disch := omega) only [zs_n, zs_k, zs_v, zu_n, zu_s]
    exact a10
  · have u := p i i0 i1
    simp (disch := omega) only [zs_n, zs_k, zs_v, zu_n, zu_s]
    exact u
  · have u := g k k0 k1
    simp (disch := omega) only [zs_n, zs_k, zs_v, zu_n, zu_s]
    exact u
  · try simp (disch := omega) only [zu_n, zu_s] at k1
    have u := r k k0 k1
    simp (disch := omega) only [zs_n, zs_k, zs_v, zu_n, zu_s]
    exact u
  · simp (disch := omega) only [zs_n, zs_k, zs_v, zu_n, zu_s]
    exact e0
  · try simp (disch := omega) only [zu_n, zu_s] at k1
    have u := w k k0 k1
    simp (disch := omega) only [zs_n, zs_k, zs_v, zu_n, zu_s]
    exact u
theorem CI.kindU (h : CI n c) {x v : Int} (x0 : 0 ≤ x) (x1 : x < n) : CI n (zu c (2 * x) v) := by
  obtain ⟨⟨n0, n5⟩, ⟨b0, b6⟩, ⟨d0, d9⟩, p, q, g, z, r, ⟨s0, s6⟩, w⟩ := h
  refine ⟨⟨n0, n5⟩, ?_, ?_, fun i i0 i1 => ?_, fun i j i0 i1 j0 j1 hij => ?_, fun k k0 k1 => ?_, fun i j i0 i1 j0 j1 hz => ?_, fun k k0 k1 => ?_, ?_, fun k k0 k1 => ?_⟩
  · simp (disch := omega) only [zu_n, zu_s]
    omega
  · simp (disch := omega) only [zu_n, zu_s]
    omega
  · have u := p i i0 i1
    simp (disch := omega) only [zu_n, zu_s]
    exact u
  · have u := q i j i0 i1 j0 j1 hij
    simp (disch := omega) only [zu_n, zu_s]
    exact u
  · have u := g k k0 k1
    simp (disch := omega) only [zu_n, zu_s]
    exact u
  · simp (disch := omega) only [zu_n, zu_s] at hz
    exact z i j i0 i1 j0 j1 hz
  · simp (disch := omega) only [zu_n, zu_s] at k1
    have u := r k k0 k1
    simp (disch := omega) only [zu_n, zu_s]
    exact u
  · simp (disch := omega) only [zu_n, zu_s]
    omega
  · simp (disch := omega) only [zu_n, zu_s] at k1
    have u := w k k0 k1
    simp (disch := omega) only [zu_n, zu_s]
    exact u
theorem CA1.kindU (h : CA1 n c m) (hI : CI n c) {x v : Int} (x0 : 0 ≤ x) (x1 : x < n) : CA1 n (zu c (2 * x) v) (zs m 2 x v) := by
  obtain ⟨⟨n0, n5⟩, ⟨b0, b6⟩, ⟨d0, d9⟩, -, -, -, -, -, ⟨s0, s6⟩, -⟩ := hI
  obtain ⟨a0, a4, a8, a9, a10, p, g, r, e0, w⟩ := h
  refine ⟨?_, ?_, ?_, ?_, ?_, fun i i0 i1 => ?_, fun k k0 k1 => ?_, fun k k0 k1 => ?_, ?_, fun k k0 k1 => ?_⟩
  · simp (disch := omega) only [zs_n, zs_k, zs_v, zu_n, zu_s]
    exact a0
  · simp (disch := omega) only [zs_n, zs_k, zs_v, zu_n, zu_s]
    exact a4
  · simp (disch := omega) only [zs_n, zs_k, zs_v, zu_n, zu_s]
    exact a8
  · simp (disch := omega) only [zs_n, zs_k, zs_v, zu_n, zu_s]
    exact a9
  · simp (disch := omega) only [zs_n, zs_k, zs_v, zu_n, zu_s]
    exact a10
  · have u := p i i0 i1
    by_cases e : i = x
    · subst e; simp (disch := omega) only [zs_n, zs_k, zs_v, zu_n, zu_s]; exact ⟨trivial, u.2⟩
    · simp (disch := omega) only [zs_n, zs_k, zs_v, zu_n, zu_s]; exact u
  · have u := g k k0 k1
    simp (disch := omega) only [zs_n, zs_k, zs_v, zu_n, zu_s]
    exact u
  · try simp (disch := omega) only [zu_n, zu_s] at k1
    have u := r k k0 k1
    simp (disch := omega) only [zs_n, zs_k, zs_v, zu_n, zu_s]
    exact u
  · simp (disch := omega) only [zs_n, zs_k, zs_v, zu_n, zu_s]
    exact e0
  · try simp (disch := omega) only [zu_n, zu_s] at k1
    have u := w k k0 k1
    simp (disch := omega) only [zs_n, zs_k, zs_v, zu_n, zu_s]
    exact u
theorem CI.placeU (h : CI n c) {x v : Int} (x0 : 0 ≤ x) (x1 : x < n) (v0 : 0 ≤ v) (v9 : v ≤ 99) (hv : ∀ j, 0 ≤ j → j < n → j ≠ x → c (2 * j + 1) ≠ v) : CI n (zu c (2 * x + 1) v) := by
  obtain ⟨⟨n0, n5⟩, ⟨b0, b6⟩, ⟨d0, d9⟩, p, q, g, z, r, ⟨s0, s6⟩, w⟩ := h
  refine ⟨⟨n0, n5⟩, ?_, ?_, fun i i0 i1 => ?_, fun i j i0 i1 j0 j1 hij => ?_, fun k k0 k1 => ?_, fun i j i0 i1 j0 j1 hz => ?_, fun k k0 k1 => ?_, ?_, fun k k0 k1 => ?_⟩
  · simp (disch := omega) only [zu_n, zu_s]
    omega
  · simp (disch := omega) only [zu_n, zu_s]
    omega
  · have u := p i i0 i1
    by_cases e : i = x
    · subst e; simp (disch := omega) only [zu_n, zu_s]; exact ⟨v0, v9⟩
    · simp (disch := omega) only [zu_n, zu_s]; exact u
  · have u := q i j i0 i1 j0 j1 hij
    by_cases e : i = x
    · subst e; simp (disch := omega) only [zu_n, zu_s]; exact fun y => hv j j0 j1 (fun o => hij o.symm) y.symm
    · by_cases f : j = x
      · subst f; simp (disch := omega) only [zu_n, zu_s]; exact hv i i0 i1 e
      · simp (disch := omega) only [zu_n, zu_s]; exact u
  · have u := g k k0 k1
    simp (disch := omega) only [zu_n, zu_s]
    exact u
  · simp (disch := omega) only [zu_n, zu_s] at hz
    exact z i j i0 i1 j0 j1 hz
  · simp (disch := omega) only [zu_n, zu_s] at k1
    have u := r k k0 k1
    simp (disch := omega) only [zu_n, zu_s]
    exact u
  · simp (disch := omega) only [zu_n, zu_s]
    omega
  · simp (disch := omega) only [zu_n, zu_s] at k1
    have u := w k k0 k1
    simp (disch := omega) only [zu_n, zu_s]
    exact u
theorem CA1.placeU (h : CA1 n c m) (hI : CI n c) {x v : Int} (x0 : 0 ≤ x) (x1 : x < n) : CA1 n (zu c (2 * x + 1) v) (zs m 3 x v) := by
  obtain ⟨⟨n0, n5⟩, ⟨b0, b6⟩, ⟨d0, d9⟩, -, -, -, -, -, ⟨s0, s6⟩, -⟩ := hI
  obtain ⟨a0, a4, a8, a9, a10, p, g, r, e0, w⟩ := h
  refine ⟨?_, ?_, ?_, ?_, ?_, fun i i0 i1 => ?_, fun k k0 k1 => ?_, fun k k0 k1 => ?_, ?_, fun k k0 k1 => ?_⟩
  · simp (disch := omega) only [zs_n, zs_k, zs_v, zu_n, zu_s]
    exact a0
  · simp (disch := omega) only [zs_n, zs_k, zs_v, zu_n, zu_s]
    exact a4
  · simp (disch := omega) only [zs_n, zs_k, zs_v, zu_n, zu_s]
    exact a8
  · simp (disch := omega) only [zs_n, zs_k, zs_v, zu_n, zu_s]
    exact a9
  · simp (disch := omega) only [zs_n, zs_k, zs_v, zu_n, zu_s]
    exact a10
  · have u := p i i0 i1
    by_cases e : i = x
    · subst e; simp (disch := omega) only [zs_n, zs_k, zs_v, zu_n, zu_s]; exact ⟨u.1, trivial⟩
    · simp (disch := omega) only [zs_n, zs_k, zs_v, zu_n, zu_s]; exact u
  · have u := g k k0 k1
    simp (disch := omega) only [zs_n, zs_k, zs_v, zu_n, zu_s]
    exact u
  · try simp (disch := omega) only [zu_n, zu_s] at k1
    have u := r k k0 k1
    simp (disch := omega) only [zs_n, zs_k, zs_v, zu_n, zu_s]
    exact u
  · simp (disch := omega) only [zs_n, zs_k, zs_v, zu_n, zu_s]
    exact e0
  · try simp (disch := omega) only [zu_n, zu_s] at k1
    have u := w k k0 k1
    simp (disch := omega) only [zs_n, zs_k, zs_v, zu_n, zu_s]
    exact u
theorem CI.sulk (h : CI n c) {x y v : Int} (x0 : 0 ≤ x) (x1 : x < n) (y0 : 0 ≤ y) (y1 : y < n) (hxy : x ≠ y) (v0 : 0 ≤ v) (v3 : v ≤ 3) : CI n (zu c (10 + (5 * x + y)) v) := by
  obtain ⟨⟨n0, n5⟩, ⟨b0, b6⟩, ⟨d0, d9⟩, p, q, g, z, r, ⟨s0, s6⟩, w⟩ := h
  refine ⟨⟨n0, n5⟩, ?_, ?_, fun i i0 i1 => ?_, fun i j i0 i1 j0 j1 hij => ?_, fun k k0 k1 => ?_, fun i j i0 i1 j0 j1 hz => ?_, fun k k0 k1 => ?_, ?_, fun k k0 k1 => ?_⟩
  · simp (disch := omega) only [zu_n, zu_s]
    omega
  · simp (disch := omega) only [zu_n, zu_s]
    omega
  · have u := p i i0 i1
    simp (disch := omega) only [zu_n, zu_s]
    exact u
  · have u := q i j i0 i1 j0 j1 hij
    simp (disch := omega) only [zu_n, zu_s]
    exact u
  · have u := g k k0 k1
    by_cases e : k = 5 * x + y
    · subst e; simp (disch := omega) only [zu_n, zu_s]; exact ⟨v0, v3⟩
    · simp (disch := omega) only [zu_n, zu_s]; exact u
  · by_cases e : 5 * i + j = 5 * x + y
    · exact ⟨by omega, by omega, by omega⟩
    · simp (disch := omega) only [zu_n, zu_s] at hz
      exact z i j i0 i1 j0 j1 hz
  · simp (disch := omega) only [zu_n, zu_s] at k1
    have u := r k k0 k1
    simp (disch := omega) only [zu_n, zu_s]
    exact u
  · simp (disch := omega) only [zu_n, zu_s]
    omega
  · simp (disch := omega) only [zu_n, zu_s] at k1
    have u := w k k0 k1
    simp (disch := omega) only [zu_n, zu_s]
    exact u
theorem CA1.sulk (h : CA1 n c m) (hI : CI n c) {x y v : Int} (x0 : 0 ≤ x) (x1 : x < n) (y0 : 0 ≤ y) (y1 : y < n) : CA1 n (zu c (10 + (5 * x + y)) v) (zs m 4 (5 * x + y) v) := by
  obtain ⟨⟨n0, n5⟩, ⟨b0, b6⟩, ⟨d0, d9⟩, -, -, -, -, -, ⟨s0, s6⟩, -⟩ := hI
  obtain ⟨a0, a4, a8, a9, a10, p, g, r, e0, w⟩ := h
  refine ⟨?_, ?_, ?_, ?_, ?_, fun i i0 i1 => ?_, fun k k0 k1 => ?_, fun k k0 k1 => ?_, ?_, fun k k0 k1 => ?_⟩
  · simp (disch := omega) only [zs_n, zs_k, zs_v, zu_n, zu_s]
    exact a0
  · simp (disch := omega) only [zs_n, zs_k, zs_v, zu_n, zu_s]
    exact a4
  · simp (disch := omega) only [zs_n, zs_k, zs_v, zu_n, zu_s]
    exact a8
  · simp (disch := omega) only [zs_n, zs_k, zs_v, zu_n, zu_s]
    exact a9
  · simp (disch := omega) only [zs_n, zs_k, zs_v, zu_n, zu_s]
    exact a10
  · have u := p i i0 i1
    simp (disch := omega) only [zs_n, zs_k, zs_v, zu_n, zu_s]
    exact u
  · have u := g k k0 k1
    by_cases e : k = 5 * x + y
    · subst e; simp (disch := omega) only [zs_n, zs_k, zs_v, zu_n, zu_s]
    · simp (disch := omega) only [zs_n, zs_k, zs_v, zu_n, zu_s]; exact u
  · try simp (disch := omega) only [zu_n, zu_s] at k1
    have u := r k k0 k1
    simp (disch := omega) only [zs_n, zs_k, zs_v, zu_n, zu_s]
    exact u
  · simp (disch := omega) only [zs_n, zs_k, zs_v, zu_n, zu_s]
    exact e0
  · try simp (disch := omega) only [zu_n, zu_s] at k1
    have u := w k k0 k1
    simp (disch := omega) only [zs_n, zs_k, zs_v, zu_n, zu_s]
    exact u
theorem CI.haul (h : CI n c) {x v : Int} (x0 : 0 ≤ x) (x1 : x < c 53) (v0 : 0 ≤ v) (v3 : v ≤ 30) : CI n (zu c (37 + 3 * x) v) := by
  obtain ⟨⟨n0, n5⟩, ⟨b0, b6⟩, ⟨d0, d9⟩, p, q, g, z, r, ⟨s0, s6⟩, w⟩ := h
  refine ⟨⟨n0, n5⟩, ?_, ?_, fun i i0 i1 => ?_, fun i j i0 i1 j0 j1 hij => ?_, fun k k0 k1 => ?_, fun i j i0 i1 j0 j1 hz => ?_, fun k k0 k1 => ?_, ?_, fun k k0 k1 => ?_⟩
  · simp (disch := omega) only [zu_n, zu_s]
    omega
  · simp (disch := omega) only [zu_n, zu_s]
    omega
  · have u := p i i0 i1
    simp (disch := omega) only [zu_n, zu_s]
    exact u
  · have u := q i j i0 i1 j0 j1 hij
    simp (disch := omega) only [zu_n, zu_s]
    exact u
  · have u := g k k0 k1
    simp (disch := omega) only [zu_n, zu_s]
    exact u
  · simp (disch := omega) only [zu_n, zu_s] at hz
    exact z i j i0 i1 j0 j1 hz
  · simp (disch := omega) only [zu_n, zu_s] at k1
    have u := r k k0 k1
    by_cases e : k = x
    · subst e; simp (disch := omega) only [zu_n, zu_s]; exact ⟨u.1, u.2.1, u.2.2.1, u.2.2.2.1, v0, v3⟩
    · simp (disch := omega) only [zu_n, zu_s]; exact u
  · simp (disch := omega) only [zu_n, zu_s]
    omega
  · simp (disch := omega) only [zu_n, zu_s] at k1
    have u := w k k0 k1
    simp (disch := omega) only [zu_n, zu_s]
    exact u
theorem CA1.haul (h : CA1 n c m) (hI : CI n c) {x v : Int} (x0 : 0 ≤ x) (x1 : x < c 53) : CA1 n (zu c (37 + 3 * x) v) (zs m 7 x v) := by
  obtain ⟨⟨n0, n5⟩, ⟨b0, b6⟩, ⟨d0, d9⟩, -, -, -, -, -, ⟨s0, s6⟩, -⟩ := hI
  obtain ⟨a0, a4, a8, a9, a10, p, g, r, e0, w⟩ := h
  refine ⟨?_, ?_, ?_, ?_, ?_, fun i i0 i1 => ?_, fun k k0 k1 => ?_, fun k k0 k1 => ?_, ?_, fun k k0 k1 => ?_⟩
  · simp (disch := omega) only [zs_n, zs_k, zs_v, zu_n, zu_s]
    exact a0
  · simp (disch := omega) only [zs_n, zs_k, zs_v, zu_n, zu_s]
    exact a4
  · simp (disch := omega) only [zs_n, zs_k, zs_v, zu_n, zu_s]
    exact a8
  · simp (disch := omega) only [zs_n, zs_k, zs_v, zu_n, zu_s]
    exact a9
  · simp (disch := omega) only [zs_n, zs_k, zs_v, zu_n, zu_s]
    exact a10
  · have u := p i i0 i1
    simp (disch := omega) only [zs_n, zs_k, zs_v, zu_n, zu_s]
    exact u
  · have u := g k k0 k1
    simp (disch := omega) only [zs_n, zs_k, zs_v, zu_n, zu_s]
    exact u
  · simp (disch := omega) only [zu_n, zu_s] at k1
    have u := r k k0 k1
    by_cases e : k = x
    · subst e; simp (disch := omega) only [zs_n, zs_k, zs_v, zu_n, zu_s]; exact ⟨u.1, u.2.1, trivial⟩
    · simp (disch := omega) only [zs_n, zs_k, zs_v, zu_n, zu_s]; exact u
  · simp (disch := omega) only [zs_n, zs_k, zs_v, zu_n, zu_s]
    exact e0
  · try simp (disch := omega) only [zu_n, zu_s] at k1
    have u := w k k0 k1
    simp (disch := omega) only [zs_n, zs_k, zs_v, zu_n, zu_s]
    exact u
theorem CI.wed (h : CI n c) {x y v : Int} (x0 : 0 ≤ x) (x1 : x < n) (y0 : 0 ≤ y) (y1 : y < n) (v0 : 0 ≤ v) (v3 : v ≤ 30) (h6 : c 53 < 6) : CI n (zu (zu (zu (zu c (35 + 3 * c 53) x) (36 + 3 * c 53) y) (37 + 3 * c 53) v) 53 (c 53 + 1)) := by
  obtain ⟨⟨n0, n5⟩, ⟨b0, b6⟩, ⟨d0, d9⟩, p, q, g, z, r, ⟨s0, s6⟩, w⟩ := h
  refine ⟨⟨n0, n5⟩, ?_, ?_, fun i i0 i1 => ?_, fun i j i0 i1 j0 j1 hij => ?_, fun k k0 k1 => ?_, fun i j i0 i1 j0 j1 hz => ?_, fun k k0 k1 => ?_, ?_, fun k k0 k1 => ?_⟩
  · simp (disch := omega) only [zu_n, zu_s]
    omega
  · simp (disch := omega) only [zu_n, zu_s]
    omega
  · have u := p i i0 i1
    simp (disch := omega) only [zu_n, zu_s]
    exact u
  · have u := q i j i0 i1 j0 j1 hij
    simp (disch := omega) only [zu_n, zu_s]
    exact u
  · have u := g k k0 k1
    simp (disch := omega) only [zu_n, zu_s]
    exact u
  · simp (disch := omega) only [zu_n, zu_s] at hz
    exact z i j i0 i1 j0 j1 hz
  · simp (disch := omega) only [zu_n, zu_s] at k1
    by_cases e : k = c 53
    · subst e; simp (disch := omega) only [zu_n, zu_s]; exact ⟨x0, x1, y0, y1, v0, v3⟩
    · have u := r k k0 (by omega)
      simp (disch := omega) only [zu_n, zu_s]; exact u
  · simp (disch := omega) only [zu_n, zu_s]
    omega
  · simp (disch := omega) only [zu_n, zu_s] at k1
    have u := w k k0 k1
    simp (disch := omega) only [zu_n, zu_s]
    exact u
theorem CA1.wed (h : CA1 n c m) (hI : CI n c) {x y v : Int} (h6 : c 53 < 6) : CA1 n (zu (zu (zu (zu c (35 + 3 * c 53) x) (36 + 3 * c 53) y) (37 + 3 * c 53) v) 53 (c 53 + 1)) (zs (zs (zs (zs m 5 (m 1 4) x) 6 (m 1 4) y) 7 (m 1 4) v) 1 4 (m 1 4 + 1)) := by
  obtain ⟨⟨n0, n5⟩, ⟨b0, b6⟩, ⟨d0, d9⟩, -, -, -, -, -, ⟨s0, s6⟩, -⟩ := hI
  obtain ⟨a0, a4, a8, a9, a10, p, g, r, e0, w⟩ := h
  refine ⟨?_, ?_, ?_, ?_, ?_, fun i i0 i1 => ?_, fun k k0 k1 => ?_, fun k k0 k1 => ?_, ?_, fun k k0 k1 => ?_⟩
  · simp (disch := omega) only [zs_n, zs_k, zs_v, zu_n, zu_s]
    exact a0
  · simp (disch := omega) only [zs_n, zs_k, zs_v, zu_n, zu_s]
    rw [a4]
  · simp (disch := omega) only [zs_n, zs_k, zs_v, zu_n, zu_s]
    exact a8
  · simp (disch := omega) only [zs_n, zs_k, zs_v, zu_n, zu_s]
    exact a9
  · simp (disch := omega) only [zs_n, zs_k, zs_v, zu_n, zu_s]
    exact a10
  · have u := p i i0 i1
    simp (disch := omega) only [zs_n, zs_k, zs_v, zu_n, zu_s]
    exact u
  · have u := g k k0 k1
    simp (disch := omega) only [zs_n, zs_k, zs_v, zu_n, zu_s]
    exact u
  · simp (disch := omega) only [zu_n, zu_s] at k1
    rw [a4]
    by_cases e : k = c 53
    · subst e; simp (disch := omega) only [zs_n, zs_k, zs_v, zu_n, zu_s]; exact ⟨trivial, trivial, trivial⟩
    · have u := r k k0 (by omega)
      simp (disch := omega) only [zs_n, zs_k, zs_v, zu_n, zu_s]; exact u
  · simp (disch := omega) only [zs_n, zs_k, zs_v, zu_n, zu_s]
    exact e0
  · try simp (disch := omega) only [zu_n, zu_s] at k1
    have u := w k k0 k1
    simp (disch := omega) only [zs_n, zs_k, zs_v, zu_n, zu_s]
    exact u
theorem CI.see (h : CI n c) {t x v : Int} (t0 : 0 ≤ t) (t1 : t ≤ 20) (x0 : 0 ≤ x) (x1 : x < n) (h6 : c 57 < 6) : CI n (zu (zu (zu (zu c (58 + 3 * c 57) t) (58 + 3 * c 57 + 1) x) (58 + 3 * c 57 + 2) v) 57 (c 57 + 1)) := by
  obtain ⟨⟨n0, n5⟩, ⟨b0, b6⟩, ⟨d0, d9⟩, p, q, g, z, r, ⟨s0, s6⟩, w⟩ := h
  refine ⟨⟨n0, n5⟩, ?_, ?_, fun i i0 i1 => ?_, fun i j i0 i1 j0 j1 hij => ?_, fun k k0 k1 => ?_, fun i j i0 i1 j0 j1 hz => ?_, fun k k0 k1 => ?_, ?_, fun k k0 k1 => ?_⟩
  · simp (disch := omega) only [zu_n, zu_s]
    omega
  · simp (disch := omega) only [zu_n, zu_s]
    omega
  · have u := p i i0 i1
    simp (disch := omega) only [zu_n, zu_s]
    exact u
  · have u := q i j i0 i1 j0 j1 hij
    simp (disch := omega) only [zu_n, zu_s]
    exact u
  · have u := g k k0 k1
    simp (disch := omega) only [zu_n, zu_s]
    exact u
  · simp (disch := omega) only [zu_n, zu_s] at hz
    exact z i j i0 i1 j0 j1 hz
  · simp (disch := omega) only [zu_n, zu_s] at k1
    have u := r k k0 k1
    simp (disch := omega) only [zu_n, zu_s]
    exact u
  · simp (disch := omega) only [zu_n, zu_s]
    omega
  · simp (disch := omega) only [zu_n, zu_s] at k1
    by_cases e : k = c 57
    · subst e; rw [show 59 + 3 * c 57 = 58 + 3 * c 57 + 1 by omega]; simp (disch := omega) only [zu_n, zu_s]; exact ⟨t0, t1, x0, x1⟩
    · have u := w k k0 (by omega)
      simp (disch := omega) only [zu_n, zu_s]; exact u
theorem CA1.see (h : CA1 n c m) (hI : CI n c) {t x v : Int} (h6 : c 57 < 6) : CA1 n (zu (zu (zu (zu c (58 + 3 * c 57) t) (58 + 3 * c 57 + 1) x) (58 + 3 * c 57 + 2) v) 57 (c 57 + 1)) (zs (zs (zs (zs m 16 (m 15 0) t) 17 (m 15 0) x) 18 (m 15 0) v) 15 0 (m 15 0 + 1)) := by
  obtain ⟨⟨n0, n5⟩, ⟨b0, b6⟩, ⟨d0, d9⟩, -, -, -, -, -, ⟨s0, s6⟩, -⟩ := hI
  obtain ⟨a0, a4, a8, a9, a10, p, g, r, e0, w⟩ := h
  refine ⟨?_, ?_, ?_, ?_, ?_, fun i i0 i1 => ?_, fun k k0 k1 => ?_, fun k k0 k1 => ?_, ?_, fun k k0 k1 => ?_⟩
  · simp (disch := omega) only [zs_n, zs_k, zs_v, zu_n, zu_s]
    exact a0
  · simp (disch := omega) only [zs_n, zs_k, zs_v, zu_n, zu_s]
    exact a4
  · simp (disch := omega) only [zs_n, zs_k, zs_v, zu_n, zu_s]
    exact a8
  · simp (disch := omega) only [zs_n, zs_k, zs_v, zu_n, zu_s]
    exact a9
  · simp (disch := omega) only [zs_n, zs_k, zs_v, zu_n, zu_s]
    exact a10
  · have u := p i i0 i1
    simp (disch := omega) only [zs_n, zs_k, zs_v, zu_n, zu_s]
    exact u
  · have u := g k k0 k1
    simp (disch := omega) only [zs_n, zs_k, zs_v, zu_n, zu_s]
    exact u
  · try simp (disch := omega) only [zu_n, zu_s] at k1
    have u := r k k0 k1
    simp (disch := omega) only [zs_n, zs_k, zs_v, zu_n, zu_s]
    exact u
  · simp (disch := omega) only [zs_n, zs_k, zs_v, zu_n, zu_s]
    rw [e0]
  · simp (disch := omega) only [zu_n, zu_s] at k1
    rw [e0]
    by_cases e : k = c 57
    · subst e; rw [show 59 + 3 * c 57 = 58 + 3 * c 57 + 1 by omega, show 60 + 3 * c 57 = 58 + 3 * c 57 + 2 by omega]; simp (disch := omega) only [zs_n, zs_k, zs_v, zu_n, zu_s]; exact ⟨trivial, trivial, trivial⟩
    · have u := w k k0 (by omega)
      simp (disch := omega) only [zs_n, zs_k, zs_v, zu_n, zu_s]; exact u
end
