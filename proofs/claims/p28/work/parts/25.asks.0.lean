/-! calls that ask -/
theorem thr_260 (μ : Mm) (v : Int32) : M_thr μ v 260 = μ 260 := up2_k _ _ (by decide)
theorem INV.of {k : Nat} {μ ν : Mm} (h : INV k μ) (he : ∀ p, (1 ≤ p ∧ p < 41) ∨ (92 ≤ p ∧ p < 259) ∨ (260 ≤ p ∧ p ≤ 262) → ν p = μ p) (h2 : ν 259 2 = μ 259 2) (h9 : ν 259 9 = μ 259 9) : INV k ν := by
  obtain ⟨a, b, c, L, hL, d1, d2, d3⟩ := h
  refine ⟨?_, ?_, ?_, L, hL, ?_, ?_, fun i hi => ?_⟩
  · rw [he 260 (by omega)]
    exact a.of fun p h1 h3 => he p (by omega)
  · rw [he 260 (by omega)]; exact b
  · rw [he 261 (by omega), h2]
    exact c.of fun p h1 h3 => he p (by omega)
  · rw [he 254 (by omega)]; exact d1
  · rw [h9]; exact d2
  · rw [he 258 (by omega), he 262 (by omega)]; exact d3 i hi
theorem INV.thr {k : Nat} {μ : Mm} (h : INV k μ) (v : Int32) : INV (k + 1) (M_thr μ v) :=
  (INV.mono k μ h).of (fun p hp => up2_k _ _ (by omega)) (by simp [M_thr, up2]) (by simp [M_thr, up2])
theorem INV.st {k : Nat} {μ : Mm} (h : INV k μ) : vp_in (μ 259 2) 5 := by
  obtain ⟨c, o, h1, -, -, h4, -⟩ := h.2.2.1
  rw [h4]
  exact vp_in_nI (by omega) (by decide)
theorem INV.l9 {k : Nat} {μ : Mm} (h : INV k μ) : vp_in (μ 259 9) 151 := by
  obtain ⟨L, h1, -, h3, -⟩ := h.2.2.2
  rw [h3]
  exact vp_in_nI (by omega) (by decide)
theorem REL.thr {μ : Mm} {a : Nat} {v : Int32} (h : REL μ a (μ 260)) : REL μ a (M_thr μ v 260) := by rw [thr_260]; exact h
theorem RNG.thr {N R : Nat} {μ : Mm} {v : Int32} (h : RNG N R (μ 260)) : RNG N R (M_thr μ v 260) := by rw [thr_260]; exact h
theorem what_e (w k k' : Int32) (e : k - 1 = k') : X_what w k = if wI w 0 k' = 0 then 2 else 0 := by unfold X_what; rw [e]
theorem find_at {N R : Nat} {ν : Mm} (g : RNG N R (ν 260)) {x : Int32} (h : ¬ M_find ν x < 0) : ∃ j, j < cn (ν 260 1) ∧ M_find ν x = nI j := by
  obtain ⟨j, hj, e⟩ := nI_of h
  have := findJ h g.MI
  rw [e, cn_nI hj] at this
  exact ⟨j, this, e⟩
theorem fn_e {N R a : Nat} {μ ν : Mm} (h : REL μ a (ν 260)) (g : RNG N R (ν 260)) (x : Int32) : O_faultOfNumber μ (a + 16) x = M_fdErr ν x := by
  unfold O_faultOfNumber M_fdErr
  rw [rd_find h g]
theorem rd_whole {μ ν : Mm} {w : Int32} (h : REL μ 1 (ν 260)) (h9 : μ 254 0 = ν 259 9) (hw : vp_in w 12) : X_whole μ w = M_tellsWhole ν w := by
  obtain ⟨q, hq, rfl⟩ := vp_nI hw (by decide)
  obtain ⟨⟨e1, e2, e3, e4, e5, e6, e7, e8, e9, e10, e11⟩, -⟩ := h
  unfold X_whole M_tellsWhole A_wholeValue
  rcases (show q = 0 ∨ q = 1 ∨ q = 2 ∨ q = 3 ∨ q = 4 ∨ q = 5 ∨ q = 6 ∨ q = 7 ∨ q = 8 ∨ q = 9 ∨ q = 10 ∨ q = 11 by omega) with rfl | rfl | rfl | rfl | rfl | rfl | rfl | rfl | rfl | rfl | rfl | rfl
  · exact e1
  · exact e2
  · exact e3
  · exact e4
  · exact e5
  · exact e6
  · exact e7
  · exact e8
  · exact e9
  · exact e10
  · exact e11
  · exact h9
theorem INV.len {k : Nat} {μ : Mm} (h : INV k μ) : μ 254 0 = μ 259 9 := by
  obtain ⟨L, -, h2, h3, -⟩ := h.2.2.2
  rw [h2, h3]
