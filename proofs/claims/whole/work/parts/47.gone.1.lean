/-! goneIn -/

set_option maxHeartbeats 1000000 in
theorem op_goneIn (l : Launch) (hfl : l.stackTraces = false) (G : GG) (B : Nat) (cL : ClassId) (k : Nat) (μ : Mm) (x : Int64) (p0 : Int32) (_hk : k < 512) (h : INV k μ) : OPC_goneIn l G B cL (INV (k + 1)) μ x p0 := by
  have hR := h.1
  have hG := h.2.1
  have hI := hG.MI
  have c20 := hG.c0
  have ee : O_faultOfNumber μ (1 + 16) p0 = if M_find μ p0 < 0 then 1 else 0 := fn_e hR hG p0
  by_cases c1 : M_find μ p0 < 0
  · have hM := MX11_goneIn l G B μ p0 hI (fun z => absurd (show M_fdErr μ p0 = 1 from if_pos c1) (by rw [z]; decide))
    have e9 : M_goneIn μ p0 = (M_thr μ 1, 0) := (by rw [M_goneIn, M_ask, show M_fdErr μ p0 = 1 from if_pos c1]; rfl)
    rw [e9] at hM
    exact ⟨1, 0, μ, M_thr μ 1, x, L_goneIn_1 l G B cL μ x p0 (by decide) (by decide) (XX10_goneIn_11_1 l hfl G B μ p0 (ee.trans (if_pos c1))), hM, up2_s _ _ _ _, fun q => absurd q (by decide), h.thr 1⟩
  · have hab : 41 + 40 ≤ 1 ∨ 1 + 40 ≤ 41 := Or.inr (by decide)
    have rc : REL (A_copy μ 41 1) 41 (μ 260) := A_copy_REL hab hR c20.1 c20.2.1 c20.2.2
    have hX := MX10_goneIn l G B μ p0 (ee.trans (if_neg c1)) (by rw [rd_n1 rc]; obtain ⟨n, hn, en⟩ := vp_nI hG.1.2.1 (by decide); rw [en]; exact nI_pos (by omega))
    obtain ⟨μ1, hμ1⟩ : ∃ m, m = (X_goneIn μ p0).1 := ⟨_, rfl⟩
    obtain ⟨q0, hq0, eq0⟩ := hG.2.1
    obtain ⟨li, hli, eli⟩ := vp_nI hG.2.2.2.1.1 (by decide)
    have hx : ∀ j, j < cn (μ 260 1) → μ 260 (67 + 5 * j) = p0 → ∃ s, s ≤ q0 ∧ μ 260 (71 + 5 * j) = nI s := fun j hj _ => (by
      obtain ⟨-, -, -, -, s, hs, es⟩ := hG.2.2.2.2.2.2.1 j hj
      rw [eq0, cn_nI (by omega)] at hs
      exact ⟨s, hs, es⟩)
    have key : ∀ ρ : Mm, ρ 260 = μ 260 → (X_goneIn μ p0).2 = (GN p0 12 ρ (nI 0)).2 ∧ GNok p0 12 ρ ∧ (∀ p, p < 41 ∨ 91 < p → (X_goneIn μ p0).1 p = A_copy μ 41 1 p) ∧ (∀ p, p ≠ 259 → p ≠ 260 → p ≠ 264 → (GN p0 12 ρ (nI 0)).1 p = ρ p) ∧ ∀ i, i ≠ 4 → i ≠ 5 → i ≠ 6 → i ≠ 7 → (GN p0 12 ρ (nI 0)).1 259 i = ρ 259 i := fun ρ e => (by
      have := gone_at (x := p0) (N := 200 * k) (q0 := q0) (l := li) (by omega) (by omega) (by omega) 8 0 (A_copy μ 41 1) ρ rfl (by rw [e]; exact rc) (by rw [e]; exact hG.lo eq0) (by rw [e]; exact eq0) (by rw [e]; exact eli) (by rw [e]; exact hx) (by rw [find_260 e]; exact c1)
      unfold X_goneIn
      rw [NN_eq 8]
      exact this)
    have n1 : ∀ p, p < 41 ∨ 91 < p → μ1 p = μ p := fun p hp => (by rw [hμ1, (key μ rfl).2.2.1 p hp, A_copy_out hab (by omega)])
    have e0 : M_keeps (M_thr μ1 0) 4 260 = μ 260 := (by rw [M_keeps_ne (by decide), thr_260, n1 260 (by omega)])
    obtain ⟨ρ, hρ⟩ : ∃ m, m = M_keeps (M_thr μ1 0) 4 := ⟨_, rfl⟩
    rw [← hρ] at e0
    obtain ⟨k1, k2, -, k4, k5⟩ := key ρ e0
    rw [k1, ← hμ1] at hX
    have hM := MX11_goneIn l G B μ1 p0 (MI_of hI (n1 260 (by omega))) (fun _ => by rw [NN_eq 12]; exact hρ ▸ k2)
    obtain ⟨s, hs⟩ : ∃ s, s = GN p0 12 ρ (nI 0) := ⟨_, rfl⟩
    have e9 : M_goneIn μ1 p0 = (M_brings s.1 4, s.2) := (by rw [M_goneIn, M_ask, show M_fdErr μ1 p0 = 0 from if_neg (by rw [find_260 (n1 260 (by omega))]; exact c1), if_pos rfl, ← hρ, NN_eq 12, hs]; rfl)
    rw [e9] at hM
    rw [← hs] at hX k4 k5
    dsimp only at hM
    have t61 : ∀ i, i < 1068 → ρ 261 i = μ 261 i := fun i hi => (by
      rw [hρ]
      unfold M_keeps M_keepK
      rw [if_neg (by rw [show cn 4 = 4 from rfl]; omega), show M_thr μ1 0 261 = μ1 261 from up2_k _ _ (by decide), n1 261 (by omega)])
    have t64 : ∀ i, i < 267 → ρ 261 (267 * 4 + i) = μ 260 i := fun i hi => (by
      rw [hρ]
      unfold M_keeps M_keepK
      rw [if_pos ⟨rfl, by rw [show cn 4 = 4 from rfl]; omega, by rw [show cn 4 = 4 from rfl]; omega⟩, show cn 4 = 4 from rfl, Nat.add_sub_cancel_left, thr_260, n1 260 (by omega)])
    obtain ⟨ν, hν⟩ : ∃ m, m = M_brings s.1 4 := ⟨_, rfl⟩
    rw [← hν] at hM
    have b0 : ∀ i, i < 267 → ν 260 i = μ 260 i := fun i hi => (by
      rw [hν]
      unfold M_brings M_bringK
      rw [if_pos ⟨rfl, hi⟩, show cn 4 = 4 from rfl, k4 261 (by decide) (by decide) (by decide), t64 i hi])
    have bp : ∀ p, p ≠ 260 → ν p = s.1 p := fun p hp => (by
      rw [hν]
      funext i
      unfold M_brings M_bringK
      rw [if_neg (fun z => hp z.1)])
    have b2 : ∀ p, p ≠ 259 → p ≠ 260 → p ≠ 261 → p ≠ 264 → (p < 41 ∨ 91 < p) → ν p = μ p := fun p p1 p2 p3 p4 p5 => (by
      rw [bp p p2, k4 p p1 p2 p4, hρ, M_keeps_ne p3, show M_thr μ1 0 p = μ1 p from up2_k _ _ p1, n1 p p5])
    have b9 : ∀ i, i ≠ 3 → i ≠ 4 → i ≠ 5 → i ≠ 6 → i ≠ 7 → ν 259 i = μ 259 i := fun i i3 i4 i5 i6 i7 => (by
      rw [bp 259 (by decide), k5 i i4 i5 i6 i7, hρ, M_keeps_ne (by decide), show M_thr μ1 0 259 i = μ1 259 i from up2_n (fun z => i3 z.2), n1 259 (by omega)])
    obtain ⟨a, b, c, L, hL, d1, d2, d3⟩ := INV.mono k μ h
    refine ⟨0, _, μ1, ν, _, L_goneIn_ok l G B cL μ x p0 (by decide) (by decide) hX, hM, ?_, fun _ => rfl, ?_, ?_, ?_, L, hL, ?_, ?_, fun i hi => ?_⟩
    · rw [bp 259 (by decide), k5 3 (by decide) (by decide) (by decide) (by decide), hρ, M_keeps_ne (by decide)]; exact up2_s _ _ _ _
    · exact (a.of fun p p1 p2 => b2 p (by omega) (by omega) (by omega) (by omega) (by omega)).fn b b0
    · exact b.fn b0
    · rw [b9 2 (by decide) (by decide) (by decide) (by decide) (by decide)]
      refine UND.fn (c.of fun p p1 p2 => b2 p (by omega) (by omega) (by omega) (by omega) (by omega)) fun i hi => ?_
      rw [bp 261 (by decide), k4 261 (by decide) (by decide) (by decide)]
      exact t61 i hi
    · rw [b2 254 (by decide) (by decide) (by decide) (by decide) (by omega)]; exact d1
    · rw [b9 9 (by decide) (by decide) (by decide) (by decide) (by decide)]; exact d2
    · rw [b2 258 (by decide) (by decide) (by decide) (by decide) (by omega), b2 262 (by decide) (by decide) (by decide) (by decide) (by omega)]; exact d3 i hi

