/-! clear -/

set_option maxHeartbeats 1000000 in
theorem op_clear (l : Launch) (hfl : l.stackTraces = false) (G : GG) (B : Nat) (cL : ClassId) (k : Nat) (μ : Mm) (x : Int64) (_hk : k < 512) (h : INV k μ) : OPC_clear l G B cL (INV (k + 1)) μ x := by
  have hR := h.1
  have hG := h.2.1
  have hI := hG.MI
  have hst := h.st
  obtain ⟨r, hr, er⟩ := hG.2.1
  have e5 : μ 1 5 = nI r := hR.1.2.2.1.trans er
  have hp := (push_UND h.2.2.1 hR hG).2
  by_cases c1 : μ 260 2 < 9999
  · have hlt : r < 9999 := (by rw [er] at c1; exact nI_lt_of (by decide) (by omega) (show nI r < nI 9999 from c1))
    have hU : REL (U_push μ 1) 1 (μ 260) := hR.of fun p h1 h3 => hp p (by omega)
    have hG2 := hG.lo er
    have ef : A_faultOfRound μ 1 = 0 := if_pos (by rw [e5, ← er]; exact c1)
    have hX := MX10_clear l G B μ ef (by rw [rd_n1 hU]; obtain ⟨n, hn, en⟩ := vp_nI hG.1.2.1 (by decide); rw [en]; exact nI_pos (by omega))
    obtain ⟨μ1, hμ1⟩ : ∃ m, m = A_endM (U_push μ 1) 1 := ⟨_, rfl⟩
    have out : ∀ p, 92 ≤ p → μ1 p = U_push μ 1 p := fun p p1 => (by rw [hμ1]; exact (clears_at hU hG2 (by decide) (by omega)).2.2.2.2.1 p (by omega))
    obtain ⟨q1, q2, q3, q4, q5, q6⟩ := pre_call h out
    obtain ⟨ρ, hρ⟩ : ∃ m, m = M_records (M_thr μ1 0) := ⟨_, rfl⟩
    rw [← hρ] at q4 q5 q6
    have C := clears_at (ν := ρ) q4 (q5.lo (by rw [q6]; exact er)) (by decide) (by omega)
    rw [← hμ1] at C hX
    obtain ⟨c1', c2', c3', c4', c5', c6', c7'⟩ := C
    have hM := MX11_clear l G B μ1 q1 q2 ?_
    · have e9 : M_clear μ1 = M_clears ρ := (by rw [M_clear, M_call, show M_clearError μ1 = 0 from if_pos (by rw [q3 260 (by decide)]; exact c1), if_pos rfl, ← hρ])
      rw [e9] at hM
      have fo := (finds_at q5).2.2.2.2
      refine ⟨0, _, μ1, (M_clears ρ).1, _, L_clear_ok l G B cL μ x (by decide) (by decide) hX, hM, ?_, fun _ => ?_, INV_call h out (fun p w1 w2 w3 => ?_) ?_ ?_ c1' ?_⟩
      · rw [c7' 3, fo 3 (by decide) (by decide) (by decide) (by decide), hρ]; exact rec3 _ _
      · exact congrArg _ c3'
      · rw [← hρ]; exact c6' p w1 w2 w3
      · rw [← hρ, c7' 2, fo 2 (by decide) (by decide) (by decide) (by decide)]
      · rw [← hρ, c7' 9, fo 9 (by decide) (by decide) (by decide) (by decide)]
      · exact c2'.mono (by omega) (by omega)
    · exact hρ ▸ c4'
  · have hlt : ¬ r < 9999 := fun z => c1 (by rw [er]; exact nI_lt (b := 9999) z (by decide))
    have hM := MX11_clear l G B μ hI hst ?_
    · have e9 : M_clear μ = (M_thr μ 1, 0) := (by rw [M_clear, M_call, show M_clearError μ = 1 from if_neg c1]; rfl)
      rw [e9] at hM
      exact ⟨1, 0, μ, M_thr μ 1, x, L_clear_1 l G B cL μ x (by decide) (by decide) (XX10_clear_7_3 l hfl G B μ (if_neg (by rw [e5, ← er]; exact c1))), hM, up2_s _ _ _ _, fun q => absurd q (by decide), h.thr 1⟩
    · have e : M_records (M_thr μ 0) 260 = μ 260 := (by rw [M_records_ne (by decide) (by decide), thr_260])
      exact (clears_at (μ := μ) (ν := M_records (M_thr μ 0)) (a := 1) (by rw [e]; exact hR) (by rw [e]; exact hG) (by decide) (by omega)).2.2.2.1

