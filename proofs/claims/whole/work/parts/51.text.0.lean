noncomputable section
/-! runCommands -/
theorem rew_0 (ν : Mm) : D_rewind ν 254 0 = ν 254 0 := by
  unfold D_rewind
  rw [up2_n (by decide), up2_n (by decide)]
theorem rew_4 (ν : Mm) : D_rewind ν 254 4 = nI 0 := by
  unfold D_rewind
  rw [up2_n (by decide)]
  exact up2_y ⟨rfl, rfl⟩
theorem rew_p {ν : Mm} {p : Nat} (h : p ≠ 254) : D_rewind ν p = ν p := by
  unfold D_rewind
  rw [up2_k _ _ h, up2_k _ _ h]
theorem txt_at {μ : Mm} (h : TXT μ) : ∃ L t, TB L t ∧ TC L t μ ∧ TM L t μ := by
  obtain ⟨L, hL, h1, h2, h3⟩ := h
  refine ⟨L, fun i => cn (μ 262 i), ⟨hL, fun i hi => ?_⟩, ⟨h1, fun i hi => ?_⟩, h2, fun i hi => ?_⟩
  · exact vp_cn (h3 i hi).2
  · rw [(h3 i hi).1]
    exact (vp_of2 (h3 i hi).2 (by decide)).1
  · exact (vp_of2 (h3 i hi).2 (by decide)).1
theorem thr_k {ρ : Mm} {v : Int32} {p : Nat} (h : p ≠ 259) : M_thr ρ v p = ρ p := up2_k _ _ h
theorem thr_i {ρ : Mm} {v : Int32} {i : Nat} (h : i ≠ 3) : M_thr ρ v 259 i = ρ 259 i := up2_n (fun z => h z.2)
theorem fau_261 {ρ : Mm} {p : Nat} (h : p ≠ 259) (h2 : p ≠ 263) : (M_faultOf (M_thr ρ 0)).1 p = ρ p := (fault_k h h2).trans (thr_k h)
theorem fau_259 {ρ : Mm} {i : Nat} (h : i ≠ 3) (h2 : i ≠ 10) (h3 : i ≠ 11) : (M_faultOf (M_thr ρ 0)).1 259 i = ρ 259 i := (fault_ne h2 h3).trans (thr_i h)
theorem run_key {k : Nat} {μ : Mm} (hk : k < 512) (h : INV k μ) (ρ : Mm) (hρ : ∀ p, 258 ≤ p → ρ p = μ p) :
    M_faok (M_thr ρ 0) ∧ D_findFault μ 254 5 = (M_faultOf (M_thr ρ 0)).2 ∧
    XY (X_cmds 150 (D_rewind (U_push (D_findFault μ) 1)) (nI 0)) (RY 151 (M_runS ρ) (nI 0)) (D_rewind (U_push (D_findFault μ) 1)) (M_runS ρ) (200 * k + 150) ∧ (M_runS ρ 259 10 < M_runS ρ 259 9 → RCok 151 (M_runS ρ)) := by
  obtain ⟨L, t, hT, hC, hM⟩ := txt_at h.2.2.2
  have hR := h.1
  have hG := h.2.1
  have hMρ : TM L t (M_thr ρ 0) := by
    refine ⟨?_, fun i hi => ?_⟩
    · rw [thr_i (by decide), hρ 259 (by decide)]; exact hM.1
    · rw [thr_k (by decide), hρ 262 (by decide)]; exact hM.2 i hi
  have kF := KP_findFault μ
  have cD : TC L t (D_rewind μ) := by
    refine ⟨?_, fun i hi => ?_⟩
    · rw [rew_0]; exact hC.1
    · rw [rew_p (by decide)]; exact hC.2 i hi
  have m0 : TM L t (up2 (M_thr ρ 0) 259 10 0) := hMρ.up (by decide)
  have sp := M_spacesA hT m0 (Nat.zero_le L) (up2_y ⟨rfl, rfl⟩)
  rw [up2_two] at sp
  have S0 : SC L t 0 (D_rewind μ) (M_spaces (up2 (M_thr ρ 0) 259 10 0)) := by
    rw [sp]
    exact ⟨cD, hMρ.up (by decide), Nat.zero_le L, rew_4 μ, up2_y ⟨rfl, rfl⟩⟩
  have r5 : D_rewind μ 254 5 = -1 := by unfold D_rewind; exact up2_y ⟨rfl, rfl⟩
  obtain ⟨f1, f2⟩ := ff_at hT 150 0 _ _ S0 (by have := hT.1; omega) r5
  refine ⟨?_, ?_, ?_⟩
  · unfold M_faok
    rw [NN_eq 151]
    exact f2
  · unfold D_findFault M_faultOf
    rw [NN_eq 150, NN_eq 151]
    exact f1
  · have eF : ∀ p, p ≠ 254 → p ≠ 256 → D_findFault μ p = μ p := kF.1
    have hu : ∀ p, p < 92 → U_push (D_findFault μ) 1 p = D_findFault μ p := fun p hp => U_push_ne hp
    have hUh : UND (200 * k) (D_findFault μ) (μ 259 2) (μ 261) := h.2.2.1.of fun p p1 p2 => eF p (by omega) (by omega)
    have hRF : REL (D_findFault μ) 1 (μ 260) := hR.of fun p p1 p2 => eF p (by omega) (by omega)
    have hu2 := (push_UND (μ := D_findFault μ) (ν := μ) hUh hRF hG).2
    have cU : TC L t (D_rewind (U_push (D_findFault μ) 1)) := by
      refine ⟨?_, fun i hi => ?_⟩
      · rw [rew_0, hu2 254 (by omega), kF.2 0 (by decide) (by decide) (by decide)]; exact hC.1
      · rw [rew_p (by decide), hu2 258 (by omega), eF 258 (by decide) (by decide)]; exact hC.2 i hi
    have m1 : TM L t (M_records (M_faultOf (M_thr ρ 0)).1) := by
      refine ⟨?_, fun i hi => ?_⟩
      · rw [M_rec_259 (by decide), fau_259 (by decide) (by decide) (by decide), hρ 259 (by decide)]; exact hM.1
      · rw [M_records_ne (by decide) (by decide), fau_261 (by decide) (by decide), hρ 262 (by decide)]; exact hM.2 i hi
    have sp2 := M_spacesA hT (m1.up (i := 10) (v := 0) (by decide)) (Nat.zero_le L) (up2_y ⟨rfl, rfl⟩)
    rw [up2_two] at sp2
    have S1 : SC L t 0 (D_rewind (U_push (D_findFault μ) 1)) (M_runS ρ) := by
      unfold M_runS
      rw [sp2]
      exact ⟨cU, m1.up (by decide), Nat.zero_le L, rew_4 _, up2_y ⟨rfl, rfl⟩⟩
    have e260 : M_runS ρ 260 = μ 260 := (runS_k (by decide) (by decide) (by decide)).trans (hρ 260 (by decide))
    have hR1 : REL (D_rewind (U_push (D_findFault μ) 1)) 1 (M_runS ρ 260) := by
      rw [e260]
      exact hRF.of fun p p1 p2 => by rw [rew_p (by omega)]; exact hu p (by omega)
    have hG1 : RNG (200 * k + 0) 9999 (M_runS ρ 260) := by
      rw [e260]
      exact hG
    exact run_at hT (N := 200 * k) (by omega) 150 0 0 _ _ rfl (Nat.le_refl 0) S1 hR1 hG1
end
