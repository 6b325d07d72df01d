set_option maxHeartbeats 1000000 in
theorem op_runCommands (l : Launch) (hfl : l.stackTraces = false) (G : GG) (B : Nat) (k : Nat) (μ : Mm) (_hk : k < 512) (h : INV k μ) : OPC_runCommands l G B (INV (k + 1)) μ := by
  have hR := h.1
  have hG := h.2.1
  have hX := MX10_runCommands l G B μ (by rw [rd_n1 hR]; obtain ⟨n, hn, en⟩ := vp_nI hG.1.2.1 (by decide); rw [en]; exact nI_pos (by omega))
  obtain ⟨F, hF⟩ : ∃ m, m = D_findFault μ := ⟨_, rfl⟩
  have kF : KP μ F := by rw [hF]; exact KP_findFault μ
  obtain ⟨L, hL, d1, d2, d3⟩ := h.2.2.2
  have hl9 : vp_in (μ 259 9) 151 := by rw [d2]; exact vp_in_nI (by omega) (by decide)
  by_cases c : F 254 5 < 0
  · obtain ⟨P, hP⟩ : ∃ m, m = D_rewind (U_push F 1) := ⟨_, rfl⟩
    have eX : X_run μ = X_cmds 150 P (nI 0) := by
      unfold X_run
      rw [← hF, if_pos c, NN_eq 150, ← hP]
      exact congrArg (X_cmds 150 P) (show (0 : Int32) = nI 0 from rfl)
    have K0 := (run_key _hk h μ (fun _ _ => rfl)).2.2.1
    rw [← hF, ← hP] at K0
    have hUF : UND (200 * k) F (μ 259 2) (μ 261) := h.2.2.1.of fun p p1 p2 => kF.1 p (by omega) (by omega)
    have hRF : REL F 1 (μ 260) := hR.of fun p p1 p2 => kF.1 p (by omega) (by omega)
    have hu2 := (push_UND (μ := F) (ν := μ) hUF hRF hG).2
    have hPp : ∀ p, 258 ≤ p → P p = μ p := fun p hp => by rw [hP, rew_p (by omega), hu2 p (by omega)]; exact kF.1 p (by omega) (by omega)
    have hP0 : P 254 0 = μ 254 0 := by rw [hP, rew_0, hu2 254 (by omega)]; exact kF.2 0 (by decide) (by decide) (by decide)
    obtain ⟨μ1, hμ1⟩ : ∃ m, m = (X_run μ).1 := ⟨_, rfl⟩
    have hp1 : ∀ p, 258 ≤ p → μ1 p = μ p := fun p hp => by
      rw [hμ1, eX, K0.2.2.2.1 p (by omega) (by omega) (by omega)]
      exact hPp p hp
    obtain ⟨K1, K2, K3, K4⟩ := run_key _hk h μ1 hp1
    rw [← hF] at K2
    rw [← hF, ← hP, ← eX] at K3
    have hM := MX11_runCommands l G B μ1 (MI_of hG.MI (hp1 260 (by decide))) (by rw [hp1 259 (by decide)]; exact h.st) (by rw [hp1 259 (by decide)]; exact hl9) K1 (fun _ z => by rw [NN_eq 151]; exact K4 z)
    have eM : M_run μ1 = RY 151 (M_runS μ1) (nI 0) := by
      unfold M_run
      rw [if_pos (by rw [← K2]; exact c), NN_eq 151]
      exact congrArg (RY 151 (M_runS μ1)) (show (0 : Int32) = nI 0 from rfl)
    rw [← eM] at K3
    obtain ⟨x1, x2, x3, x4, x5, x6, x7, x8⟩ := K3
    rw [← hμ1] at x2 x4 x5
    obtain ⟨ν, hν⟩ : ∃ m, m = (M_run μ1).1 := ⟨_, rfl⟩
    rw [← hν] at x2 x3 x6 x7 x8
    refine ⟨(X_run μ).2, μ1, ν, ?_, ?_, ?_⟩
    · rw [hμ1]; exact hX
    · rw [x1, hν]; exact hM
    · have e261 : M_runS μ1 261 = M_records (M_faultOf (M_thr μ1 0)).1 261 := by
        unfold M_runS
        rw [spaces_k (by decide), up2_k _ _ (by decide)]
      have e2592 : M_runS μ1 259 2 = M_records (M_faultOf (M_thr μ1 0)).1 259 2 := by
        unfold M_runS
        rw [spaces_ne (by decide), up2_n (by decide)]
      obtain ⟨κf, hκf⟩ : ∃ m, m = (M_faultOf (M_thr μ1 0)).1 := ⟨_, rfl⟩
      have f2 : κf 259 2 = μ 259 2 := by rw [hκf, fau_259 (by decide) (by decide) (by decide), hp1 259 (by decide)]
      have f260 : κf 260 = μ 260 := by rw [hκf, fau_261 (by decide) (by decide), hp1 260 (by decide)]
      have f261 : κf 261 = μ 261 := by rw [hκf, fau_261 (by decide) (by decide), hp1 261 (by decide)]
      rw [← hκf] at e261 e2592
      have hu := (push_UND (μ := F) (ν := κf) (N := 200 * k) (by rw [f2, f261]; exact hUF) (by rw [f260]; exact hRF) (by rw [f260]; exact hG)).1
      have q1 : ∀ p, p ≠ 259 → p ≠ 260 → p ≠ 261 → p ≠ 263 → p ≠ 264 → ν p = μ1 p := fun p p1 p2 p3 p4 p5 => by
        rw [x6 p p1 p2 p4 p5]
        exact runS_k p1 p3 p4
      refine ⟨?_, x3.mono (by omega) (Nat.le_refl _), ?_, L, hL, ?_, ?_, fun i hi => ?_⟩
      · exact x2.of fun p p1 p2 => q1 p (by omega) (by omega) (by omega) (by omega) (by omega)
      · rw [x7, e2592, x6 261 (by decide) (by decide) (by decide) (by decide), e261]
        refine (hu.of fun p p1 p2 => ?_).mono (by omega)
        rw [q1 p (by omega) (by omega) (by omega) (by omega) (by omega), x4 p p1 (by omega) (by omega), hP, rew_p (by omega)]
      · rw [q1 254 (by decide) (by decide) (by decide) (by decide) (by decide), x5, hP0]; exact d1
      · rw [x8, runS_9, hp1 259 (by decide)]; exact d2
      · rw [q1 258 (by decide) (by decide) (by decide) (by decide) (by decide), hp1 258 (by decide), x6 262 (by decide) (by decide) (by decide) (by decide), runS_k (by decide) (by decide) (by decide), hp1 262 (by decide)]
        exact d3 i hi
  · have eX : X_run μ = (F, -10 - F 254 5) := by
      unfold X_run
      rw [← hF, if_neg c]
    have hp1 : ∀ p, 258 ≤ p → F p = μ p := fun p hp => kF.1 p (by omega) (by omega)
    obtain ⟨K1, K2, -, -⟩ := run_key _hk h F hp1
    rw [← hF] at K2
    have cM : ¬ (M_faultOf (M_thr F 0)).2 < 0 := by rw [← K2]; exact c
    have hM := MX11_runCommands l G B F (MI_of hG.MI (hp1 260 (by decide))) (by rw [hp1 259 (by decide)]; exact h.st) (by rw [hp1 259 (by decide)]; exact hl9) K1 (fun z => absurd z cM)
    have eM : M_run F = ((M_faultOf (M_thr F 0)).1, -10 - F 254 5) := by
      unfold M_run
      rw [if_neg cM, ← K2]
    rw [eX] at hX
    rw [eM] at hM
    dsimp only at hX hM
    refine ⟨-10 - F 254 5, F, (M_faultOf (M_thr F 0)).1, hX, hM, ?_⟩
    obtain ⟨κf, hκf⟩ : ∃ m, m = (M_faultOf (M_thr F 0)).1 := ⟨_, rfl⟩
    rw [← hκf]
    have q1 : ∀ p, p ≠ 259 → p ≠ 263 → κf p = F p := fun p p1 p2 => by rw [hκf]; exact fau_261 p1 p2
    have q2 : ∀ i, i ≠ 3 → i ≠ 10 → i ≠ 11 → κf 259 i = μ 259 i := fun i i1 i2 i3 => by rw [hκf, fau_259 i1 i2 i3, hp1 259 (by decide)]
    obtain ⟨a, b, cc, -⟩ := INV.mono k μ h
    refine ⟨?_, ?_, ?_, L, hL, ?_, ?_, fun i hi => ?_⟩
    · rw [q1 260 (by decide) (by decide), hp1 260 (by decide)]
      exact a.of fun p p1 p2 => by rw [q1 p (by omega) (by omega)]; exact kF.1 p (by omega) (by omega)
    · rw [q1 260 (by decide) (by decide), hp1 260 (by decide)]; exact b
    · rw [q1 261 (by decide) (by decide), hp1 261 (by decide), q2 2 (by decide) (by decide) (by decide)]
      exact cc.of fun p p1 p2 => by rw [q1 p (by omega) (by omega)]; exact kF.1 p (by omega) (by omega)
    · rw [q1 254 (by decide) (by decide), kF.2 0 (by decide) (by decide) (by decide)]; exact d1
    · rw [q2 9 (by decide) (by decide) (by decide)]; exact d2
    · rw [q1 258 (by decide) (by decide), hp1 258 (by decide), q1 262 (by decide) (by decide), hp1 262 (by decide)]
      exact d3 i hi

