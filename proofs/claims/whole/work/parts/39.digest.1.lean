/-! now, digest -/

set_option maxHeartbeats 1000000 in
theorem op_now (l : Launch) (hfl : l.stackTraces = false) (G : GG) (B : Nat) (cL : ClassId) (k : Nat) (μ : Mm) (x : Int64) (p0 : Int32) (_hk : k < 512) (h : INV k μ) : OPC_now l G B cL (INV (k + 1)) μ x p0 := by
  have hR := h.1
  have hG := h.2.1
  have hI := hG.MI
  have e2 := what_e p0 7 6 rfl
  have a1 := (settle_at hR hG (by decide)).1
  by_cases c1 : wI p0 0 6 = 0
  · have hn := now_at (μ := μ) (ν := M_thr μ 0) (κ := C_settle μ 1) (w := 0) hR.thr hG.thr (fun p _ _ => rfl) (vpd rfl)
    have hM := MX11_now l G B μ p0 hI hn.2.2
    have e9 : M_now μ p0 = (M_thr μ 1, 0) := (by rw [M_now, M_ask, show (if wI p0 0 6 = 0 then (1 : Int32) else 0) = 1 from if_pos c1]; rfl)
    rw [e9] at hM
    exact ⟨1, 0, μ, M_thr μ 1, x, L_now_1 l G B cL μ x p0 (by decide) (by decide) (XX10_now_6_2 l hfl G B μ p0 (e2.trans (if_pos c1))), hM, up2_s _ _ _ _, fun q => absurd q (by decide), h.thr 1⟩
  · have hw := wI_vp (n := 6) c1
    have hX := MX10_now l G B μ p0 (e2.trans (if_neg c1))
    obtain ⟨μ1, hμ1⟩ : ∃ m, m = C_valueM (C_settle μ 1) 1 p0 := ⟨_, rfl⟩
    have n1 : ∀ p, p ≠ 89 → p ≠ 91 → μ1 p = C_settle μ 1 p := (by rw [hμ1]; exact (now_at (μ := μ) (ν := M_thr μ 0) (κ := C_settle μ 1) hR.thr hG.thr (fun p _ _ => rfl) hw).2.1)
    have e0 : M_thr μ1 0 260 = μ 260 := (by rw [thr_260, n1 260 (by decide) (by decide), a1 260 (by omega)])
    obtain ⟨ρ, hρ⟩ : ∃ m, m = M_thr μ1 0 := ⟨_, rfl⟩
    have hN := now_at (μ := μ) (ν := ρ) (κ := C_settle μ 1) (by rw [hρ, e0]; exact hR) (by rw [hρ, e0]; exact hG) (fun p _ _ => rfl) hw
    rw [← hμ1, hN.1] at hX
    have hM := MX11_now l G B μ1 p0 (MI_of hI (by rw [n1 260 (by decide) (by decide), a1 260 (by omega)])) (hρ ▸ hN.2.2)
    have e9 : M_now μ1 p0 = (M_finds ρ, M_nowVal (M_finds ρ) p0) := (by rw [M_now, M_ask, if_neg c1, if_pos rfl, ← hρ]; rfl)
    rw [e9] at hM
    dsimp only at hM
    obtain ⟨-, -, -, -, fo⟩ := finds_at (ν := ρ) (N := 200 * k) (R := 9999) (by rw [hρ, e0]; exact hG)
    have tp : ∀ p, p ≠ 259 → p ≠ 89 → p ≠ 91 → (p < 81 ∨ 91 < p) → M_finds ρ p = μ p := fun p p0 p1 p2 p3 => (by
      unfold M_finds
      rw [up2_k _ _ p0, FI_ne p0, hρ, show M_thr μ1 0 p = μ1 p from up2_k _ _ p0, n1 p p1 p2, a1 p p3])
    have t9 : ∀ i, i ≠ 3 → i ≠ 4 → i ≠ 5 → i ≠ 6 → i ≠ 7 → M_finds ρ 259 i = μ 259 i := fun i i3 i4 i5 i6 i7 => (by
      rw [fo i i4 i5 i6 i7, hρ, show M_thr μ1 0 259 i = μ1 259 i from up2_n (fun z => i3 z.2), n1 259 (by decide) (by decide), a1 259 (by omega)])
    refine ⟨0, _, μ1, _, _, L_now_ok l G B cL μ x p0 (by decide) (by decide) hX, hM, ?_, fun _ => rfl, ?_⟩
    · rw [fo 3 (by decide) (by decide) (by decide) (by decide), hρ]; exact up2_s _ _ _ _
    · exact (INV.mono k μ h).of (fun p hp => tp p (by omega) (by omega) (by omega) (by omega)) (t9 2 (by decide) (by decide) (by decide) (by decide) (by decide)) (t9 9 (by decide) (by decide) (by decide) (by decide) (by decide))

set_option maxHeartbeats 1000000 in
theorem op_digest (l : Launch) (hfl : l.stackTraces = false) (G : GG) (B : Nat) (k : Nat) (μ : Mm) (_hk : k < 512) (h : INV k μ) : OPC_digest l G B (INV (k + 1)) μ := by
  have hR := h.1
  have hG := h.2.1
  have hI := hG.MI
  have c20 := hG.c0
  have a1 := (settle_at hR hG (by decide)).1
  have a83 := (settle_at hR hG (by decide)).2.2.2.2.2.2.1
  have hX := MX10_digest l G B μ
  obtain ⟨μ1, hμ1⟩ : ∃ m, m = X_digestM μ := ⟨_, rfl⟩
  have n0 : ∀ j, j ≤ 7 → ∀ p, p ≠ 89 → p ≠ 91 → (X_dg2 μ j).1 p = C_settle μ 1 p := fun j => (by
    induction j with
    | zero => exact fun _ p _ _ => rfl
    | succ j ih =>
      intro hj
      have e260 : M_thr μ 0 260 = μ 260 := thr_260 μ 0
      exact (now_at (μ := μ) (ν := M_thr μ 0) (κ := (X_dg2 μ j).1) (w := nI j) hR.thr hG.thr (ih (by omega)) (vp_in_nI (by omega) (by decide))).2.1)
  have n1 : ∀ p, p ≠ 89 → p ≠ 91 → μ1 p = C_settle μ 1 p := (by
    rw [hμ1]
    unfold X_digestM
    rw [NN_eq 7]
    exact n0 7 (Nat.le_refl _))
  have hm : ∀ p, p < 81 ∨ 91 < p → μ1 p = μ p := fun p hp => (by rw [n1 p (by omega) (by omega), a1 p hp])
  have e0 : M_thr μ1 0 260 = μ 260 := (by rw [thr_260, hm 260 (by omega)])
  have hd : X_dg1 μ (NN 12) = M_dg1 μ1 (NN 12) := (by
    unfold X_dg1 M_dg1
    rw [NN_eq 12]
    refine itr_congr ?_ fun w s hw => ?_
    · show X_mix 43616 (μ 92 0).toInt64 = X_mix 43616 (M_thr μ1 0 259 2).toInt64
      rw [INV_und h, show M_thr μ1 0 259 2 = μ1 259 2 from up2_n (by decide), hm 259 (by omega)]
    · show X_mix s (X_whole μ (nI w)).toInt64 = X_mix s (M_tellsWhole (M_thr μ1 0) (nI w)).toInt64
      rw [rd_whole (ν := M_thr μ1 0) (by rw [e0]; exact hR) (by rw [show M_thr μ1 0 259 9 = μ1 259 9 from up2_n (by decide), hm 259 (by omega)]; exact h.len) (vp_in_nI hw (by decide))])
  have D := fun j hj => dg2_at h n1 hd j hj
  have hM := MX11_digest l G B μ1 (MI_of hI (hm 260 (by omega))) (fun w hw => (D w (by omega)).2.2.2.2)
  obtain ⟨d1, d2, d3, d4, -⟩ := D 7 (Nat.le_refl _)
  obtain ⟨ρ, hρ⟩ : ∃ m, m = M_dgM μ1 := ⟨_, rfl⟩
  have eρ : ρ = (M_dg2 μ1 7).1 := (by rw [hρ]; unfold M_dgM; rw [NN_eq 7])
  rw [← eρ] at d2 d3
  have r0 : ρ 260 = μ 260 := (by rw [d2 260 (by decide), hm 260 (by omega)])
  have rR : REL μ1 1 (ρ 260) := (by rw [r0]; exact hR.of fun p p1 p2 => hm p (by omega))
  have rG : RNG (200 * k) 9999 (ρ 260) := (by rw [r0]; exact hG)
  have hfill : ∀ i, i < cn (μ 260 1) → M_fillOf ρ (nI i) = R_get μ1 82 20 (nI i) := fun i hi => (by
    obtain ⟨d1', d2', -, -, -⟩ := D 6 (by decide)
    have q0 : (M_dg2 μ1 6).1 260 = μ 260 := (by rw [d2' 260 (by decide), hm 260 (by omega)])
    rw [eρ]
    show M_fillOf (M_finds (M_dg2 μ1 6).1) (nI i) = _
    rw [fill_at (N := 200 * k) (R := 9999) (by rw [q0]; exact hG) (by rw [q0]; exact hi), q0, R_get_nI (by omega) (by decide), n1 83 (by decide) (by decide), a83 i hi])
  have hval : X_digest μ = M_digest μ1 := dig_val hμ1 hρ rR rG (fun i hi => hfill i (by rw [← r0]; exact hi)) (by rw [NN_eq 7]; exact d4)
  rw [← hμ1, hval] at hX
  rw [← hρ] at hM
  refine ⟨_, μ1, ρ, hX, hM, ?_⟩
  exact (INV.mono k μ h).of (fun p hp => by rw [d2 p (by omega), hm p (by omega)]) (by rw [d3 2 (by decide) (by decide) (by decide) (by decide), show M_thr μ1 0 259 2 = μ1 259 2 from up2_n (by decide), hm 259 (by omega)]) (by rw [d3 9 (by decide) (by decide) (by decide) (by decide), show M_thr μ1 0 259 9 = μ1 259 9 from up2_n (by decide), hm 259 (by omega)])

