/-! filled, reason -/

set_option maxHeartbeats 1000000 in
theorem op_filled (l : Launch) (hfl : l.stackTraces = false) (G : GG) (B : Nat) (cL : ClassId) (k : Nat) (μ : Mm) (x : Int64) (p0 : Int32) (_hk : k < 512) (h : INV k μ) : OPC_filled l G B cL (INV (k + 1)) μ x p0 := by
  have hR := h.1
  have hG := h.2.1
  have hI := hG.MI
  have ee : O_faultOfNumber μ (1 + 16) p0 = if M_find μ p0 < 0 then 1 else 0 := fn_e hR hG p0
  by_cases c1 : M_find μ p0 < 0
  · have hM := MX11_filled l G B μ p0 hI
    have e9 : M_filled μ p0 = (M_thr μ 1, 0) := (by rw [M_filled, M_ask, show M_fdErr μ p0 = 1 from if_pos c1]; rfl)
    rw [e9] at hM
    exact ⟨1, 0, μ, M_thr μ 1, x, L_filled_1 l G B cL μ x p0 (by decide) (by decide) (XX10_filled_11_1 l hfl G B μ p0 (ee.trans (if_pos c1))), hM, up2_s _ _ _ _, fun q => absurd q (by decide), h.thr 1⟩
  · have hX := MX10_filled l G B μ p0 (ee.trans (if_neg c1))
    obtain ⟨μ1, hμ1⟩ : ∃ m, m = C_settle μ 1 := ⟨_, rfl⟩
    rw [← hμ1] at hX
    obtain ⟨s1, s2, s3, s4, s5, s6, s7, s8, s9, s10⟩ := set_ask h hμ1
    have hM := MX11_filled l G B μ1 p0 s1
    have e9 : M_filled μ1 p0 = (M_finds (M_thr μ1 0), M_fillOf (M_finds (M_thr μ1 0)) (M_find (M_thr μ1 0) p0)) := (by rw [M_filled, M_ask, show M_fdErr μ1 p0 = 0 from if_neg (by rw [find_260 (s6 260 (by omega))]; exact c1), if_pos rfl])
    rw [e9] at hM
    dsimp only at hM
    obtain ⟨j, hj, ej⟩ := find_at hG c1
    have c20 := hG.c0
    have i1 : O_indexOf μ1 (1 + 16) p0 = nI j := (by rw [rd_find s2 s3, find_260 s4, ej])
    refine ⟨0, _, μ1, _, _, L_filled_ok l G B cL μ x p0 (by decide) (by decide) hX, hM, (by rw [s10 3 (by decide) (by decide) (by decide) (by decide)]; exact up2_s _ _ _ _), fun _ => ?_, s5⟩
    rw [i1, find_260 s4, ej, R_get_nI (by omega) (by decide), s9 j hj]

set_option maxHeartbeats 1000000 in
theorem op_reason (l : Launch) (hfl : l.stackTraces = false) (G : GG) (B : Nat) (cL : ClassId) (k : Nat) (μ : Mm) (x : Int64) (p0 : Int32) (_hk : k < 512) (h : INV k μ) : OPC_reason l G B cL (INV (k + 1)) μ x p0 := by
  have hR := h.1
  have hG := h.2.1
  have hI := hG.MI
  have ee : O_faultOfNumber μ (1 + 16) p0 = if M_find μ p0 < 0 then 1 else 0 := fn_e hR hG p0
  by_cases c1 : M_find μ p0 < 0
  · have hM := MX11_reason l G B μ p0 hI
    have e9 : M_reason μ p0 = (M_thr μ 1, 0) := (by rw [M_reason, M_ask, show M_fdErr μ p0 = 1 from if_pos c1]; rfl)
    rw [e9] at hM
    exact ⟨1, 0, μ, M_thr μ 1, x, L_reason_1 l G B cL μ x p0 (by decide) (by decide) (XX10_reason_11_1 l hfl G B μ p0 (ee.trans (if_pos c1))), hM, up2_s _ _ _ _, fun q => absurd q (by decide), h.thr 1⟩
  · have hX := MX10_reason l G B μ p0 (ee.trans (if_neg c1))
    obtain ⟨μ1, hμ1⟩ : ∃ m, m = C_settle μ 1 := ⟨_, rfl⟩
    rw [← hμ1] at hX
    obtain ⟨s1, s2, s3, s4, s5, s6, s7, s8, s9, s10⟩ := set_ask h hμ1
    have hM := MX11_reason l G B μ1 p0 s1
    have e9 : M_reason μ1 p0 = (M_finds (M_thr μ1 0), M_whyOf (M_finds (M_thr μ1 0)) (M_find μ1 p0)) := (by rw [M_reason, M_ask, show M_fdErr μ1 p0 = 0 from if_neg (by rw [find_260 (s6 260 (by omega))]; exact c1), if_pos rfl])
    rw [e9] at hM
    dsimp only at hM
    obtain ⟨j, hj, ej⟩ := find_at hG c1
    have c20 := hG.c0
    have i1 : O_indexOf μ1 (1 + 16) p0 = nI j := (by rw [rd_find s2 s3, find_260 s4, ej])
    refine ⟨0, _, μ1, _, _, L_reason_ok l G B cL μ x p0 (by decide) (by decide) hX, hM, (by rw [s10 3 (by decide) (by decide) (by decide) (by decide)]; exact up2_s _ _ _ _), fun _ => ?_, s5⟩
    have g2 : RNG (200 * k) 9999 (M_finds (M_thr μ1 0) 260) := (by rw [M_finds_260]; exact s3)
    have r2 : REL μ1 1 (M_finds (M_thr μ1 0) 260) := (by rw [M_finds_260]; exact s2)
    have hj2 : j < cn (M_finds (M_thr μ1 0) 260 1) := (by rw [M_finds_260, s4]; exact hj)
    rw [i1, find_260 (s6 260 (by omega)), ej]
    unfold C_reasonOf M_whyOf
    rw [rd_un r2 g2 hj2, rd_good r2 g2 hj2, R_get_nI (by omega) (by decide), s9 j hj, s7.2.2.1, s7.2.2.2.1]

set_option maxHeartbeats 1000000 in
theorem op_gainWith (l : Launch) (hfl : l.stackTraces = false) (G : GG) (B : Nat) (cL : ClassId) (k : Nat) (μ : Mm) (x : Int64) (p0 : Int32) (p1 : Int32) (_hk : k < 512) (h : INV k μ) : OPC_gainWith l G B cL (INV (k + 1)) μ x p0 p1 := by
  have hR := h.1
  have hG := h.2.1
  have hI := hG.MI
  have e1 : T_faultOfNumber μ (1 + 1) p0 = if M_isTrader μ p0 = 0 then 1 else 0 := by unfold T_faultOfNumber; rw [rd_has hR hG]
  by_cases c1 : M_isTrader μ p0 = 0
  · have hM := MX11_gainWith l G B μ p0 p1 hI
    have e9 : M_gainWith μ p0 p1 = (M_thr μ 1, 0) := (by rw [M_gainWith, M_ask, show M_gwErr μ p0 p1 = 1 from if_pos c1]; rfl)
    rw [e9] at hM
    exact ⟨1, 0, μ, M_thr μ 1, x, L_gainWith_1 l G B cL μ x p0 p1 (by decide) (by decide) (XX10_gainWith_11_1 l hfl G B μ p0 p1 (e1.trans (if_pos c1))), hM, up2_s _ _ _ _, fun q => absurd q (by decide), h.thr 1⟩
  · by_cases c2 : wI p1 1 120 = 0
    · have hM := MX11_gainWith l G B μ p0 p1 hI
      have e9 : M_gainWith μ p0 p1 = (M_thr μ 2, 0) := (by rw [M_gainWith, M_ask, show M_gwErr μ p0 p1 = 2 from (if_neg c1).trans (if_pos c2)]; rfl)
      rw [e9] at hM
      exact ⟨2, 0, μ, M_thr μ 2, x, L_gainWith_2 l G B cL μ x p0 p1 (by decide) (by decide) (XX10_gainWith_18_2 l hfl G B μ p0 p1 (e1.trans (if_neg c1)) (if_pos c2)), hM, up2_s _ _ _ _, fun q => absurd q (by decide), h.thr 2⟩
    · have hX := MX10_gainWith l G B μ p0 p1 (e1.trans (if_neg c1)) (if_neg c2)
      obtain ⟨t, ht, rfl⟩ := rd_tr hG c1
      have c20 := hG.c0
      obtain ⟨n, hn, en⟩ := vp_nI hG.1.2.1 (by decide)
      have hn1 : μ (1 + 16) 0 = nI n := (rd_n1 hR).trans en
      have hcn : cn (μ 260 1) = n := by rw [en, cn_nI (by omega)]
      by_cases c3 : n = 20
      · have hfull : ¬ O_full μ (1 + 16) = 0 := (by unfold O_full; rw [hn1, c3, if_neg (by decide)]; decide)
        have v1 : X_gainWith μ (nI t) p1 = -10000 := if_neg hfull
        have v2 : X_gainWithM μ (nI t) p1 = μ := if_neg hfull
        rw [v1, v2] at hX
        have hM := MX11_gainWith l G B μ (nI t) p1 hI
        have e9 : M_gainWith μ (nI t) p1 = (M_thr μ 0, -10000) := (by rw [M_gainWith, M_ask, show M_gwErr μ (nI t) p1 = 0 from (if_neg c1).trans (if_neg c2), if_pos rfl, thr_260, en, c3]; rfl)
        rw [e9] at hM
        exact ⟨0, -10000, μ, M_thr μ 0, _, L_gainWith_ok l G B cL μ x (nI t) p1 (by decide) (by decide) hX, hM, up2_s _ _ _ _, fun _ => rfl, h.thr 0⟩
      · have hfull : O_full μ (1 + 16) = 0 := (by unfold O_full; rw [hn1, if_pos (show nI n < 20 from nI_lt (b := 20) (by omega) (by decide))])
        have v1 : X_gainWith μ (nI t) p1 = C_gainOf (X_withM μ (nI t) p1) 41 (nI t) (X_withM μ (nI t) p1 81 2) := if_pos hfull
        have v2 : X_gainWithM μ (nI t) p1 = X_withM μ (nI t) p1 := if_pos hfull
        rw [v1, v2] at hX
        have hab : 41 + 40 ≤ 1 ∨ 1 + 40 ≤ 41 := Or.inr (by decide)
        have rc : REL (A_copy μ 41 1) 41 (μ 260) := A_copy_REL hab hR c20.1 c20.2.1 c20.2.2
        obtain ⟨μ1, hμ1⟩ : ∃ m, m = X_withM μ (nI t) p1 := ⟨_, rfl⟩
        rw [← hμ1] at hX
        have hp1 := wI1 (n := 120) c2
        have hw0 := wr_place (ν := μ) (t := t) (pr := p1) (u := 1) rc hG (by omega) (by decide) (by rw [hcn]; omega) ht hp1 ⟨vpd rfl, by decide⟩
        have hm1 : μ1 = C_settle (A_placeM (A_copy μ 41 1) 41 (nI t) p1 1) 41 := hμ1
        have n1 : ∀ p, p < 41 ∨ 91 < p → μ1 p = μ p := fun p hp => (by
          rw [hm1, (settle_at hw0.1 hw0.2 (by decide)).1 p (by omega)]
          have q : A_placeM (A_copy μ 41 1) 41 (nI t) p1 1 p = A_copy μ 41 1 p := (by
            rcases hp with hp | hp
            · exact place_lo (ν := μ) rc hG (by omega) (by rw [hcn]; omega) hp
            · exact place_ne (ν := μ) rc hG (by omega) (by rw [hcn]; omega) (by omega))
          rw [q, A_copy_out hab (by omega)])
        have e0 : M_thr μ1 0 260 = μ 260 := (by rw [thr_260, n1 260 (by omega)])
        obtain ⟨ρ, hρ⟩ : ∃ m, m = M_thr μ1 0 := ⟨_, rfl⟩
        rw [← hρ] at e0
        have hM := MX11_gainWith l G B μ1 (nI t) p1 (MI_of hI (n1 260 (by omega)))
        have e9 : M_gainWith μ1 (nI t) p1 = (M_gainM ρ (nI t) p1, M_gainsOf (M_finds (M_placesM ρ (nI t) p1 1)) (nI t)) := (by rw [M_gainWith, M_ask, show M_gwErr μ1 (nI t) p1 = 0 from (if_neg (by rw [isT_260 (n1 260 (by omega))]; exact c1)).trans (if_neg c2), if_pos rfl, ← hρ, e0, en, if_neg (show ¬ nI n = 20 from fun z => c3 ((nI_inj (b := 20) (by omega) (by decide)).mp z))]; rfl)
        rw [e9] at hM
        dsimp only at hM
        have rc2 : REL (A_copy μ 41 1) 41 (ρ 260) := (by rw [e0]; exact rc)
        have hG2 : RNG (200 * k) 9999 (ρ 260) := (by rw [e0]; exact hG)
        have hw := wr_place (ν := ρ) (t := t) (pr := p1) (u := 1) rc2 hG2 (by omega) (by decide) (by rw [e0, hcn]; omega) (by rw [e0]; exact ht) hp1 ⟨vpd rfl, by decide⟩
        obtain ⟨b1, b2, b3, b4, b5, b6, b7, -⟩ := settle_at hw.1 hw.2 (by decide)
        rw [← hm1] at b1 b2 b3 b4 b5 b6 b7
        obtain ⟨w1, w2, w3, w4⟩ := gainM_row (p := p1) hG2 (by omega) (by rw [e0, hcn]; omega) (by rw [e0]; exact ht)
        have hlv : ∀ i, LV (ρ 260) i → M_gainM ρ (nI t) p1 260 i = ρ 260 i := fun i hi => w1 i (by unfold LV at hi; rw [e0] at hi ⊢; omega)
        have tr : cn (M_placesM ρ (nI t) p1 1 260 0) = cn (μ 260 0) := (by
          obtain ⟨pl, hpl, e5⟩ := hG.2.2.2.2.1
          rw [places_row ρ (t := t) (n := n) (p := pl) p1 1 (by omega) (by rw [e0]; exact en) (by rw [e0]; exact e5), if_neg (by omega), if_neg (by omega), if_neg (by omega), if_neg (by omega), if_neg (by omega), if_neg (by omega), if_neg (by omega), e0])
        have rs : REL μ1 41 (M_placesM ρ (nI t) p1 1 260) := (by
          rw [hm1]
          exact hw.1.of fun p q1 q2 => (settle_at hw.1 hw.2 (by decide)).1 p (by omega))
        refine ⟨0, _, μ1, _, _, L_gainWith_ok l G B cL μ x (nI t) p1 (by decide) (by decide) hX, hM, ?_, fun _ => ?_, ?_⟩
        · rw [w4 3 (by decide) (by decide) (by decide) (by decide), hρ]; exact up2_s _ _ _ _
        · rw [gainC rs hw.2 (by rw [tr]; exact ht) b7, gainM hw.2 (by rw [tr]; exact ht), b4, (finds_at hw.2).2.2.2.1]
        · exact gain_inv h n1 hρ e0 hlv (fun j hj => by
            by_cases cj : j = n
            · rw [cj, ← hcn, ← e0, w2]; exact vp_in_nI (by omega) (by decide)
            · rw [w1 _ (by rw [e0, hcn]; omega), e0]; exact hG.1.2.2.2 j hj) w3 w4

