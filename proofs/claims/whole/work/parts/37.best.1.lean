/-! bestShade, bestSplit -/

set_option maxHeartbeats 1000000 in
theorem op_bestShade (l : Launch) (hfl : l.stackTraces = false) (G : GG) (B : Nat) (cL : ClassId) (k : Nat) (μ : Mm) (x : Int64) (p0 : Int32) (_hk : k < 512) (h : INV k μ) : OPC_bestShade l G B cL (INV (k + 1)) μ x p0 := by
  have hR := h.1
  have hG := h.2.1
  have hI := hG.MI
  have e1 : T_faultOfNumber μ (1 + 1) p0 = if M_isTrader μ p0 = 0 then 1 else 0 := by unfold T_faultOfNumber; rw [rd_has hR hG]
  by_cases c1 : M_isTrader μ p0 = 0
  · have hM := MX11_bestShade l G B μ p0 hI
    have e9 : M_bestShade μ p0 = (M_thr μ 1, 0) := (by rw [M_bestShade, M_ask, show M_isErr μ p0 = 1 from if_pos c1]; rfl)
    rw [e9] at hM
    exact ⟨1, 0, μ, M_thr μ 1, x, L_bestShade_1 l G B cL μ x p0 (by decide) (by decide) (XX10_bestShade_11_1 l hfl G B μ p0 (e1.trans (if_pos c1))), hM, up2_s _ _ _ _, fun q => absurd q (by decide), h.thr 1⟩
  · have hX := MX10_bestShade l G B μ p0 (e1.trans (if_neg c1))
    obtain ⟨t, ht, rfl⟩ := rd_tr hG c1
    have c20 := hG.c0
    obtain ⟨n, hn, en⟩ := vp_nI hG.1.2.1 (by decide)
    have hn1 : μ (1 + 16) 0 = nI n := (rd_n1 hR).trans en
    have hcn : cn (μ 260 1) = n := by rw [en, cn_nI (by omega)]
    by_cases c3 : n = 20
    · have hfull : ¬ O_full μ (1 + 16) = 0 := (by unfold O_full; rw [hn1, c3, if_neg (by decide)]; decide)
      have v1 : X_bestShade μ (nI t) = -10000 := if_neg hfull
      have v2 : X_bestShadeM μ (nI t) = μ := if_neg hfull
      rw [v1, v2] at hX
      have hM := MX11_bestShade l G B μ (nI t) hI
      have e9 : M_bestShade μ (nI t) = (M_thr μ 0, -10000) := (by rw [M_bestShade, M_ask, show M_isErr μ (nI t) = 0 from if_neg c1, if_pos rfl, thr_260, en, c3]; rfl)
      rw [e9] at hM
      exact ⟨0, -10000, μ, M_thr μ 0, _, L_bestShade_ok l G B cL μ x (nI t) (by decide) (by decide) hX, hM, up2_s _ _ _ _, fun _ => rfl, h.thr 0⟩
    · have hfull : O_full μ (1 + 16) = 0 := (by unfold O_full; rw [hn1, if_pos (show nI n < 20 from nI_lt (b := 20) (by omega) (by decide))])
      have v1 : X_bestShade μ (nI t) = X_bestLast (A_placeM (A_copy μ 41 1) 41 (nI t) 1 1) (nI t) := if_pos hfull
      have v2 : X_bestShadeM μ (nI t) = X_bestLastM (A_placeM (A_copy μ 41 1) 41 (nI t) 1 1) (nI t) := if_pos hfull
      rw [v1, v2] at hX
      unfold X_bestLast X_bestLastM at hX
      rw [NN_eq 51] at hX
      have hab : 41 + 40 ≤ 1 ∨ 1 + 40 ≤ 41 := Or.inr (by decide)
      have rc : REL (A_copy μ 41 1) 41 (μ 260) := A_copy_REL hab hR c20.1 c20.2.1 c20.2.2
      have hw0 := wr_place (ν := μ) (t := t) (pr := 1) (u := 1) rc hG (by omega) (by decide) (by rw [hcn]; omega) ht ⟨vpd rfl, by decide⟩ ⟨vpd rfl, by decide⟩
      have hB0 := BS_at (ρ := μ) (t := t) hG (by omega) (by decide) (by rw [hcn]; omega) ht μ hR 1 ⟨vpd rfl, by decide⟩ hw0.1 51 (Nat.le_refl _)
      obtain ⟨μ1, hμ1⟩ : ∃ m, m = (BS_run (A_placeM (A_copy μ 41 1) 41 (nI t) 1 1) (nI t) 51).1 := ⟨_, rfl⟩
      have hv := hB0.2.2 50 rfl
      rw [← hμ1] at hX
      rw [hv] at hX
      have n1 : ∀ p, p < 41 ∨ 91 < p → μ1 p = μ p := fun p hp => (by
        rw [hμ1, hB0.2.1 p hp]
        have q : A_placeM (A_copy μ 41 1) 41 (nI t) 1 1 p = A_copy μ 41 1 p := (by
          rcases hp with hp | hp
          · exact place_lo (ν := μ) rc hG (by omega) (by rw [hcn]; omega) hp
          · exact place_ne (ν := μ) rc hG (by omega) (by rw [hcn]; omega) (by omega))
        rw [q, A_copy_out hab (by omega)])
      have e0 : M_thr μ1 0 260 = μ 260 := (by rw [thr_260, n1 260 (by omega)])
      obtain ⟨ρ, hρ⟩ : ∃ m, m = M_thr μ1 0 := ⟨_, rfl⟩
      rw [← hρ] at e0
      have hM := MX11_bestShade l G B μ1 (nI t) (MI_of hI (n1 260 (by omega)))
      have e9 : M_bestShade μ1 (nI t) = ((MS_run ρ (nI t) (NN 50)).1, (MS_run ρ (nI t) (NN 50)).2.1) := (by rw [M_bestShade, M_ask, show M_isErr μ1 (nI t) = 0 from if_neg (by rw [isT_260 (n1 260 (by omega))]; exact c1), if_pos rfl, ← hρ, e0, en, if_neg (show ¬ nI n = 20 from fun z => c3 ((nI_inj (b := 20) (by omega) (by decide)).mp z))])
      rw [e9, NN_eq 50] at hM
      dsimp only at hM
      have hG2 : RNG (200 * k) 9999 (ρ 260) := (by rw [e0]; exact hG)
      obtain ⟨w1, w2⟩ := MS_at (ρ := ρ) (t := t) hG2 (by omega) (by decide) (by rw [e0, hcn]; omega) (by rw [e0]; exact ht) μ (by rw [e0]; exact hR) 50 (Nat.le_refl _)
      have hgg : (fun k => gW μ t (M_bidBy μ (nI t) (nI k))) = fun k => gW ρ t (M_bidBy ρ (nI t) (nI k)) := (by
        funext j
        have eb : M_bidBy ρ (nI t) (nI j) = M_bidBy μ (nI t) (nI j) := bidBy_row (by omega) (by rw [e0]) (by rw [e0])
        have ep : ∀ b, M_placesM μ (nI t) b 1 260 = M_placesM ρ (nI t) b 1 260 := fun b => places_260 hG2 (by omega) (by rw [e0, hcn]; omega) e0.symm
        rw [eb]
        unfold gW
        rw [ep])
      rw [hgg] at hX
      have hlv : ∀ i, LV (ρ 260) i → (MS_run ρ (nI t) 50).1 260 i = ρ 260 i := fun i hi => w1.1 i (by unfold LV at hi; rw [e0] at hi ⊢; omega)
      refine ⟨0, _, μ1, _, _, L_bestShade_ok l G B cL μ x (nI t) (by decide) (by decide) hX, hM, ?_, fun _ => ?_, ?_⟩
      · rw [w1.2.2.2 3 (by decide) (by decide) (by decide) (by decide), hρ]; exact up2_s _ _ _ _
      · rw [w2]
      · exact gain_inv h n1 hρ e0 hlv (fun j hj => by
          by_cases cj : j = n
          · have := w1.2.1
            rw [e0, hcn] at this
            rw [cj]; exact this
          · rw [w1.1 _ (by rw [e0, hcn]; omega), e0]; exact hG.1.2.2.2 j hj) w1.2.2.1 w1.2.2.2

set_option maxHeartbeats 1000000 in
theorem op_bestSplit (l : Launch) (hfl : l.stackTraces = false) (G : GG) (B : Nat) (cL : ClassId) (k : Nat) (μ : Mm) (x : Int64) (p0 : Int32) (_hk : k < 512) (h : INV k μ) : OPC_bestSplit l G B cL (INV (k + 1)) μ x p0 := by
  have hR := h.1
  have hG := h.2.1
  have hI := hG.MI
  have e1 : T_faultOfNumber μ (1 + 1) p0 = if M_isTrader μ p0 = 0 then 1 else 0 := by unfold T_faultOfNumber; rw [rd_has hR hG]
  by_cases c1 : M_isTrader μ p0 = 0
  · have hM := MX11_bestSplit l G B μ p0 hI
    have e9 : M_bestSplit μ p0 = (M_thr μ 1, 0) := (by rw [M_bestSplit, M_ask, show M_isErr μ p0 = 1 from if_pos c1]; rfl)
    rw [e9] at hM
    exact ⟨1, 0, μ, M_thr μ 1, x, L_bestSplit_1 l G B cL μ x p0 (by decide) (by decide) (XX10_bestSplit_11_1 l hfl G B μ p0 (e1.trans (if_pos c1))), hM, up2_s _ _ _ _, fun q => absurd q (by decide), h.thr 1⟩
  · have hX := MX10_bestSplit l G B μ p0 (e1.trans (if_neg c1))
    obtain ⟨t, ht, rfl⟩ := rd_tr hG c1
    obtain ⟨μ1, hμ1⟩ : ∃ m, m = C_settle μ 1 := ⟨_, rfl⟩
    unfold X_bestSplit at hX
    rw [← hμ1, NN_eq 10] at hX
    obtain ⟨s1, s2, s3, s4, s5, s6, s7, s8, s9, s10⟩ := set_ask h hμ1
    have hM := MX11_bestSplit l G B μ1 (nI t) s1
    obtain ⟨ρ, hρ⟩ : ∃ m, m = M_thr μ1 0 := ⟨_, rfl⟩
    rw [← hρ] at s2 s3 s4 s7
    have e9 : M_bestSplit μ1 (nI t) = (up2 (MP_run ρ (nI t) (NN 11)).1 260 3 (ρ 260 3), (MP_run ρ (nI t) (NN 11)).2.1) := (by rw [M_bestSplit, M_ask, show M_isErr μ1 (nI t) = 0 from if_neg (by rw [isT_260 (s6 260 (by omega))]; exact c1), if_pos rfl, ← hρ])
    rw [e9, NN_eq 11] at hM
    dsimp only at hM
    have ht2 : t < cn (ρ 260 0) := (by rw [s4]; exact ht)
    obtain ⟨⟨v, w1⟩, w2, w3, w4, w5⟩ := MP_at s3 ht2 11 (Nat.le_refl _)
    obtain ⟨f7, f4, f5, f6, fo⟩ := finds_at s3
    obtain ⟨v1, v2, v3⟩ := VN_at s3 s3.2.2.1
    have hS := SP_at s2 s3 ht2 (s7.1.trans f4) (s7.2.1.trans f5) (by rw [s7.2.2.2.1, f7, v2]) (by rw [s4]; exact s8) 10
    have e81 : μ1 81 3 = nI (VN (ρ 260)) := s7.2.2.2.1.trans f7
    have eq0 : up2 (MP_run ρ (nI t) 11).1 260 3 (ρ 260 3) 260 = ρ 260 := (by
      rw [up2_ch, w1]
      funext i
      unfold ch
      split
      · rename_i c; rw [c]
      · rfl)
    refine ⟨0, _, μ1, _, _, L_bestSplit_ok l G B cL μ x (nI t) (by decide) (by decide) hX, hM, ?_, fun _ => ?_, ?_⟩
    · rw [up2_k _ _ (by decide), w3 3 (by decide) (by decide) (by decide) (by decide), hρ]; exact up2_s _ _ _ _
    · rw [e81, hS]
      by_cases c0 : VN (ρ 260) = 0
      · rw [c0, if_pos (show nI 0 = (0 : Int32) from rfl), w4 c0]
      · rw [if_neg (nI_n0 c0 (by omega)), (w5 (by omega)).2 10 rfl]
    · refine (INV.mono k μ h).of (fun p hp => ?_) ?_ ?_
      · by_cases c : p = 260
        · rw [c, eq0, s4]
        · rw [up2_k _ _ c, w2 p (by omega) c, hρ, show M_thr μ1 0 p = μ1 p from up2_k _ _ (by omega), s6 p (by omega)]
      · rw [up2_k _ _ (by decide), w3 2 (by decide) (by decide) (by decide) (by decide), hρ, show M_thr μ1 0 259 2 = μ1 259 2 from up2_n (by decide), s6 259 (by omega)]
      · rw [up2_k _ _ (by decide), w3 9 (by decide) (by decide) (by decide) (by decide), hρ, show M_thr μ1 0 259 9 = μ1 259 9 from up2_n (by decide), s6 259 (by omega)]

