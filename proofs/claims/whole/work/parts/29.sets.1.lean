/-! calls that write -/

set_option maxHeartbeats 1000000 in
theorem op_addTrader (l : Launch) (hfl : l.stackTraces = false) (G : GG) (B : Nat) (cL : ClassId) (k : Nat) (μ : Mm) (x : Int64) (p0 : Int32) (p1 : Int32) (_hk : k < 512) (h : INV k μ) : OPC_addTrader l G B cL (INV (k + 1)) μ x p0 p1 := by
  have hR := h.1
  have hG := h.2.1
  have hI := hG.MI
  have hst := h.st
  have h0 : μ (1 + 1) 0 = μ 260 0 := rd_n0 hR
  by_cases c1 : wI p0 0 1 = 0
  · have hM := MX11_addTrader l G B μ p0 p1 hI hst
    have e9 : M_addTrader μ p0 p1 = (M_thr μ 1, 0) := (by rw [M_addTrader, M_call, show M_traderError μ p0 p1 = 1 from if_pos c1]; rfl)
    rw [e9] at hM
    exact ⟨1, 0, μ, M_thr μ 1, x, L_addTrader_1 l G B cL μ x p0 p1 (by decide) (by decide) (XX10_addTrader_9_2 l hfl G B μ p0 p1 (if_pos c1)), hM, up2_s _ _ _ _, fun q => absurd q (by decide), h.thr 1⟩
  · by_cases c2 : wI p1 1 99 = 0
    · have hM := MX11_addTrader l G B μ p0 p1 hI hst
      have e9 : M_addTrader μ p0 p1 = (M_thr μ 1, 0) := (by rw [M_addTrader, M_call, show M_traderError μ p0 p1 = 1 from (if_neg c1).trans (if_pos c2)]; rfl)
      rw [e9] at hM
      exact ⟨1, 0, μ, M_thr μ 1, x, L_addTrader_1 l G B cL μ x p0 p1 (by decide) (by decide) (XX10_addTrader_9_2 l hfl G B μ p0 p1 ((if_neg c1).trans (if_pos c2))), hM, up2_s _ _ _ _, fun q => absurd q (by decide), h.thr 1⟩
    · by_cases c3 : μ 260 0 < 8
      · obtain ⟨n, hn, hn0⟩ : ∃ n, n < 8 ∧ μ 260 0 = nI n := (by
          obtain ⟨n, hn, e⟩ := vp_nI hG.1.1 (by decide)
          rw [e] at c3
          exact ⟨n, nI_lt_of (by decide) (by omega) (show nI n < nI 8 from c3), e⟩)
        obtain ⟨μ1, hμ1⟩ : ∃ m, m = T_join (U_push μ 1) (1 + 1) p0 p1 := ⟨_, rfl⟩
        have he : ∀ p, 92 ≤ p → μ1 p = U_push μ 1 p := fun p hp => by
          rw [hμ1, join_at (U_push μ 1) p0 p1 hn (by rw [(push_UND h.2.2.1 h.1 h.2.1).2 2 (by omega), ← hn0]; exact h0)]
          rw [up2_k _ _ (by omega), up2_k _ _ (by omega), up2_k _ _ (by omega), up2_k _ _ (by omega), up2_k _ _ (by omega), up2_k _ _ (by omega), up2_k _ _ (by omega), up2_k _ _ (by omega)]
        obtain ⟨q1, q2, q3, q4, q5, q6⟩ := pre_call h he
        have hX := MX10_addTrader l G B μ p0 p1 ((if_neg c1).trans ((if_neg c2).trans (if_pos (by rw [h0]; exact c3))))
        have hM := MX11_addTrader l G B μ1 p0 p1 q1 q2
        rw [← hμ1] at hX
        obtain ⟨ρ, hρ⟩ : ∃ m, m = M_records (M_thr μ1 0) := ⟨_, rfl⟩
        have z3 : ρ 259 3 = 0 := (by rw [hρ]; exact rec3 _ _)
        have e9 : M_addTrader μ1 p0 p1 = (M_addsTrader ρ p0 p1, ρ 260 0) := (by rw [M_addTrader, M_call, show M_traderError μ1 p0 p1 = 0 from (by unfold M_traderError; rw [if_neg c1, if_neg c2, q3 260 (by decide), if_pos c3]), if_pos rfl, ← hρ])
        rw [e9] at hM
        dsimp only at hM
        rw [← hρ] at q4 q5 q6
        refine ⟨0, _, μ1, _, _, L_addTrader_ok l G B cL μ x p0 p1 (by decide) (by decide) hX, hM, (by rw [adds_ne _ _ _ (by decide)]; exact z3), fun _ => ?_, INV_call h he (fun p w1 w2 w3 => by rw [← hρ]; exact adds_ne _ _ _ w2) (by rw [← hρ]; exact by rw [adds_ne _ _ _ (by decide)]) (by rw [← hρ]; exact by rw [adds_ne _ _ _ (by decide)]) ?_ ?_⟩
        · rw [q6, (push_UND h.2.2.1 h.1 h.2.1).2 2 (by omega)]
          exact congrArg _ h0
        · rw [hμ1]
          exact (wr_join q4 q5 (by rw [q6, hn0, cn_nI (by omega)]; exact hn) (wI01 c1) (wI1 (n := 99) c2)).1
        · exact (wr_join q4 q5 (by rw [q6, hn0, cn_nI (by omega)]; exact hn) (wI01 c1) (wI1 (n := 99) c2)).2.mono (by omega) (Nat.le_refl _)
      · have hM := MX11_addTrader l G B μ p0 p1 hI hst
        have e9 : M_addTrader μ p0 p1 = (M_thr μ 2, 0) := (by rw [M_addTrader, M_call, show M_traderError μ p0 p1 = 2 from (if_neg c1).trans ((if_neg c2).trans (if_neg c3))]; rfl)
        rw [e9] at hM
        exact ⟨2, 0, μ, M_thr μ 2, x, L_addTrader_2 l G B cL μ x p0 p1 (by decide) (by decide) (XX10_addTrader_9_3 l hfl G B μ p0 p1 ((if_neg c1).trans ((if_neg c2).trans (if_neg (by rw [h0]; exact c3))))), hM, up2_s _ _ _ _, fun q => absurd q (by decide), h.thr 2⟩

set_option maxHeartbeats 1000000 in
theorem op_setValue (l : Launch) (hfl : l.stackTraces = false) (G : GG) (B : Nat) (cL : ClassId) (k : Nat) (μ : Mm) (x : Int64) (p0 : Int32) (p1 : Int32) (_hk : k < 512) (h : INV k μ) : OPC_setValue l G B cL (INV (k + 1)) μ x p0 p1 := by
  have hR := h.1
  have hG := h.2.1
  have hI := hG.MI
  have hst := h.st
  have e1 : T_has μ (1 + 1) p0 = M_isTrader μ p0 := rd_has hR hG p0
  by_cases c1 : M_isTrader μ p0 = 0
  · have hM := MX11_setValue l G B μ p0 p1 hI hst
    have e9 : M_setValue μ p0 p1 = (M_thr μ 1, 0) := (by rw [M_setValue, M_call, show M_valueError μ p0 p1 = 1 from if_pos c1]; rfl)
    rw [e9] at hM
    exact ⟨1, 0, μ, M_thr μ 1, x, L_setValue_1 l G B cL μ x p0 p1 (by decide) (by decide) (XX10_setValue_9_1 l hfl G B μ p0 p1 (if_pos (by rw [e1]; exact c1))), hM, up2_s _ _ _ _, fun q => absurd q (by decide), h.thr 1⟩
  · by_cases c2 : wI p1 1 99 = 0
    · have hM := MX11_setValue l G B μ p0 p1 hI hst
      have e9 : M_setValue μ p0 p1 = (M_thr μ 2, 0) := (by rw [M_setValue, M_call, show M_valueError μ p0 p1 = 2 from (if_neg c1).trans (if_pos c2)]; rfl)
      rw [e9] at hM
      exact ⟨2, 0, μ, M_thr μ 2, x, L_setValue_2 l G B cL μ x p0 p1 (by decide) (by decide) (XX10_setValue_9_2 l hfl G B μ p0 p1 ((if_neg (by rw [e1]; exact c1)).trans (if_pos c2))), hM, up2_s _ _ _ _, fun q => absurd q (by decide), h.thr 2⟩
    · obtain ⟨j, hj, rfl⟩ := rd_tr hG c1
      have hc := hG.c0
      obtain ⟨μ1, hμ1⟩ : ∃ m, m = R_put (U_push μ 1) (1 + 1 + 3) 8 (nI j) p1 := ⟨_, rfl⟩
      have he : ∀ p, 92 ≤ p → μ1 p = U_push μ 1 p := fun p hp => by rw [hμ1, R_put_nI (by omega) (by decide)]; exact up2_k _ _ (by omega)
      obtain ⟨q1, q2, q3, q4, q5, q6⟩ := pre_call h he
      have hX := MX10_setValue l G B μ (nI j) p1 ((if_neg (by rw [e1]; exact c1)).trans (if_neg c2))
      have hM := MX11_setValue l G B μ1 (nI j) p1 q1 q2
      rw [← hμ1] at hX
      obtain ⟨ρ, hρ⟩ : ∃ m, m = M_records (M_thr μ1 0) := ⟨_, rfl⟩
      have z3 : ρ 259 3 = 0 := (by rw [hρ]; exact rec3 _ _)
      have e9 : M_setValue μ1 (nI j) p1 = (M_setT ρ (nI j) 1 p1, M_t ρ (nI j) 1) := (by rw [M_setValue, M_call, show M_valueError μ1 (nI j) p1 = 0 from (by unfold M_valueError; rw [isT_260 (q3 260 (by decide)), if_neg c1, if_neg c2]), if_pos rfl, ← hρ])
      rw [e9] at hM
      dsimp only at hM
      rw [← hρ] at q4 q5 q6
      refine ⟨0, _, μ1, _, _, L_setValue_ok l G B cL μ x (nI j) p1 (by decide) (by decide) hX, hM, (by rw [setT_ne (by decide)]; exact z3), fun _ => ?_, INV_call h he (fun p w1 w2 w3 => by rw [← hρ]; exact setT_ne w2) (by rw [← hρ]; exact by rw [setT_ne (by decide)]) (by rw [← hρ]; exact by rw [setT_ne (by decide)]) ?_ ?_⟩
      · exact congrArg _ (rd_t q4 q5 (w := 1) (by rw [q6]; exact hj) (by decide))
      · have e2 : M_setT ρ (nI j) 1 p1 260 = ch (ρ 260) (11 + 7 * j + 1) p1 := setT_ch (w := 1) (by omega) (by decide)
        rw [hμ1, e2, R_put_nI (by omega) (by decide)]
        exact wr_t (w := 1) q4 q5 (by rw [q6]; exact hj) (by decide) (by decide)
      · have e2 : M_setT ρ (nI j) 1 p1 260 = ch (ρ 260) (11 + 7 * j + 1) p1 := setT_ch (w := 1) (by omega) (by decide)
        rw [e2]
        exact (rg_t q5 (by rw [q6]; exact hj) (by decide) (by decide) ⟨fun _ => wI1 (n := 99) c2, fun q => absurd q (by decide), fun q => absurd q (by decide)⟩).mono (by omega) (Nat.le_refl _)

set_option maxHeartbeats 1000000 in
theorem op_setShade (l : Launch) (hfl : l.stackTraces = false) (G : GG) (B : Nat) (cL : ClassId) (k : Nat) (μ : Mm) (x : Int64) (p0 : Int32) (p1 : Int32) (p2 : Int32) (_hk : k < 512) (h : INV k μ) : OPC_setShade l G B cL (INV (k + 1)) μ x p0 p1 p2 := by
  have hR := h.1
  have hG := h.2.1
  have hI := hG.MI
  have hst := h.st
  have e1 : T_has μ (1 + 1) p0 = M_isTrader μ p0 := rd_has hR hG p0
  by_cases c1 : M_isTrader μ p0 = 0
  · have hM := MX11_setShade l G B μ p0 p1 p2 hI hst
    have e9 : M_setShade μ p0 p1 p2 = (M_thr μ 1, 0) := (by rw [M_setShade, M_call, show M_shadeError μ p0 p1 p2 = 1 from if_pos c1]; rfl)
    rw [e9] at hM
    exact ⟨1, 0, μ, M_thr μ 1, x, L_setShade_1 l G B cL μ x p0 p1 p2 (by decide) (by decide) (XX10_setShade_10_1 l hfl G B μ p0 p1 p2 (if_pos (by rw [e1]; exact c1))), hM, up2_s _ _ _ _, fun q => absurd q (by decide), h.thr 1⟩
  · by_cases c2 : wI p1 0 3 = 0
    · have hM := MX11_setShade l G B μ p0 p1 p2 hI hst
      have e9 : M_setShade μ p0 p1 p2 = (M_thr μ 2, 0) := (by rw [M_setShade, M_call, show M_shadeError μ p0 p1 p2 = 2 from (if_neg c1).trans (if_pos c2)]; rfl)
      rw [e9] at hM
      exact ⟨2, 0, μ, M_thr μ 2, x, L_setShade_2 l G B cL μ x p0 p1 p2 (by decide) (by decide) (XX10_setShade_10_2 l hfl G B μ p0 p1 p2 ((if_neg (by rw [e1]; exact c1)).trans (if_pos c2))), hM, up2_s _ _ _ _, fun q => absurd q (by decide), h.thr 2⟩
    · by_cases c3 : wI p2 0 50 = 0
      · have hM := MX11_setShade l G B μ p0 p1 p2 hI hst
        have e9 : M_setShade μ p0 p1 p2 = (M_thr μ 2, 0) := (by rw [M_setShade, M_call, show M_shadeError μ p0 p1 p2 = 2 from (if_neg c1).trans ((if_neg c2).trans (if_pos c3))]; rfl)
        rw [e9] at hM
        exact ⟨2, 0, μ, M_thr μ 2, x, L_setShade_2 l G B cL μ x p0 p1 p2 (by decide) (by decide) (XX10_setShade_10_2 l hfl G B μ p0 p1 p2 ((if_neg (by rw [e1]; exact c1)).trans ((if_neg c2).trans (if_pos c3)))), hM, up2_s _ _ _ _, fun q => absurd q (by decide), h.thr 2⟩
      · obtain ⟨j, hj, rfl⟩ := rd_tr hG c1
        have hc := hG.c0
        obtain ⟨μ1, hμ1⟩ : ∃ m, m = T_shadeBy (U_push μ 1) (1 + 1) (nI j) p1 p2 := ⟨_, rfl⟩
        have he : ∀ p, 92 ≤ p → μ1 p = U_push μ 1 p := fun p hp => by rw [hμ1, T_shadeBy, R_put_nI (by omega) (by decide), R_put_nI (by omega) (by decide), up2_k _ _ (by omega)]; exact up2_k _ _ (by omega)
        obtain ⟨q1, q2, q3, q4, q5, q6⟩ := pre_call h he
        have hX := MX10_setShade l G B μ (nI j) p1 p2 ((if_neg (by rw [e1]; exact c1)).trans ((if_neg c2).trans (if_neg c3)))
        have hM := MX11_setShade l G B μ1 (nI j) p1 p2 q1 q2
        rw [← hμ1] at hX
        obtain ⟨ρ, hρ⟩ : ∃ m, m = M_records (M_thr μ1 0) := ⟨_, rfl⟩
        have z3 : ρ 259 3 = 0 := (by rw [hρ]; exact rec3 _ _)
        have e9 : M_setShade μ1 (nI j) p1 p2 = (M_shadesM ρ (nI j) p1 p2, M_bidOf (M_shadesM ρ (nI j) p1 p2) (nI j)) := (by rw [M_setShade, M_call, show M_shadeError μ1 (nI j) p1 p2 = 0 from (by unfold M_shadeError; rw [isT_260 (q3 260 (by decide)), if_neg c1, if_neg c2, if_neg c3]), if_pos rfl, ← hρ])
        rw [e9] at hM
        dsimp only at hM
        rw [← hρ] at q4 q5 q6
        have e2 : M_shadesM ρ (nI j) p1 p2 260 0 = μ 260 0 := (by
          show M_setT (M_setT ρ (nI j) 2 p1) (nI j) 3 p2 260 0 = _
          rw [show M_setT (M_setT ρ (nI j) 2 p1) (nI j) 3 p2 260 = ch (M_setT ρ (nI j) 2 p1 260) (11 + 7 * j + 3) p2 from setT_ch (w := 3) (by omega) (by decide), ch_n (by omega), show M_setT ρ (nI j) 2 p1 260 = ch (ρ 260) (11 + 7 * j + 2) p1 from setT_ch (w := 2) (by omega) (by decide), ch_n (by omega), q6])
        have hST : REL μ1 1 (M_shadesM ρ (nI j) p1 p2 260) ∧ RNG (200 * k) 9999 (M_shadesM ρ (nI j) p1 p2 260) := (by
          rw [hμ1]
          exact wr_shades q4 q5 (by rw [q6]; exact hj) (wI_vp (n := 3) c2) (wI_vp (n := 50) c3))
        obtain ⟨hS, hT⟩ := hST
        refine ⟨0, _, μ1, _, _, L_setShade_ok l G B cL μ x (nI j) p1 p2 (by decide) (by decide) hX, hM, (by rw [shades_ne (by decide)]; exact z3), fun _ => ?_, INV_call h he (fun p w1 w2 w3 => by rw [← hρ]; exact shades_ne w2) (by rw [← hρ]; exact by rw [shades_ne (by decide)]) (by rw [← hρ]; exact by rw [shades_ne (by decide)]) ?_ ?_⟩
        · exact congrArg _ (rd_bid hS hT (by rw [e2]; exact hj))
        · exact hS
        · exact hT.mono (by omega) (Nat.le_refl _)

set_option maxHeartbeats 1000000 in
theorem op_set (l : Launch) (hfl : l.stackTraces = false) (G : GG) (B : Nat) (cL : ClassId) (k : Nat) (μ : Mm) (x : Int64) (p0 : Int32) (p1 : Int32) (_hk : k < 512) (h : INV k μ) : OPC_set l G B cL (INV (k + 1)) μ x p0 p1 := by
  have hR := h.1
  have hG := h.2.1
  have hI := hG.MI
  have hst := h.st
  by_cases c1 : M_settingError p0 p1 = 0
  · have hw : (p0 = 0 ∧ vp_in p1 11) ∨ (p0 = 1 ∧ vp_in p1 10 ∧ p1 ≠ 0) := (by
      unfold M_settingError at c1
      by_cases d0 : p0 = 0
      · rw [if_pos d0] at c1
        exact Or.inl ⟨d0, wI_vp (n := 10) (fun z => by rw [if_pos (show wI p1 0 10 = 0 from z)] at c1; exact absurd c1 (by decide))⟩
      · rw [if_neg d0] at c1
        by_cases d1 : p0 = 1
        · rw [if_pos d1] at c1
          exact Or.inr ⟨d1, wI1 (n := 9) (fun z => by rw [if_pos (show wI p1 1 9 = 0 from z)] at c1; exact absurd c1 (by decide))⟩
        · rw [if_neg d1] at c1
          exact absurd c1 (by decide))
    have hgood : A_faultOfSetting p0 p1 = 0 := (by
      unfold M_settingError at c1
      unfold A_faultOfSetting
      rcases hw with ⟨d, -⟩ | ⟨d, -⟩
      · rw [if_pos d] at c1 ⊢
        by_cases z : wI p1 0 10 = 0
        · rw [if_pos z] at c1; exact absurd c1 (by decide)
        · exact if_neg z
      · rw [if_neg (by rw [d]; decide), if_pos d] at c1 ⊢
        by_cases z : wI p1 1 9 = 0
        · rw [if_pos z] at c1; exact absurd c1 (by decide)
        · exact if_neg z)
    obtain ⟨μ1, hμ1⟩ : ∃ m, m = A_changeM (U_push μ 1) 1 p0 p1 := ⟨_, rfl⟩
    have he : ∀ p, 92 ≤ p → μ1 p = U_push μ 1 p := fun p hp => by rw [hμ1, A_changeM]; split <;> exact up2_k _ _ (by omega)
    obtain ⟨q1, q2, q3, q4, q5, q6⟩ := pre_call h he
    have hX := MX10_set l G B μ p0 p1 (hgood)
    have hM := MX11_set l G B μ1 p0 p1 q1 q2
    rw [← hμ1] at hX
    obtain ⟨ρ, hρ⟩ : ∃ m, m = M_records (M_thr μ1 0) := ⟨_, rfl⟩
    have z3 : ρ 259 3 = 0 := (by rw [hρ]; exact rec3 _ _)
    have e9 : M_set μ1 p0 p1 = (M_setsM ρ p0 p1, ρ 260 (cn (3 + p0))) := (by rw [M_set, M_call, show M_settingError p0 p1 = 0 from c1, if_pos rfl, ← hρ])
    rw [e9] at hM
    dsimp only at hM
    rw [← hρ] at q4 q5 q6
    refine ⟨0, _, μ1, _, _, L_set_ok l G B cL μ x p0 p1 (by decide) (by decide) hX, hM, ((up2_n (fun c => absurd c.1 (by decide))).trans z3), fun _ => ?_, INV_call h he (fun p w1 w2 w3 => by rw [← hρ]; exact up2_k _ _ w2) (by rw [← hρ]; exact up2_n (fun c => absurd c.1 (by decide))) (by rw [← hρ]; exact up2_n (fun c => absurd c.1 (by decide))) ?_ ?_⟩
    · rcases hw with ⟨d, -⟩ | ⟨d, -⟩
      · subst d
        exact congrArg _ q4.1.2.2.2.1
      · subst d
        exact congrArg _ q4.1.2.2.2.2.1
    · rw [hμ1]
      rcases hw with ⟨d, -⟩ | ⟨d, -⟩
      · subst d
        have e2 : M_setsM ρ 0 p1 260 = ch (ρ 260) 3 p1 := up2_ch _ _ _ _
        rw [e2]
        exact wr_h q4 (by unfold HD; omega)
      · subst d
        have e2 : M_setsM ρ 1 p1 260 = ch (ρ 260) 4 p1 := up2_ch _ _ _ _
        rw [e2]
        exact wr_h q4 (by unfold HD; omega)
    · rcases hw with ⟨d, hv⟩ | ⟨d, hv⟩
      · subst d
        have e2 : M_setsM ρ 0 p1 260 = ch (ρ 260) 3 p1 := up2_ch _ _ _ _
        rw [e2]
        exact (rg_h q5 (by omega) (fun _ => hv) (fun z => absurd z (by decide))).mono (by omega) (Nat.le_refl _)
      · subst d
        have e2 : M_setsM ρ 1 p1 260 = ch (ρ 260) 4 p1 := up2_ch _ _ _ _
        rw [e2]
        exact (rg_h q5 (by omega) (fun z => absurd z (by decide)) (fun _ => hv)).mono (by omega) (Nat.le_refl _)
  · have hb : M_settingError p0 p1 = 1 := (by
      unfold M_settingError at c1 ⊢
      split
      · rename_i d; rw [if_pos d] at c1; split
        · rfl
        · rename_i z; exact absurd (if_neg z) c1
      · rename_i d; rw [if_neg d] at c1; split
        · rename_i d1; rw [if_pos d1] at c1; split
          · rfl
          · rename_i z; exact absurd (if_neg z) c1
        · rfl)
    have hb2 : A_faultOfSetting p0 p1 = 2 := (by
      unfold M_settingError at c1
      unfold A_faultOfSetting
      split
      · rename_i d; rw [if_pos d] at c1; split
        · rfl
        · rename_i z; exact absurd (if_neg z) c1
      · rename_i d; rw [if_neg d] at c1; split
        · rename_i d1; rw [if_pos d1] at c1; split
          · rfl
          · rename_i z; exact absurd (if_neg z) c1
        · rfl)
    have hM := MX11_set l G B μ p0 p1 hI hst
    have e9 : M_set μ p0 p1 = (M_thr μ 1, 0) := (by rw [M_set, M_call, show M_settingError p0 p1 = 1 from hb]; rfl)
    rw [e9] at hM
    exact ⟨1, 0, μ, M_thr μ 1, x, L_set_1 l G B cL μ x p0 p1 (by decide) (by decide) (XX10_set_9_2 l hfl G B μ p0 p1 hb2), hM, up2_s _ _ _ _, fun q => absurd q (by decide), h.thr 1⟩

