set_option maxHeartbeats 1000000 in
theorem op_bid (l : Launch) (hfl : l.stackTraces = false) (G : GG) (B : Nat) (cL : ClassId) (k : Nat) (μ : Mm) (x : Int64) (p0 : Int32) (p1 : Int32) (_hk : k < 512) (h : INV k μ) : OPC_bid l G B cL (INV (k + 1)) μ x p0 p1 := by
  have hR := h.1
  have hG := h.2.1
  have hI := hG.MI
  have hst := h.st
  have ee : A_faultOfOrder μ 1 p0 1 p1 = M_orderError μ p0 1 p1 := oe_e hR hG _ _ _
  rcases oe_cases μ p0 1 p1 with c | c | c | c
  · obtain ⟨c1, c2, c3, c4⟩ := oe_0 c
    obtain ⟨j, hj, rfl⟩ := rd_tr hG c1
    have hc := hG.c0
    have hn1 : cn (μ 260 1) < 20 := n1_lt hG c4
    have hU : REL (U_push μ 1) 1 (μ 260) := hR.of fun p h1 h3 => (push_UND h.2.2.1 h.1 h.2.1).2 p (by omega)
    obtain ⟨μ1, hμ1⟩ : ∃ m, m = A_placeM (U_push μ 1) 1 (nI j) (T_bidOf (U_push μ 1) (1 + 1) (nI j)) p1 := ⟨_, rfl⟩
    have he : ∀ p, 92 ≤ p → μ1 p = U_push μ 1 p := fun p hp => by rw [hμ1]; exact place_ne (ν := μ) hU hG (by omega) hn1 (by omega)
    obtain ⟨q1, q2, q3, q4, q5, q6⟩ := pre_call h he
    have hX := MX10_bid l G B μ (nI j) p1 (ee.trans c)
    have hM := MX11_bid l G B μ1 (nI j) p1 q1 q2
    rw [← hμ1] at hX
    obtain ⟨ρ, hρ⟩ : ∃ m, m = M_records (M_thr μ1 0) := ⟨_, rfl⟩
    have z3 : ρ 259 3 = 0 := (by rw [hρ]; exact rec3 _ _)
    have e9 : M_bid μ1 (nI j) p1 = (M_placesM ρ (nI j) (M_bidOf ρ (nI j)) p1, M_o (M_placesM ρ (nI j) (M_bidOf ρ (nI j)) p1) (ρ 260 1) 0) := (by rw [M_bid, M_call, show M_orderError μ1 (nI j) 1 p1 = 0 from ((oe_260 (q3 260 (by decide))).trans c), if_pos rfl, ← hρ]; rfl)
    rw [e9] at hM
    dsimp only at hM
    rw [← hρ] at q4 q5 q6
    have hb : T_bidOf (U_push μ 1) (1 + 1) (nI j) = M_bidOf ρ (nI j) := rd_bid q4 q5 (by rw [q6]; exact hj)
    have hw : REL μ1 1 (M_placesM ρ (nI j) (M_bidOf ρ (nI j)) p1 260) ∧ RNG (200 * k + 1) 9999 (M_placesM ρ (nI j) (M_bidOf ρ (nI j)) p1 260) := (by
      rw [hμ1, hb]
      exact wr_place q4 q5 (by omega) (by decide) (by rw [q6]; exact hn1) (by rw [q6]; exact hj) (bid_rng q5 (by rw [q6]; exact hj)) (wI1 (n := 9) c3))
    refine ⟨0, _, μ1, _, _, L_bid_ok l G B cL μ x (nI j) p1 (by decide) (by decide) hX, hM, (by rw [places_ne (by decide)]; exact z3), fun _ => ?_, INV_call h he (fun p w1 w2 w3 => by rw [← hρ]; exact places_ne w2) (by rw [← hρ]; exact by rw [places_ne (by decide)]) (by rw [← hρ]; exact by rw [places_ne (by decide)]) ?_ ?_⟩
    · rw [hb]; exact congrArg _ (place_val q4 q5 (by omega) (by rw [q6]; exact hn1))
    · exact hw.1
    · exact hw.2.mono (by omega) (Nat.le_refl _)
  · have hM := MX11_bid l G B μ p0 p1 hI hst
    have e9 : M_bid μ p0 p1 = (M_thr μ 1, 0) := (by rw [M_bid, M_call, show M_orderError μ p0 1 p1 = 1 from c]; rfl)
    rw [e9] at hM
    exact ⟨1, 0, μ, M_thr μ 1, x, L_bid_1 l G B cL μ x p0 p1 (by decide) (by decide) (XX10_bid_9_1 l hfl G B μ p0 p1 (ee.trans c)), hM, up2_s _ _ _ _, fun q => absurd q (by decide), h.thr 1⟩
  · have hM := MX11_bid l G B μ p0 p1 hI hst
    have e9 : M_bid μ p0 p1 = (M_thr μ 2, 0) := (by rw [M_bid, M_call, show M_orderError μ p0 1 p1 = 2 from c]; rfl)
    rw [e9] at hM
    exact ⟨2, 0, μ, M_thr μ 2, x, L_bid_2 l G B cL μ x p0 p1 (by decide) (by decide) (XX10_bid_9_2 l hfl G B μ p0 p1 (ee.trans c)), hM, up2_s _ _ _ _, fun q => absurd q (by decide), h.thr 2⟩
  · have hM := MX11_bid l G B μ p0 p1 hI hst
    have e9 : M_bid μ p0 p1 = (M_thr μ 3, 0) := (by rw [M_bid, M_call, show M_orderError μ p0 1 p1 = 3 from c]; rfl)
    rw [e9] at hM
    exact ⟨3, 0, μ, M_thr μ 3, x, L_bid_3 l G B cL μ x p0 p1 (by decide) (by decide) (XX10_bid_9_3 l hfl G B μ p0 p1 (ee.trans c)), hM, up2_s _ _ _ _, fun q => absurd q (by decide), h.thr 3⟩

set_option maxHeartbeats 1000000 in
theorem op_order (l : Launch) (hfl : l.stackTraces = false) (G : GG) (B : Nat) (cL : ClassId) (k : Nat) (μ : Mm) (x : Int64) (p0 : Int32) (p1 : Int32) (p2 : Int32) (_hk : k < 512) (h : INV k μ) : OPC_order l G B cL (INV (k + 1)) μ x p0 p1 p2 := by
  have hR := h.1
  have hG := h.2.1
  have hI := hG.MI
  have hst := h.st
  have ee : A_faultOfOrder μ 1 p0 p1 p2 = M_orderError μ p0 p1 p2 := oe_e hR hG _ _ _
  rcases oe_cases μ p0 p1 p2 with c | c | c | c
  · obtain ⟨c1, c2, c3, c4⟩ := oe_0 c
    obtain ⟨j, hj, rfl⟩ := rd_tr hG c1
    have hc := hG.c0
    have hn1 : cn (μ 260 1) < 20 := n1_lt hG c4
    have hU : REL (U_push μ 1) 1 (μ 260) := hR.of fun p h1 h3 => (push_UND h.2.2.1 h.1 h.2.1).2 p (by omega)
    obtain ⟨μ1, hμ1⟩ : ∃ m, m = A_placeM (U_push μ 1) 1 (nI j) p1 p2 := ⟨_, rfl⟩
    have he : ∀ p, 92 ≤ p → μ1 p = U_push μ 1 p := fun p hp => by rw [hμ1]; exact place_ne (ν := μ) hU hG (by omega) hn1 (by omega)
    obtain ⟨q1, q2, q3, q4, q5, q6⟩ := pre_call h he
    have hX := MX10_order l G B μ (nI j) p1 p2 (ee.trans c)
    have hM := MX11_order l G B μ1 (nI j) p1 p2 q1 q2
    rw [← hμ1] at hX
    obtain ⟨ρ, hρ⟩ : ∃ m, m = M_records (M_thr μ1 0) := ⟨_, rfl⟩
    have z3 : ρ 259 3 = 0 := (by rw [hρ]; exact rec3 _ _)
    have e9 : M_order μ1 (nI j) p1 p2 = (M_placesM ρ (nI j) p1 p2, M_o (M_placesM ρ (nI j) p1 p2) (ρ 260 1) 0) := (by rw [M_order, M_call, show M_orderError μ1 (nI j) p1 p2 = 0 from ((oe_260 (q3 260 (by decide))).trans c), if_pos rfl, ← hρ]; rfl)
    rw [e9] at hM
    dsimp only at hM
    rw [← hρ] at q4 q5 q6
    have hw : REL μ1 1 (M_placesM ρ (nI j) p1 p2 260) ∧ RNG (200 * k + 1) 9999 (M_placesM ρ (nI j) p1 p2 260) := (by
      rw [hμ1]
      exact wr_place q4 q5 (by omega) (by decide) (by rw [q6]; exact hn1) (by rw [q6]; exact hj) (wI1 (n := 120) c2) (wI1 (n := 9) c3))
    refine ⟨0, _, μ1, _, _, L_order_ok l G B cL μ x (nI j) p1 p2 (by decide) (by decide) hX, hM, (by rw [places_ne (by decide)]; exact z3), fun _ => ?_, INV_call h he (fun p w1 w2 w3 => by rw [← hρ]; exact places_ne w2) (by rw [← hρ]; exact by rw [places_ne (by decide)]) (by rw [← hρ]; exact by rw [places_ne (by decide)]) ?_ ?_⟩
    · exact congrArg _ (place_val q4 q5 (by omega) (by rw [q6]; exact hn1))
    · exact hw.1
    · exact hw.2.mono (by omega) (Nat.le_refl _)
  · have hM := MX11_order l G B μ p0 p1 p2 hI hst
    have e9 : M_order μ p0 p1 p2 = (M_thr μ 1, 0) := (by rw [M_order, M_call, show M_orderError μ p0 p1 p2 = 1 from c]; rfl)
    rw [e9] at hM
    exact ⟨1, 0, μ, M_thr μ 1, x, L_order_1 l G B cL μ x p0 p1 p2 (by decide) (by decide) (XX10_order_10_1 l hfl G B μ p0 p1 p2 (ee.trans c)), hM, up2_s _ _ _ _, fun q => absurd q (by decide), h.thr 1⟩
  · have hM := MX11_order l G B μ p0 p1 p2 hI hst
    have e9 : M_order μ p0 p1 p2 = (M_thr μ 2, 0) := (by rw [M_order, M_call, show M_orderError μ p0 p1 p2 = 2 from c]; rfl)
    rw [e9] at hM
    exact ⟨2, 0, μ, M_thr μ 2, x, L_order_2 l G B cL μ x p0 p1 p2 (by decide) (by decide) (XX10_order_10_2 l hfl G B μ p0 p1 p2 (ee.trans c)), hM, up2_s _ _ _ _, fun q => absurd q (by decide), h.thr 2⟩
  · have hM := MX11_order l G B μ p0 p1 p2 hI hst
    have e9 : M_order μ p0 p1 p2 = (M_thr μ 3, 0) := (by rw [M_order, M_call, show M_orderError μ p0 p1 p2 = 3 from c]; rfl)
    rw [e9] at hM
    exact ⟨3, 0, μ, M_thr μ 3, x, L_order_3 l G B cL μ x p0 p1 p2 (by decide) (by decide) (XX10_order_10_3 l hfl G B μ p0 p1 p2 (ee.trans c)), hM, up2_s _ _ _ _, fun q => absurd q (by decide), h.thr 3⟩

set_option maxHeartbeats 1000000 in
theorem op_cancel (l : Launch) (hfl : l.stackTraces = false) (G : GG) (B : Nat) (cL : ClassId) (k : Nat) (μ : Mm) (x : Int64) (p0 : Int32) (_hk : k < 512) (h : INV k μ) : OPC_cancel l G B cL (INV (k + 1)) μ x p0 := by
  have hR := h.1
  have hG := h.2.1
  have hI := hG.MI
  have hst := h.st
  have ee : O_faultOfNumber μ (1 + 16) p0 = if M_find μ p0 < 0 then 1 else 0 := fn_e hR hG p0
  by_cases c1 : M_find μ p0 < 0
  · have hM := MX11_cancel l G B μ p0 hI hst
    have e9 : M_cancel μ p0 = (M_thr μ 1, 0) := (by rw [M_cancel, M_call, show (if M_find μ p0 < 0 then (1 : Int32) else 0) = 1 from if_pos c1]; rfl)
    rw [e9] at hM
    exact ⟨1, 0, μ, M_thr μ 1, x, L_cancel_1 l G B cL μ x p0 (by decide) (by decide) (XX10_cancel_11_1 l hfl G B μ p0 (ee.trans (if_pos c1))), hM, up2_s _ _ _ _, fun q => absurd q (by decide), h.thr 1⟩
  · obtain ⟨μ1, hμ1⟩ : ∃ m, m = O_removeAt (U_push μ 1) (1 + 16) (O_indexOf (U_push μ 1) (1 + 16) p0) := ⟨_, rfl⟩
    have he : ∀ p, 92 ≤ p → μ1 p = U_push μ 1 p := fun p hp => by rw [hμ1]; exact remAt_ne (by omega)
    obtain ⟨q1, q2, q3, q4, q5, q6⟩ := pre_call h he
    have hX := MX10_cancel l G B μ p0 (ee.trans (if_neg c1))
    have hM := MX11_cancel l G B μ1 p0 q1 q2
    rw [← hμ1] at hX
    obtain ⟨ρ, hρ⟩ : ∃ m, m = M_records (M_thr μ1 0) := ⟨_, rfl⟩
    have z3 : ρ 259 3 = 0 := (by rw [hρ]; exact rec3 _ _)
    have e9 : M_cancel μ1 p0 = (M_removes ρ (M_find ρ p0), M_o ρ (M_find ρ p0) 3) := (by rw [M_cancel, M_call, show (if M_find μ1 p0 < 0 then (1 : Int32) else 0) = 0 from (by rw [find_260 (q3 260 (by decide)), if_neg c1]), if_pos rfl, ← hρ])
    rw [e9] at hM
    dsimp only at hM
    rw [← hρ] at q4 q5 q6
    obtain ⟨f, hf, hfe⟩ := find_at q5 (ν := ρ) (x := p0) (by rw [find_260 q6]; exact c1)
    refine ⟨0, _, μ1, _, _, L_cancel_ok l G B cL μ x p0 (by decide) (by decide) hX, hM, (by rw [removes_ne (by decide)]; exact z3), fun _ => ?_, INV_call h he (fun p w1 w2 w3 => by rw [← hρ]; exact removes_ne w2) (by rw [← hρ]; exact by rw [removes_ne (by decide)]) (by rw [← hρ]; exact by rw [removes_ne (by decide)]) ?_ ?_⟩
    · rw [rd_find q4 q5, hfe]
      exact congrArg _ (rd_un q4 q5 hf)
    · rw [hμ1, rd_find q4 q5, hfe]
      exact (wr_rem q4 q5 hf).1
    · rw [hfe]
      exact (wr_rem q4 q5 hf).2.mono (by omega) (Nat.le_refl _)

set_option maxHeartbeats 1000000 in
theorem op_undo (l : Launch) (hfl : l.stackTraces = false) (G : GG) (B : Nat) (cL : ClassId) (k : Nat) (μ : Mm) (x : Int64) (_hk : k < 512) (h : INV k μ) : OPC_undo l G B cL (INV (k + 1)) μ x := by
  have hR := h.1
  have hG := h.2.1
  have hI := hG.MI
  have hst := h.st
  obtain ⟨c, o, hc, ho, h0, hs, h1, h6⟩ := h.2.2.1
  by_cases cz : c = 0
  · subst cz
    have e9 : M_undo μ = (M_thr μ 1, 0) := (by unfold M_undo; rw [hs]; rfl)
    have hM := MX11_undo l G B μ hst
    rw [e9] at hM
    exact ⟨1, 0, μ, M_thr μ 1, x, L_undo_1 l G B cL μ x (by decide) (by decide) (XX10_undo_15_3 l hfl G B μ h0), hM, up2_s _ _ _ _, fun q => absurd q (by decide), h.thr 1⟩
  · obtain ⟨c, rfl⟩ : ∃ d, c = d + 1 := ⟨c - 1, by omega⟩
    have hcn : ¬ μ 92 0 = 0 := (by rw [h0]; intro e; have := congrArg cn e; rw [cn_nI (by omega)] at this; exact cz this)
    have es : nI (c + 1) - 1 = nI c := (by rw [← nI_1, Int32.add_sub_cancel])
    have hab : 1 + 40 ≤ 94 + 40 * ((o + c) % 4) ∨ 94 + 40 * ((o + c) % 4) + 40 ≤ 1 := Or.inl (by omega)
    have hU : U_pop μ 1 = A_copy (up2 μ 92 0 (nI c)) 1 (94 + 40 * ((o + c) % 4)) := (by
      unfold U_pop
      rw [if_neg hcn, h0, es]
      show A_copy (up2 μ 92 0 (nI c)) 1 (U_at (up2 μ 92 0 (nI c)) (up2 μ 92 0 (nI c) 92 0)) = _
      rw [up2_y ⟨rfl, rfl⟩, U_at_nI (o := o) (by rw [up2_n (by decide)]; exact h1) ho (by omega)])
    have hX := MX10_undo l G B μ hcn
    obtain ⟨μ1, hμ1⟩ : ∃ m, m = U_pop μ 1 := ⟨_, rfl⟩
    rw [← hμ1] at hX hU
    have ho2 : ∀ p, 41 ≤ p → p ≠ 92 → μ1 p = μ p := fun p h2 h3 => (by rw [hU, A_copy_out hab (by omega)]; exact up2_k _ _ h3)
    have o92 : μ1 92 0 = nI c := (by rw [hU, A_copy_out hab (by omega)]; exact up2_y ⟨rfl, rfl⟩)
    have o921 : μ1 92 1 = nI o := (by rw [hU, A_copy_out hab (by omega), up2_n (by decide)]; exact h1)
    have hM := MX11_undo l G B μ1 (by rw [ho2 259 (by decide) (by decide)]; exact hst)
    obtain ⟨ρ, hρ⟩ : ∃ m, m = M_brings (up2 (M_thr μ1 0) 259 2 (nI c)) (nI c) := ⟨_, rfl⟩
    have t2 : M_thr μ1 0 259 2 = nI (c + 1) := (by rw [show M_thr μ1 0 259 2 = μ1 259 2 from up2_n (by decide), ho2 259 (by decide) (by decide)]; exact hs)
    have rp : ∀ p, p ≠ 259 → p ≠ 260 → ρ p = μ1 p := fun p h2 h3 => (by
      rw [hρ]
      funext i
      unfold M_brings M_bringK
      rw [if_neg (fun z => h3 z.1), up2_k _ _ h2]
      exact congrFun (up2_k _ _ h2) i)
    have r9 : ∀ i, ρ 259 i = up2 (M_thr μ1 0) 259 2 (nI c) 259 i := fun i => (by rw [hρ]; unfold M_brings M_bringK; rw [if_neg (fun z => absurd z.1 (by decide))])
    have r2 : ρ 259 2 = nI c := (by rw [r9]; exact up2_y ⟨rfl, rfl⟩)
    have r3 : ρ 259 3 = 0 := (by rw [r9, up2_n (by decide)]; exact up2_s _ _ _ _)
    have r99 : ρ 259 9 = μ 259 9 := (by rw [r9, up2_n (by decide), show M_thr μ1 0 259 9 = μ1 259 9 from up2_n (by decide), ho2 259 (by decide) (by decide)])
    have r0 : ∀ i, i < 267 → ρ 260 i = kp (μ 261) c i := fun i hi => (by
      rw [hρ]
      unfold M_brings M_bringK
      rw [if_pos ⟨rfl, hi⟩, cn_nI (by omega), up2_k _ _ (by decide), show M_thr μ1 0 261 = μ1 261 from up2_k _ _ (by decide), ho2 261 (by decide) (by decide)]
      rfl)
    have e9 : M_undo μ1 = (ρ, nI c) := (by
      unfold M_undo
      rw [show μ1 259 2 = nI (c + 1) from (by rw [ho2 259 (by decide) (by decide)]; exact hs), if_pos (show (0 : Int32) < nI (c + 1) from nI_lt (a := 0) (by omega) (by omega))]
      simp only []
      rw [t2, es, up2_y ⟨rfl, rfl⟩, ← hρ, r2])
    rw [e9] at hM
    dsimp only at hM
    obtain ⟨g1, g2⟩ := h6 c (by omega)
    have w1 : REL μ1 1 (ρ 260) := (by
      refine REL.fn (f := kp (μ 261) c) ?_ g2 r0
      rw [hU]
      exact A_copy_REL hab (g1.of fun p h2 h3 => up2_k _ _ (by omega)) g2.c0.1 g2.c0.2.1 g2.c0.2.2)
    refine ⟨0, _, μ1, ρ, _, L_undo_ok l G B cL μ x (by decide) (by decide) hX, hM, r3, fun _ => ?_, ?_, ?_, ?_, ?_⟩
    · rw [o92]
    · exact w1.of fun p h2 h3 => rp p (by omega) (by omega)
    · exact (g2.fn r0).mono (by omega) (Nat.le_refl _)
    · refine ⟨c, o, by omega, ho, ?_, r2, ?_, fun j hj => ?_⟩
      · rw [rp 92 (by decide) (by decide)]; exact o92
      · rw [rp 92 (by decide) (by decide)]; exact o921
      · rw [rp 261 (by decide) (by decide), ho2 261 (by decide) (by decide)]
        have := Nat.mod_lt (o + j) (show 0 < 4 by decide)
        exact ⟨(h6 j (by omega)).1.of fun p h2 h3 => by rw [rp p (by omega) (by omega)]; exact ho2 p (by omega) (by omega), (h6 j (by omega)).2.mono (by omega) (Nat.le_refl _)⟩
    · obtain ⟨L, hL, d1, d2, d3⟩ := h.2.2.2
      refine ⟨L, hL, ?_, ?_, fun i hi => ?_⟩
      · rw [rp 254 (by decide) (by decide), ho2 254 (by decide) (by decide)]; exact d1
      · rw [r99]; exact d2
      · rw [rp 258 (by decide) (by decide), ho2 258 (by decide) (by decide), rp 262 (by decide) (by decide), ho2 262 (by decide) (by decide)]; exact d3 i hi

set_option maxHeartbeats 1000000 in
theorem op_type (l : Launch) (hfl : l.stackTraces = false) (G : GG) (B : Nat) (cL : ClassId) (k : Nat) (μ : Mm) (x : Int64) (p0 : Int32) (_hk : k < 512) (h : INV k μ) : OPC_type l G B cL (INV (k + 1)) μ x p0 := by
  obtain ⟨L, hL, d1, d2, d3⟩ := h.2.2.2
  have hl9 := h.l9
  by_cases c1 : wI p0 0 127 = 0
  · have hM := MX11_type l G B μ p0 hl9
    have e9 : M_type μ p0 = (M_thr μ 1, 0) := (by rw [M_type, M_ask, show M_tyErr μ p0 = 1 from if_pos c1]; rfl)
    rw [e9] at hM
    exact ⟨1, 0, μ, M_thr μ 1, x, L_type_1 l G B cL μ x p0 (by decide) (by decide) (XX10_type_8_2 l hfl G B μ p0 (if_pos c1)), hM, up2_s _ _ _ _, fun q => absurd q (by decide), h.thr 1⟩
  · by_cases c2 : L = 150
    · subst c2
      have hM := MX11_type l G B μ p0 hl9
      have e9 : M_type μ p0 = (M_thr μ 2, 0) := (by rw [M_type, M_ask, show M_tyErr μ p0 = 2 from (if_neg c1).trans (if_neg (by rw [d2]; decide))]; rfl)
      rw [e9] at hM
      exact ⟨2, 0, μ, M_thr μ 2, x, L_type_2 l G B cL μ x p0 (by decide) (by decide) (XX10_type_8_3 l hfl G B μ p0 ((if_neg c1).trans (if_neg (by rw [d1]; decide)))), hM, up2_s _ _ _ _, fun q => absurd q (by decide), h.thr 2⟩
    · have hL2 : L < 150 := by omega
      have hlt : nI L < 150 := nI_lt (b := 150) hL2 (by decide)
      have hX := MX10_type l G B μ p0 ((if_neg c1).trans (if_pos (by rw [d1]; exact hlt)))
      have hD : D_appendM μ p0 = up2 (up2 μ 258 L p0) 254 0 (nI (L + 1)) := (by
        unfold D_appendM
        rw [d1, R_put_nI hL2 (by decide), up2_n (fun z => absurd z.1 (by decide)), d1, nI_1])
      obtain ⟨μ1, hμ1⟩ : ∃ m, m = D_appendM μ p0 := ⟨_, rfl⟩
      rw [← hμ1] at hX hD
      have hn : ∀ p, p ≠ 254 → p ≠ 258 → μ1 p = μ p := fun p h1 h2 => (by rw [hD, up2_k _ _ h1, up2_k _ _ h2])
      have hM := MX11_type l G B μ1 p0 (by rw [hn 259 (by decide) (by decide)]; exact hl9)
      have t9 : M_thr μ1 0 259 9 = nI L := (by rw [show M_thr μ1 0 259 9 = μ1 259 9 from up2_n (by decide), hn 259 (by decide) (by decide)]; exact d2)
      have hT : M_typeM (M_thr μ1 0) p0 = up2 (up2 (M_thr μ1 0) 262 L p0) 259 9 (nI (L + 1)) := (by
        unfold M_typeM
        rw [t9, cn_nI (by omega), up2_n (fun z => absurd z.1 (by decide)), t9, nI_1])
      obtain ⟨ρ, hρ⟩ : ∃ m, m = M_typeM (M_thr μ1 0) p0 := ⟨_, rfl⟩
      have e9 : M_type μ1 p0 = (ρ, ρ 259 9) := (by rw [M_type, M_ask, show M_tyErr μ1 p0 = 0 from (if_neg c1).trans (if_pos (by rw [hn 259 (by decide) (by decide), d2]; exact hlt)), if_pos rfl, ← hρ])
      rw [← hρ] at hT
      rw [e9] at hM
      dsimp only at hM
      have rn : ∀ p, p ≠ 259 → p ≠ 262 → ρ p = μ1 p := fun p h1 h2 => (by rw [hT, up2_k _ _ h1, up2_k _ _ h2]; exact up2_k _ _ h1)
      have r9 : ρ 259 9 = nI (L + 1) := (by rw [hT]; exact up2_s _ _ _ _)
      have r2 : ρ 259 2 = μ 259 2 := (by rw [hT, up2_n (by decide), up2_k _ _ (by decide), show M_thr μ1 0 259 2 = μ1 259 2 from up2_n (by decide), hn 259 (by decide) (by decide)])
      have r3 : ρ 259 3 = 0 := (by rw [hT, up2_n (by decide), up2_k _ _ (by decide)]; exact up2_s _ _ _ _)
      have r62 : ∀ i, ρ 262 i = if i = L then p0 else μ 262 i := fun i => (by
        rw [hT, up2_k _ _ (by decide)]
        by_cases ci : i = L
        · rw [if_pos ci]; exact up2_y ⟨rfl, ci⟩
        · rw [if_neg ci, up2_n (fun z => ci z.2), show M_thr μ1 0 262 = μ1 262 from up2_k _ _ (by decide), hn 262 (by decide) (by decide)])
      have m58 : ∀ i, μ1 258 i = if i = L then p0 else μ 258 i := fun i => (by
        rw [hD, up2_k _ _ (by decide)]
        by_cases ci : i = L
        · rw [if_pos ci]; exact up2_y ⟨rfl, ci⟩
        · rw [if_neg ci, up2_n (fun z => ci z.2)])
      have m54 : μ1 254 0 = nI (L + 1) := (by rw [hD]; exact up2_s _ _ _ _)
      obtain ⟨b1, b2, b3, -⟩ := INV.mono k μ h
      refine ⟨0, _, μ1, ρ, _, L_type_ok l G B cL μ x p0 (by decide) (by decide) hX, hM, r3, fun _ => ?_, ?_, ?_, ?_, L + 1, by omega, ?_, r9, fun i hi => ?_⟩
      · rw [m54, r9]
      · rw [rn 260 (by decide) (by decide), hn 260 (by decide) (by decide)]
        exact b1.of fun p h1 h2 => by rw [rn p (by omega) (by omega)]; exact hn p (by omega) (by omega)
      · rw [rn 260 (by decide) (by decide), hn 260 (by decide) (by decide)]; exact b2
      · rw [rn 261 (by decide) (by decide), hn 261 (by decide) (by decide), r2]
        exact b3.of fun p h1 h2 => by rw [rn p (by omega) (by omega)]; exact hn p (by omega) (by omega)
      · rw [rn 254 (by decide) (by decide)]; exact m54
      · rw [rn 258 (by decide) (by decide), m58, r62]
        by_cases ci : i = L
        · rw [if_pos ci, if_pos ci]
          exact ⟨rfl, wI_vp (n := 127) c1⟩
        · rw [if_neg ci, if_neg ci]
          exact d3 i (by omega)

