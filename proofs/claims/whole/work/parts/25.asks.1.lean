/-! calls that ask -/
theorem thr_260 (μ : Mm) (v : Int32) : M_thr μ v 260 = μ 260 := up2_k _ _ (by decide)
theorem INV.of {k : Nat} {μ ν : Mm} (h : INV k μ) (he : ∀ p, (1 ≤ p ∧ p < 41) ∨ (92 ≤ p ∧ p < 259) ∨ (260 ≤ p ∧ p ≤ 262) → ν p = μ p) (h2 : ν 259 2 = μ 259 2) (h9 : ν 259 9 = μ 259 9) : INV k ν := by
  obtain ⟨a, b, c, L, hL, d1, d2, d3⟩ := h
  refine ⟨?_, ?_, ?_, L, hL, ?_, ?_, fun i hi => ?_⟩
  · rw [he 260 (by omega)]
    exact a.of fun p h1 h3 => he p (by omega)
  · rw [he 260 (by omega)]; exact b
  · rw [he 261 (by omega), h2]
    exact c.of fun p h1 h3 => he p (by omega)
  · rw [he 254 (by omega)]; exact d1
  · rw [h9]; exact d2
  · rw [he 258 (by omega), he 262 (by omega)]; exact d3 i hi
theorem INV.thr {k : Nat} {μ : Mm} (h : INV k μ) (v : Int32) : INV (k + 1) (M_thr μ v) :=
  (INV.mono k μ h).of (fun p hp => up2_k _ _ (by omega)) (by simp [M_thr, up2]) (by simp [M_thr, up2])
theorem INV.st {k : Nat} {μ : Mm} (h : INV k μ) : vp_in (μ 259 2) 5 := by
  obtain ⟨c, o, h1, -, -, h4, -⟩ := h.2.2.1
  rw [h4]
  exact vp_in_nI (by omega) (by decide)
theorem INV.l9 {k : Nat} {μ : Mm} (h : INV k μ) : vp_in (μ 259 9) 151 := by
  obtain ⟨L, h1, -, h3, -⟩ := h.2.2.2
  rw [h3]
  exact vp_in_nI (by omega) (by decide)
theorem REL.thr {μ : Mm} {a : Nat} {v : Int32} (h : REL μ a (μ 260)) : REL μ a (M_thr μ v 260) := by rw [thr_260]; exact h
theorem RNG.thr {N R : Nat} {μ : Mm} {v : Int32} (h : RNG N R (μ 260)) : RNG N R (M_thr μ v 260) := by rw [thr_260]; exact h
theorem what_e (w k k' : Int32) (e : k - 1 = k') : X_what w k = if wI w 0 k' = 0 then 2 else 0 := by unfold X_what; rw [e]
set_option maxHeartbeats 1000000 in
theorem op_trader (l : Launch) (hfl : l.stackTraces = false) (G : GG) (B : Nat) (cL : ClassId) (k : Nat) (μ : Mm) (x : Int64) (p0 : Int32) (p1 : Int32) (_hk : k < 512) (h : INV k μ) : OPC_trader l G B cL (INV (k + 1)) μ x p0 p1 := by
  have hR := h.1
  have hG := h.2.1
  have hI := hG.MI
  have hM := MX11_trader l G B μ p0 p1 hI
  have e1 : T_faultOfNumber μ (1 + 1) p0 = if M_isTrader μ p0 = 0 then 1 else 0 := by unfold T_faultOfNumber; rw [rd_has hR hG]
  have e2 := what_e p1 10 9 rfl
  by_cases c1 : M_isTrader μ p0 = 0
  · have e9 : M_trader μ p0 p1 = (M_thr μ 1, 0) := (by rw [M_trader, M_ask, show M_trErr μ p0 p1 = 1 from if_pos c1]; rfl)
    rw [e9] at hM
    exact ⟨1, 0, μ, M_thr μ 1, x, L_trader_1 l G B cL μ x p0 p1 (by decide) (by decide) (XX10_trader_11_1 l hfl G B μ p0 p1 (e1.trans (if_pos c1))), hM, up2_s _ _ _ _, fun q => absurd q (by decide), h.thr 1⟩
  · by_cases c2 : wI p1 0 9 = 0
    · have e9 : M_trader μ p0 p1 = (M_thr μ 2, 0) := (by rw [M_trader, M_ask, show M_trErr μ p0 p1 = 2 from (if_neg c1).trans (if_pos c2)]; rfl)
      rw [e9] at hM
      exact ⟨2, 0, μ, M_thr μ 2, x, L_trader_2 l G B cL μ x p0 p1 (by decide) (by decide) (XX10_trader_20_2 l hfl G B μ p0 p1 (e1.trans (if_neg c1)) (e2.trans (if_pos c2))), hM, up2_s _ _ _ _, fun q => absurd q (by decide), h.thr 2⟩
    · have e9 : M_trader μ p0 p1 = (M_thr μ 0, M_tellsTrader (M_thr μ 0) p0 p1) := (by rw [M_trader, M_ask, show M_trErr μ p0 p1 = 0 from (if_neg c1).trans (if_neg c2), if_pos rfl])
      rw [e9] at hM
      refine ⟨0, _, μ, M_thr μ 0, _, L_trader_ok l G B cL μ x p0 p1 (by decide) (by decide) (MX10_trader l G B μ p0 p1 (e1.trans (if_neg c1)) (e2.trans (if_neg c2))), hM, up2_s _ _ _ _, fun _ => ?_, h.thr 0⟩
      obtain ⟨j, hj, rfl⟩ := rd_tr hG c1
      exact congrArg _ (rd_trader hR.thr hG.thr (by rw [thr_260]; exact hj) (wI_vp (n := 9) c2))

theorem find_at {N R : Nat} {ν : Mm} (g : RNG N R (ν 260)) {x : Int32} (h : ¬ M_find ν x < 0) : ∃ j, j < cn (ν 260 1) ∧ M_find ν x = nI j := by
  obtain ⟨j, hj, e⟩ := nI_of h
  have := findJ h g.MI
  rw [e, cn_nI hj] at this
  exact ⟨j, this, e⟩
theorem fn_e {N R a : Nat} {μ ν : Mm} (h : REL μ a (ν 260)) (g : RNG N R (ν 260)) (x : Int32) : O_faultOfNumber μ (a + 16) x = M_fdErr ν x := by
  unfold O_faultOfNumber M_fdErr
  rw [rd_find h g]

set_option maxHeartbeats 1000000 in
theorem op_orderOf (l : Launch) (hfl : l.stackTraces = false) (G : GG) (B : Nat) (cL : ClassId) (k : Nat) (μ : Mm) (x : Int64) (p0 : Int32) (p1 : Int32) (_hk : k < 512) (h : INV k μ) : OPC_orderOf l G B cL (INV (k + 1)) μ x p0 p1 := by
  have hR := h.1
  have hG := h.2.1
  have hI := hG.MI
  have hM := MX11_orderOf l G B μ p0 p1 hI
  have e1 : O_faultOfNumber μ (1 + 16) p0 = if M_find μ p0 < 0 then 1 else 0 := fn_e hR hG p0
  have e2 := what_e p1 5 4 rfl
  by_cases c1 : M_find μ p0 < 0
  · have e9 : M_orderOf μ p0 p1 = (M_thr μ 1, 0) := (by rw [M_orderOf, M_ask, show M_orErr μ p0 p1 = 1 from if_pos c1]; rfl)
    rw [e9] at hM
    exact ⟨1, 0, μ, M_thr μ 1, x, L_orderOf_1 l G B cL μ x p0 p1 (by decide) (by decide) (XX10_orderOf_11_1 l hfl G B μ p0 p1 (e1.trans (if_pos c1))), hM, up2_s _ _ _ _, fun q => absurd q (by decide), h.thr 1⟩
  · by_cases c2 : wI p1 0 4 = 0
    · have e9 : M_orderOf μ p0 p1 = (M_thr μ 2, 0) := (by rw [M_orderOf, M_ask, show M_orErr μ p0 p1 = 2 from (if_neg c1).trans (if_pos c2)]; rfl)
      rw [e9] at hM
      exact ⟨2, 0, μ, M_thr μ 2, x, L_orderOf_2 l G B cL μ x p0 p1 (by decide) (by decide) (XX10_orderOf_19_2 l hfl G B μ p0 p1 (e1.trans (if_neg c1)) (e2.trans (if_pos c2))), hM, up2_s _ _ _ _, fun q => absurd q (by decide), h.thr 2⟩
    · have e9 : M_orderOf μ p0 p1 = (M_thr μ 0, M_tellsOrder (M_thr μ 0) (M_find (M_thr μ 0) p0) p1) := (by rw [M_orderOf, M_ask, show M_orErr μ p0 p1 = 0 from (if_neg c1).trans (if_neg c2), if_pos rfl])
      rw [e9] at hM
      refine ⟨0, _, μ, M_thr μ 0, _, L_orderOf_ok l G B cL μ x p0 p1 (by decide) (by decide) (MX10_orderOf l G B μ p0 p1 (e1.trans (if_neg c1)) (e2.trans (if_neg c2))), hM, up2_s _ _ _ _, fun _ => ?_, h.thr 0⟩
      rw [rd_find hR.thr hG.thr]
      obtain ⟨j, hj, ej⟩ := find_at hG.thr (ν := M_thr μ 0) (x := p0) (by rw [find_260 (thr_260 μ 0)]; exact c1)
      rw [ej]
      exact congrArg _ (rd_order hR.thr hG.thr hj (wI_vp (n := 4) c2))

set_option maxHeartbeats 1000000 in
theorem op_trade (l : Launch) (hfl : l.stackTraces = false) (G : GG) (B : Nat) (cL : ClassId) (k : Nat) (μ : Mm) (x : Int64) (p0 : Int32) (p1 : Int32) (_hk : k < 512) (h : INV k μ) : OPC_trade l G B cL (INV (k + 1)) μ x p0 p1 := by
  have hR := h.1
  have hG := h.2.1
  have hI := hG.MI
  have hM := MX11_trade l G B μ p0 p1 hI
  have e2 := what_e p1 5 4 rfl
  by_cases c1 : p0 < 0
  · have e9 : M_trade μ p0 p1 = (M_thr μ 1, 0) := (by rw [M_trade, M_ask, show M_tdErr p0 p1 = 1 from if_pos c1]; rfl)
    rw [e9] at hM
    exact ⟨1, 0, μ, M_thr μ 1, x, L_trade_1 l G B cL μ x p0 p1 (by decide) (by decide) (XX10_trade_neg l hfl G B μ p0 p1 c1), hM, up2_s _ _ _ _, fun q => absurd q (by decide), h.thr 1⟩
  · by_cases c2 : wI p1 0 4 = 0
    · have e9 : M_trade μ p0 p1 = (M_thr μ 1, 0) := (by rw [M_trade, M_ask, show M_tdErr p0 p1 = 1 from (if_neg c1).trans (if_pos c2)]; rfl)
      rw [e9] at hM
      exact ⟨1, 0, μ, M_thr μ 1, x, L_trade_1 l G B cL μ x p0 p1 (by decide) (by decide) (XX10_trade_13_2 l hfl G B μ p0 p1 c1 (e2.trans (if_pos c2))), hM, up2_s _ _ _ _, fun q => absurd q (by decide), h.thr 1⟩
    · have e9 : M_trade μ p0 p1 = (M_thr μ 0, M_tells_td (M_thr μ 0) p0 p1) := (by rw [M_trade, M_ask, show M_tdErr p0 p1 = 0 from (if_neg c1).trans (if_neg c2), if_pos rfl])
      rw [e9] at hM
      refine ⟨0, _, μ, M_thr μ 0, _, L_trade_ok l G B cL μ x p0 p1 (by decide) (by decide) (MX10_trade l G B μ p0 p1 c1 (e2.trans (if_neg c2))), hM, up2_s _ _ _ _, fun _ => ?_, h.thr 0⟩
      exact congrArg _ (rd_trade hR.thr hG.thr c1 (wI_vp (n := 4) c2))

set_option maxHeartbeats 1000000 in
theorem op_at (l : Launch) (hfl : l.stackTraces = false) (G : GG) (B : Nat) (cL : ClassId) (k : Nat) (μ : Mm) (x : Int64) (p0 : Int32) (p1 : Int32) (_hk : k < 512) (h : INV k μ) : OPC_at l G B cL (INV (k + 1)) μ x p0 p1 := by
  have hR := h.1
  have hG := h.2.1
  have hI := hG.MI
  have hM := MX11_at l G B μ p0 p1 hI
  have e2 := what_e p1 3 2 rfl
  by_cases c1 : wI p0 1 120 = 0
  · have e9 : M_at μ p0 p1 = (M_thr μ 1, 0) := (by rw [M_at, M_ask, show M_atErr p0 p1 = 1 from if_pos c1]; rfl)
    rw [e9] at hM
    exact ⟨1, 0, μ, M_thr μ 1, x, L_at_1 l G B cL μ x p0 p1 (by decide) (by decide) (XX10_at_4_2 l hfl G B μ p0 p1 (if_pos c1)), hM, up2_s _ _ _ _, fun q => absurd q (by decide), h.thr 1⟩
  · by_cases c2 : wI p1 0 2 = 0
    · have e9 : M_at μ p0 p1 = (M_thr μ 1, 0) := (by rw [M_at, M_ask, show M_atErr p0 p1 = 1 from (if_neg c1).trans (if_pos c2)]; rfl)
      rw [e9] at hM
      exact ⟨1, 0, μ, M_thr μ 1, x, L_at_1 l G B cL μ x p0 p1 (by decide) (by decide) (XX10_at_12_2 l hfl G B μ p0 p1 (if_neg c1) (e2.trans (if_pos c2))), hM, up2_s _ _ _ _, fun q => absurd q (by decide), h.thr 1⟩
    · have e9 : M_at μ p0 p1 = (M_thr μ 0, M_tellsAt (M_thr μ 0) p0 p1) := (by rw [M_at, M_ask, show M_atErr p0 p1 = 0 from (if_neg c1).trans (if_neg c2), if_pos rfl])
      rw [e9] at hM
      refine ⟨0, _, μ, M_thr μ 0, _, L_at_ok l G B cL μ x p0 p1 (by decide) (by decide) (MX10_at l G B μ p0 p1 (if_neg c1) (e2.trans (if_neg c2))), hM, up2_s _ _ _ _, fun _ => ?_, h.thr 0⟩
      exact congrArg _ (rd_bookValue hR.thr hG.thr (wI_vp (n := 2) c2))

theorem rd_whole {μ ν : Mm} {w : Int32} (h : REL μ 1 (ν 260)) (h9 : μ 254 0 = ν 259 9) (hw : vp_in w 12) : X_whole μ w = M_tellsWhole ν w := by
  obtain ⟨q, hq, rfl⟩ := vp_nI hw (by decide)
  obtain ⟨⟨e1, e2, e3, e4, e5, e6, e7, e8, e9, e10, e11⟩, -⟩ := h
  unfold X_whole M_tellsWhole A_wholeValue
  rcases (show q = 0 ∨ q = 1 ∨ q = 2 ∨ q = 3 ∨ q = 4 ∨ q = 5 ∨ q = 6 ∨ q = 7 ∨ q = 8 ∨ q = 9 ∨ q = 10 ∨ q = 11 by omega) with rfl | rfl | rfl | rfl | rfl | rfl | rfl | rfl | rfl | rfl | rfl | rfl
  · exact e1
  · exact e2
  · exact e3
  · exact e4
  · exact e5
  · exact e6
  · exact e7
  · exact e8
  · exact e9
  · exact e10
  · exact e11
  · exact h9
theorem INV.len {k : Nat} {μ : Mm} (h : INV k μ) : μ 254 0 = μ 259 9 := by
  obtain ⟨L, -, h2, h3, -⟩ := h.2.2.2
  rw [h2, h3]

set_option maxHeartbeats 1000000 in
theorem op_whole (l : Launch) (hfl : l.stackTraces = false) (G : GG) (B : Nat) (cL : ClassId) (k : Nat) (μ : Mm) (x : Int64) (p0 : Int32) (_hk : k < 512) (h : INV k μ) : OPC_whole l G B cL (INV (k + 1)) μ x p0 := by
  have hR := h.1
  have hG := h.2.1
  have hI := hG.MI
  have hM := MX11_whole l G B μ p0
  have e2 := what_e p0 12 11 rfl
  by_cases c1 : wI p0 0 11 = 0
  · have e9 : M_whole μ p0 = (M_thr μ 1, 0) := (by rw [M_whole, M_ask, show (if wI p0 0 11 = 0 then (1 : Int32) else 0) = 1 from if_pos c1]; rfl)
    rw [e9] at hM
    exact ⟨1, 0, μ, M_thr μ 1, x, L_whole_1 l G B cL μ x p0 (by decide) (by decide) (XX10_whole_6_2 l hfl G B μ p0 (e2.trans (if_pos c1))), hM, up2_s _ _ _ _, fun q => absurd q (by decide), h.thr 1⟩
  · have e9 : M_whole μ p0 = (M_thr μ 0, M_tellsWhole (M_thr μ 0) p0) := (by rw [M_whole, M_ask, show (if wI p0 0 11 = 0 then (1 : Int32) else 0) = 0 from if_neg c1, if_pos rfl])
    rw [e9] at hM
    refine ⟨0, _, μ, M_thr μ 0, _, L_whole_ok l G B cL μ x p0 (by decide) (by decide) (MX10_whole l G B μ p0 (e2.trans (if_neg c1))), hM, up2_s _ _ _ _, fun _ => ?_, h.thr 0⟩
    exact congrArg _ (rd_whole hR.thr (by rw [show M_thr μ 0 259 9 = μ 259 9 from by simp [M_thr, up2]]; exact h.len) (wI_vp (n := 11) c1))

set_option maxHeartbeats 1000000 in
theorem op_clearCommands (l : Launch) (hfl : l.stackTraces = false) (G : GG) (B : Nat) (k : Nat) (μ : Mm) (_hk : k < 512) (h : INV k μ) : OPC_clearCommands l G B (INV (k + 1)) μ := by
  have hM := MX11_clearCommands l G B (up2 μ 254 0 0)
  refine ⟨μ 254 0, up2 μ 254 0 0, up2 (M_thr (up2 μ 254 0 0) 0) 259 9 0, MX10_clearCommands l G B μ, ?_, ?_⟩
  · have e : (M_clearCommands (up2 μ 254 0 0)).2 = μ 254 0 := by
      rw [h.len]
      show M_thr (up2 μ 254 0 0) 0 259 9 = μ 259 9
      simp [M_thr, up2]
    rw [e] at hM
    exact hM
  · obtain ⟨a, b, c, L, hL, d1, d2, d3⟩ := INV.mono k μ h
    have e : ∀ p, p ≠ 254 → p ≠ 259 → up2 (M_thr (up2 μ 254 0 0) 0) 259 9 0 p = μ p := fun p h1 h2 => by rw [up2_k _ _ h2]; exact (up2_k _ _ h2).trans (up2_k _ _ h1)
    refine ⟨?_, ?_, ?_, 0, by decide, ?_, ?_, fun i hi => absurd hi (Nat.not_lt_zero i)⟩
    · rw [e 260 (by decide) (by decide)]
      exact a.of fun p h1 h3 => e p (by omega) (by omega)
    · rw [e 260 (by decide) (by decide)]; exact b
    · rw [e 261 (by decide) (by decide), show up2 (M_thr (up2 μ 254 0 0) 0) 259 9 0 259 2 = μ 259 2 from by simp [M_thr, up2]]
      exact c.of fun p h1 h3 => e p (by omega) (by omega)
    · simp [M_thr, up2]; rfl
    · exact up2_s _ _ _ _

