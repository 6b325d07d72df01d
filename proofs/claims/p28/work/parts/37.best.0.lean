noncomputable section
/-! a row with another split is the same book -/
theorem nT_3 (f : Nat → Int32) (v : Int32) : nT (ch f 3 v) = nT f := funext fun k => by unfold nT; rw [ch_n (by omega)]
theorem nP_3 (f : Nat → Int32) (v : Int32) : nP (ch f 3 v) = nP f := funext fun k => by unfold nP; rw [ch_n (by omega)]
theorem nU_3 (f : Nat → Int32) (v : Int32) : nU (ch f 3 v) = nU f := funext fun k => by unfold nU; rw [ch_n (by omega)]
theorem nS_3 (f : Nat → Int32) (v : Int32) : nS (ch f 3 v) = nS f := funext fun k => by unfold nS; rw [nT_3, ch_n (by omega)]
theorem nW_3 (f : Nat → Int32) (v : Int32) : nW (ch f 3 v) = nW f := funext fun k => by unfold nW; rw [nS_3, nP_3]
theorem n1_3 (f : Nat → Int32) (v : Int32) : ch f 3 v 1 = f 1 := ch_n (by decide)
theorem gs_3 (f : Nat → Int32) (v : Int32) : gs (ch f 3 v) = gs f := by
  have h1 : volN (ch f 3 v) = volN f := funext fun p => by
    unfold volN dD dY
    rw [nS_3, nP_3, nU_3, n1_3]
  funext k s
  unfold gs
  rw [h1]
theorem gsR_3 (f : Nat → Int32) (v : Int32) (k : Nat) : gsR (ch f 3 v) k = gsR f k := by unfold gsR; rw [gs_3]
theorem VN_3 (f : Nat → Int32) (v : Int32) : VN (ch f 3 v) = VN f := by unfold VN; rw [gsR_3]
theorem gF_3 (f : Nat → Int32) (v p : Int32) (t : Nat) : gF (ch f 3 v) t p = gF f t p := by
  have h1 : fN (ch f 3 v) = fN f := funext fun V => funext fun k => by
    unfold fN aN
    rw [nS_3, nW_3, nU_3, n1_3]
  unfold gF gT
  rw [nT_3, VN_3, h1, n1_3, ch_n (by omega), ch_n (by omega)]
/-- best and most so far, of gains G -/
def BG (G : Nat → Int32) : Nat → Int32 × Int32
  | 0 => (0, G 0)
  | k + 1 => if (BG G k).2 < G (k + 1) then (nI (k + 1), G (k + 1)) else BG G k
theorem BG_nn (G : Nat → Int32) : ∀ k, k < 2 ^ 31 → ¬ (BG G k).1 = -10000
  | 0, _ => by show ¬ (0 : Int32) = -10000; decide
  | k + 1, hk => by
    show ¬ (if (BG G k).2 < G (k + 1) then (nI (k + 1), G (k + 1)) else BG G k).1 = -10000
    split
    · intro e
      have e2 : nI (k + 1) = -10000 := e
      have := nI_pos (n := k + 1) hk
      rw [e2] at this
      exact this (by decide)
    · exact BG_nn G k (by omega)
/-! another price for the order placed -/
theorem wr_price {μ : Mm} {a k N R : Nat} {f : Nat → Int32} {b : Int32} (h : REL μ a f) (g : RNG N R f) (hk : k < cn (f 1)) : REL (R_put μ (a + 16 + 7) 20 (nI k) b) a (ch f (69 + 5 * k) b) := by
  have hc := g.c0
  rw [R_put_nI (by omega) (by decide)]
  obtain ⟨h1, h2, h3, h4⟩ := h
  have m : ∀ q i, ¬ (q = a + 24 ∧ i = k) → up2 μ (a + 16 + 7 + 1) k b q i = μ q i := fun q i hq => up2_n (by omega)
  have e : ∀ i, i ≠ 69 + 5 * k → ch f (69 + 5 * k) b i = f i := fun i hi => ch_n hi
  refine ⟨⟨?_, ?_, ?_, ?_, ?_, ?_, ?_, ?_, ?_, ?_, ?_⟩, fun t ht w hw => ?_, fun j hj => ?_, fun i hi w hw => ?_⟩
  · rw [m _ _ (by omega), e _ (by omega)]; exact h1.1
  · rw [m _ _ (by omega), e _ (by omega)]; exact h1.2.1
  · rw [m _ _ (by omega), e _ (by omega)]; exact h1.2.2.1
  · rw [m _ _ (by omega), e _ (by omega)]; exact h1.2.2.2.1
  · rw [m _ _ (by omega), e _ (by omega)]; exact h1.2.2.2.2.1
  · rw [m _ _ (by omega), e _ (by omega)]; exact h1.2.2.2.2.2.1
  · rw [m _ _ (by omega), e _ (by omega)]; exact h1.2.2.2.2.2.2.1
  · rw [m _ _ (by omega), e _ (by omega)]; exact h1.2.2.2.2.2.2.2.1
  · rw [m _ _ (by omega), e _ (by omega)]; exact h1.2.2.2.2.2.2.2.2.1
  · rw [m _ _ (by omega), e _ (by omega)]; exact h1.2.2.2.2.2.2.2.2.2.1
  · rw [m _ _ (by omega), e _ (by omega)]; exact h1.2.2.2.2.2.2.2.2.2.2
  · rw [e 0 (by omega)] at ht
    rw [m _ _ (by omega), e _ (by omega)]
    exact h2 t ht w hw
  · rw [e 1 (by omega)] at hj
    have q := h3 j hj
    have hw := (g.2.2.2.2.2.2.1 j hj).2.1
    rw [m (a + 18) _ (by omega), m (a + 20) _ (by omega), m (a + 26) _ (by omega), m (a + 28) _ (by omega), m (a + 22) _ (by omega), e (67 + 5 * j) (by omega), e (68 + 5 * j) (by omega), e (70 + 5 * j) (by omega), e (71 + 5 * j) (by omega), e (11 + 7 * cn (f (68 + 5 * j))) (by omega)]
    by_cases c : j = k
    · subst c
      refine ⟨q.1, q.2.1, ?_, q.2.2.2⟩
      rw [up2_y ⟨rfl, rfl⟩]
      exact (ch_y _ _ _).symm
    · rw [m (a + 24) _ (by omega), e (69 + 5 * j) (by omega)]
      exact q
  · rw [e 9 (by omega)] at hi
    rw [m _ _ (by omega), e _ (by omega)]
    exact h4 i hi w hw
theorem rg_price {k N R : Nat} {f : Nat → Int32} {b : Int32} (g : RNG N R f) (hk : k < cn (f 1)) (hb : vp_in b 121 ∧ b ≠ 0) : RNG N R (ch f (69 + 5 * k) b) := by
  have hc := g.c0
  have e : ∀ i, i ≠ 69 + 5 * k → ch f (69 + 5 * k) b i = f i := fun i hi => ch_n hi
  obtain ⟨g1, g2, g3, g4, g5, g6, g7, g8⟩ := g
  refine ⟨⟨?_, ?_, ?_, fun j hj => ?_⟩, ?_, ?_, ?_, ?_, fun t ht => ?_, fun j hj => ?_, fun i j hi hj => ?_⟩
  · rw [e 0 (by omega)]; exact g1.1
  · rw [e 1 (by omega)]; exact g1.2.1
  · rw [e 9 (by omega)]; exact g1.2.2.1
  · rw [e _ (by omega)]; exact g1.2.2.2 j hj
  · rw [e 2 (by omega)]; exact g2
  · rw [e 3 (by omega)]; exact g3
  · rw [e 4 (by omega)]; exact g4
  · rw [e 5 (by omega)]; exact g5
  · rw [e 0 (by omega)] at ht
    rw [e _ (by omega), e _ (by omega), e _ (by omega), e _ (by omega)]; exact g6 t ht
  · rw [e 1 (by omega)] at hj
    have q := g7 j hj
    rw [e (67 + 5 * j) (by omega), e (68 + 5 * j) (by omega), e (70 + 5 * j) (by omega), e (71 + 5 * j) (by omega), e 5 (by omega), e 0 (by omega), e 2 (by omega)]
    by_cases c : j = k
    · subst c
      rw [ch_y]
      exact ⟨q.1, q.2.1, hb, q.2.2.2⟩
    · rw [e (69 + 5 * j) (by omega)]
      exact q
  · rw [e 1 (by omega)] at hj
    rw [e _ (by omega), e _ (by omega)]; exact g8 i j hi hj
theorem bidBy_rng {ν : Mm} {N R j : Nat} {s : Int32} (g : RNG N R (ν 260)) (hj : j < cn (ν 260 0)) (hs1 : 0 ≤ s.toInt) (hs2 : s.toInt < 51) : vp_in (M_bidBy ν (nI j) s) 121 ∧ M_bidBy ν (nI j) s ≠ 0 := by
  have hc := g.c0
  obtain ⟨-, ⟨gv, gv0⟩, -, -⟩ := g.2.2.2.2.2.1 j hj
  obtain ⟨v, hv, ev⟩ := vp_nI gv (by decide)
  have hv0 : v ≠ 0 := fun c => gv0 (by rw [ev, c]; rfl)
  have q1 : M_t ν (nI j) 1 = nI v := by
    rw [show (1 : Int32) = nI 1 from rfl, M_t_nI (by omega) (by decide), show 11 + 7 * j + 1 = 12 + 7 * j by omega, ev]
  unfold M_bidBy
  rw [q1]
  have ev2 := nI_toInt (n := v) (by omega)
  have e1 : (1 : Int32).toInt = 1 := rfl
  have e120 : (120 : Int32).toInt = 120 := rfl
  split
  · have es := sub_i (x := nI v) (y := s) (by omega) (by omega)
    split
    · exact ⟨vpd rfl, by decide⟩
    · rename_i c
      have c2 : ¬ (nI v - s).toInt < (1 : Int32).toInt := fun z => c (Int32.lt_iff_toInt_lt.mpr z)
      exact i_vp (by omega) (by omega) (by decide)
  · have es := add_i (x := nI v) (y := s) (by omega) (by omega)
    split
    · exact ⟨vpd rfl, by decide⟩
    · rename_i c
      have c2 : ¬ (120 : Int32).toInt < (nI v + s).toInt := fun z => c (Int32.lt_iff_toInt_lt.mpr z)
      exact i_vp (by omega) (by omega) (by decide)
theorem bidBy_row {ν ν' : Mm} {t : Nat} {s : Int32} (ht : t < 8) (h0 : ν' 260 (11 + 7 * t) = ν 260 (11 + 7 * t)) (h1 : ν' 260 (12 + 7 * t) = ν 260 (12 + 7 * t)) : M_bidBy ν' (nI t) s = M_bidBy ν (nI t) s := by
  have q0 : ∀ κ : Mm, M_t κ (nI t) 0 = κ 260 (11 + 7 * t) := fun κ => by
    rw [show (0 : Int32) = nI 0 from rfl, M_t_nI ht (by decide)]; rfl
  have q1 : ∀ κ : Mm, M_t κ (nI t) 1 = κ 260 (12 + 7 * t) := fun κ => by
    rw [show (1 : Int32) = nI 1 from rfl, M_t_nI ht (by decide), show 11 + 7 * t + 1 = 12 + 7 * t by omega]
  unfold M_bidBy
  rw [q0, q0, q1, q1, h0, h1]
/-- the memory of the reference between two tries -/
def BT (ρ s : Mm) (t : Nat) : Prop := (∀ i, ¬ (67 + 5 * cn (ρ 260 1) ≤ i ∧ i < 72 + 5 * cn (ρ 260 1)) → s 260 i = ρ 260 i) ∧ vp_in (s 260 (68 + 5 * cn (ρ 260 1))) 8 ∧ (∀ q, q ≠ 259 → q ≠ 260 → s q = ρ q) ∧ ∀ i, i ≠ 4 → i ≠ 5 → i ≠ 6 → i ≠ 7 → s 259 i = ρ 259 i
theorem places_eq {ρ s : Mm} {N R t : Nat} {b : Int32} (g : RNG N R (ρ 260)) (hN : N + 1 < 2 ^ 31) (hn : cn (ρ 260 1) < 20) (h : BT ρ s t) : M_placesM s (nI t) b 1 260 = M_placesM ρ (nI t) b 1 260 := by
  obtain ⟨n, hn2, e1⟩ : ∃ n, n < 20 ∧ ρ 260 1 = nI n := ⟨_, hn, (vp_of2 g.1.2.1 (by decide)).1⟩
  obtain ⟨q, hpN, e5⟩ := g.2.2.2.2.1
  have hcn : cn (ρ 260 1) = n := by rw [e1, cn_nI (by omega)]
  have h1 := h.1
  rw [hcn] at h1
  funext i
  rw [places_row ρ (t := t) b 1 hn2 e1 e5 i, places_row s (t := t) b 1 hn2 ((h1 1 (by omega)).trans e1) ((h1 5 (by omega)).trans e5) i, h1 2 (by omega)]
  by_cases c : 67 + 5 * n ≤ i ∧ i < 72 + 5 * n
  · rcases (show i = 67 + 5 * n ∨ i = 68 + 5 * n ∨ i = 69 + 5 * n ∨ i = 70 + 5 * n ∨ i = 71 + 5 * n by omega) with d | d | d | d | d
    all_goals repeat (first | rw [if_pos d] | rw [if_neg (by omega)])
  · rw [h1 i c]
theorem places_260 {ρ s : Mm} {N R t : Nat} {b : Int32} (g : RNG N R (ρ 260)) (hN : N + 1 < 2 ^ 31) (hn : cn (ρ 260 1) < 20) (h : s 260 = ρ 260) : M_placesM s (nI t) b 1 260 = M_placesM ρ (nI t) b 1 260 := by
  obtain ⟨n, hn2, e1⟩ : ∃ n, n < 20 ∧ ρ 260 1 = nI n := ⟨_, hn, (vp_of2 g.1.2.1 (by decide)).1⟩
  obtain ⟨q, hpN, e5⟩ := g.2.2.2.2.1
  funext i
  rw [places_row ρ (t := t) b 1 hn2 e1 e5 i, places_row s (t := t) b 1 hn2 (by rw [h]; exact e1) (by rw [h]; exact e5) i, h]
theorem BT_rng {ρ s : Mm} {N R t : Nat} (h : BT ρ s t) (g : RNG N R (ρ 260)) (hn : cn (ρ 260 1) < 20) : RNG N R (s 260) := by
  have hc := g.c0
  refine g.lv (fun i hi => h.1 i (by unfold LV at hi; omega)) fun k hk => ?_
  by_cases c : k = cn (ρ 260 1)
  · rw [c]; exact h.2.1
  · rw [h.1 _ (by omega)]; exact g.1.2.2.2 k hk
theorem BT_gain {ρ s : Mm} {N R t : Nat} {b : Int32} (h : BT ρ s t) (g : RNG N R (ρ 260)) (hN : N + 1 < 2 ^ 31) (hn : cn (ρ 260 1) < 20) (ht : t < cn (ρ 260 0)) : BT ρ (M_gainM s (nI t) b) t := by
  have hc := g.c0
  have e1 : s 260 1 = ρ 260 1 := h.1 1 (by omega)
  have e0 : s 260 0 = ρ 260 0 := h.1 0 (by omega)
  obtain ⟨w1, w2, w3, w4⟩ := gainM_row (p := b) (BT_rng h g hn) hN (by rw [e1]; exact hn) (by rw [e0]; exact ht)
  rw [e1] at w1 w2
  refine ⟨fun i hi => (w1 i hi).trans (h.1 i hi), ?_, fun q h1 h2 => (w3 q h1 h2).trans (h.2.2.1 q h1 h2), fun i h1 h2 h3 h4 => (w4 i h1 h2 h3 h4).trans (h.2.2.2 i h1 h2 h3 h4)⟩
  rw [w2]; exact vp_in_nI (by omega) (by decide)
/-- the gain at a bid, by the row with the order placed -/
def gW (ρ : Mm) (t : Nat) (b : Int32) : Int32 := gF (M_placesM ρ (nI t) b 1 260) t (prI (gsR (M_placesM ρ (nI t) b 1 260) 120) (M_placesM ρ (nI t) b 1 260 3))
theorem places_0 {ρ : Mm} {N R t : Nat} {b : Int32} (g : RNG N R (ρ 260)) (hN : N + 1 < 2 ^ 31) (hn : cn (ρ 260 1) < 20) : ∀ i, i ≠ 1 → i ≠ 5 → i < 67 → M_placesM ρ (nI t) b 1 260 i = ρ 260 i := fun i h1 h5 h67 => by
  obtain ⟨n, hn2, e1⟩ : ∃ n, n < 20 ∧ ρ 260 1 = nI n := ⟨_, hn, (vp_of2 g.1.2.1 (by decide)).1⟩
  obtain ⟨q, hpN, e5⟩ := g.2.2.2.2.1
  rw [places_row ρ (t := t) b 1 hn2 e1 e5, if_neg h1, if_neg h5, if_neg (by omega), if_neg (by omega), if_neg (by omega), if_neg (by omega), if_neg (by omega)]
theorem rg_places {ρ : Mm} {N R t : Nat} {b : Int32} (g : RNG N R (ρ 260)) (hN : N + 1 < 2 ^ 31) (hR : R < 2 ^ 31) (hn : cn (ρ 260 1) < 20) (ht : t < cn (ρ 260 0)) (hb : vp_in b 121 ∧ b ≠ 0) (μ : Mm) {a : Nat} (h : REL μ a (ρ 260)) : RNG (N + 1) R (M_placesM ρ (nI t) b 1 260) := (wr_place (u := 1) h g hN hR hn ht hb ⟨vpd rfl, by decide⟩).2
theorem BT_val {ρ s : Mm} {N R t : Nat} {b : Int32} (h : BT ρ s t) (g : RNG N R (ρ 260)) (hN : N + 1 < 2 ^ 31) (hR : R < 2 ^ 31) (hn : cn (ρ 260 1) < 20) (ht : t < cn (ρ 260 0)) (hb : vp_in b 121 ∧ b ≠ 0) (μ : Mm) {a : Nat} (hμ : REL μ a (ρ 260)) : (M_gainBy s (nI t) b).2 = gW ρ t b := by
  have e := places_eq (b := b) g hN hn h
  have g2 := rg_places g hN hR hn ht hb μ hμ
  show M_gainsOf (M_finds (M_placesM s (nI t) b 1)) (nI t) = _
  rw [gainM (κ := M_placesM s (nI t) b 1) (N := N + 1) (R := R) (by rw [e]; exact g2) (by rw [e, places_0 g hN hn 0 (by decide) (by decide) (by decide)]; exact ht), e]
  rfl
theorem MS_at {ρ : Mm} {N R t : Nat} (g : RNG N R (ρ 260)) (hN : N + 1 < 2 ^ 31) (hR : R < 2 ^ 31) (hn : cn (ρ 260 1) < 20) (ht : t < cn (ρ 260 0)) (μ : Mm) {a : Nat} (hμ : REL μ a (ρ 260)) : ∀ k, k ≤ 50 → BT ρ (MS_run ρ (nI t) k).1 t ∧ (MS_run ρ (nI t) k).2 = BG (fun k => gW ρ t (M_bidBy ρ (nI t) (nI k))) k
  | 0, _ => by
    have hc := g.c0
    have h0 : BT ρ ρ t := ⟨fun i _ => rfl, by have := g.1.2.2.2 _ hn; exact this, fun q _ _ => rfl, fun i _ _ _ _ => rfl⟩
    have hb := bidBy_rng (s := 0) g ht (by decide) (by decide)
    refine ⟨BT_gain h0 g hN hn ht, ?_⟩
    show (0, (M_gainBy ρ (nI t) (M_bidBy ρ (nI t) 0)).2) = (0, gW ρ t (M_bidBy ρ (nI t) (nI 0)))
    rw [BT_val h0 g hN hR hn ht hb μ hμ]
    rfl
  | k + 1, hk => by
    have hc := g.c0
    obtain ⟨h1, h2⟩ := MS_at g hN hR hn ht μ hμ k (by omega)
    have es : MS_run ρ (nI t) (k + 1) = ((M_gainBy (MS_run ρ (nI t) k).1 (nI t) (M_bidBy (MS_run ρ (nI t) k).1 (nI t) (nI (k + 1)))).1, if (MS_run ρ (nI t) k).2.2 < (M_gainBy (MS_run ρ (nI t) k).1 (nI t) (M_bidBy (MS_run ρ (nI t) k).1 (nI t) (nI (k + 1)))).2 then nI (k + 1) else (MS_run ρ (nI t) k).2.1, if (MS_run ρ (nI t) k).2.2 < (M_gainBy (MS_run ρ (nI t) k).1 (nI t) (M_bidBy (MS_run ρ (nI t) k).1 (nI t) (nI (k + 1)))).2 then (M_gainBy (MS_run ρ (nI t) k).1 (nI t) (M_bidBy (MS_run ρ (nI t) k).1 (nI t) (nI (k + 1)))).2 else (MS_run ρ (nI t) k).2.2) := rfl
    rw [es]
    generalize MS_run ρ (nI t) k = s at h1 h2
    have eb : M_bidBy s.1 (nI t) (nI (k + 1)) = M_bidBy ρ (nI t) (nI (k + 1)) := bidBy_row (by omega) (h1.1 _ (by omega)) (h1.1 _ (by omega))
    have hb := bidBy_rng (s := nI (k + 1)) g ht (by rw [nI_toInt (by omega)]; omega) (by rw [nI_toInt (by omega)]; omega)
    rw [eb, BT_val h1 g hN hR hn ht hb μ hμ]
    refine ⟨BT_gain h1 g hN hn ht, ?_⟩
    show (if s.2.2 < gW ρ t (M_bidBy ρ (nI t) (nI (k + 1))) then nI (k + 1) else s.2.1, if s.2.2 < gW ρ t (M_bidBy ρ (nI t) (nI (k + 1))) then gW ρ t (M_bidBy ρ (nI t) (nI (k + 1))) else s.2.2) = if (BG (fun k => gW ρ t (M_bidBy ρ (nI t) (nI k))) k).2 < gW ρ t (M_bidBy ρ (nI t) (nI (k + 1))) then (nI (k + 1), gW ρ t (M_bidBy ρ (nI t) (nI (k + 1)))) else BG (fun k => gW ρ t (M_bidBy ρ (nI t) (nI k))) k
    rw [h2]
    split <;> rfl
/-- the class's tries -/
theorem BS_at {κ ρ : Mm} {N R t : Nat} (g : RNG N R (ρ 260)) (hN : N + 1 < 2 ^ 31) (hR : R < 2 ^ 31) (hn : cn (ρ 260 1) < 20) (ht : t < cn (ρ 260 0)) (μ : Mm) {a : Nat} (hμ : REL μ a (ρ 260)) (b0 : Int32) (hb0 : vp_in b0 121 ∧ b0 ≠ 0) (h : REL κ 41 (M_placesM ρ (nI t) b0 1 260)) : ∀ k, k ≤ 51 → (∃ b, (vp_in b 121 ∧ b ≠ 0) ∧ REL (BS_run κ (nI t) k).1 41 (M_placesM ρ (nI t) b 1 260)) ∧ (∀ p, p < 41 ∨ 91 < p → (BS_run κ (nI t) k).1 p = κ p) ∧ (∀ j, k = j + 1 → (BS_run κ (nI t) k).2 = BG (fun k => gW ρ t (M_bidBy ρ (nI t) (nI k))) j)
  | 0, _ => ⟨⟨b0, hb0, h⟩, fun p _ => rfl, fun j hj => by omega⟩
  | k + 1, hk => by
    have hc := g.c0
    obtain ⟨⟨b, hb, h1⟩, h2, h3⟩ := BS_at g hN hR hn ht μ hμ b0 hb0 h k (by omega)
    obtain ⟨n, hn2, e1⟩ : ∃ n, n < 20 ∧ ρ 260 1 = nI n := ⟨_, hn, (vp_of2 g.1.2.1 (by decide)).1⟩
    obtain ⟨q, hpN, e5⟩ := g.2.2.2.2.1
    have row := fun b => places_row ρ (t := t) b 1 hn2 e1 e5
    have hl : κ (41 + 16) 0 - 1 = nI n := by
      rw [rd_n1 (ν := M_placesM ρ (nI t) b0 1) h, row, if_pos rfl, ← nI_1, Int32.add_sub_cancel]
    rw [BS_run_s, hl]
    generalize BS_run κ (nI t) k = s at h1 h2 h3
    obtain ⟨c, hcc⟩ : ∃ c, c = M_bidBy ρ (nI t) (nI k) := ⟨_, rfl⟩
    have hcr : vp_in c 121 ∧ c ≠ 0 := by
      rw [hcc]
      exact bidBy_rng (s := nI k) g ht (by rw [nI_toInt (by omega)]; omega) (by rw [nI_toInt (by omega)]; omega)
    have gb := rg_places g hN hR hn ht hb μ hμ
    have gc := rg_places g hN hR hn ht hcr μ hμ
    have p0 := fun b => places_0 (t := t) (b := b) g hN hn
    have ec : T_bidWith s.1 (41 + 1) (nI t) (nI k) = c := by
      rw [rd_bidWith (ν := M_placesM ρ (nI t) b 1) h1 gb (by rw [p0 b 0 (by decide) (by decide) (by decide)]; exact ht), hcc]
      exact bidBy_row (by omega) (p0 b _ (by omega) (by omega) (by omega)) (p0 b _ (by omega) (by omega) (by omega))
    have hch : ch (M_placesM ρ (nI t) b 1 260) (69 + 5 * n) c = M_placesM ρ (nI t) c 1 260 := by
      funext i
      rw [row c i]
      by_cases ci : i = 69 + 5 * n
      · rw [ci, ch_y, if_neg (by omega), if_neg (by omega), if_neg (by omega), if_neg (by omega), if_pos rfl]
      · rw [ch_n ci, row b i, if_neg (c := i = 69 + 5 * n) ci, if_neg (c := i = 69 + 5 * n) ci]
    have hn1 : n < cn (M_placesM ρ (nI t) b 1 260 1) := by rw [row, if_pos rfl, cn_nI (by omega)]; omega
    have hw := wr_price (b := c) h1 gb hn1
    rw [hch] at hw
    have hmem : BS_mem (nI t) (nI n) k s.1 = C_settle (R_put s.1 (41 + 16 + 7) 20 (nI n) c) 41 := by unfold BS_mem; rw [ec]
    obtain ⟨d1, -, -, d4, -, -, d7, -⟩ := settle_at (ν := M_placesM ρ (nI t) c 1) hw gc (by decide)
    rw [← hmem] at d1 d4 d7
    have hr : REL (BS_mem (nI t) (nI n) k s.1) 41 (M_placesM ρ (nI t) c 1 260) := hw.of fun p p1 p2 => d1 p (by omega)
    have hgain : BS_gain (nI t) (nI n) k s.1 = gW ρ t c := by
      unfold BS_gain
      rw [gainC (ν := M_placesM ρ (nI t) c 1) hr gc (by rw [p0 c 0 (by decide) (by decide) (by decide)]; exact ht) d7, d4, (finds_at gc).2.2.2.1]
      rfl
    refine ⟨⟨c, hcr, hr⟩, fun p hp => ?_, fun j hj => ?_⟩
    · show BS_mem (nI t) (nI n) k s.1 p = κ p
      rw [d1 p (by omega), R_put_nI (by omega) (by decide), up2_k _ _ (by omega)]
      exact h2 p hp
    · obtain rfl : j = k := by omega
      show (if nI j = 0 then nI j else if s.2.2 < BS_gain (nI t) (nI n) j s.1 then nI j else s.2.1, if nI j = 0 then BS_gain (nI t) (nI n) j s.1 else if s.2.2 < BS_gain (nI t) (nI n) j s.1 then BS_gain (nI t) (nI n) j s.1 else s.2.2) = _
      rw [hgain, hcc]
      cases j with
      | zero => rfl
      | succ i =>
        rw [if_neg (nI_n0 (by omega) (by omega)), if_neg (nI_n0 (by omega) (by omega)), h3 i rfl]
        show _ = if (BG (fun k => gW ρ t (M_bidBy ρ (nI t) (nI k))) i).2 < gW ρ t (M_bidBy ρ (nI t) (nI (i + 1))) then (nI (i + 1), gW ρ t (M_bidBy ρ (nI t) (nI (i + 1)))) else BG (fun k => gW ρ t (M_bidBy ρ (nI t) (nI k))) i
        split <;> rfl
/-- the tries of splits -/
def gX (f : Nat → Int32) (t k : Nat) : Int32 := gF f t (prI (gsR f 120) (nI k))
theorem SP_at {μ ν : Mm} {N R t : Nat} (h : REL μ 1 (ν 260)) (g : RNG N R (ν 260)) (ht : t < cn (ν 260 0)) (h0 : μ 81 0 = (gsR (ν 260) 120).2.1) (h1 : μ 81 1 = (gsR (ν 260) 120).2.2) (h3 : μ 81 3 = (gsR (ν 260) 120).1) (hf : ∀ k, k < cn (ν 260 1) → μ 83 k = nI (fN (ν 260) (VN (ν 260)) k)) : ∀ k, SP_run μ (nI t) k = BG (gX (ν 260) t) k
  | 0 => by
    show (0, C_gainOf μ 1 (nI t) (C_priceWith μ 0)) = (0, gX (ν 260) t 0)
    rw [gainC h g ht hf]
    unfold C_priceWith gX prI
    rw [h0, h1, h3]
    rfl
  | k + 1 => by
    show (if (SP_run μ (nI t) k).2 < SP_gain μ (nI t) (k + 1) then (nI (k + 1), SP_gain μ (nI t) (k + 1)) else SP_run μ (nI t) k) = if (BG (gX (ν 260) t) k).2 < gX (ν 260) t (k + 1) then (nI (k + 1), gX (ν 260) t (k + 1)) else BG (gX (ν 260) t) k
    have e : SP_gain μ (nI t) (k + 1) = gX (ν 260) t (k + 1) := by
      unfold SP_gain
      rw [gainC h g ht hf]
      unfold C_priceWith gX prI
      rw [h0, h1, h3]
    rw [SP_at h g ht h0 h1 h3 hf k, e]
theorem MP_at {ρ : Mm} {N R t : Nat} (g : RNG N R (ρ 260)) (ht : t < cn (ρ 260 0)) : ∀ k, k ≤ 11 → (∃ v, (MP_run ρ (nI t) k).1 260 = ch (ρ 260) 3 v) ∧ (∀ q, q ≠ 259 → q ≠ 260 → (MP_run ρ (nI t) k).1 q = ρ q) ∧ (∀ i, i ≠ 4 → i ≠ 5 → i ≠ 6 → i ≠ 7 → (MP_run ρ (nI t) k).1 259 i = ρ 259 i) ∧ (VN (ρ 260) = 0 → (MP_run ρ (nI t) k).2.1 = -10000) ∧ (0 < VN (ρ 260) → (k = 0 → (MP_run ρ (nI t) k).2.1 = -10000) ∧ ∀ j, k = j + 1 → (MP_run ρ (nI t) k).2 = BG (gX (ρ 260) t) j)
  | 0, _ => ⟨⟨ρ 260 3, funext fun i => by
      unfold ch
      split
      · rename_i c; rw [c]; rfl
      · rfl⟩, fun q _ _ => rfl, fun i _ _ _ _ => rfl, fun _ => rfl, fun _ => ⟨fun _ => rfl, fun j hj => by omega⟩⟩
  | k + 1, hk => by
    obtain ⟨⟨v, h1⟩, h2, h3, h4, h5⟩ := MP_at g ht k (by omega)
    have es : MP_run ρ (nI t) (k + 1) = (MP_mem k (MP_run ρ (nI t) k).1, if MP_take (nI t) k (MP_run ρ (nI t) k) then nI k else (MP_run ρ (nI t) k).2.1, if MP_take (nI t) k (MP_run ρ (nI t) k) then M_gainsOf (MP_mem k (MP_run ρ (nI t) k).1) (nI t) else (MP_run ρ (nI t) k).2.2) := rfl
    rw [es]
    generalize MP_run ρ (nI t) k = s at h1 h2 h3 h4 h5
    have er : up2 s.1 260 3 (nI k) 260 = ch (ρ 260) 3 (nI k) := by
      rw [up2_ch, h1]
      funext i
      unfold ch
      split <;> rfl
    have g2 : RNG N R (up2 s.1 260 3 (nI k) 260) := by
      rw [er]
      exact rg_h g (by omega) (fun _ => vp_in_nI (by omega) (by decide)) (fun z => absurd z (by decide))
    have ht2 : t < cn (up2 s.1 260 3 (nI k) 260 0) := by rw [er, ch_n (by decide)]; exact ht
    obtain ⟨f7, -, -, -, fo⟩ := finds_at g2
    have m7 : MP_mem k s.1 259 7 = nI (VN (ρ 260)) := by
      show M_finds (up2 s.1 260 3 (nI k)) 259 7 = _
      rw [f7, er, VN_3]
    have mg : M_gainsOf (MP_mem k s.1) (nI t) = gX (ρ 260) t k := by
      show M_gainsOf (M_finds (up2 s.1 260 3 (nI k))) (nI t) = _
      rw [gainM g2 ht2, er, gF_3, gsR_3, ch_y]
      rfl
    obtain ⟨v1, -, -⟩ := VN_at g g.2.2.1
    refine ⟨⟨nI k, ?_⟩, fun q q1 q2 => ?_, fun i i4 i5 i6 i7 => ?_, fun c0 => ?_, fun c0 => ⟨fun z => by omega, fun j hj => ?_⟩⟩
    · show M_finds (up2 s.1 260 3 (nI k)) 260 = _
      rw [M_finds_260, er]
    · show M_finds (up2 s.1 260 3 (nI k)) q = _
      unfold M_finds
      rw [up2_k _ _ q1, FI_ne q1, up2_k _ _ q2]
      exact h2 q q1 q2
    · show M_finds (up2 s.1 260 3 (nI k)) 259 i = _
      rw [fo i i4 i5 i6 i7, up2_k _ _ (by decide)]
      exact h3 i i4 i5 i6 i7
    · have : MP_take (nI t) k s = false := by
        unfold MP_take
        rw [m7, c0, if_neg (show ¬ (0 : Int32) < nI 0 by decide)]
      rw [this]
      exact h4 c0
    · obtain rfl : j = k := by omega
      have h6 := h5 c0
      have c7 : (0 : Int32) < MP_mem j s.1 259 7 := by rw [m7]; exact nI_lt (a := 0) c0 (by omega)
      show (if MP_take (nI t) j s then nI j else s.2.1, if MP_take (nI t) j s then M_gainsOf (MP_mem j s.1) (nI t) else s.2.2) = _
      rw [mg]
      cases j with
      | zero =>
        have : MP_take (nI t) 0 s = true := by
          unfold MP_take
          rw [if_pos c7, if_pos (h6.1 rfl)]
        rw [this]
        rfl
      | succ i =>
        have e2 := h6.2 i rfl
        have : MP_take (nI t) (i + 1) s = decide (s.2.2 < gX (ρ 260) t (i + 1)) := by
          unfold MP_take
          rw [if_pos c7, if_neg (by rw [e2]; exact BG_nn _ _ (by omega)), mg]
        rw [this, e2]
        show _ = if (BG (gX (ρ 260) t) i).2 < gX (ρ 260) t (i + 1) then (nI (i + 1), gX (ρ 260) t (i + 1)) else BG (gX (ρ 260) t) i
        by_cases c : (BG (gX (ρ 260) t) i).2 < gX (ρ 260) t (i + 1)
        · rw [decide_eq_true c, if_pos c]; rfl
        · rw [decide_eq_false c, if_neg c]; rfl
end
