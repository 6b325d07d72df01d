noncomputable section
/-! the class's memory against a row alone -/
def gm (f : Nat → Int32) : Mm := fun p i => if p = 260 then f i else 0
theorem gm_260 (f : Nat → Int32) : gm f 260 = f := funext fun i => if_pos rfl
theorem toG {μ : Mm} {a : Nat} {f : Nat → Int32} (h : REL μ a f) : REL μ a (gm f 260) := by rw [gm_260]; exact h
theorem rgG {N R : Nat} {f : Nat → Int32} (g : RNG N R f) : RNG N R (gm f 260) := by rw [gm_260]; exact g
/-- the stack of saved auctions in its ranges -/
def UR (μ : Mm) : Prop := ∃ c o : Nat, c ≤ 4 ∧ o < 4 ∧ μ 92 0 = nI c ∧ μ 92 1 = nI o
/-- the auction is the row f -/
def ST (μ : Mm) (f : Nat → Int32) : Prop := REL μ 1 f ∧ UR μ
/-- the latest saved one is the row f -/
def SAV (μ : Mm) (f : Nat → Int32) : Prop := ∃ c o : Nat, c < 4 ∧ o < 4 ∧ μ 92 0 = nI (c + 1) ∧ μ 92 1 = nI o ∧ REL μ (94 + 40 * ((o + c) % 4)) f
def KEEP (μ μ' : Mm) : Prop := ∀ p, p < 41 ∨ 91 < p → μ' p = μ p
theorem KEEP.rf (μ : Mm) : KEEP μ μ := fun _ _ => rfl
theorem KEEP.tr {a b c : Mm} (h1 : KEEP a b) (h2 : KEEP b c) : KEEP a c := fun p hp => (h2 p hp).trans (h1 p hp)
theorem KEEP.rel {μ μ' : Mm} {f : Nat → Int32} (h : KEEP μ μ') (s : REL μ 1 f) : REL μ' 1 f := s.of fun p _ h2 => h p (by omega)
theorem KEEP.st {μ μ' : Mm} {f : Nat → Int32} (h : KEEP μ μ') (s : ST μ f) : ST μ' f := by
  obtain ⟨hR, c, o, hc, ho, h0, h1⟩ := s
  exact ⟨h.rel hR, c, o, hc, ho, by rw [h 92 (by omega)]; exact h0, by rw [h 92 (by omega)]; exact h1⟩
theorem KEEP.sav {μ μ' : Mm} {f : Nat → Int32} (h : KEEP μ μ') (s : SAV μ f) : SAV μ' f := by
  obtain ⟨c, o, hc, ho, h0, h1, hr⟩ := s
  exact ⟨c, o, hc, ho, by rw [h 92 (by omega)]; exact h0, by rw [h 92 (by omega)]; exact h1, hr.of fun p h2 _ => h p (by omega)⟩
theorem SAV.ur {μ : Mm} {f : Nat → Int32} (s : SAV μ f) : UR μ := by
  obtain ⟨c, o, hc, ho, h0, h1, -⟩ := s
  exact ⟨c + 1, o, by omega, ho, h0, h1⟩
theorem push_ST {μ : Mm} {f : Nat → Int32} {N R : Nat} (s : ST μ f) (g : RNG N R f) : (∀ p, p < 92 ∨ 254 ≤ p → U_push μ 1 p = μ p) ∧ SAV (U_push μ 1) f := by
  obtain ⟨hR, c, o, hc, ho, h0, h1⟩ := s
  obtain ⟨d, p, d1, d2, e0, e1, e2⟩ := U_drop_at hc ho h0 h1
  have hdp : d ≤ 3 ∧ p < 4 := by
    by_cases h4 : c = 4
    · obtain ⟨rfl, rfl⟩ := d2 h4
      exact ⟨by decide, Nat.mod_lt _ (by decide)⟩
    · obtain ⟨rfl, rfl⟩ := d1 (by omega)
      exact ⟨by omega, ho⟩
  obtain ⟨hd3, hp4⟩ := hdp
  have hpd : (p + d) % 4 < 4 := Nat.mod_lt _ (by decide)
  obtain ⟨u, hu⟩ : ∃ u, u = U_drop μ := ⟨_, rfl⟩
  rw [← hu] at e0 e1 e2
  have hat : U_at u (u 92 0) = 94 + 40 * ((p + d) % 4) := by rw [e0]; exact U_at_nI e1 hp4 (by omega)
  have hU : U_push μ 1 = up2 (A_copy u (94 + 40 * ((p + d) % 4)) 1) 92 0 (A_copy u (94 + 40 * ((p + d) % 4)) 1 92 0 + 1) := by
    unfold U_push
    rw [← hu]
    show up2 (A_copy u (U_at u (u 92 0)) 1) 92 0 _ = _
    rw [hat]
  have hab : 94 + 40 * ((p + d) % 4) + 40 ≤ 1 ∨ 1 + 40 ≤ 94 + 40 * ((p + d) % 4) := Or.inr (by omega)
  have hout : ∀ q, q ≠ 92 → (q < 94 + 40 * ((p + d) % 4) ∨ 94 + 40 * ((p + d) % 4) + 40 ≤ q) → U_push μ 1 q = μ q := by
    intro q h9 hq
    rw [hU, up2_k _ _ h9, A_copy_out hab hq, e2 q h9]
  refine ⟨fun q hq => hout q (by omega) (by omega), d, p, by omega, hp4, ?_, ?_, ?_⟩
  · rw [hU, up2_s, A_copy_out hab (by omega), e0, nI_1]
  · rw [hU, show ∀ (κ : Mm) v, up2 κ 92 0 v 92 1 = κ 92 1 from fun κ v => by simp [up2], A_copy_out hab (by omega), e1]
  · have hu1 : REL u 1 f := hR.of fun q h2 h3 => e2 q (by omega)
    have := A_copy_REL hab hu1 g.c0.1 g.c0.2.1 g.c0.2.2
    exact this.of fun q h2 h3 => by rw [hU, up2_k _ _ (by omega)]
theorem pop_ST {μ : Mm} {f : Nat → Int32} {N R : Nat} (s : SAV μ f) (g : RNG N R f) : ¬ μ 92 0 = 0 ∧ ST (U_pop μ 1) f ∧ U_pop μ 1 254 = μ 254 := by
  obtain ⟨c, o, hc, ho, h0, h1, hr⟩ := s
  have hcn : ¬ μ 92 0 = 0 := by
    rw [h0]
    intro e
    have := congrArg cn e
    rw [cn_nI (by omega)] at this
    exact absurd this (Nat.succ_ne_zero c)
  have es : nI (c + 1) - 1 = nI c := by rw [← nI_1, Int32.add_sub_cancel]
  have hm : (o + c) % 4 < 4 := Nat.mod_lt _ (by decide)
  have hab : 1 + 40 ≤ 94 + 40 * ((o + c) % 4) ∨ 94 + 40 * ((o + c) % 4) + 40 ≤ 1 := Or.inl (by omega)
  have hU : U_pop μ 1 = A_copy (up2 μ 92 0 (nI c)) 1 (94 + 40 * ((o + c) % 4)) := by
    unfold U_pop
    rw [if_neg hcn, h0, es]
    show A_copy (up2 μ 92 0 (nI c)) 1 (U_at (up2 μ 92 0 (nI c)) (up2 μ 92 0 (nI c) 92 0)) = _
    rw [up2_y ⟨rfl, rfl⟩, U_at_nI (o := o) (by rw [up2_n (by decide)]; exact h1) ho (by omega)]
  refine ⟨hcn, ⟨?_, c, o, by omega, ho, ?_, ?_⟩, ?_⟩
  · rw [hU]
    exact A_copy_REL hab (hr.of fun p h2 h3 => up2_k _ _ (by omega)) g.c0.1 g.c0.2.1 g.c0.2.2
  · rw [hU, A_copy_out hab (by omega)]; exact up2_y ⟨rfl, rfl⟩
  · rw [hU, A_copy_out hab (by omega), up2_n (by decide)]; exact h1
  · rw [hU, A_copy_out hab (by omega)]; exact up2_k _ _ (by decide)
/-! what can be asked for is the row's -/
theorem wh_at {μ : Mm} {f : Nat → Int32} (h : REL μ 1 f) : ∀ w, w < 11 → X_whole μ (nI w) = f w := by
  intro q hq
  obtain ⟨⟨e1, e2, e3, e4, e5, e6, e7, e8, e9, e10, e11⟩, -⟩ := h
  unfold X_whole A_wholeValue
  rcases (show q = 0 ∨ q = 1 ∨ q = 2 ∨ q = 3 ∨ q = 4 ∨ q = 5 ∨ q = 6 ∨ q = 7 ∨ q = 8 ∨ q = 9 ∨ q = 10 by omega) with rfl | rfl | rfl | rfl | rfl | rfl | rfl | rfl | rfl | rfl | rfl
  · exact e1
  · exact e2
  · exact e3
  · exact e4
  · exact e5
  · exact e6
  · exact e7
  · exact e8
  · exact e9
  · exact e10
  · exact e11
theorem tv_at {μ : Mm} {f : Nat → Int32} {N R t w : Nat} (h : REL μ 1 f) (g : RNG N R f) (ht : t < cn (f 0)) (hw : w < 10) : A_traderValue μ 1 (nI t) (nI w) = M_tellsTrader (gm f) (nI t) (nI w) :=
  rd_trader (ν := gm f) (toG h) (rgG g) (by rw [gm_260]; exact ht) (vp_in_nI hw (by decide))
theorem ov_at {μ : Mm} {f : Nat → Int32} {N R k w : Nat} (h : REL μ 1 f) (g : RNG N R f) (hk : k < cn (f 1)) (hw : w < 5) : O_valueOf μ (1 + 16) (nI k) (nI w) = M_tellsOrder (gm f) (nI k) (nI w) :=
  rd_order (ν := gm f) (toG h) (rgG g) (by rw [gm_260]; exact hk) (vp_in_nI hw (by decide))
theorem dv_at {μ : Mm} {f : Nat → Int32} {N R i w : Nat} (h : REL μ 1 f) (g : RNG N R f) (hi : i < 2 ^ 31) (hw : w < 5) : S_valueOf μ (1 + 29) (nI i) (nI w) = M_tells_td (gm f) (nI i) (nI w) :=
  rd_trade (ν := gm f) (toG h) (rgG g) (nI_pos hi) (vp_in_nI hw (by decide))
theorem ix_at {μ : Mm} {f : Nat → Int32} {N R : Nat} (h : REL μ 1 f) (g : RNG N R f) (x : Int32) : O_indexOf μ (1 + 16) x = M_find (gm f) x := rd_find (ν := gm f) (toG h) (rgG g) x
theorem fa_at {μ : Mm} {f : Nat → Int32} {N R : Nat} (h : REL μ 1 f) (g : RNG N R f) (x : Int32) : O_faultOfNumber μ (1 + 16) x = if M_find (gm f) x < 0 then 1 else 0 := by
  unfold O_faultOfNumber
  rw [ix_at h g]
theorem fi_at {f : Nat → Int32} {N R : Nat} (g : RNG N R f) {x : Int32} (c : ¬ M_find (gm f) x < 0) : ∃ j, j < cn (f 1) ∧ M_find (gm f) x = nI j := by
  have := find_at (ν := gm f) (rgG g) c
  rwa [gm_260] at this
theorem un_at {μ : Mm} {f : Nat → Int32} {N R : Nat} (h : REL μ 1 f) (g : RNG N R f) (x : Int32) : LV_units μ x = if M_find (gm f) x < 0 then -1 else M_o (gm f) (M_find (gm f) x) 3 := by
  unfold LV_units
  rw [fa_at h g, ix_at h g]
  by_cases c : M_find (gm f) x < 0
  · rw [if_pos c, if_neg (by decide), if_pos c]
  · rw [if_neg c, if_pos rfl, if_neg c]
    obtain ⟨j, hj, e⟩ := fi_at g c
    rw [e]
    exact ov_at (w := 2) h g hj (by decide)
theorem e3_congr {μ ν : Mm} {f : Nat → Int32} {N R : Nat} (h : REL μ 1 f) (h' : REL ν 1 f) (g : RNG N R f) (v : Int64) : V_e3 μ v = V_e3 ν v := by
  unfold V_e3 V_3
  rw [show X_whole μ 0 = f 0 from wh_at h 0 (by decide), show X_whole ν 0 = f 0 from wh_at h' 0 (by decide)]
  refine itr_congr rfl fun t s ht => ?_
  unfold V_3t
  rw [NN_eq 10]
  refine itr_congr rfl fun w s hw => ?_
  rw [tv_at h g ht hw, tv_at h' g ht hw]
theorem e4_congr {μ ν : Mm} {f : Nat → Int32} {N R : Nat} (h : REL μ 1 f) (h' : REL ν 1 f) (g : RNG N R f) (v : Int64) : V_e4 μ v = V_e4 ν v := by
  unfold V_e4 V_4
  rw [show X_whole μ 5 = f 5 from wh_at h 5 (by decide), show X_whole ν 5 = f 5 from wh_at h' 5 (by decide)]
  refine itr_congr rfl fun i s hi => ?_
  rw [un_at h g, un_at h' g]
  by_cases c : M_find (gm f) (nI i) < 0
  · rw [if_pos c, if_pos (by decide), if_pos (by decide)]
  · rw [if_neg c]
    split
    · rfl
    · unfold V_4o
      rw [NN_eq 5]
      refine itr_congr rfl fun w s hw => ?_
      obtain ⟨j, hj, e⟩ := fi_at g c
      rw [ix_at h g, ix_at h' g, e, ov_at h g hj hw, ov_at h' g hj hw]
theorem e5_congr {μ ν : Mm} {f : Nat → Int32} {N R : Nat} (h : REL μ 1 f) (h' : REL ν 1 f) (g : RNG N R f) (v : Int64) : V_e5 μ v = V_e5 ν v := by
  unfold V_e5 V_5
  rw [show X_whole μ 9 = f 9 from wh_at h 9 (by decide), show X_whole ν 9 = f 9 from wh_at h' 9 (by decide)]
  refine itr_congr rfl fun i s hi => ?_
  unfold V_5t
  rw [NN_eq 5]
  refine itr_congr rfl fun w s hw => ?_
  rw [dv_at h g (lt_31 hi) hw, dv_at h' g (lt_31 hi) hw]
theorem v1_at {μ : Mm} {f : Nat → Int32} (h : REL μ 1 f) : V_1 μ (NN 11) = itr (fun w v => V_add v (f w)) 7 11 := by
  unfold V_1
  rw [NN_eq 11]
  refine itr_congr rfl fun w s hw => ?_
  rw [wh_at h w hw]
theorem v2_at {μ : Mm} {f : Nat → Int32} {N R : Nat} (h : REL μ 1 f) (g : RNG N R f) : ∀ k, k ≤ 7 → (∀ p, p < 81 ∨ 91 < p → (V_2 μ k).1 p = μ p) ∧ (V_2 μ k).2 = itr (fun w v => V_add v (M_nowVal (M_finds (gm f)) (nI w))) (itr (fun w v => V_add v (f w)) 7 11) k := by
  intro k
  induction k with
  | zero => exact fun _ => ⟨fun p _ => rfl, v1_at h⟩
  | succ k ih =>
    intro hk
    obtain ⟨i1, i2⟩ := ih (by omega)
    have hs : REL (V_2 μ k).1 1 f := h.of fun p _ h2 => i1 p (by omega)
    have hn := now_at (μ := (V_2 μ k).1) (ν := gm f) (κ := C_settle (V_2 μ k).1 1) (w := nI k) (toG hs) (rgG g) (fun p _ _ => rfl) (vp_in_nI (by omega) (by decide))
    have e : V_2 μ (k + 1) = (C_valueM (C_settle (V_2 μ k).1 1) 1 (nI k), V_add (V_2 μ k).2 (C_valueOf (C_settle (V_2 μ k).1 1) 1 (nI k))) := rfl
    rw [e]
    refine ⟨fun p hp => ?_, ?_⟩
    · show C_valueM (C_settle (V_2 μ k).1 1) 1 (nI k) p = μ p
      rw [hn.2.1 p (by omega) (by omega), (settle_at (ν := gm f) (toG hs) (rgG g) (by decide)).1 p hp]
      exact i1 p hp
    · show V_add (V_2 μ k).2 (C_valueOf (C_settle (V_2 μ k).1 1) 1 (nI k)) = V_add (itr _ _ k) (M_nowVal (M_finds (gm f)) (nI k))
      rw [hn.1, i2]
theorem VM_keep {μ : Mm} {f : Nat → Int32} {N R : Nat} (h : REL μ 1 f) (g : RNG N R f) : KEEP μ (V_M μ) := fun p hp => by
  unfold V_M
  rw [NN_eq 7]
  exact (v2_at h g 7 (Nat.le_refl _)).1 p (by omega)
theorem view_congr {μ ν : Mm} {f : Nat → Int32} {N R : Nat} (h : REL μ 1 f) (h' : REL ν 1 f) (g : RNG N R f) : LV_view μ = LV_view ν := by
  have k1 := (VM_keep h g).rel h
  have k2 := (VM_keep h' g).rel h'
  have ev : V_v2 μ = V_v2 ν := by
    unfold V_v2
    rw [NN_eq 7, (v2_at h g 7 (Nat.le_refl _)).2, (v2_at h' g 7 (Nat.le_refl _)).2]
  unfold LV_view
  rw [ev, e3_congr k1 k2 g, e4_congr k1 k2 g, e5_congr k1 k2 g]
/-! the digest -/
theorem mix_l {a b : Int64} (v : Int64) (h : a = b) : X_mix a v = X_mix b v := by rw [h]
theorem d1_at {μ : Mm} {f : Nat → Int32} (h : REL μ 1 f) : X_dg1 μ (NN 12) = X_mix (itr (fun w s => X_mix s (f w).toInt64) (X_mix 43616 (μ 92 0).toInt64) 11) (μ 254 0).toInt64 := by
  unfold X_dg1
  rw [NN_eq 12]
  show X_mix (itr _ _ 11) (X_whole μ (nI 11)).toInt64 = _
  rw [show X_whole μ (nI 11) = μ 254 0 from rfl]
  refine mix_l _ ?_
  refine itr_congr rfl fun w s hw => ?_
  rw [wh_at h w hw]
theorem d2_at {μ : Mm} {f : Nat → Int32} {N R : Nat} (h : REL μ 1 f) (g : RNG N R f) : ∀ k, k ≤ 7 → (∀ p, p ≠ 89 → p ≠ 91 → (X_dg2 μ k).1 p = C_settle μ 1 p) ∧ (X_dg2 μ k).2 = itr (fun w s => X_mix s (M_nowVal (M_finds (gm f)) (nI w)).toInt64) (X_dg1 μ (NN 12)) k := by
  intro k
  induction k with
  | zero => exact fun _ => ⟨fun p _ _ => rfl, rfl⟩
  | succ k ih =>
    intro hk
    obtain ⟨i1, i2⟩ := ih (by omega)
    have hn := now_at (μ := μ) (ν := gm f) (κ := (X_dg2 μ k).1) (w := nI k) (toG h) (rgG g) i1 (vp_in_nI (by omega) (by decide))
    have e : X_dg2 μ (k + 1) = (C_valueM (X_dg2 μ k).1 1 (nI k), X_mix (X_dg2 μ k).2 (C_valueOf (X_dg2 μ k).1 1 (nI k)).toInt64) := rfl
    rw [e]
    refine ⟨hn.2.1, ?_⟩
    show X_mix (X_dg2 μ k).2 (C_valueOf (X_dg2 μ k).1 1 (nI k)).toInt64 = X_mix (itr _ _ k) (M_nowVal (M_finds (gm f)) (nI k)).toInt64
    rw [hn.1, i2]
theorem DM_keep {μ : Mm} {f : Nat → Int32} {N R : Nat} (h : REL μ 1 f) (g : RNG N R f) : KEEP μ (X_digestM μ) := fun p hp => by
  unfold X_digestM
  rw [NN_eq 7, (d2_at h g 7 (Nat.le_refl _)).1 p (by omega) (by omega)]
  exact (settle_at (ν := gm f) (toG h) (rgG g) (by decide)).1 p (by omega)
theorem tk_at {μ : Mm} {f : Nat → Int32} {N R i : Nat} (h : REL μ 1 f) (g : RNG N R f) (hi : i < cn (f 1)) : R_get (X_digestM μ) 82 20 (nI i) = nI (fN f (VN f) i) := by
  have hc := g.c0
  have hs := (settle_at (ν := gm f) (toG h) (rgG g) (by decide)).2.2.2.2.2.2.1 i (by rw [gm_260]; exact hi)
  rw [gm_260] at hs
  rw [R_get_nI (by omega) (by decide)]
  unfold X_digestM
  rw [NN_eq 7, (d2_at h g 7 (Nat.le_refl _)).1 83 (by decide) (by decide)]
  exact hs
theorem mt_congr {κ ρ : Mm} {f : Nat → Int32} {N R : Nat} (k1 : REL κ 1 f) (k2 : REL ρ 1 f) (g : RNG N R f) (s : Int64) : X_mixTraders κ s (cn (f 0)) = X_mixTraders ρ s (cn (f 0)) := by
  unfold X_mixTraders
  refine itr_congr rfl fun t s ht => ?_
  unfold X_mixTr
  rw [NN_eq 10]
  refine itr_congr rfl fun w s hw => ?_
  rw [tv_at k1 g ht hw, tv_at k2 g ht hw]
theorem mr_congr {κ ρ : Mm} {f : Nat → Int32} {N R i : Nat} (k1 : REL κ 1 f) (k2 : REL ρ 1 f) (g : RNG N R f) (hi : i < cn (f 1)) (s : Int64) : X_mixOr κ i s (NN 5) = X_mixOr ρ i s (NN 5) := by
  unfold X_mixOr
  rw [NN_eq 5]
  refine itr_congr rfl fun w s hw => ?_
  rw [ov_at k1 g hi hw, ov_at k2 g hi hw]
theorem nu_congr {κ ρ : Mm} {f : Nat → Int32} {N R i : Nat} (k1 : REL κ 1 f) (k2 : REL ρ 1 f) (g : RNG N R f) (hi : i < cn (f 1)) : R_get κ (1 + 16 + 1) 20 (nI i) = R_get ρ (1 + 16 + 1) 20 (nI i) :=
  (rd_num (ν := gm f) (toG k1) (rgG g) (by rw [gm_260]; exact hi)).trans (rd_num (ν := gm f) (toG k2) (rgG g) (by rw [gm_260]; exact hi)).symm
theorem mo_congr {κ ρ : Mm} {f : Nat → Int32} {N R : Nat} (k1 : REL κ 1 f) (k2 : REL ρ 1 f) (g : RNG N R f) (ht : ∀ i, i < cn (f 1) → R_get κ 82 20 (nI i) = R_get ρ 82 20 (nI i)) (s : Int64) : X_mixOrders κ s (cn (f 1)) = X_mixOrders ρ s (cn (f 1)) := by
  unfold X_mixOrders
  refine itr_congr rfl fun i s hi => ?_
  rw [ht i hi, nu_congr k1 k2 g hi, mr_congr k1 k2 g hi]
theorem md_congr {κ ρ : Mm} {f : Nat → Int32} {N R : Nat} (k1 : REL κ 1 f) (k2 : REL ρ 1 f) (g : RNG N R f) (s : Int64) : X_mixTrades κ s (cn (f 9)) = X_mixTrades ρ s (cn (f 9)) := by
  unfold X_mixTrades
  refine itr_congr rfl fun i s hi => ?_
  unfold X_mixTd
  rw [NN_eq 5]
  refine itr_congr rfl fun w s hw => ?_
  rw [dv_at k1 g (lt_31 hi) hw, dv_at k2 g (lt_31 hi) hw]
theorem dg_fin {κ ρ : Mm} {f : Nat → Int32} {N R : Nat} (k1 : REL κ 1 f) (k2 : REL ρ 1 f) (g : RNG N R f) (ht : ∀ i, i < cn (f 1) → R_get κ 82 20 (nI i) = R_get ρ 82 20 (nI i)) (s : Int64) :
    X_mixTrades κ (X_mixOrders κ (X_mixTraders κ s (cn (κ (1 + 1) 0))) (cn (κ (1 + 16) 0))) (cn (κ (1 + 29) 0)) = X_mixTrades ρ (X_mixOrders ρ (X_mixTraders ρ s (cn (ρ (1 + 1) 0))) (cn (ρ (1 + 16) 0))) (cn (ρ (1 + 29) 0)) := by
  have a1 : κ (1 + 1) 0 = f 0 := k1.1.1
  have a2 : ρ (1 + 1) 0 = f 0 := k2.1.1
  have b1 : κ (1 + 16) 0 = f 1 := k1.1.2.1
  have b2 : ρ (1 + 16) 0 = f 1 := k2.1.2.1
  have c1 : κ (1 + 29) 0 = f 9 := k1.1.2.2.2.2.2.2.2.2.2.1
  have c2 : ρ (1 + 29) 0 = f 9 := k2.1.2.2.2.2.2.2.2.2.2.1
  rw [a1, a2, b1, b2, c1, c2, mt_congr k1 k2 g, mo_congr k1 k2 g ht, md_congr k1 k2 g]
theorem dg_eq (μ : Mm) : X_digest μ = X_mixTrades (X_digestM μ) (X_mixOrders (X_digestM μ) (X_mixTraders (X_digestM μ) (X_dg2 μ (NN 7)).2 (cn (X_digestM μ (1 + 1) 0))) (cn (X_digestM μ (1 + 16) 0))) (cn (X_digestM μ (1 + 29) 0)) := by
  unfold X_digest
  rfl
theorem digest_congr {μ ν : Mm} {f : Nat → Int32} {N R : Nat} (h : REL μ 1 f) (h' : REL ν 1 f) (g : RNG N R f) (e92 : μ 92 0 = ν 92 0) (e254 : μ 254 0 = ν 254 0) : X_digest μ = X_digest ν := by
  have k1 := (DM_keep h g).rel h
  have k2 := (DM_keep h' g).rel h'
  have ev : (X_dg2 μ (NN 7)).2 = (X_dg2 ν (NN 7)).2 := by
    rw [NN_eq 7, (d2_at h g 7 (Nat.le_refl _)).2, (d2_at h' g 7 (Nat.le_refl _)).2, d1_at h, d1_at h', e92, e254]
  rw [dg_eq μ, dg_eq ν, ev]
  exact dg_fin k1 k2 g (fun i hi => (tk_at h g hi).trans (tk_at h' g hi).symm) _
end
