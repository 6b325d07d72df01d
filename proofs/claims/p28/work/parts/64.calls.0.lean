noncomputable section
/-! what the calls of a turn do, by the row -/
def AOK (l : Launch) (G : GG) (B : Nat) (y : MethodName) (cw : Cond) (fr lo : Nat) (av : List Value) (f : Nat → Int32) (v : Int32) (f' : Nat → Int32) : Prop :=
  ∀ μ : Mm, ST μ f → ∃ μ' : Mm, CM l y cw fr lo G B av μ (some (.int v)) μ' ∧ ST μ' f' ∧ SAV μ' f ∧ μ' 254 = μ 254
def XOK (l : Launch) (G : GG) (B : Nat) (y : MethodName) (cw : Cond) (av : List Value) (f : Nat → Int32) : Prop :=
  ∃ E : String, (E = IOE ∨ E = IAE ∨ E = ISE) ∧ ∀ μ : Mm, ST μ f → XM l y cw 7 110 G B av μ E
def NOK (l : Launch) (G : GG) (B : Nat) (y : MethodName) (cw : Cond) (fr lo : Nat) (av : List Value) (f : Nat → Int32) : Prop :=
  ∀ μ : Mm, ST μ f → ∃ (v : Int32) (μ' : Mm), CM l y cw fr lo G B av μ (some (.int v)) μ' ∧ KEEP μ μ'
/-- a call that writes: it is refused, or brings the row f' -/
def OUT (l : Launch) (G : GG) (B : Nat) (y : MethodName) (cw : Cond) (fr lo : Nat) (av : List Value) (f : Nat → Int32) (k : Nat) (C2 : Int32) (cl : Bool) : Prop :=
  XOK l G B y cw av f ∨ ∃ (v : Int32) (f' : Nat → Int32), ¬ v = -1000000000 ∧ AOK l G B y cw fr lo av f v f' ∧ RNG (k + 1) 9999 f' ∧ CONS C2 f' ∧ (cl = false → f' 10 = f 10) ∧ (cl = true → f' 1 ≤ f 1)
theorem nn {n : Nat} (h : n < 2 ^ 31) : ¬ nI n = -1000000000 := fun e => nI_pos h (by rw [e]; decide)
theorem nv {x : Int32} {n : Nat} (h : vp_in x n) (hn : n < 2 ^ 31) : ¬ x = -1000000000 := by
  obtain ⟨j, hj, rfl⟩ := vp_nI h hn
  exact nn (by omega)
theorem SAV.of {μ μ' : Mm} {f : Nat → Int32} (s : SAV μ f) (h : ∀ p, 92 ≤ p → μ' p = μ p) : SAV μ' f := by
  obtain ⟨c, o, hc, ho, h0, h1, hr⟩ := s
  exact ⟨c, o, hc, ho, by rw [h 92 (by omega)]; exact h0, by rw [h 92 (by omega)]; exact h1, hr.of fun p h2 _ => h p (by omega)⟩
theorem push_rel {μ : Mm} {f : Nat → Int32} {N R : Nat} (s : ST μ f) (g : RNG N R f) : REL (U_push μ 1) 1 f := s.1.of fun p h1 h2 => (push_ST s g).1 p (by omega)
theorem mk_act {μ μ' : Mm} {f f' : Nat → Int32} {N R : Nat} (s : ST μ f) (g : RNG N R f) (he : ∀ p, 92 ≤ p → μ' p = U_push μ 1 p) (hR : REL μ' 1 f') : ST μ' f' ∧ SAV μ' f ∧ μ' 254 = μ 254 := by
  obtain ⟨hp, hs⟩ := push_ST s g
  have hs' : SAV μ' f := hs.of he
  exact ⟨⟨hR, hs'.ur⟩, hs', (he 254 (by decide)).trans (hp 254 (by omega))⟩
theorem CONS.of {C : Int32} {f f' : Nat → Int32} (h : CONS C f) (e0 : f' 0 = f 0) (e1 : f' 1 = f 1) (e5 : f' 5 = f 5) (e6 : f' 6 = f 6) (e7 : f' 7 = f 7) (e10 : f' 10 = f 10) (et : ∀ t, t < cn (f 0) → f' (15 + 7 * t) = f (15 + 7 * t) ∧ f' (16 + 7 * t) = f (16 + 7 * t) ∧ f' (17 + 7 * t) = f (17 + 7 * t)) : CONS C f' := by
  obtain ⟨u1, u2, u3, p, x, c, c5, c10, cC, hle, hp⟩ := h
  refine ⟨?_, ?_, ?_, p, x, c, e5.trans c5, e10.trans c10, cC, by rw [e1]; exact hle, hp⟩
  · unfold sT at u1 ⊢
    rw [e0, e6, sumI_congr (fun t ht => (et t ht).1), u1]
  · unfold sT at u2 ⊢
    rw [e0, e7, sumI_congr (fun t ht => (et t ht).2.1), u2]
  · unfold sT at u3 ⊢
    rw [e0, sumI_congr (fun t ht => (et t ht).2.2), u3]
theorem CONS.c {C : Int32} {f : Nat → Int32} {i : Nat} {v : Int32} (h : CONS C f) (hi : i ≠ 0 ∧ i ≠ 1 ∧ i ≠ 5 ∧ i ≠ 6 ∧ i ≠ 7 ∧ i ≠ 10) (ht : ∀ t, i ≠ 15 + 7 * t ∧ i ≠ 16 + 7 * t ∧ i ≠ 17 + 7 * t) : CONS C (ch f i v) :=
  h.of (ch_n (by omega)) (ch_n (by omega)) (ch_n (by omega)) (ch_n (by omega)) (ch_n (by omega)) (ch_n (by omega)) fun t _ => ⟨ch_n (by have := ht t; omega), ch_n (by have := ht t; omega), ch_n (by have := ht t; omega)⟩
section OPS
variable {l : Launch} {f : Nat → Int32} {k : Nat} {C : Int32} {μ0 : Mm}
theorem out_addTrader (hfl : l.stackTraces = false) (G : GG) (B : Nat) (g : RNG k 9999 f) (hk : k < 100) (hC : CONS C f) (s0 : ST μ0 f) (sd v : Int32) :
    OUT l G B yX10_addTrader (.code yX10_addTrader cX10_addTrader 3 (Option.some FieldType.int)) 5 107 [.ref (B + 0), .int sd, .int v] f k C false := by
  have hc := g.c0
  by_cases c1 : wI sd 0 1 = 0
  · exact Or.inl ⟨IAE, Or.inr (Or.inl rfl), fun μ s => XX10_addTrader_9_2 l hfl G B μ sd v (if_pos c1)⟩
  · by_cases c2 : wI v 1 99 = 0
    · exact Or.inl ⟨IAE, Or.inr (Or.inl rfl), fun μ s => XX10_addTrader_9_2 l hfl G B μ sd v ((if_neg c1).trans (if_pos c2))⟩
    · by_cases c3 : f 0 < 8
      · obtain ⟨n, hn9, hn0⟩ := vp_nI g.1.1 (by decide)
        have hn : n < 8 := by rw [hn0] at c3; exact nI_lt_of (by decide) (by omega) (show nI n < nI 8 from c3)
        have hcn : cn (f 0) = n := by rw [hn0, cn_nI (by omega)]
        have hw : ∀ μ, ST μ f → REL (T_join (U_push μ 1) (1 + 1) sd v) 1 (M_addsTrader (gm f) sd v 260) ∧ RNG k 9999 (M_addsTrader (gm f) sd v 260) := fun μ s => wr_join (ν := gm f) (toG (push_rel s g)) (rgG g) (by rw [gm_260, hcn]; exact hn) (wI01 c1) (wI1 (n := 99) c2)
        have row := fun i => addsT_row (gm f) sd v (n := n) hn (by rw [gm_260]; exact hn0) i
        rw [gm_260] at row
        refine Or.inr ⟨f 0, M_addsTrader (gm f) sd v 260, by rw [hn0]; exact nn (by omega), fun μ s => ?_, (hw μ0 s0).2.mono (by omega) (Nat.le_refl _), ?_, fun _ => ?_, fun z => absurd z (by decide)⟩
        · have e2 : U_push μ 1 (1 + 1) 0 = f 0 := (push_rel s g).1.1
          have hX := MX10_addTrader l G B μ sd v ((if_neg c1).trans ((if_neg c2).trans (if_pos (by rw [show μ (1 + 1) 0 = f 0 from s.1.1.1]; exact c3))))
          rw [e2] at hX
          refine ⟨_, hX, mk_act s g (fun p hp => ?_) (hw μ s).1⟩
          rw [join_at (U_push μ 1) sd v hn (e2.trans hn0)]
          rw [up2_k _ _ (by omega), up2_k _ _ (by omega), up2_k _ _ (by omega), up2_k _ _ (by omega), up2_k _ _ (by omega), up2_k _ _ (by omega), up2_k _ _ (by omega), up2_k _ _ (by omega)]
        · obtain ⟨u1, u2, u3, p, x, c, c5, c10, cC, hle, hp⟩ := hC
          have lo : ∀ i, i < 11 → i ≠ 0 → M_addsTrader (gm f) sd v 260 i = f i := fun i h1 h2 => by rw [row, if_neg h2, if_neg (by omega), if_neg (by omega), if_neg (by omega)]
          have r0 : M_addsTrader (gm f) sd v 260 0 = nI (n + 1) := by rw [row, if_pos rfl]
          have sums : ∀ w, 15 ≤ w → w < 18 → sT (M_addsTrader (gm f) sd v 260) w = sT f w := fun w w1 w2 => by
            unfold sT
            rw [r0, cn_nI (by omega), hcn]
            show sumI _ n + M_addsTrader (gm f) sd v 260 (w + 7 * n) = _
            rw [row, if_neg (by omega), if_neg (by omega), if_neg (by omega), if_pos (by omega), Int32.add_zero]
            exact sumI_congr fun t ht => by rw [row, if_neg (by omega), if_neg (by omega), if_neg (by omega), if_neg (by omega)]
          refine ⟨?_, ?_, ?_, p, x, c, ?_, ?_, cC, ?_, hp⟩
          · rw [sums 15 (by decide) (by decide), lo 6 (by decide) (by decide)]; exact u1
          · rw [sums 16 (by decide) (by decide), lo 7 (by decide) (by decide)]; exact u2
          · rw [sums 17 (by decide) (by decide)]; exact u3
          · rw [lo 5 (by decide) (by decide)]; exact c5
          · rw [lo 10 (by decide) (by decide)]; exact c10
          · rw [lo 1 (by decide) (by decide)]; exact hle
        · rw [row, if_neg (by decide), if_neg (by omega), if_neg (by omega), if_neg (by omega)]
      · exact Or.inl ⟨ISE, Or.inr (Or.inr rfl), fun μ s => XX10_addTrader_9_3 l hfl G B μ sd v ((if_neg c1).trans ((if_neg c2).trans (if_neg (by rw [show μ (1 + 1) 0 = f 0 from s.1.1.1]; exact c3))))⟩
theorem has_at {μ : Mm} {N R : Nat} (s : ST μ f) (g : RNG N R f) (t : Int32) : T_has μ (1 + 1) t = M_isTrader (gm f) t := rd_has (ν := gm f) (toG s.1) (rgG g) t
theorem tr_at {N R : Nat} (g : RNG N R f) {t : Int32} (c : ¬ M_isTrader (gm f) t = 0) : ∃ j, j < cn (f 0) ∧ t = nI j := by
  have := rd_tr (ν := gm f) (rgG g) c
  rwa [gm_260] at this
theorem out_setValue (hfl : l.stackTraces = false) (G : GG) (B : Nat) (g : RNG k 9999 f) (hC : CONS C f) (s0 : ST μ0 f) (t v : Int32) :
    OUT l G B yX10_setValue (.code yX10_setValue cX10_setValue 4 (Option.some FieldType.int)) 5 107 [.ref (B + 0), .int t, .int v] f k C false := by
  have hc := g.c0
  by_cases c1 : M_isTrader (gm f) t = 0
  · exact Or.inl ⟨IOE, Or.inl rfl, fun μ s => XX10_setValue_9_1 l hfl G B μ t v (if_pos (by rw [has_at s g]; exact c1))⟩
  · by_cases c2 : wI v 1 99 = 0
    · exact Or.inl ⟨IAE, Or.inr (Or.inl rfl), fun μ s => XX10_setValue_9_2 l hfl G B μ t v ((if_neg (by rw [has_at s g]; exact c1)).trans (if_pos c2))⟩
    · have hh := fun μ (s : ST μ f) => (show A_faultOfValue μ 1 t v = 0 from (if_neg (by rw [has_at s g]; exact c1)).trans (if_neg c2))
      obtain ⟨j, hj, rfl⟩ := tr_at g c1
      have hv := wI1 (n := 99) c2
      refine Or.inr ⟨f (12 + 7 * j), ch f (11 + 7 * j + 1) v, nv (g.2.2.2.2.2.1 j hj).2.1.1 (by decide), fun μ s => ?_, (rg_t (w := 1) g hj (by decide) (by decide) ⟨fun _ => hv, fun z => absurd z (by decide), fun z => absurd z (by decide)⟩).mono (by omega) (Nat.le_refl _), hC.c (by omega) (fun t => by omega), fun _ => ch_n (by omega), fun z => absurd z (by decide)⟩
      have hX := MX10_setValue l G B μ (nI j) v (hh μ s)
      have hU := push_rel s g
      have e1 : R_get (U_push μ 1) (1 + 1 + 3) 8 (nI j) = f (12 + 7 * j) := by
        have := rd_t (ν := gm f) (toG hU) (rgG g) (j := j) (w := 1) (by rw [gm_260]; exact hj) (by decide)
        rw [M_t_nI (by omega) (by decide), gm_260, show 11 + 7 * j + 1 = 12 + 7 * j by omega] at this
        exact this
      rw [e1, R_put_nI (by omega) (by decide)] at hX
      exact ⟨_, hX, mk_act s g (fun p hp => up2_k _ _ (by omega)) (wr_t (w := 1) hU g hj (by decide) (by decide))⟩
theorem out_setShade (hfl : l.stackTraces = false) (G : GG) (B : Nat) (g : RNG k 9999 f) (hC : CONS C f) (s0 : ST μ0 f) (t kd a : Int32) :
    OUT l G B yX10_setShade (.code yX10_setShade cX10_setShade 4 (Option.some FieldType.int)) 5 107 [.ref (B + 0), .int t, .int kd, .int a] f k C false := by
  have hc := g.c0
  by_cases c1 : M_isTrader (gm f) t = 0
  · exact Or.inl ⟨IOE, Or.inl rfl, fun μ s => XX10_setShade_10_1 l hfl G B μ t kd a (if_pos (by rw [has_at s g]; exact c1))⟩
  · by_cases c2 : wI kd 0 3 = 0
    · exact Or.inl ⟨IAE, Or.inr (Or.inl rfl), fun μ s => XX10_setShade_10_2 l hfl G B μ t kd a ((if_neg (by rw [has_at s g]; exact c1)).trans (if_pos c2))⟩
    · by_cases c3 : wI a 0 50 = 0
      · exact Or.inl ⟨IAE, Or.inr (Or.inl rfl), fun μ s => XX10_setShade_10_2 l hfl G B μ t kd a ((if_neg (by rw [has_at s g]; exact c1)).trans ((if_neg c2).trans (if_pos c3)))⟩
      · have hh := fun μ (s : ST μ f) => (show A_faultOfShade μ 1 t kd a = 0 from (if_neg (by rw [has_at s g]; exact c1)).trans ((if_neg c2).trans (if_neg c3)))
        obtain ⟨j, hj, rfl⟩ := tr_at g c1
        have hw : ∀ μ, ST μ f → REL (T_shadeBy (U_push μ 1) (1 + 1) (nI j) kd a) 1 (M_shadesM (gm f) (nI j) kd a 260) ∧ RNG k 9999 (M_shadesM (gm f) (nI j) kd a 260) := fun μ s => wr_shades (ν := gm f) (toG (push_rel s g)) (rgG g) (by rw [gm_260]; exact hj) (wI_vp (n := 3) c2) (wI_vp (n := 50) c3)
        have e1 : M_shadesM (gm f) (nI j) kd a 260 = ch (ch f (11 + 7 * j + 2) kd) (11 + 7 * j + 3) a := by
          unfold M_shadesM
          rw [show M_setT (M_setT (gm f) (nI j) 2 kd) (nI j) 3 a 260 = ch (M_setT (gm f) (nI j) 2 kd 260) (11 + 7 * j + 3) a from setT_ch (w := 3) (by omega) (by decide)]
          rw [show M_setT (gm f) (nI j) 2 kd 260 = ch (gm f 260) (11 + 7 * j + 2) kd from setT_ch (w := 2) (by omega) (by decide), gm_260]
        have g2 := (hw μ0 s0).2
        have hj2 : j < cn (M_shadesM (gm f) (nI j) kd a 260 0) := by rw [e1, ch_n (by omega), ch_n (by omega)]; exact hj
        refine Or.inr ⟨M_bidOf (M_shadesM (gm f) (nI j) kd a) (nI j), M_shadesM (gm f) (nI j) kd a 260, nv (bid_rng g2 hj2).1 (by decide), fun μ s => ?_, g2.mono (by omega) (Nat.le_refl _), ?_, fun _ => ?_, fun z => absurd z (by decide)⟩
        · have hX := MX10_setShade l G B μ (nI j) kd a (hh μ s)
          have hR := (hw μ s).1
          rw [show T_bidOf (T_shadeBy (U_push μ 1) (1 + 1) (nI j) kd a) (1 + 1) (nI j) = M_bidOf (M_shadesM (gm f) (nI j) kd a) (nI j) from rd_bid hR g2 hj2] at hX
          have e2 : T_shadeBy (U_push μ 1) (1 + 1) (nI j) kd a = up2 (up2 (U_push μ 1) (1 + 3 + 2 * 2) j kd) (1 + 3 + 2 * 3) j a := by
            unfold T_shadeBy
            rw [R_put_nI (by omega) (by decide), R_put_nI (by omega) (by decide)]
          exact ⟨_, hX, mk_act s g (fun p hp => by rw [e2, up2_k _ _ (by omega), up2_k _ _ (by omega)]) hR⟩
        · rw [e1]
          exact (hC.c (by omega) (fun t => by omega)).c (by omega) (fun t => by omega)
        · rw [e1, ch_n (by omega), ch_n (by omega)]
theorem out_set (hfl : l.stackTraces = false) (G : GG) (B : Nat) (g : RNG k 9999 f) (hC : CONS C f) (w v : Int32) :
    OUT l G B yX10_set (.code yX10_set cX10_set 3 (Option.some FieldType.int)) 5 107 [.ref (B + 0), .int w, .int v] f k C false := by
  by_cases c1 : A_faultOfSetting w v = 0
  · have hw : (w = 0 ∧ vp_in v 11) ∨ (w = 1 ∧ vp_in v 10 ∧ v ≠ 0) := by
      unfold A_faultOfSetting at c1
      split at c1
      · rename_i d
        split at c1
        · exact absurd c1 (by decide)
        · rename_i z
          exact Or.inl ⟨d, wI_vp (n := 10) z⟩
      · split at c1
        · rename_i d
          split at c1
          · exact absurd c1 (by decide)
          · rename_i z
            exact Or.inr ⟨d, wI1 (n := 9) z⟩
        · exact absurd c1 (by decide)
    rcases hw with ⟨rfl, hv⟩ | ⟨rfl, hv⟩
    · refine Or.inr ⟨f 3, ch f 3 v, nv g.2.2.1 (by decide), fun μ s => ?_, (rg_h g (by omega) (fun _ => hv) (fun z => absurd z (by decide))).mono (by omega) (Nat.le_refl _), hC.c (by omega) (fun t => by omega), fun _ => ch_n (by omega), fun z => absurd z (by decide)⟩
      have hX := MX10_set l G B μ 0 v c1
      have hU := push_rel s g
      rw [show A_change (U_push μ 1) 1 0 = f 3 from hU.1.2.2.2.1] at hX
      exact ⟨_, hX, mk_act s g (fun p hp => up2_k _ _ (by omega)) (wr_h hU (by unfold HD; omega))⟩
    · refine Or.inr ⟨f 4, ch f 4 v, nv g.2.2.2.1.1 (by decide), fun μ s => ?_, (rg_h g (by omega) (fun z => absurd z (by decide)) (fun _ => hv)).mono (by omega) (Nat.le_refl _), hC.c (by omega) (fun t => by omega), fun _ => ch_n (by omega), fun z => absurd z (by decide)⟩
      have hX := MX10_set l G B μ 1 v c1
      have hU := push_rel s g
      rw [show A_change (U_push μ 1) 1 1 = f 4 from hU.1.2.2.2.2.1] at hX
      exact ⟨_, hX, mk_act s g (fun p hp => up2_k _ _ (by omega)) (wr_h hU (by unfold HD; omega))⟩
  · refine Or.inl ⟨IAE, Or.inr (Or.inl rfl), fun μ s => XX10_set_9_2 l hfl G B μ w v ?_⟩
    unfold A_faultOfSetting at c1 ⊢
    split
    · rename_i d
      rw [if_pos d] at c1
      split
      · rfl
      · rename_i z
        exact absurd (if_neg z) c1
    · rename_i d
      rw [if_neg d] at c1
      split
      · rename_i d1
        rw [if_pos d1] at c1
        split
        · rfl
        · rename_i z
          exact absurd (if_neg z) c1
      · rfl
/-- an order placed: what comes of the row -/
theorem place_row (g : RNG k 9999 f) (hk : k < 100) (hC : CONS C f) (s0 : ST μ0 f) {j : Nat} (hj : j < cn (f 0)) (hn : cn (f 1) < 20) {pr u : Int32} (hp : vp_in pr 121 ∧ pr ≠ 0) (hu : vp_in u 10 ∧ u ≠ 0) :
    RNG (k + 1) 9999 (M_placesM (gm f) (nI j) pr u 260) ∧ CONS C (M_placesM (gm f) (nI j) pr u 260) ∧ M_placesM (gm f) (nI j) pr u 260 10 = f 10 ∧
      ∃ p : Nat, p ≤ k ∧ ∀ μ, ST μ f → A_place (U_push μ 1) 1 (nI j) pr u = nI p ∧ ST (A_placeM (U_push μ 1) 1 (nI j) pr u) (M_placesM (gm f) (nI j) pr u 260) ∧ SAV (A_placeM (U_push μ 1) 1 (nI j) pr u) f ∧ A_placeM (U_push μ 1) 1 (nI j) pr u 254 = μ 254 := by
  have hc := g.c0
  obtain ⟨n, hnn⟩ : ∃ n, n = cn (f 1) := ⟨_, rfl⟩
  have e1 : f 1 = nI n := by rw [hnn]; exact (vp_of2 g.1.2.1 (by decide)).1
  obtain ⟨p, hp', e5⟩ := g.2.2.2.2.1
  have hw : ∀ μ, ST μ f → REL (A_placeM (U_push μ 1) 1 (nI j) pr u) 1 (M_placesM (gm f) (nI j) pr u 260) ∧ RNG (k + 1) 9999 (M_placesM (gm f) (nI j) pr u 260) := fun μ s => wr_place (ν := gm f) (toG (push_rel s g)) (rgG g) (by omega) (by decide) (by rw [gm_260]; exact hn) (by rw [gm_260]; exact hj) hp hu
  have row := fun i => places_row (gm f) (t := j) (n := n) (p := p) pr u (by omega) (by rw [gm_260]; exact e1) (by rw [gm_260]; exact e5) i
  have lo : ∀ i, i < 67 → i ≠ 1 → i ≠ 5 → M_placesM (gm f) (nI j) pr u 260 i = f i := fun i h1 h2 h3 => by
    rw [row, if_neg h2, if_neg h3, if_neg (by omega), if_neg (by omega), if_neg (by omega), if_neg (by omega), if_neg (by omega), gm_260]
  have r1 : M_placesM (gm f) (nI j) pr u 260 1 = nI (n + 1) := by rw [row, if_pos rfl]
  have r5 : M_placesM (gm f) (nI j) pr u 260 5 = nI (p + 1) := by rw [row, if_neg (by decide), if_pos rfl]
  refine ⟨(hw μ0 s0).2, ?_, lo 10 (by decide) (by decide) (by decide), p, hp', fun μ s => ⟨?_, mk_act s g (fun q hq => place_ne (ν := gm f) (toG (push_rel s g)) (rgG g) (by omega) (by rw [gm_260]; exact hn) (by omega)) (hw μ s).1⟩⟩
  · obtain ⟨u1, u2, u3, p2, x, c, c5, c10, cC, hle, hp2⟩ := hC
    have epp : p2 = p := (nI_inj (by omega) (by omega)).mp (c5.symm.trans e5)
    have sums : ∀ w, 15 ≤ w → w < 18 → sT (M_placesM (gm f) (nI j) pr u 260) w = sT f w := fun w w1 w2 => by
      unfold sT
      rw [lo 0 (by decide) (by decide) (by decide)]
      exact sumI_congr fun t ht => lo _ (by omega) (by omega) (by omega)
    refine ⟨?_, ?_, ?_, p + 1, x, c, r5, ?_, cC, ?_, by omega⟩
    · rw [sums 15 (by decide) (by decide), lo 6 (by decide) (by decide) (by decide)]; exact u1
    · rw [sums 16 (by decide) (by decide), lo 7 (by decide) (by decide) (by decide)]; exact u2
    · rw [sums 17 (by decide) (by decide)]; exact u3
    · rw [lo 10 (by decide) (by decide) (by decide)]; exact c10
    · rw [r1, cn_nI (by omega)]; omega
  · unfold A_place
    rw [show A_placeM (U_push μ 1) 1 (nI j) pr u 1 6 = nI (p + 1) from (hw μ s).1.1.2.2.2.2.2.1.trans r5, ← nI_1, Int32.add_sub_cancel]
theorem oer_at {μ : Mm} {N R : Nat} (s : ST μ f) (g : RNG N R f) (t pr u : Int32) : A_faultOfOrder μ 1 t pr u = M_orderError (gm f) t pr u := oe_e (ν := gm f) (toG s.1) (rgG g) t pr u
theorem out_bid (hfl : l.stackTraces = false) (G : GG) (B : Nat) (g : RNG k 9999 f) (hk : k < 100) (hC : CONS C f) (s0 : ST μ0 f) (t u : Int32) :
    OUT l G B yX10_bid (.code yX10_bid cX10_bid 3 (Option.some FieldType.int)) 5 107 [.ref (B + 0), .int t, .int u] f k C false := by
  rcases oe_cases (gm f) t 1 u with c | c | c | c
  · have hh := fun μ (s : ST μ f) => (oer_at s g t 1 u).trans c
    obtain ⟨c1, c2, c3, c4⟩ := oe_0 c
    obtain ⟨j, hj, rfl⟩ := tr_at g c1
    have hn : cn (f 1) < 20 := by have := n1_lt (ν := gm f) (rgG g) c4; rwa [gm_260] at this
    obtain ⟨q1, q2, q3, p, hp, q4⟩ := place_row g hk hC s0 hj hn (bid_rng (ν := gm f) (rgG g) (by rw [gm_260]; exact hj)) (wI1 (n := 9) c3)
    refine Or.inr ⟨nI p, _, nn (by omega), fun μ s => ?_, q1, q2, fun _ => q3, fun z => absurd z (by decide)⟩
    have hX := MX10_bid l G B μ (nI j) u (hh μ s)
    rw [show T_bidOf (U_push μ 1) (1 + 1) (nI j) = M_bidOf (gm f) (nI j) from rd_bid (ν := gm f) (toG (push_rel s g)) (rgG g) (by rw [gm_260]; exact hj), (q4 μ s).1] at hX
    exact ⟨_, hX, (q4 μ s).2⟩
  · exact Or.inl ⟨IOE, Or.inl rfl, fun μ s => XX10_bid_9_1 l hfl G B μ t u ((oer_at s g t 1 u).trans c)⟩
  · exact Or.inl ⟨IAE, Or.inr (Or.inl rfl), fun μ s => XX10_bid_9_2 l hfl G B μ t u ((oer_at s g t 1 u).trans c)⟩
  · exact Or.inl ⟨ISE, Or.inr (Or.inr rfl), fun μ s => XX10_bid_9_3 l hfl G B μ t u ((oer_at s g t 1 u).trans c)⟩
theorem out_order (hfl : l.stackTraces = false) (G : GG) (B : Nat) (g : RNG k 9999 f) (hk : k < 100) (hC : CONS C f) (s0 : ST μ0 f) (t pr u : Int32) :
    OUT l G B yX10_order (.code yX10_order cX10_order 4 (Option.some FieldType.int)) 5 107 [.ref (B + 0), .int t, .int pr, .int u] f k C false := by
  rcases oe_cases (gm f) t pr u with c | c | c | c
  · have hh := fun μ (s : ST μ f) => (oer_at s g t pr u).trans c
    obtain ⟨c1, c2, c3, c4⟩ := oe_0 c
    obtain ⟨j, hj, rfl⟩ := tr_at g c1
    have hn : cn (f 1) < 20 := by have := n1_lt (ν := gm f) (rgG g) c4; rwa [gm_260] at this
    obtain ⟨q1, q2, q3, p, hp, q4⟩ := place_row g hk hC s0 hj hn (wI1 (n := 120) c2) (wI1 (n := 9) c3)
    refine Or.inr ⟨nI p, _, nn (by omega), fun μ s => ?_, q1, q2, fun _ => q3, fun z => absurd z (by decide)⟩
    have hX := MX10_order l G B μ (nI j) pr u (hh μ s)
    rw [(q4 μ s).1] at hX
    exact ⟨_, hX, (q4 μ s).2⟩
  · exact Or.inl ⟨IOE, Or.inl rfl, fun μ s => XX10_order_10_1 l hfl G B μ t pr u ((oer_at s g t pr u).trans c)⟩
  · exact Or.inl ⟨IAE, Or.inr (Or.inl rfl), fun μ s => XX10_order_10_2 l hfl G B μ t pr u ((oer_at s g t pr u).trans c)⟩
  · exact Or.inl ⟨ISE, Or.inr (Or.inr rfl), fun μ s => XX10_order_10_3 l hfl G B μ t pr u ((oer_at s g t pr u).trans c)⟩
theorem out_cancel (hfl : l.stackTraces = false) (G : GG) (B : Nat) (g : RNG k 9999 f) (hC : CONS C f) (s0 : ST μ0 f) (x : Int32) :
    OUT l G B yX10_cancel (.code yX10_cancel cX10_cancel 2 (Option.some FieldType.int)) 5 107 [.ref (B + 0), .int x] f k (C + 1) false := by
  have hc := g.c0
  by_cases c1 : M_find (gm f) x < 0
  · exact Or.inl ⟨IOE, Or.inl rfl, fun μ s => XX10_cancel_11_1 l hfl G B μ x ((fa_at s.1 g x).trans (if_pos c1))⟩
  · obtain ⟨j, hj, ej⟩ := fi_at g c1
    obtain ⟨n, hnn⟩ : ∃ n, n = cn (f 1) := ⟨_, rfl⟩
    have e1 : f 1 = nI n := by rw [hnn]; exact (vp_of2 g.1.2.1 (by decide)).1
    have hu := of_U (ν := gm f) (rgG g) (k := j) (by rw [gm_260]; exact hj)
    rw [gm_260] at hu
    have hw : ∀ μ, ST μ f → REL (O_removeAt (U_push μ 1) (1 + 16) (nI j)) 1 (M_removes (gm f) (nI j) 260) ∧ RNG k 9999 (M_removes (gm f) (nI j) 260) := fun μ s => wr_rem (ν := gm f) (toG (push_rel s g)) (rgG g) (by rw [gm_260]; exact hj)
    have row := fun i => removes_row (gm f) (n := n) (k := j) (by omega) (by omega) (by rw [gm_260]; exact e1) i
    have lo : ∀ i, i < 67 → i ≠ 1 → M_removes (gm f) (nI j) 260 i = f i := fun i h1 h2 => by rw [row, if_neg h2, if_neg (by omega), gm_260]
    have r1 : M_removes (gm f) (nI j) 260 1 = nI (n - 1) := by rw [row, if_pos rfl]
    refine Or.inr ⟨nI (nU f j), M_removes (gm f) (nI j) 260, nn (by omega), fun μ s => ?_, (hw μ0 s0).2.mono (by omega) (Nat.le_refl _), ?_, fun _ => lo 10 (by decide) (by decide), fun z => absurd z (by decide)⟩
    · have hX := MX10_cancel l G B μ x ((fa_at s.1 g x).trans (if_neg c1))
      have hU := push_rel s g
      rw [ix_at hU g, ej, show R_get (U_push μ 1) (1 + 16 + 9) 20 (nI j) = nI (nU f j) from (rd_un (ν := gm f) (toG hU) (rgG g) (by rw [gm_260]; exact hj)).trans hu.1] at hX
      exact ⟨_, hX, mk_act s g (fun p hp => remAt_ne (by omega)) (hw μ s).1⟩
    · obtain ⟨u1, u2, u3, p, y, c, c5, c10, cC, hle, hp⟩ := hC
      have sums : ∀ w, 15 ≤ w → w < 18 → sT (M_removes (gm f) (nI j) 260) w = sT f w := fun w w1 w2 => by
        unfold sT
        rw [lo 0 (by decide) (by decide)]
        exact sumI_congr fun t ht => lo _ (by omega) (by omega)
      refine ⟨?_, ?_, ?_, p, y, c + 1, ?_, ?_, ?_, ?_, hp⟩
      · rw [sums 15 (by decide) (by decide), lo 6 (by decide) (by decide)]; exact u1
      · rw [sums 16 (by decide) (by decide), lo 7 (by decide) (by decide)]; exact u2
      · rw [sums 17 (by decide) (by decide)]; exact u3
      · rw [lo 5 (by decide) (by decide)]; exact c5
      · rw [lo 10 (by decide) (by decide)]; exact c10
      · rw [cC, nI_1]
      · rw [r1, cn_nI (by omega)]; omega
theorem out_clear (hfl : l.stackTraces = false) (G : GG) (B : Nat) (g : RNG k 9999 f) (hC : CONS C f) (s0 : ST μ0 f) :
    OUT l G B yX10_clear (.code yX10_clear cX10_clear 1 (Option.some FieldType.int)) 5 114 [.ref (B + 0)] f k C true := by
  have hc := g.c0
  obtain ⟨r, hr, er⟩ := g.2.1
  by_cases c1 : f 2 < 9999
  · have hlt : r < 9999 := by rw [er] at c1; exact nI_lt_of (by decide) (by omega) (show nI r < nI 9999 from c1)
    have g2 : RNG k r f := g.lo er
    have e1 : f 1 = nI (cn (f 1)) := (vp_of2 g.1.2.1 (by decide)).1
    have hw := fun μ (s : ST μ f) => clears_at (ν := gm f) (a := 1) (toG (push_rel s g)) (rgG g2) (by decide) (by omega)
    have hcc := clear_cons (ν := gm f) (toG s0.1) (rgG g) (by rw [gm_260]; exact hC)
    have hv : (M_clears (gm f)).2 = nI (VN f) := by
      have b := E_all (ν := gm f) (toG s0.1) (rgG g) (by decide) 0 (Nat.zero_le _)
      have n0c : cn (M_cl1 (gm f) 260 0) = cn (gm f 260 0) := congrArg cn b.2.2.1.1.1
      obtain ⟨-, -, d3, -⟩ := E_all (ν := gm f) (toG s0.1) (rgG g) (by decide) (cn (gm f 260 0)) (Nat.le_refl _)
      show M_clE (gm f) 259 7 = _
      unfold M_clE
      rw [n0c, d3.2.1, gm_260]
    have hV := (VN_at (ν := gm f) (sp := f 3) (rgG g) g.2.2.1).1
    rw [gm_260] at hV
    have hg' := (hw μ0 s0).2.1
    refine Or.inr ⟨nI (VN f), (M_clears (gm f)).1 260, nn (by omega), fun μ s => ?_, hg'.mono (by omega) (by omega), hcc.1, fun z => absurd z (by decide), fun _ => ?_⟩
    · have hX := MX10_clear l G B μ (if_pos (by rw [show μ 1 5 = f 2 from s.1.1.2.2.1]; exact c1)) (by rw [show U_push μ 1 (1 + 16) 0 = f 1 from (push_rel s g).1.2.1, e1]; exact nI_pos (by omega))
      obtain ⟨w1, w2, w3, w4, w5, -⟩ := hw μ s
      rw [w3, hv] at hX
      exact ⟨_, hX, mk_act s g (fun p hp => w5 p (by omega)) w1⟩
    · have q1 : (M_clears (gm f)).1 260 1 = nI (cn ((M_clears (gm f)).1 260 1)) := (vp_of2 hg'.1.2.1 (by decide)).1
      have q2 := hcc.2.1
      rw [gm_260] at q2
      rw [q1, e1]
      exact nI_le q2 (by omega)
  · exact Or.inl ⟨ISE, Or.inr (Or.inr rfl), fun μ s => XX10_clear_7_3 l hfl G B μ (if_neg (by rw [show μ 1 5 = f 2 from s.1.1.2.2.1]; exact c1))⟩
/-! the questions -/
theorem set_keep {μ : Mm} {N R : Nat} (s : ST μ f) (g : RNG N R f) : KEEP μ (C_settle μ 1) := fun p hp => (settle_at (ν := gm f) (toG s.1) (rgG g) (by decide)).1 p (by omega)
theorem hf_at {μ : Mm} {N R : Nat} (s : ST μ f) (g : RNG N R f) (t : Int32) : T_faultOfNumber μ (1 + 1) t = if M_isTrader (gm f) t = 0 then 1 else 0 := by
  unfold T_faultOfNumber
  rw [has_at s g]
theorem ask_reason (hfl : l.stackTraces = false) (G : GG) (B : Nat) (g : RNG k 9999 f) (x : Int32) : XOK l G B yX10_reason (.code yX10_reason cX10_reason 2 (Option.some FieldType.int)) [.ref (B + 0), .int x] f ∨ NOK l G B yX10_reason (.code yX10_reason cX10_reason 2 (Option.some FieldType.int)) 4 91 [.ref (B + 0), .int x] f := by
  by_cases c1 : M_find (gm f) x < 0
  · exact Or.inl ⟨IOE, Or.inl rfl, fun μ s => XX10_reason_11_1 l hfl G B μ x ((fa_at s.1 g x).trans (if_pos c1))⟩
  · exact Or.inr fun μ s => ⟨_, _, MX10_reason l G B μ x ((fa_at s.1 g x).trans (if_neg c1)), set_keep s g⟩
theorem ask_bestSplit (hfl : l.stackTraces = false) (G : GG) (B : Nat) (g : RNG k 9999 f) (t : Int32) : XOK l G B yX10_bestSplit (.code yX10_bestSplit cX10_bestSplit 6 (Option.some FieldType.int)) [.ref (B + 0), .int t] f ∨ NOK l G B yX10_bestSplit (.code yX10_bestSplit cX10_bestSplit 6 (Option.some FieldType.int)) 4 91 [.ref (B + 0), .int t] f := by
  by_cases c1 : M_isTrader (gm f) t = 0
  · exact Or.inl ⟨IOE, Or.inl rfl, fun μ s => XX10_bestSplit_11_1 l hfl G B μ t ((hf_at s g t).trans (if_pos c1))⟩
  · exact Or.inr fun μ s => ⟨_, _, MX10_bestSplit l G B μ t ((hf_at s g t).trans (if_neg c1)), set_keep s g⟩
theorem ask_gainWith (hfl : l.stackTraces = false) (G : GG) (B : Nat) (g : RNG k 9999 f) (hk : k < 100) (t p : Int32) : XOK l G B yX10_gainWith (.code yX10_gainWith cX10_gainWith 3 (Option.some FieldType.int)) [.ref (B + 0), .int t, .int p] f ∨ NOK l G B yX10_gainWith (.code yX10_gainWith cX10_gainWith 3 (Option.some FieldType.int)) 4 91 [.ref (B + 0), .int t, .int p] f := by
  have hc := g.c0
  by_cases c1 : M_isTrader (gm f) t = 0
  · exact Or.inl ⟨IOE, Or.inl rfl, fun μ s => XX10_gainWith_11_1 l hfl G B μ t p ((hf_at s g t).trans (if_pos c1))⟩
  · by_cases c2 : wI p 1 120 = 0
    · exact Or.inl ⟨IAE, Or.inr (Or.inl rfl), fun μ s => XX10_gainWith_18_2 l hfl G B μ t p ((hf_at s g t).trans (if_neg c1)) (if_pos c2)⟩
    · refine Or.inr fun μ s => ⟨_, _, MX10_gainWith l G B μ t p ((hf_at s g t).trans (if_neg c1)) (if_neg c2), ?_⟩
      obtain ⟨j, hj, rfl⟩ := tr_at g c1
      unfold X_gainWithM
      by_cases c3 : O_full μ (1 + 16) = 0
      · rw [if_pos c3]
        have hn : cn (f 1) < 20 := by
          unfold O_full at c3
          rw [show μ (1 + 16) 0 = f 1 from s.1.1.2.1] at c3
          by_cases c4 : f 1 < 20
          · have := n1_lt (ν := gm f) (rgG g) (by rw [gm_260]; exact c4)
            rwa [gm_260] at this
          · rw [if_neg c4] at c3
            exact absurd c3 (by decide)
        have hab : 41 + 40 ≤ 1 ∨ 1 + 40 ≤ 41 := Or.inr (by decide)
        have rc : REL (A_copy μ 41 1) 41 f := A_copy_REL hab s.1 hc.1 hc.2.1 hc.2.2
        have hw := wr_place (ν := gm f) (t := j) (pr := p) (u := 1) (toG rc) (rgG g) (by omega) (by decide) (by rw [gm_260]; exact hn) (by rw [gm_260]; exact hj) (wI1 (n := 120) c2) ⟨vpd rfl, by decide⟩
        intro q hq
        unfold X_withM
        rw [(settle_at hw.1 hw.2 (by decide)).1 q (by omega)]
        have e : A_placeM (A_copy μ 41 1) 41 (nI j) p 1 q = A_copy μ 41 1 q := by
          rcases hq with hq | hq
          · exact place_lo (ν := gm f) (toG rc) (rgG g) (by omega) (by rw [gm_260]; exact hn) hq
          · exact place_ne (ν := gm f) (toG rc) (rgG g) (by omega) (by rw [gm_260]; exact hn) (by omega)
        rw [e, A_copy_out hab (by omega)]
      · rw [if_neg c3]
        exact KEEP.rf μ
theorem ask_goneIn (hfl : l.stackTraces = false) (G : GG) (B : Nat) (g : RNG k 9999 f) (hk : k < 100) (x : Int32) : XOK l G B yX10_goneIn (.code yX10_goneIn cX10_goneIn 3 (Option.some FieldType.int)) [.ref (B + 0), .int x] f ∨ NOK l G B yX10_goneIn (.code yX10_goneIn cX10_goneIn 3 (Option.some FieldType.int)) 5 114 [.ref (B + 0), .int x] f := by
  have hc := g.c0
  by_cases c1 : M_find (gm f) x < 0
  · exact Or.inl ⟨IOE, Or.inl rfl, fun μ s => XX10_goneIn_11_1 l hfl G B μ x ((fa_at s.1 g x).trans (if_pos c1))⟩
  · refine Or.inr fun μ s => ?_
    have hab : 41 + 40 ≤ 1 ∨ 1 + 40 ≤ 41 := Or.inr (by decide)
    have rc : REL (A_copy μ 41 1) 41 f := A_copy_REL hab s.1 hc.1 hc.2.1 hc.2.2
    have e1 : f 1 = nI (cn (f 1)) := (vp_of2 g.1.2.1 (by decide)).1
    refine ⟨_, _, MX10_goneIn l G B μ x ((fa_at s.1 g x).trans (if_neg c1)) (by rw [show A_copy μ 41 1 (41 + 16) 0 = f 1 from rc.1.2.1, e1]; exact nI_pos (by omega)), fun p hp => ?_⟩
    obtain ⟨q0, hq0, eq0⟩ := g.2.1
    obtain ⟨li, hli, eli⟩ := vp_nI g.2.2.2.1.1 (by decide)
    have hx : ∀ j, j < cn (f 1) → f (67 + 5 * j) = x → ∃ s, s ≤ q0 ∧ f (71 + 5 * j) = nI s := fun j hj _ => by
      obtain ⟨-, -, -, -, s, hs, es⟩ := g.2.2.2.2.2.2.1 j hj
      rw [eq0, cn_nI (by omega)] at hs
      exact ⟨s, hs, es⟩
    have key := gone_at (x := x) (N := k) (q0 := q0) (l := li) (by omega) (by omega) (by omega) 8 0 (A_copy μ 41 1) (gm f) rfl (toG rc) (by rw [gm_260]; exact g.lo eq0) (by rw [gm_260]; exact eq0) (by rw [gm_260]; exact eli) (by rw [gm_260]; exact hx) c1
    unfold X_goneIn
    rw [NN_eq 8]
    exact (key.2.2.1 p hp).trans (by rw [A_copy_out hab (by omega)])
end OPS
end
