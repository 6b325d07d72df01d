noncomputable section
/-! the fault of a text on both sides -/
theorem ff_at {L : Nat} {t : Nat → Nat} (hT : TB L t) : ∀ n p (μ κ : Mm), SC L t p μ κ → L ≤ p + n → μ 254 5 = -1 → D_ff n μ 254 5 = (FA (n + 1) κ).2 ∧ FAok (n + 1) κ := by
  have hL := hT.1
  have stop : ∀ n p (μ κ : Mm), SC L t p μ κ → sk L t L p = L → (FA (n + 1) κ).2 = -1 ∧ FAok (n + 1) κ := fun n p μ κ S e => by
    have hn : ¬ κ 259 10 < κ 259 9 := by rw [S.2.2.2.2, S.2.1.1, e]; exact Int32.lt_irrefl
    have e9 : FA (n + 1) κ = (κ, -1) := by rw [FA, if_neg hn]
    exact ⟨congrArg Prod.snd e9, fun z => absurd z hn⟩
  intro n
  induction n with
  | zero =>
    intro p μ κ S hp h5
    have s1 := sk_le L t L p S.2.2.1
    obtain ⟨e1, e2⟩ := stop 0 p μ κ S (by omega)
    exact ⟨h5.trans e1.symm, e2⟩
  | succ n ih =>
    intro p μ κ S hp h5
    rcases cmd_at hT S with ⟨e, a1, a2⟩ | ⟨hlt, a1, a2, f, a3, a4, a5⟩ | ⟨hlt, a1, a2, a3, e, k, he, hk, S2, -, -, -, a4⟩
    · obtain ⟨e1, e2⟩ := stop (n + 1) p μ κ S e
      refine ⟨?_, e2⟩
      rw [D_ff, if_pos a1, a2, h5, e1]
    · have hl : κ 259 10 < κ 259 9 := by rw [S.2.2.2.2, S.2.1.1]; exact nI_lt hlt (by omega)
      refine ⟨?_, fun _ _ z => absurd a2 z⟩
      rw [D_ff, if_pos a1, FA, if_pos hl, a3]
      by_cases c : M_isHere κ 97 122 = 0
      · rw [if_pos c, a5 c]
        exact S.2.2.2.2.symm
      · rw [if_neg c, if_pos a2]
        exact a4.symm
    · have hl : κ 259 10 < κ 259 9 := by rw [S.2.2.2.2, S.2.1.1]; exact nI_lt hlt (by omega)
      obtain ⟨i1, i2⟩ := ih e _ _ S2 (by omega) (a4.trans h5)
      refine ⟨?_, fun _ _ _ => i2⟩
      rw [D_ff, if_neg a1, FA, if_pos hl, if_neg a3, if_neg a2]
      exact i1
/-! a command on both sides -/
def DOK (N : Nat) (μ κ : Mm) : Prop := (X_cmdFault μ = 0 ↔ M_err κ = 0) ∧ (M_err κ = 0 → REL (X_cmdDo μ) 1 (M_deed κ 260) ∧ RNG (N + 1) 9999 (M_deed κ 260) ∧ (∀ p, 92 ≤ p → X_cmdDo μ p = μ p) ∧ (∀ p, p ≠ 259 → p ≠ 260 → p ≠ 264 → M_deed κ p = κ p) ∧ ∀ i, i ≠ 4 → i ≠ 5 → i ≠ 6 → i ≠ 7 → M_deed κ 259 i = κ 259 i)
theorem DOK.of {N : Nat} {μ κ A C : Mm} {F E : Int32} (e1 : X_cmdFault μ = F) (e2 : X_cmdDo μ = A) (e3 : M_err κ = E) (e4 : M_deed κ = C) (hf : F = 0 ↔ E = 0)
    (h : E = 0 → REL A 1 (C 260) ∧ RNG (N + 1) 9999 (C 260) ∧ (∀ p, 92 ≤ p → A p = μ p) ∧ (∀ p, p ≠ 259 → p ≠ 260 → p ≠ 264 → C p = κ p) ∧ ∀ i, i ≠ 4 → i ≠ 5 → i ≠ 6 → i ≠ 7 → C 259 i = κ 259 i) : DOK N μ κ := by
  unfold DOK
  rw [e1, e2, e3, e4]
  exact ⟨hf, h⟩
theorem x_n0 (μ : Mm) : X_num μ 0 = μ 256 0 := R_get_nI (j := 0) (by decide) (by decide)
theorem x_n1 (μ : Mm) : X_num μ 1 = μ 256 1 := R_get_nI (j := 1) (by decide) (by decide)
theorem x_n2 (μ : Mm) : X_num μ 2 = μ 256 2 := R_get_nI (j := 2) (by decide) (by decide)
theorem i01 {a b : Int32} (ha : a ≠ 0) (hb : b ≠ 0) : (a = 0 ↔ b = 0) := ⟨fun z => absurd z ha, fun z => absurd z hb⟩
theorem join_iff {μ κ : Mm} (h : REL μ 1 (κ 260)) (sd v : Int32) : A_faultOfJoin μ 1 sd v = 0 ↔ M_traderError κ sd v = 0 := by
  unfold A_faultOfJoin M_traderError
  rw [show μ (1 + 1) 0 = κ 260 0 from rd_n0 h]
  by_cases c1 : wI sd 0 1 = 0
  · rw [if_pos c1, if_pos c1]; exact i01 (by decide) (by decide)
  · rw [if_neg c1, if_neg c1]
    by_cases c2 : wI v 1 99 = 0
    · rw [if_pos c2, if_pos c2]; exact i01 (by decide) (by decide)
    · rw [if_neg c2, if_neg c2]
      by_cases c3 : κ 260 0 < 8
      · rw [if_pos c3, if_pos c3]
      · rw [if_neg c3, if_neg c3]; exact i01 (by decide) (by decide)
theorem te_0 {κ : Mm} {sd v : Int32} (h : M_traderError κ sd v = 0) : ¬ wI sd 0 1 = 0 ∧ ¬ wI v 1 99 = 0 ∧ κ 260 0 < 8 := by
  unfold M_traderError at h
  by_cases c1 : wI sd 0 1 = 0
  · rw [if_pos c1] at h; exact absurd h (by decide)
  · rw [if_neg c1] at h
    by_cases c2 : wI v 1 99 = 0
    · rw [if_pos c2] at h; exact absurd h (by decide)
    · rw [if_neg c2] at h
      by_cases c3 : κ 260 0 < 8
      · exact ⟨c1, c2, c3⟩
      · rw [if_neg c3] at h; exact absurd h (by decide)
theorem se_0 {κ : Mm} {t a v : Int32} (h : M_shadeError κ t a v = 0) : ¬ M_isTrader κ t = 0 ∧ ¬ wI a 0 3 = 0 ∧ ¬ wI v 0 50 = 0 := by
  unfold M_shadeError at h
  by_cases c1 : M_isTrader κ t = 0
  · rw [if_pos c1] at h; exact absurd h (by decide)
  · rw [if_neg c1] at h
    by_cases c2 : wI a 0 3 = 0
    · rw [if_pos c2] at h; exact absurd h (by decide)
    · rw [if_neg c2] at h
      by_cases c3 : wI v 0 50 = 0
      · rw [if_pos c3] at h; exact absurd h (by decide)
      · exact ⟨c1, c2, c3⟩
theorem set_iff (w v : Int32) : A_faultOfSetting w v = 0 ↔ M_settingError w v = 0 := by
  unfold A_faultOfSetting M_settingError
  by_cases c1 : w = 0
  · rw [if_pos c1, if_pos c1]
    by_cases c2 : wI v 0 10 = 0
    · rw [if_pos c2, if_pos c2]; exact i01 (by decide) (by decide)
    · rw [if_neg c2, if_neg c2]
  · rw [if_neg c1, if_neg c1]
    by_cases c2 : w = 1
    · rw [if_pos c2, if_pos c2]
      by_cases c3 : wI v 1 9 = 0
      · rw [if_pos c3, if_pos c3]; exact i01 (by decide) (by decide)
      · rw [if_neg c3, if_neg c3]
    · rw [if_neg c2, if_neg c2]; exact i01 (by decide) (by decide)
theorem st_0 {w v : Int32} (h : M_settingError w v = 0) : (w = 0 ∧ vp_in v 11) ∨ (w = 1 ∧ vp_in v 10 ∧ v ≠ 0) := by
  unfold M_settingError at h
  by_cases d0 : w = 0
  · rw [if_pos d0] at h
    exact Or.inl ⟨d0, wI_vp (n := 10) (fun z => by rw [if_pos (show wI v 0 10 = 0 from z)] at h; exact absurd h (by decide))⟩
  · rw [if_neg d0] at h
    by_cases d1 : w = 1
    · rw [if_pos d1] at h
      exact Or.inr ⟨d1, wI1 (n := 9) (fun z => by rw [if_pos (show wI v 1 9 = 0 from z)] at h; exact absurd h (by decide))⟩
    · rw [if_neg d1] at h
      exact absurd h (by decide)
/-- what each deed does to both sides -/
def DEED (N : Nat) (μ κ A C : Mm) : Prop := REL A 1 (C 260) ∧ RNG (N + 1) 9999 (C 260) ∧ (∀ p, 92 ≤ p → A p = μ p) ∧ (∀ p, p ≠ 259 → p ≠ 260 → p ≠ 264 → C p = κ p) ∧ ∀ i, i ≠ 4 → i ≠ 5 → i ≠ 6 → i ≠ 7 → C 259 i = κ 259 i
theorem de_join {N : Nat} {μ κ : Mm} {sd v : Int32} (h : REL μ 1 (κ 260)) (g : RNG N 9999 (κ 260)) (e : M_traderError κ sd v = 0) : DEED N μ κ (T_join μ (1 + 1) sd v) (M_addsTrader κ sd v) := by
  obtain ⟨c1, c2, c3⟩ := te_0 e
  have hn : cn (κ 260 0) < 8 := by
    obtain ⟨n, hn, e⟩ := vp_nI g.1.1 (by decide)
    rw [e] at c3 ⊢
    rw [cn_nI (by omega)]
    exact nI_lt_of (by decide) (by omega) (show nI n < nI 8 from c3)
  obtain ⟨w1, w2⟩ := wr_join h g hn (wI01 c1) (wI1 (n := 99) c2)
  exact ⟨w1, w2.mono (by omega) (Nat.le_refl _), fun p hp => T_join_ne (Or.inr (by omega)), fun p _ p2 _ => adds_ne _ _ _ p2, fun i _ _ _ _ => by rw [adds_ne _ _ _ (by decide)]⟩
theorem de_shade {N : Nat} {μ κ : Mm} {t a v : Int32} (h : REL μ 1 (κ 260)) (g : RNG N 9999 (κ 260)) (e : M_shadeError κ t a v = 0) : DEED N μ κ (T_shadeBy μ (1 + 1) t a v) (M_shadesM κ t a v) := by
  obtain ⟨c1, c2, c3⟩ := se_0 e
  obtain ⟨j, hj, rfl⟩ := rd_tr g c1
  obtain ⟨w1, w2⟩ := wr_shades h g hj (wI_vp (n := 3) c2) (wI_vp (n := 50) c3)
  exact ⟨w1, w2.mono (by omega) (Nat.le_refl _), fun p hp => T_shadeBy_ne (Or.inr (by omega)), fun p _ p2 _ => shades_ne p2, fun i _ _ _ _ => by rw [shades_ne (by decide)]⟩
theorem de_order {N : Nat} {μ κ : Mm} {t pr u : Int32} (h : REL μ 1 (κ 260)) (g : RNG N 9999 (κ 260)) (hN : N + 1 < 2 ^ 31) (e : M_orderError κ t pr u = 0) : DEED N μ κ (A_placeM μ 1 t pr u) (M_placesM κ t pr u) := by
  obtain ⟨c1, c2, c3, c4⟩ := oe_0 e
  obtain ⟨j, hj, rfl⟩ := rd_tr g c1
  obtain ⟨w1, w2⟩ := wr_place h g hN (by decide) (n1_lt g c4) hj (wI1 (n := 120) c2) (wI1 (n := 9) c3)
  exact ⟨w1, w2, fun p hp => place_ne h g hN (n1_lt g c4) (by omega), fun p _ p2 _ => places_ne p2, fun i _ _ _ _ => by rw [places_ne (by decide)]⟩
theorem de_bid {N : Nat} {μ κ : Mm} {t u : Int32} (h : REL μ 1 (κ 260)) (g : RNG N 9999 (κ 260)) (hN : N + 1 < 2 ^ 31) (e : M_orderError κ t 1 u = 0) : DEED N μ κ (A_placeM μ 1 t (T_bidOf μ (1 + 1) t) u) (M_placesM κ t (M_bidOf κ t) u) := by
  obtain ⟨c1, c2, c3, c4⟩ := oe_0 e
  obtain ⟨j, hj, rfl⟩ := rd_tr g c1
  rw [rd_bid h g hj]
  obtain ⟨w1, w2⟩ := wr_place h g hN (by decide) (n1_lt g c4) hj (bid_rng g hj) (wI1 (n := 9) c3)
  exact ⟨w1, w2, fun p hp => place_ne h g hN (n1_lt g c4) (by omega), fun p _ p2 _ => places_ne p2, fun i _ _ _ _ => by rw [places_ne (by decide)]⟩
theorem de_cancel {N : Nat} {μ κ : Mm} {x : Int32} (h : REL μ 1 (κ 260)) (g : RNG N 9999 (κ 260)) (e : M_fdErr κ x = 0) : DEED N μ κ (O_removeAt μ (1 + 16) (O_indexOf μ (1 + 16) x)) (M_removes κ (M_find κ x)) := by
  have c : ¬ M_find κ x < 0 := fun z => by
    unfold M_fdErr at e
    rw [if_pos z] at e
    exact absurd e (by decide)
  obtain ⟨f, hf, hfe⟩ := find_at g c
  rw [rd_find h g, hfe]
  obtain ⟨w1, w2⟩ := wr_rem h g hf
  exact ⟨w1, w2.mono (by omega) (Nat.le_refl _), fun p hp => remAt_ne (by omega), fun p _ p2 _ => removes_ne p2, fun i _ _ _ _ => by rw [removes_ne (by decide)]⟩
theorem de_set {N : Nat} {μ κ : Mm} {w v : Int32} (h : REL μ 1 (κ 260)) (g : RNG N 9999 (κ 260)) (e : M_settingError w v = 0) : DEED N μ κ (A_changeM μ 1 w v) (M_setsM κ w v) := by
  have h1 : ∀ p, 92 ≤ p → A_changeM μ 1 w v p = μ p := fun p hp => by unfold A_changeM; split <;> exact up2_k _ _ (by omega)
  have h2 : ∀ p, p ≠ 260 → M_setsM κ w v p = κ p := fun p hp => up2_k _ _ hp
  refine ⟨?_, ?_, h1, fun p _ p2 _ => h2 p p2, fun i _ _ _ _ => by rw [h2 259 (by decide)]⟩
  · rcases st_0 e with ⟨d, -⟩ | ⟨d, -⟩
    · subst d
      have e2 : M_setsM κ 0 v 260 = ch (κ 260) 3 v := up2_ch _ _ _ _
      rw [e2]
      exact wr_h h (by unfold HD; omega)
    · subst d
      have e2 : M_setsM κ 1 v 260 = ch (κ 260) 4 v := up2_ch _ _ _ _
      rw [e2]
      exact wr_h h (by unfold HD; omega)
  · rcases st_0 e with ⟨d, hv⟩ | ⟨d, hv⟩
    · subst d
      have e2 : M_setsM κ 0 v 260 = ch (κ 260) 3 v := up2_ch _ _ _ _
      rw [e2]
      exact (rg_h g (by omega) (fun _ => hv) (fun z => absurd z (by decide))).mono (by omega) (Nat.le_refl _)
    · subst d
      have e2 : M_setsM κ 1 v 260 = ch (κ 260) 4 v := up2_ch _ _ _ _
      rw [e2]
      exact (rg_h g (by omega) (fun z => absurd z (by decide)) (fun _ => hv)).mono (by omega) (Nat.le_refl _)
theorem de_clear {N : Nat} {μ κ : Mm} (h : REL μ 1 (κ 260)) (g : RNG N 9999 (κ 260)) (e : M_clearError κ = 0) : DEED N μ κ (A_endM μ 1) (M_clears κ).1 := by
  obtain ⟨r, hr, er⟩ := g.2.1
  have c : κ 260 2 < 9999 := by
    unfold M_clearError at e
    by_cases c : κ 260 2 < 9999
    · exact c
    · rw [if_neg c] at e; exact absurd e (by decide)
  have hlt : r < 9999 := by rw [er] at c; exact nI_lt_of (by decide) (by omega) (show nI r < nI 9999 from c)
  obtain ⟨w1, w2, -, -, w5, w6, w7⟩ := clears_at (a := 1) h (g.lo er) (by decide) (by omega)
  have fo := (finds_at g).2.2.2.2
  exact ⟨w1, w2.mono (by omega) (by omega), fun p hp => w5 p (by omega), w6, fun i i4 i5 i6 i7 => (w7 i).trans (fo i i4 i5 i6 i7)⟩
theorem clok_at {N : Nat} {μ κ : Mm} (h : REL μ 1 (κ 260)) (g : RNG N 9999 (κ 260)) : M_clok κ := (clears_at (a := 1) h g (by decide) (by omega)).2.2.2.1
theorem rnd_iff {μ κ : Mm} (h : REL μ 1 (κ 260)) : A_faultOfRound μ 1 = 0 ↔ M_clearError κ = 0 := by
  unfold A_faultOfRound M_clearError
  rw [show μ 1 5 = κ 260 2 from h.1.2.2.1]
  by_cases c : κ 260 2 < 9999
  · rw [if_pos c, if_pos c]
  · rw [if_neg c, if_neg c]; exact i01 (by decide) (by decide)
theorem do_0 {N : Nat} {μ κ : Mm} (h : REL μ 1 (κ 260)) (g : RNG N 9999 (κ 260)) (hN : N + 1 < 2 ^ 31) (h1 : μ 254 1 = nI 0) (h11 : κ 259 11 = nI 0) (hn : ∀ j, j < wnu 0 → μ 256 j = κ 263 j) : DOK N μ κ := by
  have sw : X_sw μ = 1 := by unfold X_sw; rw [h1]; decide +kernel
  have e1 : X_cmdFault μ = A_faultOfJoin μ 1 0 (κ 263 0) := by unfold X_cmdFault; rw [if_pos sw, x_n0 μ, hn 0 (by decide)]
  have e2 : X_cmdDo μ = T_join μ (1 + 1) 0 (κ 263 0) := by unfold X_cmdDo; rw [if_pos sw, x_n0 μ, hn 0 (by decide)]
  have e3 : M_err κ = M_traderError κ 0 (κ 263 0) := by unfold M_err; rw [if_pos (show κ 259 11 = 0 from h11), h11]; first | done | rfl
  have e4 : M_deed κ = M_addsTrader κ 0 (κ 263 0) := by unfold M_deed; rw [if_pos (show κ 259 11 = 0 from h11), h11]; first | done | rfl
  exact DOK.of e1 e2 e3 e4 (join_iff h _ _) (de_join h g)
theorem do_1 {N : Nat} {μ κ : Mm} (h : REL μ 1 (κ 260)) (g : RNG N 9999 (κ 260)) (hN : N + 1 < 2 ^ 31) (h1 : μ 254 1 = nI 1) (h11 : κ 259 11 = nI 1) (hn : ∀ j, j < wnu 1 → μ 256 j = κ 263 j) : DOK N μ κ := by
  have sw : X_sw μ = 2 := by unfold X_sw; rw [h1]; decide +kernel
  have e1 : X_cmdFault μ = A_faultOfJoin μ 1 1 (κ 263 0) := by unfold X_cmdFault; rw [if_neg (show ¬ X_sw μ = 1 from fun z => absurd (sw.symm.trans z) (by decide)), if_pos sw, x_n0 μ, hn 0 (by decide)]
  have e2 : X_cmdDo μ = T_join μ (1 + 1) 1 (κ 263 0) := by unfold X_cmdDo; rw [if_neg (show ¬ X_sw μ = 1 from fun z => absurd (sw.symm.trans z) (by decide)), if_pos sw, x_n0 μ, hn 0 (by decide)]
  have e3 : M_err κ = M_traderError κ 1 (κ 263 0) := by unfold M_err; rw [if_neg (show ¬ κ 259 11 = 0 from fun z => absurd (h11.symm.trans z) (by decide)), if_pos (show κ 259 11 = 1 from h11), h11]; first | done | rfl
  have e4 : M_deed κ = M_addsTrader κ 1 (κ 263 0) := by unfold M_deed; rw [if_neg (show ¬ κ 259 11 = 0 from fun z => absurd (h11.symm.trans z) (by decide)), if_pos (show κ 259 11 = 1 from h11), h11]; first | done | rfl
  exact DOK.of e1 e2 e3 e4 (join_iff h _ _) (de_join h g)
theorem do_2 {N : Nat} {μ κ : Mm} (h : REL μ 1 (κ 260)) (g : RNG N 9999 (κ 260)) (hN : N + 1 < 2 ^ 31) (h1 : μ 254 1 = nI 2) (h11 : κ 259 11 = nI 2) (hn : ∀ j, j < wnu 2 → μ 256 j = κ 263 j) : DOK N μ κ := by
  have sw : X_sw μ = 3 := by unfold X_sw; rw [h1]; decide +kernel
  have e1 : X_cmdFault μ = A_faultOfShade μ 1 (κ 263 0) (κ 263 1) (κ 263 2) := by unfold X_cmdFault; rw [if_neg (show ¬ X_sw μ = 1 from fun z => absurd (sw.symm.trans z) (by decide)), if_neg (show ¬ X_sw μ = 2 from fun z => absurd (sw.symm.trans z) (by decide)), if_pos sw, x_n0 μ, hn 0 (by decide), x_n1 μ, hn 1 (by decide), x_n2 μ, hn 2 (by decide)]
  have e2 : X_cmdDo μ = T_shadeBy μ (1 + 1) (κ 263 0) (κ 263 1) (κ 263 2) := by unfold X_cmdDo; rw [if_neg (show ¬ X_sw μ = 1 from fun z => absurd (sw.symm.trans z) (by decide)), if_neg (show ¬ X_sw μ = 2 from fun z => absurd (sw.symm.trans z) (by decide)), if_pos sw, x_n0 μ, hn 0 (by decide), x_n1 μ, hn 1 (by decide), x_n2 μ, hn 2 (by decide)]
  have e3 : M_err κ = M_shadeError κ (κ 263 0) (κ 263 1) (κ 263 2) := by unfold M_err; rw [if_neg (show ¬ κ 259 11 = 0 from fun z => absurd (h11.symm.trans z) (by decide)), if_neg (show ¬ κ 259 11 = 1 from fun z => absurd (h11.symm.trans z) (by decide)), if_pos (show κ 259 11 = 2 from h11)]; first | done | rfl
  have e4 : M_deed κ = M_shadesM κ (κ 263 0) (κ 263 1) (κ 263 2) := by unfold M_deed; rw [if_neg (show ¬ κ 259 11 = 0 from fun z => absurd (h11.symm.trans z) (by decide)), if_neg (show ¬ κ 259 11 = 1 from fun z => absurd (h11.symm.trans z) (by decide)), if_pos (show κ 259 11 = 2 from h11)]; first | done | rfl
  exact DOK.of e1 e2 e3 e4 (by unfold A_faultOfShade M_shadeError; rw [rd_has h g]) (de_shade h g)
theorem do_3 {N : Nat} {μ κ : Mm} (h : REL μ 1 (κ 260)) (g : RNG N 9999 (κ 260)) (hN : N + 1 < 2 ^ 31) (h1 : μ 254 1 = nI 3) (h11 : κ 259 11 = nI 3) (hn : ∀ j, j < wnu 3 → μ 256 j = κ 263 j) : DOK N μ κ := by
  have sw : X_sw μ = 4 := by unfold X_sw; rw [h1]; decide +kernel
  have e1 : X_cmdFault μ = A_faultOfOrder μ 1 (κ 263 0) 1 (κ 263 1) := by unfold X_cmdFault; rw [if_neg (show ¬ X_sw μ = 1 from fun z => absurd (sw.symm.trans z) (by decide)), if_neg (show ¬ X_sw μ = 2 from fun z => absurd (sw.symm.trans z) (by decide)), if_neg (show ¬ X_sw μ = 3 from fun z => absurd (sw.symm.trans z) (by decide)), if_pos sw, x_n0 μ, hn 0 (by decide), x_n1 μ, hn 1 (by decide)]
  have e2 : X_cmdDo μ = A_placeM μ 1 (κ 263 0) (T_bidOf μ (1 + 1) (κ 263 0)) (κ 263 1) := by unfold X_cmdDo; rw [if_neg (show ¬ X_sw μ = 1 from fun z => absurd (sw.symm.trans z) (by decide)), if_neg (show ¬ X_sw μ = 2 from fun z => absurd (sw.symm.trans z) (by decide)), if_neg (show ¬ X_sw μ = 3 from fun z => absurd (sw.symm.trans z) (by decide)), if_pos sw, x_n0 μ, hn 0 (by decide), x_n1 μ, hn 1 (by decide)]
  have e3 : M_err κ = M_orderError κ (κ 263 0) 1 (κ 263 1) := by unfold M_err; rw [if_neg (show ¬ κ 259 11 = 0 from fun z => absurd (h11.symm.trans z) (by decide)), if_neg (show ¬ κ 259 11 = 1 from fun z => absurd (h11.symm.trans z) (by decide)), if_neg (show ¬ κ 259 11 = 2 from fun z => absurd (h11.symm.trans z) (by decide)), if_pos (show κ 259 11 = 3 from h11)]; first | done | rfl
  have e4 : M_deed κ = M_placesM κ (κ 263 0) (M_bidOf κ (κ 263 0)) (κ 263 1) := by unfold M_deed; rw [if_neg (show ¬ κ 259 11 = 0 from fun z => absurd (h11.symm.trans z) (by decide)), if_neg (show ¬ κ 259 11 = 1 from fun z => absurd (h11.symm.trans z) (by decide)), if_neg (show ¬ κ 259 11 = 2 from fun z => absurd (h11.symm.trans z) (by decide)), if_pos (show κ 259 11 = 3 from h11)]; first | done | rfl
  exact DOK.of e1 e2 e3 e4 (by rw [oe_e h g]) (de_bid h g hN)
theorem do_4 {N : Nat} {μ κ : Mm} (h : REL μ 1 (κ 260)) (g : RNG N 9999 (κ 260)) (hN : N + 1 < 2 ^ 31) (h1 : μ 254 1 = nI 4) (h11 : κ 259 11 = nI 4) (hn : ∀ j, j < wnu 4 → μ 256 j = κ 263 j) : DOK N μ κ := by
  have sw : X_sw μ = 5 := by unfold X_sw; rw [h1]; decide +kernel
  have e1 : X_cmdFault μ = A_faultOfOrder μ 1 (κ 263 0) (κ 263 1) (κ 263 2) := by unfold X_cmdFault; rw [if_neg (show ¬ X_sw μ = 1 from fun z => absurd (sw.symm.trans z) (by decide)), if_neg (show ¬ X_sw μ = 2 from fun z => absurd (sw.symm.trans z) (by decide)), if_neg (show ¬ X_sw μ = 3 from fun z => absurd (sw.symm.trans z) (by decide)), if_neg (show ¬ X_sw μ = 4 from fun z => absurd (sw.symm.trans z) (by decide)), if_pos sw, x_n0 μ, hn 0 (by decide), x_n1 μ, hn 1 (by decide), x_n2 μ, hn 2 (by decide)]
  have e2 : X_cmdDo μ = A_placeM μ 1 (κ 263 0) (κ 263 1) (κ 263 2) := by unfold X_cmdDo; rw [if_neg (show ¬ X_sw μ = 1 from fun z => absurd (sw.symm.trans z) (by decide)), if_neg (show ¬ X_sw μ = 2 from fun z => absurd (sw.symm.trans z) (by decide)), if_neg (show ¬ X_sw μ = 3 from fun z => absurd (sw.symm.trans z) (by decide)), if_neg (show ¬ X_sw μ = 4 from fun z => absurd (sw.symm.trans z) (by decide)), if_pos sw, x_n0 μ, hn 0 (by decide), x_n1 μ, hn 1 (by decide), x_n2 μ, hn 2 (by decide)]
  have e3 : M_err κ = M_orderError κ (κ 263 0) (κ 263 1) (κ 263 2) := by unfold M_err; rw [if_neg (show ¬ κ 259 11 = 0 from fun z => absurd (h11.symm.trans z) (by decide)), if_neg (show ¬ κ 259 11 = 1 from fun z => absurd (h11.symm.trans z) (by decide)), if_neg (show ¬ κ 259 11 = 2 from fun z => absurd (h11.symm.trans z) (by decide)), if_neg (show ¬ κ 259 11 = 3 from fun z => absurd (h11.symm.trans z) (by decide)), if_pos (show κ 259 11 = 4 from h11)]; first | done | rfl
  have e4 : M_deed κ = M_placesM κ (κ 263 0) (κ 263 1) (κ 263 2) := by unfold M_deed; rw [if_neg (show ¬ κ 259 11 = 0 from fun z => absurd (h11.symm.trans z) (by decide)), if_neg (show ¬ κ 259 11 = 1 from fun z => absurd (h11.symm.trans z) (by decide)), if_neg (show ¬ κ 259 11 = 2 from fun z => absurd (h11.symm.trans z) (by decide)), if_neg (show ¬ κ 259 11 = 3 from fun z => absurd (h11.symm.trans z) (by decide)), if_pos (show κ 259 11 = 4 from h11)]; first | done | rfl
  exact DOK.of e1 e2 e3 e4 (by rw [oe_e h g]) (de_order h g hN)
theorem do_5 {N : Nat} {μ κ : Mm} (h : REL μ 1 (κ 260)) (g : RNG N 9999 (κ 260)) (hN : N + 1 < 2 ^ 31) (h1 : μ 254 1 = nI 5) (h11 : κ 259 11 = nI 5) (hn : ∀ j, j < wnu 5 → μ 256 j = κ 263 j) : DOK N μ κ := by
  have sw : X_sw μ = 6 := by unfold X_sw; rw [h1]; decide +kernel
  have e1 : X_cmdFault μ = O_faultOfNumber μ (1 + 16) (κ 263 0) := by unfold X_cmdFault; rw [if_neg (show ¬ X_sw μ = 1 from fun z => absurd (sw.symm.trans z) (by decide)), if_neg (show ¬ X_sw μ = 2 from fun z => absurd (sw.symm.trans z) (by decide)), if_neg (show ¬ X_sw μ = 3 from fun z => absurd (sw.symm.trans z) (by decide)), if_neg (show ¬ X_sw μ = 4 from fun z => absurd (sw.symm.trans z) (by decide)), if_neg (show ¬ X_sw μ = 5 from fun z => absurd (sw.symm.trans z) (by decide)), if_pos sw, x_n0 μ, hn 0 (by decide)]
  have e2 : X_cmdDo μ = O_removeAt μ (1 + 16) (O_indexOf μ (1 + 16) (κ 263 0)) := by unfold X_cmdDo; rw [if_neg (show ¬ X_sw μ = 1 from fun z => absurd (sw.symm.trans z) (by decide)), if_neg (show ¬ X_sw μ = 2 from fun z => absurd (sw.symm.trans z) (by decide)), if_neg (show ¬ X_sw μ = 3 from fun z => absurd (sw.symm.trans z) (by decide)), if_neg (show ¬ X_sw μ = 4 from fun z => absurd (sw.symm.trans z) (by decide)), if_neg (show ¬ X_sw μ = 5 from fun z => absurd (sw.symm.trans z) (by decide)), if_pos sw, x_n0 μ, hn 0 (by decide)]
  have e3 : M_err κ = M_fdErr κ (κ 263 0) := by unfold M_err; rw [if_neg (show ¬ κ 259 11 = 0 from fun z => absurd (h11.symm.trans z) (by decide)), if_neg (show ¬ κ 259 11 = 1 from fun z => absurd (h11.symm.trans z) (by decide)), if_neg (show ¬ κ 259 11 = 2 from fun z => absurd (h11.symm.trans z) (by decide)), if_neg (show ¬ κ 259 11 = 3 from fun z => absurd (h11.symm.trans z) (by decide)), if_neg (show ¬ κ 259 11 = 4 from fun z => absurd (h11.symm.trans z) (by decide)), if_pos (show κ 259 11 = 5 from h11)]; first | done | rfl
  have e4 : M_deed κ = M_removes κ (M_find κ (κ 263 0)) := by unfold M_deed; rw [if_neg (show ¬ κ 259 11 = 0 from fun z => absurd (h11.symm.trans z) (by decide)), if_neg (show ¬ κ 259 11 = 1 from fun z => absurd (h11.symm.trans z) (by decide)), if_neg (show ¬ κ 259 11 = 2 from fun z => absurd (h11.symm.trans z) (by decide)), if_neg (show ¬ κ 259 11 = 3 from fun z => absurd (h11.symm.trans z) (by decide)), if_neg (show ¬ κ 259 11 = 4 from fun z => absurd (h11.symm.trans z) (by decide)), if_pos (show κ 259 11 = 5 from h11)]; first | done | rfl
  exact DOK.of e1 e2 e3 e4 (by rw [fn_e h g]) (de_cancel h g)
theorem do_6 {N : Nat} {μ κ : Mm} (h : REL μ 1 (κ 260)) (g : RNG N 9999 (κ 260)) (hN : N + 1 < 2 ^ 31) (h1 : μ 254 1 = nI 6) (h11 : κ 259 11 = nI 6) (hn : ∀ j, j < wnu 6 → μ 256 j = κ 263 j) : DOK N μ κ := by
  have sw : X_sw μ = 7 := by unfold X_sw; rw [h1]; decide +kernel
  have e1 : X_cmdFault μ = A_faultOfSetting (κ 263 0) (κ 263 1) := by unfold X_cmdFault; rw [if_neg (show ¬ X_sw μ = 1 from fun z => absurd (sw.symm.trans z) (by decide)), if_neg (show ¬ X_sw μ = 2 from fun z => absurd (sw.symm.trans z) (by decide)), if_neg (show ¬ X_sw μ = 3 from fun z => absurd (sw.symm.trans z) (by decide)), if_neg (show ¬ X_sw μ = 4 from fun z => absurd (sw.symm.trans z) (by decide)), if_neg (show ¬ X_sw μ = 5 from fun z => absurd (sw.symm.trans z) (by decide)), if_neg (show ¬ X_sw μ = 6 from fun z => absurd (sw.symm.trans z) (by decide)), if_pos sw, x_n0 μ, hn 0 (by decide), x_n1 μ, hn 1 (by decide)]
  have e2 : X_cmdDo μ = A_changeM μ 1 (κ 263 0) (κ 263 1) := by unfold X_cmdDo; rw [if_neg (show ¬ X_sw μ = 1 from fun z => absurd (sw.symm.trans z) (by decide)), if_neg (show ¬ X_sw μ = 2 from fun z => absurd (sw.symm.trans z) (by decide)), if_neg (show ¬ X_sw μ = 3 from fun z => absurd (sw.symm.trans z) (by decide)), if_neg (show ¬ X_sw μ = 4 from fun z => absurd (sw.symm.trans z) (by decide)), if_neg (show ¬ X_sw μ = 5 from fun z => absurd (sw.symm.trans z) (by decide)), if_neg (show ¬ X_sw μ = 6 from fun z => absurd (sw.symm.trans z) (by decide)), if_pos sw, x_n0 μ, hn 0 (by decide), x_n1 μ, hn 1 (by decide)]
  have e3 : M_err κ = M_settingError (κ 263 0) (κ 263 1) := by unfold M_err; rw [if_neg (show ¬ κ 259 11 = 0 from fun z => absurd (h11.symm.trans z) (by decide)), if_neg (show ¬ κ 259 11 = 1 from fun z => absurd (h11.symm.trans z) (by decide)), if_neg (show ¬ κ 259 11 = 2 from fun z => absurd (h11.symm.trans z) (by decide)), if_neg (show ¬ κ 259 11 = 3 from fun z => absurd (h11.symm.trans z) (by decide)), if_neg (show ¬ κ 259 11 = 4 from fun z => absurd (h11.symm.trans z) (by decide)), if_neg (show ¬ κ 259 11 = 5 from fun z => absurd (h11.symm.trans z) (by decide)), if_pos (show κ 259 11 = 6 from h11)]; first | done | rfl
  have e4 : M_deed κ = M_setsM κ (κ 263 0) (κ 263 1) := by unfold M_deed; rw [if_neg (show ¬ κ 259 11 = 0 from fun z => absurd (h11.symm.trans z) (by decide)), if_neg (show ¬ κ 259 11 = 1 from fun z => absurd (h11.symm.trans z) (by decide)), if_neg (show ¬ κ 259 11 = 2 from fun z => absurd (h11.symm.trans z) (by decide)), if_neg (show ¬ κ 259 11 = 3 from fun z => absurd (h11.symm.trans z) (by decide)), if_neg (show ¬ κ 259 11 = 4 from fun z => absurd (h11.symm.trans z) (by decide)), if_neg (show ¬ κ 259 11 = 5 from fun z => absurd (h11.symm.trans z) (by decide)), if_pos (show κ 259 11 = 6 from h11)]; first | done | rfl
  exact DOK.of e1 e2 e3 e4 (set_iff _ _) (de_set h g)
theorem do_7 {N : Nat} {μ κ : Mm} (h : REL μ 1 (κ 260)) (g : RNG N 9999 (κ 260)) (hN : N + 1 < 2 ^ 31) (h1 : μ 254 1 = nI 7) (h11 : κ 259 11 = nI 7) (hn : ∀ j, j < wnu 7 → μ 256 j = κ 263 j) : DOK N μ κ := by
  have sw : X_sw μ = 0 := by unfold X_sw; rw [h1]; decide +kernel
  have e1 : X_cmdFault μ = A_faultOfRound μ 1 := by unfold X_cmdFault; rw [if_neg (show ¬ X_sw μ = 1 from fun z => absurd (sw.symm.trans z) (by decide)), if_neg (show ¬ X_sw μ = 2 from fun z => absurd (sw.symm.trans z) (by decide)), if_neg (show ¬ X_sw μ = 3 from fun z => absurd (sw.symm.trans z) (by decide)), if_neg (show ¬ X_sw μ = 4 from fun z => absurd (sw.symm.trans z) (by decide)), if_neg (show ¬ X_sw μ = 5 from fun z => absurd (sw.symm.trans z) (by decide)), if_neg (show ¬ X_sw μ = 6 from fun z => absurd (sw.symm.trans z) (by decide)), if_neg (show ¬ X_sw μ = 7 from fun z => absurd (sw.symm.trans z) (by decide))]
  have e2 : X_cmdDo μ = A_endM μ 1 := by unfold X_cmdDo; rw [if_neg (show ¬ X_sw μ = 1 from fun z => absurd (sw.symm.trans z) (by decide)), if_neg (show ¬ X_sw μ = 2 from fun z => absurd (sw.symm.trans z) (by decide)), if_neg (show ¬ X_sw μ = 3 from fun z => absurd (sw.symm.trans z) (by decide)), if_neg (show ¬ X_sw μ = 4 from fun z => absurd (sw.symm.trans z) (by decide)), if_neg (show ¬ X_sw μ = 5 from fun z => absurd (sw.symm.trans z) (by decide)), if_neg (show ¬ X_sw μ = 6 from fun z => absurd (sw.symm.trans z) (by decide)), if_neg (show ¬ X_sw μ = 7 from fun z => absurd (sw.symm.trans z) (by decide))]
  have e3 : M_err κ = M_clearError κ := by unfold M_err; rw [if_neg (show ¬ κ 259 11 = 0 from fun z => absurd (h11.symm.trans z) (by decide)), if_neg (show ¬ κ 259 11 = 1 from fun z => absurd (h11.symm.trans z) (by decide)), if_neg (show ¬ κ 259 11 = 2 from fun z => absurd (h11.symm.trans z) (by decide)), if_neg (show ¬ κ 259 11 = 3 from fun z => absurd (h11.symm.trans z) (by decide)), if_neg (show ¬ κ 259 11 = 4 from fun z => absurd (h11.symm.trans z) (by decide)), if_neg (show ¬ κ 259 11 = 5 from fun z => absurd (h11.symm.trans z) (by decide)), if_neg (show ¬ κ 259 11 = 6 from fun z => absurd (h11.symm.trans z) (by decide))]; first | done | rfl
  have e4 : M_deed κ = (M_clears κ).1 := by unfold M_deed; rw [if_neg (show ¬ κ 259 11 = 0 from fun z => absurd (h11.symm.trans z) (by decide)), if_neg (show ¬ κ 259 11 = 1 from fun z => absurd (h11.symm.trans z) (by decide)), if_neg (show ¬ κ 259 11 = 2 from fun z => absurd (h11.symm.trans z) (by decide)), if_neg (show ¬ κ 259 11 = 3 from fun z => absurd (h11.symm.trans z) (by decide)), if_neg (show ¬ κ 259 11 = 4 from fun z => absurd (h11.symm.trans z) (by decide)), if_neg (show ¬ κ 259 11 = 5 from fun z => absurd (h11.symm.trans z) (by decide)), if_neg (show ¬ κ 259 11 = 6 from fun z => absurd (h11.symm.trans z) (by decide))]; first | done | rfl
  exact DOK.of e1 e2 e3 e4 (rnd_iff h) (de_clear h g)
theorem do_at {N k : Nat} {μ κ : Mm} (hk : k < 8) (h : REL μ 1 (κ 260)) (g : RNG N 9999 (κ 260)) (hN : N + 1 < 2 ^ 31) (h1 : μ 254 1 = nI k) (h11 : κ 259 11 = nI k) (hn : ∀ j, j < wnu k → μ 256 j = κ 263 j) : DOK N μ κ := by
  rcases (show k = 0 ∨ k = 1 ∨ k = 2 ∨ k = 3 ∨ k = 4 ∨ k = 5 ∨ k = 6 ∨ k = 7 by omega) with rfl | rfl | rfl | rfl | rfl | rfl | rfl | rfl
  · exact do_0 h g hN h1 h11 hn
  · exact do_1 h g hN h1 h11 hn
  · exact do_2 h g hN h1 h11 hn
  · exact do_3 h g hN h1 h11 hn
  · exact do_4 h g hN h1 h11 hn
  · exact do_5 h g hN h1 h11 hn
  · exact do_6 h g hN h1 h11 hn
  · exact do_7 h g hN h1 h11 hn
/-! a text run on both sides -/
def XY (X Y : Mm × Int32) (μ κ : Mm) (N : Nat) : Prop := X.2 = Y.2 ∧ REL X.1 1 (Y.1 260) ∧ RNG N 9999 (Y.1 260) ∧ (∀ p, 92 ≤ p → p ≠ 254 → p ≠ 256 → X.1 p = μ p) ∧ X.1 254 0 = μ 254 0 ∧ (∀ p, p ≠ 259 → p ≠ 260 → p ≠ 263 → p ≠ 264 → Y.1 p = κ p) ∧ Y.1 259 2 = κ 259 2 ∧ Y.1 259 9 = κ 259 9
def RY (n : Nat) (κ : Mm) (v : Int32) : Mm × Int32 := if κ 259 10 < κ 259 9 then RC n κ v else (κ, v)
theorem XY_stop {μ κ ν ρ : Mm} {v : Int32} {N N' : Nat} (hR : REL μ 1 (κ 260)) (g : RNG N' 9999 (κ 260)) (hN : N' ≤ N) (kν : KP μ ν) (kρ : ∀ p, p ≠ 259 → p ≠ 263 → ρ p = κ p) (h2 : ρ 259 2 = κ 259 2) (h9 : ρ 259 9 = κ 259 9) : XY (ν, v) (ρ, v) μ κ N := by
  refine ⟨rfl, ?_, ?_, fun p _ p2 p3 => kν.1 p p2 p3, kν.2 0 (by decide) (by decide) (by decide), fun p p1 _ p3 _ => kρ p p1 p3, h2, h9⟩
  · show REL ν 1 (ρ 260)
    rw [kρ 260 (by decide) (by decide)]
    exact hR.of fun p p1 p2 => kν.1 p (by omega) (by omega)
  · show RNG N 9999 (ρ 260)
    rw [kρ 260 (by decide) (by decide)]
    exact g.mono hN (Nat.le_refl _)
theorem pc_29 {κ : Mm} {i : Nat} (h : i ≠ 10) (h2 : i ≠ 11) : (M_passesCommand κ).1 259 i = κ 259 i := (pc_ne h).trans (cmdK_ne h h2)
theorem run_at {L N : Nat} {t : Nat → Nat} (hT : TB L t) (hN : N + 200 < 2 ^ 31) : ∀ n k p (μ κ : Mm), n + k = 150 → k ≤ p → SC L t p μ κ → REL μ 1 (κ 260) → RNG (N + k) 9999 (κ 260) →
    XY (X_cmds n μ (nI k)) (RY (n + 1) κ (nI k)) μ κ (N + 150) ∧ (κ 259 10 < κ 259 9 → RCok (n + 1) κ) := by
  have hL := hT.1
  intro n
  induction n with
  | zero =>
    intro k p μ κ hk hp S hR g
    have s1 := sk_le L t L p S.2.2.1
    have hn : ¬ κ 259 10 < κ 259 9 := by rw [S.2.2.2.2, S.2.1.1, show sk L t L p = L by have := S.2.2.1; omega]; exact Int32.lt_irrefl
    have hk2 : k = 150 := by omega
    subst hk2
    refine ⟨?_, fun z => absurd z hn⟩
    unfold RY
    rw [if_neg hn]
    exact XY_stop (ν := μ) (ρ := κ) (v := nI 150) hR g (Nat.le_refl _) (KP.refl μ) (fun _ _ _ => rfl) rfl rfl
  | succ n ih =>
    intro k p μ κ hk hp S hR g
    have hMC : MC κ := ⟨by rw [S.2.2.2.2]; exact nI_pos (by have := sk_le L t L p S.2.2.1; omega), by rw [S.2.1.1]; exact vp_in_nI (by omega) (by decide)⟩
    rcases cmd_at hT S with ⟨e, a1, a2⟩ | ⟨hlt, a1, a2, -⟩ | ⟨hlt, a1, a2, a3, e, k', he, hk', S2, b1, b2, b3, -⟩
    · have hn : ¬ κ 259 10 < κ 259 9 := by rw [S.2.2.2.2, S.2.1.1, e]; exact Int32.lt_irrefl
      refine ⟨?_, fun z => absurd z hn⟩
      unfold RY
      rw [if_neg hn, X_cmds, if_pos a1]
      exact XY_stop hR g (by omega) (KP_readCommand μ) (fun _ _ _ => rfl) rfl rfl
    · have hl : κ 259 10 < κ 259 9 := by rw [S.2.2.2.2, S.2.1.1]; exact nI_lt hlt (by omega)
      refine ⟨?_, fun _ => ⟨g.MI, hMC, fun z => absurd a2 z⟩⟩
      unfold RY
      rw [if_pos hl, X_cmds, if_pos a1, RC_a a2]
      exact XY_stop hR g (by omega) (KP_readCommand μ) (fun p p1 p2 => pc_k p1 p2) (pc_29 (by decide) (by decide)) (pc_29 (by decide) (by decide))
    · have hl : κ 259 10 < κ 259 9 := by rw [S.2.2.2.2, S.2.1.1]; exact nI_lt hlt (by omega)
      obtain ⟨μ', hμ'⟩ : ∃ m, m = (D_readCommand μ).1 := ⟨_, rfl⟩
      obtain ⟨κ', hκ'⟩ : ∃ m, m = (M_passesCommand κ).1 := ⟨_, rfl⟩
      have kμ : KP μ μ' := by rw [hμ']; exact KP_readCommand μ
      have kκ : ∀ p, p ≠ 259 → p ≠ 263 → κ' p = κ p := fun p p1 p2 => by rw [hκ']; exact pc_k p1 p2
      have kκ9 : ∀ i, i ≠ 10 → i ≠ 11 → κ' 259 i = κ 259 i := fun i p1 p2 => by rw [hκ']; exact pc_29 p1 p2
      rw [← hμ'] at S2 b1 b3
      rw [← hκ'] at S2 b2 b3
      have hR2 : REL μ' 1 (κ' 260) := by
        rw [kκ 260 (by decide) (by decide)]
        exact hR.of fun p p1 p2 => kμ.1 p (by omega) (by omega)
      have g2 : RNG (N + k) 9999 (κ' 260) := by rw [kκ 260 (by decide) (by decide)]; exact g
      obtain ⟨d1, d2⟩ := do_at hk' hR2 g2 (by omega) b1 b2 b3
      have hclok := clok_at hR2 g2
      unfold RY
      rw [if_pos hl]
      by_cases c : M_err κ' = 0
      · obtain ⟨f1, f2, f3, f4, f5⟩ := d2 c
        have S3 : SC L t e (X_cmdDo μ') (M_deed κ') := by
          obtain ⟨⟨s1, s2⟩, ⟨s3, s4⟩, s5, s6, s7⟩ := S2
          refine ⟨⟨?_, fun j hj => ?_⟩, ⟨?_, fun j hj => ?_⟩, s5, ?_, ?_⟩
          · rw [f3 254 (by decide)]; exact s1
          · rw [f3 258 (by decide)]; exact s2 j hj
          · rw [f5 9 (by decide) (by decide) (by decide) (by decide)]; exact s3
          · rw [f4 262 (by decide) (by decide) (by decide)]; exact s4 j hj
          · rw [f3 254 (by decide)]; exact s6
          · rw [f5 10 (by decide) (by decide) (by decide) (by decide)]; exact s7
        obtain ⟨⟨i1, i2, i3, i4, i5, i6, i7, i8⟩, i9⟩ := ih (k + 1) e (X_cmdDo μ') (M_deed κ') (by omega) (by omega) S3 f1 (by rw [← Nat.add_assoc]; exact f2)
        have eX : X_cmds (n + 1) μ (nI k) = X_cmds n (X_cmdDo μ') (nI (k + 1)) := by rw [X_cmds, if_neg a1, ← hμ', if_pos (d1.mpr c), nI_1]
        have eY : RC (n + 1 + 1) κ (nI k) = RY (n + 1) (M_deed κ') (nI (k + 1)) := by
          rw [RC, if_neg a2, ← hκ', if_pos c, nI_1]
          rfl
        rw [eX, eY]
        refine ⟨⟨i1, i2, i3, fun p p1 p2 p3 => ?_, ?_, fun p p1 p2 p3 p4 => ?_, ?_, ?_⟩, fun _ => ⟨g.MI, hMC, fun _ _ => ?_⟩⟩
        · rw [i4 p p1 p2 p3, f3 p p1]; exact kμ.1 p p2 p3
        · rw [i5, f3 254 (by decide)]; exact kμ.2 0 (by decide) (by decide) (by decide)
        · rw [i6 p p1 p2 p3 p4, f4 p p1 p2 p4]; exact kκ p p1 p3
        · rw [i7, f5 2 (by decide) (by decide) (by decide) (by decide)]; exact kκ9 2 (by decide) (by decide)
        · rw [i8, f5 9 (by decide) (by decide) (by decide) (by decide)]; exact kκ9 9 (by decide) (by decide)
        · rw [← hκ']
          exact ⟨hclok, i9⟩
      · have eX : X_cmds (n + 1) μ (nI k) = (μ', nI k) := by rw [X_cmds, if_neg a1, ← hμ', if_neg (fun z => c (d1.mp z))]
        have eY : RC (n + 1 + 1) κ (nI k) = (κ', nI k) := by rw [RC, if_neg a2, ← hκ', if_neg c]
        rw [eX, eY]
        refine ⟨XY_stop hR g (by omega) kμ kκ (kκ9 2 (by decide) (by decide)) (kκ9 9 (by decide) (by decide)), fun _ => ⟨g.MI, hMC, fun _ z => ?_⟩⟩
        rw [← hκ'] at z
        exact absurd z c
end
