noncomputable section
theorem places_ne {ν : Mm} {t pr u : Int32} {p : Nat} (hp : p ≠ 260) : M_placesM ν t pr u p = ν p := by
  have so : ∀ (κ : Mm) (k w v : Int32), M_setO κ k w v p = κ p := fun κ k w v => up2_k _ _ hp
  unfold M_placesM
  try simp only []
  rw [up2_k _ _ hp, so, so, so, so, so, up2_k _ _ hp]
theorem oe_cases (μ : Mm) (t pr u : Int32) : M_orderError μ t pr u = 0 ∨ M_orderError μ t pr u = 1 ∨ M_orderError μ t pr u = 2 ∨ M_orderError μ t pr u = 3 := by
  unfold M_orderError
  repeat' split
  all_goals simp
theorem oe_0 {μ : Mm} {t pr u : Int32} (h : M_orderError μ t pr u = 0) : ¬ M_isTrader μ t = 0 ∧ ¬ wI pr 1 120 = 0 ∧ ¬ wI u 1 9 = 0 ∧ μ 260 1 < 20 := by
  unfold M_orderError at h
  by_cases c1 : M_isTrader μ t = 0
  · rw [if_pos c1] at h; exact absurd h (by decide)
  · rw [if_neg c1] at h
    by_cases c2 : wI pr 1 120 = 0
    · rw [if_pos c2] at h; exact absurd h (by decide)
    · rw [if_neg c2] at h
      by_cases c3 : wI u 1 9 = 0
      · rw [if_pos c3] at h; exact absurd h (by decide)
      · rw [if_neg c3] at h
        by_cases c4 : μ 260 1 < 20
        · exact ⟨c1, c2, c3, c4⟩
        · rw [if_neg c4] at h; exact absurd h (by decide)
theorem oe_e {μ ν : Mm} {a N R : Nat} (h : REL μ a (ν 260)) (g : RNG N R (ν 260)) (t pr u : Int32) : A_faultOfOrder μ a t pr u = M_orderError ν t pr u := by
  unfold A_faultOfOrder M_orderError
  rw [rd_has h g]
  unfold O_full
  rw [rd_n1 h]
  by_cases c : ν 260 1 < 20
  · rw [if_pos c, if_pos c, if_pos rfl]
  · rw [if_neg c, if_neg c, if_neg (show ¬ (1 : Int32) = 0 by decide)]
theorem oe_260 {μ ν : Mm} {t pr u : Int32} (h : ν 260 = μ 260) : M_orderError ν t pr u = M_orderError μ t pr u := by
  unfold M_orderError
  rw [isT_260 h, h]
theorem n1_lt {ν : Mm} {N R : Nat} (g : RNG N R (ν 260)) (h : ν 260 1 < 20) : cn (ν 260 1) < 20 := by
  obtain ⟨n, hn, e⟩ := vp_nI g.1.2.1 (by decide)
  rw [e] at h ⊢
  rw [cn_nI (by omega)]
  exact nI_lt_of (by decide) (by omega) (show nI n < nI 20 from h)
theorem place_ne {μ ν : Mm} {a t N R : Nat} {pr u : Int32} (h : REL μ a (ν 260)) (g : RNG N R (ν 260)) (hN : N + 1 < 2 ^ 31) (hn : cn (ν 260 1) < 20) {p : Nat} (hp : a + 40 ≤ p) : A_placeM μ a (nI t) pr u p = μ p := by
  obtain ⟨n, hn2, e1⟩ : ∃ n, n < 20 ∧ ν 260 1 = nI n := ⟨_, hn, (vp_of2 g.1.2.1 (by decide)).1⟩
  obtain ⟨q, hpN, e5⟩ := g.2.2.2.2.1
  rw [place_at μ (t := t) pr u hn2 (by omega) ((rd_n1 h).trans e1) (h.1.2.2.2.2.2.1.trans e5)]
  rw [up2_k _ _ (by omega), up2_k _ _ (by omega), up2_k _ _ (by omega), up2_k _ _ (by omega), up2_k _ _ (by omega), up2_k _ _ (by omega), up2_k _ _ (by omega), up2_k _ _ (by omega)]
theorem place_val {μ ν : Mm} {a t N R : Nat} {pr u : Int32} (h : REL μ a (ν 260)) (g : RNG N R (ν 260)) (hN : N + 1 < 2 ^ 31) (hn : cn (ν 260 1) < 20) : A_place μ a (nI t) pr u = M_o (M_placesM ν (nI t) pr u) (ν 260 1) 0 := by
  obtain ⟨n, hn2, e1⟩ : ∃ n, n < 20 ∧ ν 260 1 = nI n := ⟨_, hn, (vp_of2 g.1.2.1 (by decide)).1⟩
  obtain ⟨q, hpN, e5⟩ := g.2.2.2.2.1
  unfold A_place
  rw [place_at μ (t := t) pr u hn2 (by omega) ((rd_n1 h).trans e1) (h.1.2.2.2.2.2.1.trans e5), up2_y ⟨rfl, rfl⟩]
  rw [e1, show (0 : Int32) = nI 0 from rfl, M_o_nI hn2 (by decide), places_row ν (t := t) pr u hn2 e1 e5, if_neg (by omega), if_neg (by omega), if_pos (by omega)]
  rw [← nI_1, Int32.add_sub_cancel]
theorem remAt_ne {μ : Mm} {o : Nat} {i : Int32} {p : Nat} (hp : o + 13 ≤ p) : O_removeAt μ o i p = μ p := by
  have e : ∀ j, O_remRows μ o j p = μ p := fun j => by
    funext x
    rw [remRows_at, if_neg (by omega)]
  unfold O_removeAt
  split
  · rfl
  · split
    · rw [up2_k _ _ (by omega), e]
    · rfl
theorem removes_ne {ν : Mm} {k : Int32} {p : Nat} (hp : p ≠ 260) : M_removes ν k p = ν p := by
  unfold M_removes M_remK
  funext i
  rw [if_neg (fun c => hp c.1), up2_k _ _ hp]
end
