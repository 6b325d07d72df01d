noncomputable section
/-! an order's numbers as counts -/
def nT (f : Nat → Int32) (k : Nat) : Nat := cn (f (68 + 5 * k))
def nP (f : Nat → Int32) (k : Nat) : Nat := cn (f (69 + 5 * k))
def nU (f : Nat → Int32) (k : Nat) : Nat := cn (f (70 + 5 * k))
def nS (f : Nat → Int32) (k : Nat) : Nat := cn (f (11 + 7 * nT f k))
def nV (f : Nat → Int32) (k : Nat) : Nat := cn (f (12 + 7 * nT f k))
def nW (f : Nat → Int32) (k : Nat) : Nat := 32 * (if nS f k = 0 then 200 - nP f k else nP f k) + k
theorem of_T {ν : Mm} {N R k : Nat} (g : RNG N R (ν 260)) (hk : k < cn (ν 260 1)) : M_o ν (nI k) 1 = nI (nT (ν 260) k) ∧ nT (ν 260) k < cn (ν 260 0) := by
  obtain ⟨t, h1, h2, h3⟩ := rd_w g hk
  have e : nT (ν 260) k = t := h3
  rw [e]
  exact ⟨h2, h1⟩
theorem of_P {ν : Mm} {N R k : Nat} (g : RNG N R (ν 260)) (hk : k < cn (ν 260 1)) : M_o ν (nI k) 2 = nI (nP (ν 260) k) ∧ 0 < nP (ν 260) k ∧ nP (ν 260) k < 121 := by
  obtain ⟨p, h1, h2, h3, h4⟩ := rd_P g hk
  have e : nP (ν 260) k = p := by
    unfold nP
    rw [h4, cn_nI (by omega)]
  rw [e]
  exact ⟨h3, h1, h2⟩
theorem of_U {ν : Mm} {N R k : Nat} (g : RNG N R (ν 260)) (hk : k < cn (ν 260 1)) : M_o ν (nI k) 3 = nI (nU (ν 260) k) ∧ 0 < nU (ν 260) k ∧ nU (ν 260) k < 10 := by
  have hc := g.c0
  obtain ⟨u, h1, h2, h3⟩ := rd_U g hk
  have e : nU (ν 260) k = u := by
    unfold nU
    rw [show (3 : Int32) = nI 3 from rfl, M_o_nI (by omega) (by decide), show 67 + 5 * k + 3 = 70 + 5 * k by omega] at h3
    rw [h3, cn_nI (by omega)]
  rw [e]
  exact ⟨h3, h1, h2⟩
theorem of_S {ν : Mm} {N R k : Nat} (g : RNG N R (ν 260)) (hk : k < cn (ν 260 1)) : M_side ν (nI k) = nI (nS (ν 260) k) ∧ nS (ν 260) k ≤ 1 := by
  have hc := g.c0
  obtain ⟨h1, h2⟩ := of_T g hk
  have h3 : M_side ν (nI k) = ν 260 (11 + 7 * nT (ν 260) k) := by
    unfold M_side
    rw [h1, show (0 : Int32) = nI 0 from rfl, M_t_nI (by omega) (by decide)]
    rfl
  rw [h3]
  unfold nS
  rcases (g.2.2.2.2.2.1 _ h2).1 with e | e
  · rw [e]; exact ⟨rfl, by decide⟩
  · rw [e]; exact ⟨rfl, by decide⟩
theorem of_V {ν : Mm} {N R k : Nat} (g : RNG N R (ν 260)) (hk : k < cn (ν 260 1)) : M_val ν (nI k) = nI (nV (ν 260) k) ∧ 0 < nV (ν 260) k ∧ nV (ν 260) k < 100 := by
  have hc := g.c0
  obtain ⟨h1, h2⟩ := of_T g hk
  have h3 : M_val ν (nI k) = ν 260 (12 + 7 * nT (ν 260) k) := by
    unfold M_val
    rw [h1, show (1 : Int32) = nI 1 from rfl, M_t_nI (by omega) (by decide), show 11 + 7 * nT (ν 260) k + 1 = 12 + 7 * nT (ν 260) k by omega]
  rw [h3]
  unfold nV
  obtain ⟨v1, v2⟩ := (g.2.2.2.2.2.1 _ h2).2.1
  obtain ⟨v, hv, e⟩ := vp_nI v1 (by decide)
  rw [e, cn_nI (by omega)]
  rw [e] at v2
  refine ⟨rfl, ?_, hv⟩
  rcases Nat.eq_zero_or_pos v with z | z
  · rw [z] at v2; exact absurd rfl v2
  · exact z
theorem nW_e (f : Nat → Int32) (k : Nat) : ∃ z, nW f k = 32 * z + k ∧ (nS f k = 0 → z = 200 - nP f k) ∧ (nS f k ≠ 0 → z = nP f k) := by
  refine ⟨_, rfl, fun c => if_pos c, fun c => if_neg c⟩
theorem AH_iff {ν : Mm} {N R j k : Nat} (g : RNG N R (ν 260)) (hj : j < cn (ν 260 1)) (hk : k < cn (ν 260 1)) : AH ν j k ↔ nS (ν 260) j = nS (ν 260) k ∧ nW (ν 260) j < nW (ν 260) k := by
  have hc := g.c0
  by_cases ejk : j = k
  · subst ejk
    exact ⟨fun z => absurd rfl z.2.1, fun z => absurd z.2 (Nat.lt_irrefl _)⟩
  obtain ⟨p1, p2, p3⟩ := of_P g hj
  obtain ⟨q1, q2, q3⟩ := of_P g hk
  obtain ⟨s1, s2⟩ := of_S g hj
  obtain ⟨t1, t2⟩ := of_S g hk
  obtain ⟨x, wx, x0, x1⟩ := nW_e (ν 260) j
  obtain ⟨y, wy, y0, y1⟩ := nW_e (ν 260) k
  unfold AH
  rw [p1, q1, s1, t1, nI_inj (by omega) (by omega), show (0 : Int32) = nI 0 from rfl, nI_inj (by omega) (by omega), nI_lt_iff (by omega) (by omega), nI_lt_iff (by omega) (by omega), nI_inj (by omega) (by omega), wx, wy]
  by_cases c : nS (ν 260) j = nS (ν 260) k
  · by_cases d : nS (ν 260) j = 0
    · have := x0 d
      have := y0 (c ▸ d)
      omega
    · have := x1 d
      have := y1 (c ▸ d)
      omega
  · exact ⟨fun z => absurd z.1 c, fun z => absurd z.1 c⟩
theorem nW_inj {f : Nat → Int32} {j k : Nat} (hj : j < 32) (hk : k < 32) (h : nW f j = nW f k) : j = k := by
  obtain ⟨x, wx, -⟩ := nW_e f j
  obtain ⟨y, wy, -⟩ := nW_e f k
  omega
/-! the queue that the class makes -/
theorem isAhead_of {μ κ : Mm} {o : Nat} {i j : Int32} (h6 : κ (o + 6) = μ (o + 6)) (h8 : κ (o + 8) = μ (o + 8)) : O_isAhead κ o i j = O_isAhead μ o i j := by
  unfold O_isAhead R_get
  rw [show κ (o + 7 + 1) = μ (o + 7 + 1) from h8, show κ (o + 5 + 1) = μ (o + 5 + 1) from h6]
theorem Q_in_at {q o : Nat} {ix : Int32} {μ : Mm} (h6 : o + 6 ≠ q + 1) (h8 : o + 8 ≠ q + 1) : ∀ n, n ≤ 19 → ∀ κ : Mm, (∀ p, p ≠ q + 1 → κ p = μ p) → ∃ m, m ≤ n ∧ (Q_in q 20 o ix n κ).2 = nI m ∧ (∀ i, (Q_in q 20 o ix n κ).1 (q + 1) i = if m < i ∧ i ≤ n then κ (q + 1) (i - 1) else κ (q + 1) i) ∧ (∀ p, p ≠ q + 1 → (Q_in q 20 o ix n κ).1 p = μ p) ∧ (∀ i, m ≤ i → i < n → ¬ O_isAhead μ o ix (κ (q + 1) i) = 0) ∧ (0 < m → O_isAhead μ o ix (κ (q + 1) (m - 1)) = 0)
  | 0, _, κ, hκ => ⟨0, Nat.le_refl _, rfl, fun i => by rw [if_neg (by omega)]; rfl, hκ, fun i _ h => absurd h (Nat.not_lt_zero i), fun h => absurd h (Nat.not_lt_zero 0)⟩
  | n + 1, hn, κ, hκ => by
    have e1 : nI (n + 1) - 1 = nI n := by rw [← nI_1, Int32.add_sub_cancel]
    have e2 : R_get κ q 20 (nI (n + 1) - 1) = κ (q + 1) n := by rw [e1, R_get_nI (by omega) (by decide)]
    have e3 : O_isAhead κ o ix (κ (q + 1) n) = O_isAhead μ o ix (κ (q + 1) n) := isAhead_of (hκ _ h6) (hκ _ h8)
    unfold Q_in
    rw [e2, e3]
    by_cases c : O_isAhead μ o ix (κ (q + 1) n) = 0
    · rw [if_pos c]
      exact ⟨n + 1, Nat.le_refl _, rfl, fun i => by rw [if_neg (by omega)], hκ, fun i h1 h2 => by omega, fun _ => c⟩
    · rw [if_neg c, R_put_nI (by omega) (by decide)]
      obtain ⟨m, hm, r1, r2, r3, r4, r5⟩ := Q_in_at h6 h8 n (by omega) (up2 κ (q + 1) (n + 1) (κ (q + 1) n)) (fun p hp => (up2_k _ _ hp).trans (hκ p hp))
      have u : ∀ i, i ≤ n → up2 κ (q + 1) (n + 1) (κ (q + 1) n) (q + 1) i = κ (q + 1) i := fun i hi => up2_n (by omega)
      refine ⟨m, by omega, r1, fun i => ?_, r3, fun i h1 h2 => ?_, fun h0 => ?_⟩
      · rw [r2]
        by_cases c1 : m < i ∧ i ≤ n
        · rw [if_pos c1, if_pos (by omega), u _ (by omega)]
        · rw [if_neg c1]
          by_cases c2 : i = n + 1
          · subst c2
            rw [if_pos (by omega), up2_y ⟨rfl, rfl⟩, Nat.add_sub_cancel]
          · rw [if_neg (by omega), up2_n (fun z => c2 z.2)]
      · by_cases c1 : i = n
        · subst c1; exact c
        · have := r4 i h1 (by omega)
          rw [u i (by omega)] at this
          exact this
      · have := r5 h0
        rw [u _ (by omega)] at this
        exact this
theorem queue_at {μ ν : Mm} {a N R q sd : Nat} (h : REL μ a (ν 260)) (g : RNG N R (ν 260)) (hq : a + 40 ≤ q + 1) (hsd : sd ≤ 1) : ∃ L qf, QI (cn (ν 260 1)) (nS (ν 260)) (nW (ν 260)) sd qf L ∧ (C_queueUp μ q 20 (a + 16) (nI sd)).2 = nI L ∧ (∀ i, i < L → (C_queueUp μ q 20 (a + 16) (nI sd)).1 (q + 1) i = nI (qf i)) ∧ ∀ p, p ≠ q + 1 → (C_queueUp μ q 20 (a + 16) (nI sd)).1 p = μ p := by
  have hc := g.c0
  have key : ∀ k, k ≤ cn (ν 260 1) → ∃ L qf, QI k (nS (ν 260)) (nW (ν 260)) sd qf L ∧ (itr (Q_step q 20 (a + 16) (nI sd)) (μ, 0) k).2 = nI L ∧ (∀ i, i < L → (itr (Q_step q 20 (a + 16) (nI sd)) (μ, 0) k).1 (q + 1) i = nI (qf i)) ∧ ∀ p, p ≠ q + 1 → (itr (Q_step q 20 (a + 16) (nI sd)) (μ, 0) k).1 p = μ p := by
    intro k
    induction k with
    | zero => exact fun _ => ⟨0, fun _ => 0, QI.o _ _ _ _, rfl, fun i hi => absurd hi (Nat.not_lt_zero i), fun p _ => rfl⟩
    | succ k ih =>
      intro hk
      obtain ⟨L, qf, h1, h2, h3, h4⟩ := ih (by omega)
      show ∃ L qf, QI (k + 1) (nS (ν 260)) (nW (ν 260)) sd qf L ∧ (Q_step q 20 (a + 16) (nI sd) k (itr (Q_step q 20 (a + 16) (nI sd)) (μ, 0) k)).2 = nI L ∧ (∀ i, i < L → (Q_step q 20 (a + 16) (nI sd) k (itr (Q_step q 20 (a + 16) (nI sd)) (μ, 0) k)).1 (q + 1) i = nI (qf i)) ∧ ∀ p, p ≠ q + 1 → (Q_step q 20 (a + 16) (nI sd) k (itr (Q_step q 20 (a + 16) (nI sd)) (μ, 0) k)).1 p = μ p
      generalize itr (Q_step q 20 (a + 16) (nI sd)) (μ, 0) k = s at h2 h3 h4
      have hL := h1.len
      have hs : REL s.1 a (ν 260) := h.of fun p p1 p2 => h4 p (by omega)
      obtain ⟨sk, sk2⟩ := of_S g (k := k) (by omega)
      have e1 : R_get s.1 (a + 16 + 5) 20 (nI k) = nI (nS (ν 260) k) := by rw [rd_sd hs g (by omega), sk]
      by_cases c : nS (ν 260) k = sd
      · rw [show Q_step q 20 (a + 16) (nI sd) k s = (R_put (Q_in q 20 (a + 16) (nI k) (cn s.2) s.1).1 q 20 (Q_in q 20 (a + 16) (nI k) (cn s.2) s.1).2 (nI k), s.2 + 1) from if_pos (by rw [e1, c]), h2, cn_nI (by omega)]
        obtain ⟨m, hm, r1, r2, r3, r4, r5⟩ := Q_in_at (q := q) (o := a + 16) (ix := nI k) (μ := μ) (by omega) (by omega) L (by omega) s.1 h4
        rw [r1, R_put_nI (by omega) (by decide)]
        have ah : ∀ i, i < L → ((¬ O_isAhead μ (a + 16) (nI k) (s.1 (q + 1) i) = 0) ↔ nW (ν 260) k < nW (ν 260) (qf i)) := fun i hi => by
          obtain ⟨b1, b2⟩ := h1.1 i hi
          have ss : M_side ν (nI k) = M_side ν (nI (qf i)) := by rw [sk, (of_S g (k := qf i) (by omega)).1, c, b2]
          rw [h3 i hi, ah_O h g (by omega) (by omega) ss, AH_iff g (by omega) (by omega)]
          exact ⟨fun z => z.2, fun z => ⟨c.trans b2.symm, z⟩⟩
        refine ⟨L + 1, fun i => if i < m then qf i else if i = m then k else qf (i - 1), h1.put c hm (fun i hi => ?_) (fun i i1 i2 => (ah i i2).mp (r4 i i1 i2)) (fun i _ => rfl), ?_, fun i hi => ?_, fun p hp => ?_⟩
        · have b0 := r5 (by omega)
          have b1 : ¬ nW (ν 260) k < nW (ν 260) (qf (m - 1)) := fun z => (ah (m - 1) (by omega)).mpr z b0
          have b2 := (h1.1 (m - 1) (by omega)).1
          have b3 : nW (ν 260) k ≠ nW (ν 260) (qf (m - 1)) := fun z => by
            have := nW_inj (by omega) (by omega) z
            omega
          by_cases ci : i = m - 1
          · rw [ci]; omega
          · have := h1.2.1 i (m - 1) (by omega) (by omega)
            omega
        · show nI L + 1 = nI (L + 1)
          exact nI_1 L
        · show up2 _ (q + 1) m (nI k) (q + 1) i = nI (if i < m then qf i else if i = m then k else qf (i - 1))
          by_cases c1 : i < m
          · rw [up2_n (by omega), r2, if_neg (by omega), if_pos c1]
            exact h3 i (by omega)
          · by_cases c2 : i = m
            · rw [up2_y ⟨rfl, c2⟩, if_neg c1, if_pos c2]
            · rw [up2_n (fun z => c2 z.2), r2, if_pos (by omega), if_neg c1, if_neg c2]
              exact h3 (i - 1) (by omega)
        · exact (up2_k _ _ hp).trans (r3 p hp)
      · rw [show Q_step q 20 (a + 16) (nI sd) k s = s from if_neg (by rw [e1, nI_inj (by omega) (by omega)]; exact c)]
        exact ⟨L, qf, h1.skip c, h2, h3, h4⟩
  have := key (cn (ν 260 1)) (Nat.le_refl _)
  unfold C_queueUp
  rw [rd_n1 h]
  exact this
end
