/-! a placed order, a removed one -/
theorem place_at (μ : Mm) {a t n p : Nat} (pr u : Int32) (hn : n < 20) (hp : p + 1 < 2 ^ 31) (h0 : μ (a + 16) 0 = nI n) (h6 : μ a 6 = nI p) :
    A_placeM μ a (nI t) pr u = up2 (up2 (up2 (up2 (up2 (up2 (up2 (up2 μ (a + 18) n (nI p)) (a + 20) n (nI t)) (a + 22) n (R_get μ (a + 1 + 1) 8 (nI t))) (a + 24) n pr) (a + 26) n u) (a + 28) n (μ a 5)) (a + 16) 0 (nI (n + 1))) a 6 (nI (p + 1)) := by
  have e0 : ∀ (κ : Mm) (k i : Nat) (v : Int32), k ≠ a + 16 → up2 κ k i v (a + 16) = κ (a + 16) := fun κ k i v hk => up2_k _ _ (Ne.symm hk)
  unfold A_placeM O_append
  simp only []
  rw [h0, h6, R_put_nI hn (by decide)]
  rw [e0 _ _ _ _ (by omega), h0, R_put_nI hn (by decide)]
  rw [e0 _ _ _ _ (by omega), e0 _ _ _ _ (by omega), h0, R_put_nI hn (by decide)]
  rw [e0 _ _ _ _ (by omega), e0 _ _ _ _ (by omega), e0 _ _ _ _ (by omega), h0, R_put_nI hn (by decide)]
  rw [e0 _ _ _ _ (by omega), e0 _ _ _ _ (by omega), e0 _ _ _ _ (by omega), e0 _ _ _ _ (by omega), h0, R_put_nI hn (by decide)]
  rw [e0 _ _ _ _ (by omega), e0 _ _ _ _ (by omega), e0 _ _ _ _ (by omega), e0 _ _ _ _ (by omega), e0 _ _ _ _ (by omega), h0, R_put_nI hn (by decide)]
  rw [e0 _ _ _ _ (by omega), e0 _ _ _ _ (by omega), e0 _ _ _ _ (by omega), e0 _ _ _ _ (by omega), e0 _ _ _ _ (by omega), e0 _ _ _ _ (by omega), h0, nI_1]
  rw [up2_n (by omega), up2_n (by omega), up2_n (by omega), up2_n (by omega), up2_n (by omega), up2_n (by omega), up2_n (by omega), h6, nI_1]
theorem places_row (ν : Mm) {t n p : Nat} (pr u : Int32) (hn : n < 20) (h1 : ν 260 1 = nI n) (h5 : ν 260 5 = nI p) (i : Nat) :
    M_placesM ν (nI t) pr u 260 i = if i = 1 then nI (n + 1) else if i = 5 then nI (p + 1) else if i = 67 + 5 * n then nI p else if i = 68 + 5 * n then nI t else if i = 69 + 5 * n then pr else if i = 70 + 5 * n then u else if i = 71 + 5 * n then ν 260 2 else ν 260 i := by
  have so : ∀ (κ : Mm) (w : Nat) (v : Int32), w < 5 → ∀ i, M_setO κ (nI n) (nI w) v 260 i = if i = 67 + 5 * n + w then v else κ 260 i := fun κ w v hw i => by rw [setO_ch hn hw]; rfl
  have s0 : ∀ (κ : Mm) (v : Int32) (i : Nat), M_setO κ (nI n) 0 v 260 i = if i = 67 + 5 * n then v else κ 260 i := fun κ v i => so κ 0 v (by decide) i
  have s1 : ∀ (κ : Mm) (v : Int32) (i : Nat), M_setO κ (nI n) 1 v 260 i = if i = 68 + 5 * n then v else κ 260 i := fun κ v i => by rw [show 68 + 5 * n = 67 + 5 * n + 1 by omega]; exact so κ 1 v (by decide) i
  have s2 : ∀ (κ : Mm) (v : Int32) (i : Nat), M_setO κ (nI n) 2 v 260 i = if i = 69 + 5 * n then v else κ 260 i := fun κ v i => by rw [show 69 + 5 * n = 67 + 5 * n + 2 by omega]; exact so κ 2 v (by decide) i
  have s3 : ∀ (κ : Mm) (v : Int32) (i : Nat), M_setO κ (nI n) 3 v 260 i = if i = 70 + 5 * n then v else κ 260 i := fun κ v i => by rw [show 70 + 5 * n = 67 + 5 * n + 3 by omega]; exact so κ 3 v (by decide) i
  have s4 : ∀ (κ : Mm) (v : Int32) (i : Nat), M_setO κ (nI n) 4 v 260 i = if i = 71 + 5 * n then v else κ 260 i := fun κ v i => by rw [show 71 + 5 * n = 67 + 5 * n + 4 by omega]; exact so κ 4 v (by decide) i
  have u1 : ∀ (v : Int32) (i : Nat), up2 ν 260 1 v 260 i = if i = 1 then v else ν 260 i := fun v i => by
    by_cases c : i = 1
    · rw [if_pos c]; exact up2_y ⟨rfl, c⟩
    · rw [if_neg c]; exact up2_n (fun z => c z.2)
  have u5 : ∀ (κ : Mm) (v : Int32) (i : Nat), up2 κ 260 5 v 260 i = if i = 5 then v else κ 260 i := fun κ v i => by
    by_cases c : i = 5
    · rw [if_pos c]; exact up2_y ⟨rfl, c⟩
    · rw [if_neg c]; exact up2_n (fun z => c z.2)
  unfold M_placesM
  simp only [u5, s4, s3, s2, s1, s0, u1, h1, h5, nI_1]
  rcases (show i = 1 ∨ i = 5 ∨ i = 67 + 5 * n ∨ i = 68 + 5 * n ∨ i = 69 + 5 * n ∨ i = 70 + 5 * n ∨ i = 71 + 5 * n ∨ (i ≠ 1 ∧ i ≠ 5 ∧ ¬ (67 + 5 * n ≤ i ∧ i < 72 + 5 * n)) by omega) with c | c | c | c | c | c | c | c
  · repeat (first | rw [if_neg (by omega)] | rw [if_pos (by omega)])
  · repeat (first | rw [if_neg (by omega)] | rw [if_pos (by omega)])
    first | done | exact h5 ▸ nI_1 p | exact nI_1 p | (rw [h5]; exact nI_1 p)
  · repeat (first | rw [if_neg (by omega)] | rw [if_pos (by omega)])
  · repeat (first | rw [if_neg (by omega)] | rw [if_pos (by omega)])
  · repeat (first | rw [if_neg (by omega)] | rw [if_pos (by omega)])
  · repeat (first | rw [if_neg (by omega)] | rw [if_pos (by omega)])
  · repeat (first | rw [if_neg (by omega)] | rw [if_pos (by omega)])
  · repeat (first | rw [if_neg (by omega)] | rw [if_pos (by omega)])
theorem wr_place {μ ν : Mm} {a t N R : Nat} {pr u : Int32} (h : REL μ a (ν 260)) (g : RNG N R (ν 260)) (hN : N + 1 < 2 ^ 31) (hRb : R < 2 ^ 31) (hn : cn (ν 260 1) < 20) (ht : t < cn (ν 260 0)) (hp : vp_in pr 121 ∧ pr ≠ 0) (hu : vp_in u 10 ∧ u ≠ 0) :
    REL (A_placeM μ a (nI t) pr u) a (M_placesM ν (nI t) pr u 260) ∧ RNG (N + 1) R (M_placesM ν (nI t) pr u 260) := by
  obtain ⟨n, hn2, e1⟩ : ∃ n, n < 20 ∧ ν 260 1 = nI n := ⟨_, hn, (vp_of2 g.1.2.1 (by decide)).1⟩
  obtain ⟨p, hpN, e5⟩ := g.2.2.2.2.1
  have hc := g.c0
  have hr := places_row ν (t := t) pr u hn2 e1 e5
  have hj := place_at μ (t := t) pr u hn2 (by omega) ((rd_n1 h).trans e1) (h.1.2.2.2.2.2.1.trans e5)
  have hcn : cn (ν 260 1) = n := by rw [e1, cn_nI (by omega)]
  have hsd : R_get μ (a + 1 + 1) 8 (nI t) = ν 260 (11 + 7 * t) := by
    have := rd_t h g ht (w := 0) (by decide)
    rw [M_t_nI (by omega) (by decide)] at this
    exact this
  rw [hsd] at hj
  obtain ⟨r, hre⟩ : ∃ r, r = M_placesM ν (nI t) pr u 260 := ⟨_, rfl⟩
  rw [← hre] at hr ⊢
  have e : ∀ i, i ≠ 1 → i ≠ 5 → ¬ (67 + 5 * n ≤ i ∧ i < 72 + 5 * n) → r i = ν 260 i := fun i q1 q2 q3 => by rw [hr, if_neg q1, if_neg q2, if_neg (by omega), if_neg (by omega), if_neg (by omega), if_neg (by omega), if_neg (by omega)]
  have r1 : r 1 = nI (n + 1) := by rw [hr, if_pos rfl]
  have r5 : r 5 = nI (p + 1) := by rw [hr, if_neg (by omega), if_pos rfl]
  have q0 : r (67 + 5 * n) = nI p := by rw [hr, if_neg (by omega), if_neg (by omega), if_pos rfl]
  have q1 : r (68 + 5 * n) = nI t := by rw [hr, if_neg (by omega), if_neg (by omega), if_neg (by omega), if_pos rfl]
  have q2 : r (69 + 5 * n) = pr := by rw [hr, if_neg (by omega), if_neg (by omega), if_neg (by omega), if_neg (by omega), if_pos rfl]
  have q3 : r (70 + 5 * n) = u := by rw [hr, if_neg (by omega), if_neg (by omega), if_neg (by omega), if_neg (by omega), if_neg (by omega), if_pos rfl]
  have q4 : r (71 + 5 * n) = ν 260 2 := by rw [hr, if_neg (by omega), if_neg (by omega), if_neg (by omega), if_neg (by omega), if_neg (by omega), if_neg (by omega), if_pos rfl]
  have c1 : cn (r 1) = n + 1 := by rw [r1, cn_nI (by omega)]
  have c5 : cn (r 5) = p + 1 := by rw [r5, cn_nI (by omega)]
  obtain ⟨h1, h2, h3, h4⟩ := h
  constructor
  · rw [hj]
    have m : ∀ q i, ¬ ((q = a + 18 ∨ q = a + 20 ∨ q = a + 22 ∨ q = a + 24 ∨ q = a + 26 ∨ q = a + 28) ∧ i = n) → ¬ (q = a + 16 ∧ i = 0) → ¬ (q = a ∧ i = 6) → up2 (up2 (up2 (up2 (up2 (up2 (up2 (up2 μ (a + 18) n (nI p)) (a + 20) n (nI t)) (a + 22) n (ν 260 (11 + 7 * t))) (a + 24) n pr) (a + 26) n u) (a + 28) n (μ a 5)) (a + 16) 0 (nI (n + 1))) a 6 (nI (p + 1)) q i = μ q i := fun q i z1 z2 z3 => by
      rw [up2_n z3, up2_n z2, up2_n (by omega), up2_n (by omega), up2_n (by omega), up2_n (by omega), up2_n (by omega), up2_n (by omega)]
    refine ⟨⟨?_, ?_, ?_, ?_, ?_, ?_, ?_, ?_, ?_, ?_, ?_⟩, fun t' ht' w hw => ?_, fun k hk => ?_, fun i hi w hw => ?_⟩
    · rw [m _ _ (by omega) (by omega) (by omega), e 0 (by omega) (by omega) (by omega)]; exact h1.1
    · rw [up2_n (by omega), up2_y ⟨rfl, rfl⟩, r1]
    · rw [m _ _ (by omega) (by omega) (by omega), e 2 (by omega) (by omega) (by omega)]; exact h1.2.2.1
    · rw [m _ _ (by omega) (by omega) (by omega), e 3 (by omega) (by omega) (by omega)]; exact h1.2.2.2.1
    · rw [m _ _ (by omega) (by omega) (by omega), e 4 (by omega) (by omega) (by omega)]; exact h1.2.2.2.2.1
    · rw [up2_y ⟨rfl, rfl⟩, r5]
    · rw [m _ _ (by omega) (by omega) (by omega), e 6 (by omega) (by omega) (by omega)]; exact h1.2.2.2.2.2.2.1
    · rw [m _ _ (by omega) (by omega) (by omega), e 7 (by omega) (by omega) (by omega)]; exact h1.2.2.2.2.2.2.2.1
    · rw [m _ _ (by omega) (by omega) (by omega), e 8 (by omega) (by omega) (by omega)]; exact h1.2.2.2.2.2.2.2.2.1
    · rw [m _ _ (by omega) (by omega) (by omega), e 9 (by omega) (by omega) (by omega)]; exact h1.2.2.2.2.2.2.2.2.2.1
    · rw [m _ _ (by omega) (by omega) (by omega), e 10 (by omega) (by omega) (by omega)]; exact h1.2.2.2.2.2.2.2.2.2.2
    · rw [e 0 (by omega) (by omega) (by omega)] at ht'
      rw [m _ _ (by omega) (by omega) (by omega), e _ (by omega) (by omega) (by omega)]
      exact h2 t' ht' w hw
    · rw [c1] at hk
      by_cases ck : k = n
      · subst ck
        rw [q0, q1, q2, q3, q4, cn_nI (by omega), e (11 + 7 * t) (by omega) (by omega) (by omega)]
        refine ⟨?_, ?_, ?_, ?_, ?_, ?_⟩
        · rw [up2_n (by omega), up2_n (by omega), up2_n (by omega), up2_n (by omega), up2_n (by omega), up2_n (by omega), up2_n (by omega), up2_y ⟨rfl, rfl⟩]
        · rw [up2_n (by omega), up2_n (by omega), up2_n (by omega), up2_n (by omega), up2_n (by omega), up2_n (by omega), up2_y ⟨rfl, rfl⟩]
        · rw [up2_n (by omega), up2_n (by omega), up2_n (by omega), up2_n (by omega), up2_y ⟨rfl, rfl⟩]
        · rw [up2_n (by omega), up2_n (by omega), up2_n (by omega), up2_y ⟨rfl, rfl⟩]
        · rw [up2_n (by omega), up2_n (by omega), up2_y ⟨rfl, rfl⟩]; exact h1.2.2.1
        · rw [up2_n (by omega), up2_n (by omega), up2_n (by omega), up2_n (by omega), up2_n (by omega), up2_y ⟨rfl, rfl⟩]
      · have q := h3 k (by omega)
        have hwk := (g.2.2.2.2.2.2.1 k (by omega)).2.1
        rw [m _ _ (by omega) (by omega) (by omega), m _ _ (by omega) (by omega) (by omega), m _ _ (by omega) (by omega) (by omega), m _ _ (by omega) (by omega) (by omega), m _ _ (by omega) (by omega) (by omega), m _ _ (by omega) (by omega) (by omega)]
        rw [e (67 + 5 * k) (by omega) (by omega) (by omega), e (68 + 5 * k) (by omega) (by omega) (by omega), e (69 + 5 * k) (by omega) (by omega) (by omega), e (70 + 5 * k) (by omega) (by omega) (by omega), e (71 + 5 * k) (by omega) (by omega) (by omega), e (11 + 7 * cn (ν 260 (68 + 5 * k))) (by omega) (by omega) (by omega)]
        exact q
    · rw [e 9 (by omega) (by omega) (by omega)] at hi
      rw [m _ _ (by omega) (by omega) (by omega), e _ (by omega) (by omega) (by omega)]
      exact h4 i hi w hw
  · obtain ⟨g1, g2, g3, g4, g5, g6, g7, g8⟩ := g
    have e2 : r 2 = ν 260 2 := e 2 (by omega) (by omega) (by omega)
    have e0 : r 0 = ν 260 0 := e 0 (by omega) (by omega) (by omega)
    refine ⟨⟨?_, ?_, ?_, fun k hk => ?_⟩, ?_, ?_, ?_, ⟨p + 1, by omega, r5⟩, fun t' ht' => ?_, fun k hk => ?_, fun j k hj hk => ?_⟩
    · rw [e0]; exact g1.1
    · rw [r1]; exact vp_in_nI (by omega) (by decide)
    · rw [e 9 (by omega) (by omega) (by omega)]; exact g1.2.2.1
    · by_cases ck : k = n
      · subst ck
        rw [q1]; exact vp_in_nI (by omega) (by decide)
      · rw [e (68 + 5 * k) (by omega) (by omega) (by omega)]; exact g1.2.2.2 k hk
    · rw [e2]; exact g2
    · rw [e 3 (by omega) (by omega) (by omega)]; exact g3
    · rw [e 4 (by omega) (by omega) (by omega)]; exact g4
    · rw [e0] at ht'
      rw [e _ (by omega) (by omega) (by omega), e _ (by omega) (by omega) (by omega), e _ (by omega) (by omega) (by omega), e _ (by omega) (by omega) (by omega)]
      exact g6 t' ht'
    · rw [c1] at hk
      rw [c5, e0, e2]
      by_cases ck : k = n
      · subst ck
        rw [q0, q1, q2, q3, q4, cn_nI (by omega)]
        exact ⟨⟨p, by omega, rfl⟩, ht, hp, hu, ⟨cn (ν 260 2), Nat.le_refl _, by obtain ⟨q, hq1, hq⟩ := g2; rw [hq, cn_nI (by omega)]⟩⟩
      · have q := g7 k (by omega)
        rw [e (67 + 5 * k) (by omega) (by omega) (by omega), e (68 + 5 * k) (by omega) (by omega) (by omega), e (69 + 5 * k) (by omega) (by omega) (by omega), e (70 + 5 * k) (by omega) (by omega) (by omega), e (71 + 5 * k) (by omega) (by omega) (by omega)]
        obtain ⟨⟨mm, hm1, hm2⟩, q2'⟩ := q
        have : cn (ν 260 5) = p := by rw [e5, cn_nI (by omega)]
        exact ⟨⟨mm, by omega, hm2⟩, q2'⟩
    · rw [c1] at hk
      by_cases ck : k = n
      · subst ck
        rw [q0, cn_nI (by omega), e (67 + 5 * j) (by omega) (by omega) (by omega)]
        obtain ⟨mm, hm1, hm2⟩ := (g7 j (by omega)).1
        have : cn (ν 260 5) = p := by rw [e5, cn_nI (by omega)]
        rw [hm2, cn_nI (by omega)]
        omega
      · rw [e (67 + 5 * j) (by omega) (by omega) (by omega), e (67 + 5 * k) (by omega) (by omega) (by omega)]
        exact g8 j k hj (by omega)
