/-! changes of one number on both sides -/
theorem up2_n {μ : Mm} {k i k' i' : Nat} {v : Int32} (h : ¬ (k' = k ∧ i' = i)) : up2 μ k i v k' i' = μ k' i' := if_neg h
theorem up2_y {μ : Mm} {k i k' i' : Nat} {v : Int32} (h : k' = k ∧ i' = i) : up2 μ k i v k' i' = v := if_pos h
/-- a row after one change -/
def ch (f : Nat → Int32) (i : Nat) (v : Int32) : Nat → Int32 := fun j => if j = i then v else f j
theorem up2_ch (μ : Mm) (k i : Nat) (v : Int32) : up2 μ k i v k = ch (μ k) i v := by
  funext j
  simp [up2, ch]
theorem ch_n {f : Nat → Int32} {i j : Nat} {v : Int32} (h : j ≠ i) : ch f i v j = f j := if_neg h
theorem ch_y (f : Nat → Int32) (i : Nat) (v : Int32) : ch f i v i = v := if_pos rfl
theorem setT_ch {ν : Mm} {t w : Nat} {v : Int32} (ht : t < 8) (hw : w < 7) : M_setT ν (nI t) (nI w) v 260 = ch (ν 260) (11 + 7 * t + w) v := by
  unfold M_setT
  rw [idxT, cn_nI (by omega), up2_ch]
theorem setO_ch {ν : Mm} {k w : Nat} {v : Int32} (hk : k < 20) (hw : w < 5) : M_setO ν (nI k) (nI w) v 260 = ch (ν 260) (67 + 5 * k + w) v := by
  unfold M_setO
  rw [idxO, cn_nI (by omega), up2_ch]
theorem wr_t {μ : Mm} {a t w N R : Nat} {f : Nat → Int32} {v : Int32} (h : REL μ a f) (g : RNG N R f) (ht : t < cn (f 0)) (hw : w < 7) (h0 : w ≠ 0) : REL (up2 μ (a + 3 + 2 * w) t v) a (ch f (11 + 7 * t + w) v) := by
  have hc := g.c0
  obtain ⟨h1, h2, h3, h4⟩ := h
  refine ⟨?_, fun t' ht' w' hw' => ?_, fun k hk => ?_, fun i hi w' hw' => ?_⟩
  · rw [up2_n (by omega), up2_n (by omega), up2_n (by omega), up2_n (by omega), up2_n (by omega), up2_n (by omega), up2_n (by omega), up2_n (by omega), up2_n (by omega), up2_n (by omega), up2_n (by omega)]
    rw [ch_n (by omega), ch_n (by omega), ch_n (by omega), ch_n (by omega), ch_n (by omega), ch_n (by omega), ch_n (by omega), ch_n (by omega), ch_n (by omega), ch_n (by omega), ch_n (by omega)]
    exact h1
  · rw [ch_n (by omega)] at ht'
    by_cases c : t' = t ∧ w' = w
    · obtain ⟨rfl, rfl⟩ := c
      rw [up2_y ⟨rfl, rfl⟩, ch_y]
    · rw [up2_n (by omega), ch_n (by omega)]
      exact h2 t' ht' w' hw'
  · rw [ch_n (by omega)] at hk
    have q := h3 k hk
    have e : ∀ j, j < 5 → ch f (11 + 7 * t + w) v (67 + j + 5 * k) = f (67 + j + 5 * k) := fun j hj => ch_n (by omega)
    rw [up2_n (by omega), up2_n (by omega), up2_n (by omega), up2_n (by omega), up2_n (by omega), up2_n (by omega), ch_n (by omega), ch_n (by omega), ch_n (by omega), ch_n (by omega), ch_n (by omega), ch_n (by omega)]
    exact q
  · rw [ch_n (by omega)] at hi
    rw [up2_n (by omega), ch_n (by omega)]
    exact h4 i hi w' hw'
/-- the ranges behind a change of a trader's number -/
theorem rg_t {f : Nat → Int32} {t w N R : Nat} {v : Int32} (g : RNG N R f) (ht : t < cn (f 0)) (hw : w < 7) (h0 : w ≠ 0) (hv : (w = 1 → vp_in v 100 ∧ v ≠ 0) ∧ (w = 2 → vp_in v 4) ∧ (w = 3 → vp_in v 51)) : RNG N R (ch f (11 + 7 * t + w) v) := by
  have hc := g.c0
  obtain ⟨g1, g2, g3, g4, g5, g6, g7, g8⟩ := g
  have e : ∀ i, ¬ (11 ≤ i ∧ i < 67) → ch f (11 + 7 * t + w) v i = f i := fun i hi => ch_n (by omega)
  refine ⟨?_, ?_, ?_, ?_, ?_, fun t' ht' => ?_, fun k hk => ?_, fun j k hj hk => ?_⟩
  · rw [e 0 (by omega), e 1 (by omega), e 9 (by omega)]
    exact ⟨g1.1, g1.2.1, g1.2.2.1, fun k hk => by rw [e (68 + 5 * k) (by omega)]; exact g1.2.2.2 k hk⟩
  · rw [e 2 (by omega)]; exact g2
  · rw [e 3 (by omega)]; exact g3
  · rw [e 4 (by omega)]; exact g4
  · rw [e 5 (by omega)]; exact g5
  · rw [e 0 (by omega)] at ht'
    have q := g6 t' ht'
    by_cases c : t' = t
    · subst c
      have e0 : ch f (11 + 7 * t' + w) v (11 + 7 * t') = f (11 + 7 * t') := ch_n (by omega)
      rw [e0]
      refine ⟨q.1, ?_, ?_, ?_⟩
      · by_cases cw : w = 1
        · rw [show ch f (11 + 7 * t' + w) v (12 + 7 * t') = v from if_pos (by omega)]; exact hv.1 cw
        · rw [ch_n (by omega)]; exact q.2.1
      · by_cases cw : w = 2
        · rw [show ch f (11 + 7 * t' + w) v (13 + 7 * t') = v from if_pos (by omega)]; exact hv.2.1 cw
        · rw [ch_n (by omega)]; exact q.2.2.1
      · by_cases cw : w = 3
        · rw [show ch f (11 + 7 * t' + w) v (14 + 7 * t') = v from if_pos (by omega)]; exact hv.2.2 cw
        · rw [ch_n (by omega)]; exact q.2.2.2
    · rw [ch_n (by omega), ch_n (by omega), ch_n (by omega), ch_n (by omega)]
      exact q
  · rw [e 1 (by omega)] at hk
    rw [e (67 + 5 * k) (by omega), e (68 + 5 * k) (by omega), e (69 + 5 * k) (by omega), e (70 + 5 * k) (by omega), e (71 + 5 * k) (by omega), e 5 (by omega), e 0 (by omega), e 2 (by omega)]
    exact g7 k hk
  · rw [e 1 (by omega)] at hk
    rw [e (67 + 5 * j) (by omega), e (67 + 5 * k) (by omega)]
    exact g8 j k hj hk
/-! the joined trader -/
theorem zeroT_row (ν : Mm) {n : Nat} (hn : n < 8) : ∀ k, k ≤ 7 → ∀ i, M_zeroT ν (nI n) k 260 i = if 11 + 7 * n ≤ i ∧ i < 11 + 7 * n + k then 0 else ν 260 i
  | 0, _, i => by rw [if_neg (by omega)]; rfl
  | k + 1, hk, i => by
    show M_setT (M_zeroT ν (nI n) k) (nI n) (nI k) 0 260 i = _
    rw [setT_ch hn (by omega)]
    unfold ch
    rw [zeroT_row ν hn k (by omega) i]
    by_cases c : i = 11 + 7 * n + k
    · rw [if_pos c, if_pos (by omega)]
    · rw [if_neg c]
      by_cases c2 : 11 + 7 * n ≤ i ∧ i < 11 + 7 * n + k
      · rw [if_pos c2, if_pos (by omega)]
      · rw [if_neg c2, if_neg (by omega)]
theorem zeroT_ne (ν : Mm) (t : Int32) {p : Nat} (hp : p ≠ 260) : ∀ k, M_zeroT ν t k p = ν p
  | 0 => rfl
  | k + 1 => (up2_k _ _ hp).trans (zeroT_ne ν t hp k)
theorem addsT_row (ν : Mm) (sd v : Int32) {n : Nat} (hn : n < 8) (h0 : ν 260 0 = nI n) (i : Nat) : M_addsTrader ν sd v 260 i = if i = 0 then nI (n + 1) else if i = 11 + 7 * n then sd else if i = 12 + 7 * n then v else if 13 + 7 * n ≤ i ∧ i < 18 + 7 * n then 0 else ν 260 i := by
  unfold M_addsTrader
  rw [h0, nI_1]
  rw [show (1 : Int32) = nI 1 from rfl, setT_ch hn (by decide)]
  unfold ch
  rw [show (0 : Int32) = nI 0 from rfl, setT_ch hn (by decide)]
  unfold ch
  rw [zeroT_row _ hn _ (by rw [NN_eq]; decide), NN_eq]
  by_cases c0 : i = 0
  · subst c0
    rw [if_neg (by omega), if_neg (by omega), if_neg (by omega), if_pos rfl]
    exact up2_y ⟨rfl, rfl⟩
  · rw [if_neg c0]
    by_cases c1 : i = 11 + 7 * n
    · rw [if_pos c1, if_neg (by omega), if_pos (by omega)]
    · rw [if_neg c1]
      by_cases c2 : i = 12 + 7 * n
      · rw [if_pos c2, if_pos (by omega)]
      · rw [if_neg c2, if_neg (by omega), if_neg (by omega)]
        by_cases c3 : 13 + 7 * n ≤ i ∧ i < 18 + 7 * n
        · rw [if_pos c3, if_pos (by omega)]; rfl
        · rw [if_neg c3, if_neg (by omega), up2_n (by omega)]
theorem join_at (μ : Mm) (sd v : Int32) {n : Nat} (hn : n < 8) (h0 : μ 2 0 = nI n) : T_join μ (1 + 1) sd v = up2 (up2 (up2 (up2 (up2 (up2 (up2 (up2 μ 4 n sd) 6 n v) 8 n 0) 10 n 0) 12 n 0) 14 n 0) 16 n 0) 2 0 (nI (n + 1)) := by
  unfold T_join T_shadeBy
  simp only [show (1 + 1 : Nat) = 2 from rfl]
  rw [h0]
  rw [R_put_nI hn (by decide), R_put_nI hn (by decide), R_put_nI hn (by decide), R_put_nI hn (by decide), R_put_nI hn (by decide), R_put_nI hn (by decide), R_put_nI hn (by decide)]
  rw [show up2 (up2 (up2 (up2 (up2 (up2 (up2 μ (2 + 1 + 1) n sd) (2 + 3 + 1) n v) (2 + 5 + 1) n 0) (2 + 7 + 1) n 0) (2 + 9 + 1) n 0) (2 + 11 + 1) n 0) (2 + 13 + 1) n 0 2 0 = nI n from by
    rw [up2_k _ _ (by decide), up2_k _ _ (by decide), up2_k _ _ (by decide), up2_k _ _ (by decide), up2_k _ _ (by decide), up2_k _ _ (by decide), up2_k _ _ (by decide), h0], nI_1]
theorem wr_join {μ ν : Mm} {N R : Nat} {sd v : Int32} (h : REL μ 1 (ν 260)) (g : RNG N R (ν 260)) (hn : cn (ν 260 0) < 8) (hs : sd = 0 ∨ sd = 1) (hv : vp_in v 100 ∧ v ≠ 0) : REL (T_join μ (1 + 1) sd v) 1 (M_addsTrader ν sd v 260) ∧ RNG N R (M_addsTrader ν sd v 260) := by
  obtain ⟨n, hn2, h0⟩ : ∃ n, n < 8 ∧ ν 260 0 = nI n := ⟨_, hn, (vp_of2 g.1.1 (by decide)).1⟩
  have hc := g.c0
  have hr := addsT_row ν sd v hn2 h0
  have hm0 : μ 2 0 = nI n := (rd_n0 h).trans h0
  have hj := join_at μ sd v hn2 hm0
  have hcn : cn (ν 260 0) = n := by rw [h0, cn_nI (by omega)]
  obtain ⟨r, hre⟩ : ∃ r, r = M_addsTrader ν sd v 260 := ⟨_, rfl⟩
  rw [← hre] at hr ⊢
  have e : ∀ i, i ≠ 0 → ¬ (11 + 7 * n ≤ i ∧ i < 18 + 7 * n) → r i = ν 260 i := fun i h1 h2 => by rw [hr, if_neg h1, if_neg (by omega), if_neg (by omega), if_neg (by omega)]
  have r0 : r 0 = nI (n + 1) := by rw [hr, if_pos rfl]
  have rs : r (11 + 7 * n) = sd := by rw [hr, if_neg (by omega), if_pos rfl]
  have rv : r (12 + 7 * n) = v := by rw [hr, if_neg (by omega), if_neg (by omega), if_pos rfl]
  have rz : ∀ w, 2 ≤ w → w < 7 → r (11 + 7 * n + w) = 0 := fun w h1 h2 => by rw [hr, if_neg (by omega), if_neg (by omega), if_neg (by omega), if_pos (by omega)]
  have c1 : cn (r 0) = n + 1 := by rw [r0, cn_nI (by omega)]
  obtain ⟨h1, h2, h3, h4⟩ := h
  constructor
  · rw [hj]
    have m : ∀ p i, ¬ ((p = 4 ∨ p = 6 ∨ p = 8 ∨ p = 10 ∨ p = 12 ∨ p = 14 ∨ p = 16) ∧ i = n) → ¬ (p = 2 ∧ i = 0) → up2 (up2 (up2 (up2 (up2 (up2 (up2 (up2 μ 4 n sd) 6 n v) 8 n 0) 10 n 0) 12 n 0) 14 n 0) 16 n 0) 2 0 (nI (n + 1)) p i = μ p i := fun p i q1 q2 => by
      rw [up2_n q2, up2_n (by omega), up2_n (by omega), up2_n (by omega), up2_n (by omega), up2_n (by omega), up2_n (by omega), up2_n (by omega)]
    refine ⟨⟨?_, ?_, ?_, ?_, ?_, ?_, ?_, ?_, ?_, ?_, ?_⟩, fun t ht w hw => ?_, fun k hk => ?_, fun i hi w hw => ?_⟩
    · rw [r0]; exact up2_y ⟨rfl, rfl⟩
    · rw [m _ _ (by omega) (by omega), e 1 (by omega) (by omega)]; exact h1.2.1
    · rw [m _ _ (by omega) (by omega), e 2 (by omega) (by omega)]; exact h1.2.2.1
    · rw [m _ _ (by omega) (by omega), e 3 (by omega) (by omega)]; exact h1.2.2.2.1
    · rw [m _ _ (by omega) (by omega), e 4 (by omega) (by omega)]; exact h1.2.2.2.2.1
    · rw [m _ _ (by omega) (by omega), e 5 (by omega) (by omega)]; exact h1.2.2.2.2.2.1
    · rw [m _ _ (by omega) (by omega), e 6 (by omega) (by omega)]; exact h1.2.2.2.2.2.2.1
    · rw [m _ _ (by omega) (by omega), e 7 (by omega) (by omega)]; exact h1.2.2.2.2.2.2.2.1
    · rw [m _ _ (by omega) (by omega), e 8 (by omega) (by omega)]; exact h1.2.2.2.2.2.2.2.2.1
    · rw [m _ _ (by omega) (by omega), e 9 (by omega) (by omega)]; exact h1.2.2.2.2.2.2.2.2.2.1
    · rw [m _ _ (by omega) (by omega), e 10 (by omega) (by omega)]; exact h1.2.2.2.2.2.2.2.2.2.2
    · rw [c1] at ht
      by_cases ct : t = n
      · subst ct
        rcases (show w = 0 ∨ w = 1 ∨ w = 2 ∨ w = 3 ∨ w = 4 ∨ w = 5 ∨ w = 6 by omega) with rfl | rfl | rfl | rfl | rfl | rfl | rfl
        · rw [show 11 + 7 * t + 0 = 11 + 7 * t from rfl, rs]; simp [up2]
        · rw [show 11 + 7 * t + 1 = 12 + 7 * t by omega, rv]; simp [up2]
        · rw [rz 2 (by decide) (by decide)]; simp [up2]
        · rw [rz 3 (by decide) (by decide)]; simp [up2]
        · rw [rz 4 (by decide) (by decide)]; simp [up2]
        · rw [rz 5 (by decide) (by decide)]; simp [up2]
        · rw [rz 6 (by decide) (by decide)]; simp [up2]
      · rw [m _ _ (by omega) (by omega), e _ (by omega) (by omega)]
        exact h2 t (by omega) w hw
    · rw [e 1 (by omega) (by omega)] at hk
      have q := h3 k hk
      have hwk := (g.2.2.2.2.2.2.1 k hk).2.1
      rw [m _ _ (by omega) (by omega), m _ _ (by omega) (by omega), m _ _ (by omega) (by omega), m _ _ (by omega) (by omega), m _ _ (by omega) (by omega), m _ _ (by omega) (by omega)]
      rw [e (67 + 5 * k) (by omega) (by omega), e (68 + 5 * k) (by omega) (by omega), e (69 + 5 * k) (by omega) (by omega), e (70 + 5 * k) (by omega) (by omega), e (71 + 5 * k) (by omega) (by omega), e (11 + 7 * cn (ν 260 (68 + 5 * k))) (by omega) (by omega)]
      exact q
    · rw [e 9 (by omega) (by omega)] at hi
      rw [m _ _ (by omega) (by omega), e _ (by omega) (by omega)]
      exact h4 i hi w hw
  · obtain ⟨g1, g2, g3, g4, g5, g6, g7, g8⟩ := g
    refine ⟨⟨?_, ?_, ?_, fun k hk => ?_⟩, ?_, ?_, ?_, ?_, fun t ht => ?_, fun k hk => ?_, fun j k hj hk => ?_⟩
    · rw [r0]; exact vp_in_nI (by omega) (by decide)
    · rw [e 1 (by omega) (by omega)]; exact g1.2.1
    · rw [e 9 (by omega) (by omega)]; exact g1.2.2.1
    · rw [e (68 + 5 * k) (by omega) (by omega)]; exact g1.2.2.2 k hk
    · rw [e 2 (by omega) (by omega)]; exact g2
    · rw [e 3 (by omega) (by omega)]; exact g3
    · rw [e 4 (by omega) (by omega)]; exact g4
    · rw [e 5 (by omega) (by omega)]; exact g5
    · rw [c1] at ht
      by_cases ct : t = n
      · subst ct
        rw [rs, rv, show 13 + 7 * t = 11 + 7 * t + 2 by omega, rz 2 (by decide) (by decide), show 14 + 7 * t = 11 + 7 * t + 3 by omega, rz 3 (by decide) (by decide)]
        exact ⟨hs, hv, vpd rfl, vpd rfl⟩
      · rw [e _ (by omega) (by omega), e _ (by omega) (by omega), e _ (by omega) (by omega), e _ (by omega) (by omega)]
        exact g6 t (by omega)
    · rw [e 1 (by omega) (by omega)] at hk
      rw [e (67 + 5 * k) (by omega) (by omega), e (68 + 5 * k) (by omega) (by omega), e (69 + 5 * k) (by omega) (by omega), e (70 + 5 * k) (by omega) (by omega), e (71 + 5 * k) (by omega) (by omega), e 5 (by omega) (by omega), e 2 (by omega) (by omega), c1]
      have q := g7 k hk
      exact ⟨q.1, by omega, q.2.2⟩
    · rw [e 1 (by omega) (by omega)] at hk
      rw [e (67 + 5 * j) (by omega) (by omega), e (67 + 5 * k) (by omega) (by omega)]
      exact g8 j k hj hk
