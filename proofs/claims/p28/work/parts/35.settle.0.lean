noncomputable section
/-! the surplus, and a settled book -/
theorem sumI_add (g h : Nat → Int32) : ∀ n, sumI (fun k => g k + h k) n = sumI g n + sumI h n
  | 0 => (Int32.add_zero 0).symm
  | n + 1 => by
    show sumI (fun k => g k + h k) n + (g n + h n) = (sumI g n + g n) + (sumI h n + h n)
    rw [sumI_add g h n, Int32.add_assoc, Int32.add_assoc, ← Int32.add_assoc (sumI h n), Int32.add_comm (sumI h n) (g n), Int32.add_assoc]
theorem sumI_zero {g : Nat → Int32} : ∀ {n : Nat}, (∀ k, k < n → g k = 0) → sumI g n = 0
  | 0, _ => rfl
  | n + 1, e => by
    show sumI g n + g n = 0
    rw [sumI_zero fun k hk => e k (by omega), e n (by omega), Int32.add_zero]
theorem sumI_at (x : Int32) {a : Nat} : ∀ {n : Nat}, a < n → sumI (fun t => if a = t then x else 0) n = x
  | 0, h => absurd h (Nat.not_lt_zero a)
  | n + 1, h => by
    show sumI (fun t => if a = t then x else 0) n + (if a = n then x else 0) = x
    by_cases c : a = n
    · rw [if_pos c, sumI_zero fun k hk => if_neg (by omega), Int32.zero_add]
    · rw [if_neg c, sumI_at x (by omega), Int32.add_zero]
theorem sum_by (T : Nat → Nat) (x : Nat → Int32) {m : Nat} : ∀ {n : Nat}, (∀ k, k < n → T k < m) → sumI (fun t => sumI (fun k => if T k = t then x k else 0) n) m = sumI x n
  | 0, _ => sumI_zero fun k _ => rfl
  | n + 1, h => by
    show sumI (fun t => sumI (fun k => if T k = t then x k else 0) n + (if T n = t then x n else 0)) m = sumI x n + x n
    rw [sumI_add, sum_by T x fun k hk => h k (by omega), sumI_at (x n) (h n (by omega))]
theorem bal (S F : Nat → Nat) (P : Int32) : ∀ {n : Nat}, (∀ k, k < n → S k ≤ 1) → sumI (fun k => if S k = 0 then -(nI (F k) * P) else nI (F k) * P) n = nI (sN (fun k => if S k = 1 then F k else 0) n) * P - nI (sN (fun k => if S k = 0 then F k else 0) n) * P
  | 0, _ => by
    show (0 : Int32) = nI 0 * P - nI 0 * P
    rw [Int32.sub_self]
  | n + 1, h => by
    show sumI (fun k => if S k = 0 then -(nI (F k) * P) else nI (F k) * P) n + (if S n = 0 then -(nI (F n) * P) else nI (F n) * P) = nI (sN (fun k => if S k = 1 then F k else 0) n + if S n = 1 then F n else 0) * P - nI (sN (fun k => if S k = 0 then F k else 0) n + if S n = 0 then F n else 0) * P
    rw [bal S F P fun k hk => h k (by omega)]
    have h2 := h n (by omega)
    generalize sN (fun k => if S k = 1 then F k else 0) n = A
    generalize sN (fun k => if S k = 0 then F k else 0) n = B
    by_cases c : S n = 0
    · rw [if_pos c, if_neg (by omega), if_pos c, Nat.add_zero, ← nI_add, Int32.add_mul]
      generalize nI A * P = x
      generalize nI B * P = y
      generalize nI (F n) * P = z
      rw [Int32.sub_eq_add_neg, Int32.sub_eq_add_neg, Int32.neg_add, Int32.sub_eq_add_neg, Int32.add_assoc]
    · rw [if_neg c, if_pos (by omega), if_neg c, Nat.add_zero, ← nI_add, Int32.add_mul]
      generalize nI A * P = x
      generalize nI B * P = y
      generalize nI (F n) * P = z
      rw [Int32.sub_eq_add_neg, Int32.sub_eq_add_neg, Int32.add_assoc, Int32.add_assoc, Int32.add_comm (-y) z]
/-- what one order's units gain -/
def xG (κ : Mm) (k : Nat) : Int32 := M_fillOf κ (nI k) * (if κ 259 7 = 0 then 0 else M_gainOf κ (nI k))
theorem gains_of {κ : Mm} {N R t : Nat} (g : RNG N R (κ 260)) (ht : t < 2 ^ 31) : M_gainsOf κ (nI t) = sumI (fun k => if nT (κ 260) k = t then xG κ k else 0) (cn (κ 260 1)) := by
  have hc := g.c0
  unfold M_gainsOf
  refine sumI_congr fun k hk => ?_
  obtain ⟨t1, t2⟩ := of_T g hk
  rw [t1]
  by_cases c : nT (κ 260) k = t
  · rw [c, if_pos rfl, if_pos rfl]
    rfl
  · rw [if_neg (fun z => c ((nI_inj (by omega) ht).mp z)), if_neg c]
theorem surplus_of {κ : Mm} {N R : Nat} (g : RNG N R (κ 260)) : M_surplusNow κ = sumI (xG κ) (cn (κ 260 1)) := by
  have hc := g.c0
  unfold M_surplusNow
  rw [← sum_by (nT (κ 260)) (xG κ) (m := cn (κ 260 0)) fun k hk => (of_T g hk).2]
  exact sumI_congr fun t ht => gains_of g (by omega)
theorem mul_gain (F v p : Int32) : F * (v - p) = v * F + -(F * p) := by
  rw [Int32.mul_sub, Int32.mul_comm v F, Int32.sub_eq_add_neg]
theorem mul_gain2 (F v p : Int32) : F * (p - v) = -(v * F) + F * p := by
  rw [Int32.mul_sub, Int32.mul_comm v F, Int32.sub_eq_add_neg, Int32.add_comm]
theorem surplus_at {μ ν : Mm} {a N R Lb Ls : Nat} {qb qs : Nat → Nat} (h : REL μ a (ν 260)) (g : RNG N R (ν 260)) (hb : QI (cn (ν 260 1)) (nS (ν 260)) (nW (ν 260)) 0 qb Lb) (hs : QI (cn (ν 260 1)) (nS (ν 260)) (nW (ν 260)) 1 qs Ls) (hf : ∀ k, k < cn (ν 260 1) → μ 83 k = nI (fN (ν 260) (VN (ν 260)) k)) : C_sumSurplus μ a = M_surplusNow (M_finds ν) := by
  have hc := g.c0
  have e := M_finds_260 ν
  have g' : RNG N R (M_finds ν 260) := by rw [e]; exact g
  obtain ⟨v1, v2, v3⟩ := VN_at g g.2.2.1
  obtain ⟨f7, f4, f5, f6, fo⟩ := finds_at g
  rw [surplus_of g', e]
  unfold C_sumSurplus
  rw [rd_n1 h]
  have hw : ∀ k, k < cn (ν 260 1) → C_worth μ a k = nI (nV (ν 260) k) * nI (fN (ν 260) (VN (ν 260)) k) := fun k hk => by
    unfold C_worth
    rw [rd_vl h g hk, (of_V g hk).1, R_get_nI (by omega) (by decide), hf k hk]
  have hcl : sumI (fun k => if R_get μ (a + 16 + 5) 20 (nI k) = 0 then C_worth μ a k else -C_worth μ a k) (cn (ν 260 1)) = sumI (fun k => if nS (ν 260) k = 0 then nI (nV (ν 260) k) * nI (fN (ν 260) (VN (ν 260)) k) else -(nI (nV (ν 260) k) * nI (fN (ν 260) (VN (ν 260)) k))) (cn (ν 260 1)) := sumI_congr fun k hk => by
    obtain ⟨s1, s2⟩ := of_S g hk
    rw [rd_sd h g hk, s1, hw k hk]
    by_cases c : nS (ν 260) k = 0
    · rw [c, if_pos (show nI 0 = (0 : Int32) from rfl), if_pos rfl]
    · rw [if_neg (nI_n0 c (by omega)), if_neg c]
  refine Eq.trans hcl ?_
  by_cases c0 : VN (ν 260) = 0
  · rw [sumI_zero fun k hk => ?_, sumI_zero fun k hk => ?_]
    · unfold xG
      rw [f7, c0, if_pos (show nI 0 = (0 : Int32) from rfl), Int32.mul_zero]
    · unfold fN
      rw [c0, Nat.zero_sub, Nat.zero_min, show nI 0 = (0 : Int32) from rfl, Int32.mul_zero, Int32.neg_zero]
      split <;> rfl
  · obtain ⟨p, q1, q2, q3, q4, q5⟩ := v3 (by omega)
    have hx : sumI (xG (M_finds ν)) (cn (ν 260 1)) = sumI (fun k => (if nS (ν 260) k = 0 then nI (nV (ν 260) k) * nI (fN (ν 260) (VN (ν 260)) k) else -(nI (nV (ν 260) k) * nI (fN (ν 260) (VN (ν 260)) k))) + (if nS (ν 260) k = 0 then -(nI (fN (ν 260) (VN (ν 260)) k) * nI p) else nI (fN (ν 260) (VN (ν 260)) k) * nI p)) (cn (ν 260 1)) := sumI_congr fun k hk => by
      obtain ⟨s1, s2⟩ := of_S (ν := M_finds ν) g' (k := k) (by rw [e]; exact hk)
      obtain ⟨w1, -⟩ := of_V (ν := M_finds ν) g' (k := k) (by rw [e]; exact hk)
      rw [e] at s1 s2 w1
      unfold xG M_gainOf
      rw [fill_at g hk, f7, if_neg (nI_n0 c0 (by omega)), s1, w1, f6, q3]
      by_cases c : nS (ν 260) k = 0
      · rw [c, if_pos (show nI 0 = (0 : Int32) from rfl), if_pos rfl, if_pos rfl, mul_gain]
      · rw [if_neg (nI_n0 c (by omega)), if_neg c, if_neg c, mul_gain2]
    rw [hx, sumI_add, bal (nS (ν 260)) (fN (ν 260) (VN (ν 260))) (nI p) fun k hk => (of_S g hk).2]
    rw [fN_tot g hb (Nat.le_trans q4 (dD_tot g p)), fN_tot g hs (Nat.le_trans q5 (dY_tot g p)), Int32.sub_self, Int32.add_zero]
/-- a settled book on both sides -/
theorem settle_at {μ ν : Mm} {a N R : Nat} (h : REL μ a (ν 260)) (g : RNG N R (ν 260)) (ha : a + 40 ≤ 81) :
    (∀ p, p < 81 ∨ 91 < p → C_settle μ a p = μ p) ∧ C_settle μ a 81 0 = M_finds ν 259 4 ∧ C_settle μ a 81 1 = M_finds ν 259 5 ∧ C_settle μ a 81 2 = M_finds ν 259 6 ∧ C_settle μ a 81 3 = M_finds ν 259 7 ∧ C_settle μ a 81 4 = M_surplusNow (M_finds ν) ∧
    (∀ k, k < cn (ν 260 1) → C_settle μ a 83 k = nI (fN (ν 260) (VN (ν 260)) k)) ∧
    ∃ Lb Ls qb qs, QI (cn (ν 260 1)) (nS (ν 260)) (nW (ν 260)) 0 qb Lb ∧ QI (cn (ν 260 1)) (nS (ν 260)) (nW (ν 260)) 1 qs Ls ∧ C_settle μ a 81 8 = nI Lb ∧ C_settle μ a 81 9 = nI Ls ∧ (∀ i, i < Lb → C_settle μ a 85 i = nI (qb i)) ∧ ∀ i, i < Ls → C_settle μ a 87 i = nI (qs i) := by
  have hc := g.c0
  obtain ⟨v1, v2, v3⟩ := VN_at g g.2.2.1
  obtain ⟨f7, f4, f5, f6, fo⟩ := finds_at g
  obtain ⟨s1, hs1⟩ : ∃ s, s = C_queueUp μ 84 20 (a + 16) (nI 0) := ⟨_, rfl⟩
  obtain ⟨μ1, h1⟩ : ∃ m, m = up2 s1.1 81 8 s1.2 := ⟨_, rfl⟩
  obtain ⟨s2, hs2⟩ : ∃ s, s = C_queueUp μ1 86 20 (a + 16) (nI 1) := ⟨_, rfl⟩
  obtain ⟨μ2, h2⟩ : ∃ m, m = up2 s2.1 81 9 s2.2 := ⟨_, rfl⟩
  obtain ⟨μ3, h3⟩ : ∃ m, m = C_findRange μ2 (a + 16) := ⟨_, rfl⟩
  obtain ⟨μ4, h4⟩ : ∃ m, m = up2 μ3 81 2 (C_priceWith μ3 (μ3 a 3)) := ⟨_, rfl⟩
  obtain ⟨μ5, h5⟩ : ∃ m, m = C_take μ4 84 20 (μ4 81 8) (a + 16) := ⟨_, rfl⟩
  obtain ⟨μ6, h6⟩ : ∃ m, m = C_take μ5 86 20 (μ5 81 9) (a + 16) := ⟨_, rfl⟩
  have hfin : C_settle μ a = up2 μ6 81 4 (C_sumSurplus μ6 a) := by
    rw [C_settle_eq, h6, h5, h4, h3, h2, hs2, h1, hs1]
    rfl
  obtain ⟨Lb, qb, b1, b2, b3, b4⟩ := queue_at (q := 84) (sd := 0) h g (by omega) (by omega)
  rw [← hs1] at b2 b3 b4
  have n1 : ∀ p, p ≠ 81 → p ≠ 85 → μ1 p = μ p := fun p p1 p2 => by rw [h1, up2_k _ _ p1, b4 p p2]
  have m18 : μ1 81 8 = nI Lb := by rw [h1, up2_y ⟨rfl, rfl⟩, b2]
  have m185 : ∀ i, i < Lb → μ1 85 i = nI (qb i) := fun i hi => by rw [h1, up2_k _ _ (by decide)]; exact b3 i hi
  have r1 : REL μ1 a (ν 260) := h.of fun p p1 p2 => n1 p (by omega) (by omega)
  obtain ⟨Ls, qs, c1, c2, c3, c4⟩ := queue_at (q := 86) (sd := 1) r1 g (by omega) (by omega)
  rw [← hs2] at c2 c3 c4
  have n2 : ∀ p, p ≠ 81 → p ≠ 85 → p ≠ 87 → μ2 p = μ p := fun p p1 p2 p3 => by rw [h2, up2_k _ _ p1, c4 p p3, n1 p p1 p2]
  have m28 : μ2 81 8 = nI Lb := by rw [h2, up2_n (by decide), c4 81 (by decide), m18]
  have m29 : μ2 81 9 = nI Ls := by rw [h2, up2_y ⟨rfl, rfl⟩, c2]
  have m285 : ∀ i, i < Lb → μ2 85 i = nI (qb i) := fun i hi => by rw [h2, up2_k _ _ (by decide), c4 85 (by decide)]; exact m185 i hi
  have m287 : ∀ i, i < Ls → μ2 87 i = nI (qs i) := fun i hi => by rw [h2, up2_k _ _ (by decide)]; exact c3 i hi
  have r2 : REL μ2 a (ν 260) := h.of fun p p1 p2 => n2 p (by omega) (by omega) (by omega)
  obtain ⟨d1, d2, d3, -, -, d6, d7, -⟩ := range_at r2 g ha 120 (Nat.le_refl _)
  have e3 : μ3 = (C_rangeS μ2 (a + 16) 120).1 := by rw [h3, C_findRange, NN_eq]
  rw [← e3] at d1 d2 d3 d6 d7
  have n3 : ∀ p, p < 81 ∨ 91 < p → μ3 p = μ p := fun p p1 => by rw [d7 p (by omega) (by omega) (by omega), n2 p (by omega) (by omega) (by omega)]
  have e43 : μ3 a 3 = ν 260 3 := by rw [n3 a (by omega)]; exact h.1.2.2.2.1
  have e4 : C_priceWith μ3 (μ3 a 3) = prI (gsR (ν 260) 120) (ν 260 3) := by
    unfold C_priceWith prI
    rw [d1, d2, d3, e43]
  have n4 : ∀ p, p < 81 ∨ 91 < p → μ4 p = μ p := fun p p1 => by rw [h4, up2_k _ _ (by omega), n3 p p1]
  have m4 : ∀ i, i ≠ 2 → μ4 81 i = μ3 81 i := fun i hi => by rw [h4, up2_n (fun z => hi z.2)]
  have k4 : ∀ p, p ≠ 81 → μ4 p = μ3 p := fun p hp => by rw [h4, up2_k _ _ hp]
  have r4 : REL μ4 a (ν 260) := h.of fun p p1 p2 => n4 p (by omega)
  have m48 : μ4 81 8 = nI Lb := by rw [m4 8 (by decide), d6 8 (by decide) (by decide) (by decide), m28]
  have m49 : μ4 81 9 = nI Ls := by rw [m4 9 (by decide), d6 9 (by decide) (by decide) (by decide), m29]
  have m43 : μ4 81 3 = nI (VN (ν 260)) := by rw [m4 3 (by decide), d1, v2]
  have m485 : ∀ i, i < Lb → μ4 85 i = nI (qb i) := fun i hi => by rw [k4 85 (by decide), d7 85 (by decide) (by decide) (by decide)]; exact m285 i hi
  have m487 : ∀ i, i < Ls → μ4 87 i = nI (qs i) := fun i hi => by rw [k4 87 (by decide), d7 87 (by decide) (by decide) (by decide)]; exact m287 i hi
  have hLb := b1.len
  have hLs := c1.len
  obtain ⟨-, t2, -, t4⟩ := take_at (q := 84) r4 g ha v1 (by decide) b1 m485 Lb (Nat.le_refl _)
  have e5 : μ5 = (itr (K_step 84 20 (a + 16)) (μ4, nI (VN (ν 260))) Lb).1 := by rw [h5, C_take, m48, m43, cn_nI (by omega)]
  rw [← e5] at t2 t4
  have r5 : REL μ5 a (ν 260) := h.of fun p p1 p2 => by rw [t4 p (by omega), n4 p (by omega)]
  have m53 : μ5 81 3 = nI (VN (ν 260)) := by rw [t4 81 (by decide), m43]
  have m587 : ∀ i, i < Ls → μ5 87 i = nI (qs i) := fun i hi => by rw [t4 87 (by decide)]; exact m487 i hi
  obtain ⟨-, w2, w3, w4⟩ := take_at (q := 86) r5 g ha v1 (by decide) c1 m587 Ls (Nat.le_refl _)
  have e6 : μ6 = (itr (K_step 86 20 (a + 16)) (μ5, nI (VN (ν 260))) Ls).1 := by rw [h6, C_take, t4 81 (by decide), m49, ← t4 81 (by decide), m53, cn_nI (by omega)]
  rw [← e6] at w2 w3 w4
  have n6 : ∀ p, p < 81 ∨ 91 < p → μ6 p = μ p := fun p p1 => by rw [w4 p (by omega), t4 p (by omega), n4 p p1]
  have k6 : ∀ p, p ≠ 83 → μ6 p = μ4 p := fun p hp => by rw [w4 p hp, t4 p hp]
  have r6 : REL μ6 a (ν 260) := h.of fun p p1 p2 => n6 p (by omega)
  have fk : ∀ k, k < cn (ν 260 1) → μ6 83 k = nI (fN (ν 260) (VN (ν 260)) k) := fun k hk => by
    have sk := (of_S g hk).2
    by_cases c : nS (ν 260) k = 1
    · obtain ⟨i, hi, ei⟩ := c1.2.2 k hk c
      rw [← ei]
      exact w2 i hi
    · obtain ⟨i, hi, ei⟩ := b1.2.2 k hk (by omega)
      rw [w3 k fun i' hi' z => c (z ▸ (c1.1 i' hi').2), ← ei]
      exact t2 i hi
  have o4 : ∀ p, p ≠ 81 → C_settle μ a p = μ6 p := fun p hp => by rw [hfin, up2_k _ _ hp]
  have u4 : ∀ i, i ≠ 4 → C_settle μ a 81 i = μ4 81 i := fun i hi => by rw [hfin, up2_n (fun z => hi z.2), k6 81 (by decide)]
  refine ⟨fun p hp => ?_, ?_, ?_, ?_, ?_, ?_, fun k hk => ?_, Lb, Ls, qb, qs, b1, c1, ?_, ?_, fun i hi => ?_, fun i hi => ?_⟩
  · rw [o4 p (by omega), n6 p hp]
  · rw [u4 0 (by decide), m4 0 (by decide), d2, f4]
  · rw [u4 1 (by decide), m4 1 (by decide), d3, f5]
  · rw [u4 2 (by decide), h4, up2_y ⟨rfl, rfl⟩, e4, f6]
  · rw [u4 3 (by decide), m43, f7]
  · rw [hfin, up2_y ⟨rfl, rfl⟩]
    exact surplus_at r6 g b1 c1 fk
  · rw [o4 83 (by decide)]; exact fk k hk
  · rw [u4 8 (by decide), m48]
  · rw [u4 9 (by decide), m49]
  · rw [o4 85 (by decide), k6 85 (by decide)]; exact m485 i hi
  · rw [o4 87 (by decide), k6 87 (by decide)]; exact m487 i hi
end
