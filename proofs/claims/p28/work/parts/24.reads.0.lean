noncomputable section
/-! reads: the class's at a, the reference's of its row -/
theorem R_get_nI {μ : Mm} {k n j : Nat} (hj : j < n) (hn : n ≤ 1000) : R_get μ k n (nI j) = μ (k + 1) j := by
  unfold R_get rg
  rw [if_neg (nI_pos (by omega)), if_neg (nI_ge hj (by omega)), cn_nI (by omega)]
theorem R_put_nI {μ : Mm} {k n j : Nat} {v : Int32} (hj : j < n) (hn : n ≤ 1000) : R_put μ k n (nI j) v = up2 μ (k + 1) j v := by
  unfold R_put
  rw [if_neg (nI_pos (by omega)), if_neg (nI_ge hj (by omega)), cn_nI (by omega)]
theorem R_add_nI {μ : Mm} {k n j : Nat} {v : Int32} (hj : j < n) (hn : n ≤ 1000) : R_add μ k n (nI j) v = up2 μ (k + 1) j (μ (k + 1) j + v) := by
  unfold R_add
  rw [if_neg (nI_pos (by omega)), if_neg (nI_ge hj (by omega)), cn_nI (by omega)]
theorem M_t_nI {ν : Mm} {t w : Nat} (ht : t < 8) (hw : w < 7) : M_t ν (nI t) (nI w) = ν 260 (11 + 7 * t + w) := by
  unfold M_t
  rw [idxT, cn_nI (by omega)]
theorem M_o_nI {ν : Mm} {k w : Nat} (hk : k < 20) (hw : w < 5) : M_o ν (nI k) (nI w) = ν 260 (67 + 5 * k + w) := by
  unfold M_o
  rw [idxO, cn_nI (by omega)]
theorem sumI_congr {g h : Nat → Int32} {n : Nat} (e : ∀ k, k < n → g k = h k) : sumI g n = sumI h n := by
  induction n with
  | zero => rfl
  | succ n ih => simp only [sumI]; rw [ih (fun k hk => e k (by omega)), e n (by omega)]
theorem fst_congr {p q : Nat → Bool} {n : Nat} (e : ∀ k, k < n → p k = q k) : fst p n = fst q n := by
  induction n with
  | zero => rfl
  | succ n ih => simp only [fst]; rw [ih (fun k hk => e k (by omega)), e n (by omega)]
theorem fstI_congr {p q : Nat → Bool} {n : Nat} (e : ∀ k, k < n → p k = q k) : fstI p n = fstI q n := by
  unfold fstI
  rw [fst_congr e]
theorem vp_of2 {x : Int32} {n : Nat} (h : vp_in x n) (hn : n < 2 ^ 31) : x = nI (cn x) ∧ cn x < n := by
  obtain ⟨j, hj, rfl⟩ := vp_nI h hn
  rw [cn_nI (by omega)]
  exact ⟨rfl, hj⟩
theorem nI_inj {a b : Nat} (ha : a < 2 ^ 31) (hb : b < 2 ^ 31) : nI a = nI b ↔ a = b := ⟨fun e => by have := congrArg cn e; rwa [cn_nI ha, cn_nI hb] at this, fun e => by rw [e]⟩
theorem nI_lt_iff {a b : Nat} (ha : a < 2 ^ 31) (hb : b < 2 ^ 31) : nI a < nI b ↔ a < b := ⟨fun h => nI_lt_of hb ha h, fun h => nI_lt h hb⟩
theorem nI_le_iff {a b : Nat} (ha : a < 2 ^ 31) (hb : b < 2 ^ 31) : nI a ≤ nI b ↔ a ≤ b := ⟨fun h => Nat.le_of_not_lt fun c => (Int32.not_lt.mpr h) (nI_lt c ha), fun h => nI_le h hb⟩
/-- a difference's sign -/
theorem sub_pos {a b : Nat} (ha : a < 2 ^ 30) (hb : b < 2 ^ 30) : (nI a - nI b).toInt = (a : Int) - (b : Int) := by
  rw [Int32.toInt_sub, nI_toInt (by omega), nI_toInt (by omega)]
  exact Int.bmod_eq_of_le (by omega) (by omega)
theorem sub_lt0 {a b : Nat} (ha : a < 2 ^ 30) (hb : b < 2 ^ 30) : nI a - nI b < 0 ↔ a < b := by
  rw [Int32.lt_iff_toInt_lt, sub_pos ha hb]
  show (a : Int) - b < 0 ↔ a < b
  omega
theorem sub_gt0 {a b : Nat} (ha : a < 2 ^ 30) (hb : b < 2 ^ 30) : 0 < nI a - nI b ↔ b < a := by
  rw [Int32.lt_iff_toInt_lt, sub_pos ha hb]
  show (0 : Int) < (a : Int) - b ↔ b < a
  omega
theorem sub_eq0 {a b : Nat} (ha : a < 2 ^ 30) (hb : b < 2 ^ 30) : nI a - nI b = 0 ↔ a = b := by
  rw [← Int32.toInt_inj, sub_pos ha hb]
  show (a : Int) - b = 0 ↔ a = b
  omega
/-- trader j's number w -/
theorem rd_t {μ ν : Mm} {a N R : Nat} (h : REL μ a (ν 260)) (g : RNG N R (ν 260)) {j w : Nat} (hj : j < cn (ν 260 0)) (hw : w < 7) : R_get μ (a + 1 + 1 + 2 * w) 8 (nI j) = M_t ν (nI j) (nI w) := by
  have := g.c0
  rw [R_get_nI (by omega) (by decide), M_t_nI (by omega) hw, show a + 1 + 1 + 2 * w + 1 = a + 3 + 2 * w by omega]
  exact h.2.1 j hj w hw
theorem rd_num {μ ν : Mm} {a N R : Nat} (h : REL μ a (ν 260)) (g : RNG N R (ν 260)) {k : Nat} (hk : k < cn (ν 260 1)) : R_get μ (a + 16 + 1) 20 (nI k) = M_o ν (nI k) 0 := by
  have := g.c0
  rw [R_get_nI (by omega) (by decide), show (0 : Int32) = nI 0 from rfl, M_o_nI (by omega) (by decide)]
  exact (h.2.2.1 k hk).1
theorem rd_who {μ ν : Mm} {a N R : Nat} (h : REL μ a (ν 260)) (g : RNG N R (ν 260)) {k : Nat} (hk : k < cn (ν 260 1)) : R_get μ (a + 16 + 3) 20 (nI k) = M_o ν (nI k) 1 := by
  have := g.c0
  rw [R_get_nI (by omega) (by decide), show (1 : Int32) = nI 1 from rfl, M_o_nI (by omega) (by decide), show 67 + 5 * k + 1 = 68 + 5 * k by omega]
  exact (h.2.2.1 k hk).2.1
theorem rd_pr {μ ν : Mm} {a N R : Nat} (h : REL μ a (ν 260)) (g : RNG N R (ν 260)) {k : Nat} (hk : k < cn (ν 260 1)) : R_get μ (a + 16 + 7) 20 (nI k) = M_o ν (nI k) 2 := by
  have := g.c0
  rw [R_get_nI (by omega) (by decide), show (2 : Int32) = nI 2 from rfl, M_o_nI (by omega) (by decide), show 67 + 5 * k + 2 = 69 + 5 * k by omega]
  exact (h.2.2.1 k hk).2.2.1
theorem rd_un {μ ν : Mm} {a N R : Nat} (h : REL μ a (ν 260)) (g : RNG N R (ν 260)) {k : Nat} (hk : k < cn (ν 260 1)) : R_get μ (a + 16 + 9) 20 (nI k) = M_o ν (nI k) 3 := by
  have := g.c0
  rw [R_get_nI (by omega) (by decide), show (3 : Int32) = nI 3 from rfl, M_o_nI (by omega) (by decide), show 67 + 5 * k + 3 = 70 + 5 * k by omega]
  exact (h.2.2.1 k hk).2.2.2.1
theorem rd_si {μ ν : Mm} {a N R : Nat} (h : REL μ a (ν 260)) (g : RNG N R (ν 260)) {k : Nat} (hk : k < cn (ν 260 1)) : R_get μ (a + 16 + 11) 20 (nI k) = M_o ν (nI k) 4 := by
  have := g.c0
  rw [R_get_nI (by omega) (by decide), show (4 : Int32) = nI 4 from rfl, M_o_nI (by omega) (by decide), show 67 + 5 * k + 4 = 71 + 5 * k by omega]
  exact (h.2.2.1 k hk).2.2.2.2.1
/-- whose order it is -/
theorem rd_w {ν : Mm} {N R : Nat} (g : RNG N R (ν 260)) {k : Nat} (hk : k < cn (ν 260 1)) : ∃ t, t < cn (ν 260 0) ∧ M_o ν (nI k) 1 = nI t ∧ cn (ν 260 (68 + 5 * k)) = t := by
  have h20 := g.c0
  have hw := (g.2.2.2.2.2.2.1 k hk).2.1
  have h8 := g.1.2.2.2 k (by omega)
  refine ⟨cn (ν 260 (68 + 5 * k)), hw, ?_, rfl⟩
  rw [show (1 : Int32) = nI 1 from rfl, M_o_nI (by omega) (by decide), show 67 + 5 * k + 1 = 68 + 5 * k by omega]
  exact (vp_of2 h8 (by decide)).1
theorem rd_sd {μ ν : Mm} {a N R : Nat} (h : REL μ a (ν 260)) (g : RNG N R (ν 260)) {k : Nat} (hk : k < cn (ν 260 1)) : R_get μ (a + 16 + 5) 20 (nI k) = M_side ν (nI k) := by
  have h20 := g.c0
  obtain ⟨t, ht, e, e2⟩ := rd_w g hk
  rw [R_get_nI (by omega) (by decide)]
  unfold M_side
  rw [e, show (0 : Int32) = nI 0 from rfl, M_t_nI (by omega) (by decide)]
  have := (h.2.2.1 k hk).2.2.2.2.2
  rw [e2] at this
  exact this
theorem rd_vl {μ ν : Mm} {a N R : Nat} (h : REL μ a (ν 260)) (g : RNG N R (ν 260)) {k : Nat} (hk : k < cn (ν 260 1)) : R_get μ (a + 1 + 3) 8 (R_get μ (a + 16 + 3) 20 (nI k)) = M_val ν (nI k) := by
  obtain ⟨t, ht, e, e2⟩ := rd_w g hk
  rw [rd_who h g hk]
  unfold M_val
  rw [e]
  exact rd_t h g ht (w := 1) (by decide)
theorem rd_n0 {μ ν : Mm} {a : Nat} (h : REL μ a (ν 260)) : μ (a + 1) 0 = ν 260 0 := h.1.1
theorem rd_n1 {μ ν : Mm} {a : Nat} (h : REL μ a (ν 260)) : μ (a + 16) 0 = ν 260 1 := h.1.2.1
theorem rd_find {μ ν : Mm} {a N R : Nat} (h : REL μ a (ν 260)) (g : RNG N R (ν 260)) (x : Int32) : O_indexOf μ (a + 16) x = M_find ν x := by
  unfold O_indexOf M_find
  rw [rd_n1 h]
  exact fstI_congr fun k hk => by rw [rd_num h g hk]
theorem rd_has {μ ν : Mm} {a N R : Nat} (h : REL μ a (ν 260)) (g : RNG N R (ν 260)) (t : Int32) : T_has μ (a + 1) t = M_isTrader ν t := by
  unfold T_has M_isTrader wI
  rw [rd_n0 h]
  by_cases c : t < 0
  · rw [if_pos c, if_pos c]
  · rw [if_neg c, if_neg c]
    obtain ⟨j, hj, rfl⟩ := nI_of c
    obtain ⟨n, hn, e⟩ := vp_nI g.1.1 (by decide)
    rw [e]
    match n, hn with
    | 0, _ => rw [if_pos (nI_le (Nat.zero_le _) hj), if_pos (Int32.lt_of_lt_of_le (by decide : (nI 0 - 1 : Int32) < 0) (Int32.not_lt.mp (nI_pos hj)))]
    | n + 1, hn =>
      rw [nI_pred]
      by_cases c2 : n + 1 ≤ j
      · rw [if_pos (nI_le c2 hj), if_pos (nI_lt (by omega) hj)]
      · rw [if_neg (fun q => c2 ((nI_le_iff (by omega) hj).mp q)), if_neg (fun q => c2 ((nI_lt_iff (by omega) hj).mp q))]
theorem rd_tr {ν : Mm} {N R : Nat} (g : RNG N R (ν 260)) {t : Int32} (ht : ¬ M_isTrader ν t = 0) : ∃ j, j < cn (ν 260 0) ∧ t = nI j := by
  unfold M_isTrader wI at ht
  have h1 : ¬ t < 0 := fun e => ht (if_pos e)
  rw [if_neg h1] at ht
  have h2 : ¬ ν 260 0 - 1 < t := fun e => ht (if_pos e)
  obtain ⟨n, hn, e⟩ := vp_nI g.1.1 (by decide)
  obtain ⟨j, hj, rfl⟩ := nI_of h1
  rw [e] at h2 ⊢
  rw [cn_nI (by omega)]
  match n, hn with
  | 0, _ => exact absurd (Int32.lt_of_lt_of_le (by decide : (nI 0 - 1 : Int32) < 0) (Int32.not_lt.mp h1)) h2
  | n + 1, hn =>
    rw [nI_pred] at h2
    exact ⟨j, Nat.lt_succ_of_le (Nat.le_of_not_lt (fun hlt => h2 (nI_lt hlt hj))), rfl⟩
theorem rd_good {μ ν : Mm} {a N R : Nat} (h : REL μ a (ν 260)) (g : RNG N R (ν 260)) {k : Nat} (hk : k < cn (ν 260 1)) (p : Int32) : O_accepts μ (a + 16) (nI k) p = M_isGood ν (nI k) p := by
  unfold O_accepts M_isGood
  rw [rd_sd h g hk, rd_pr h g hk]
  by_cases c : M_side ν (nI k) = 0
  · rw [if_pos c, if_pos c]
    by_cases c2 : M_o ν (nI k) 2 < p
    · rw [if_pos c2, if_neg (Int32.not_le.mpr c2)]
    · rw [if_neg c2, if_pos (Int32.not_lt.mp c2)]
  · rw [if_neg c, if_neg c]
    by_cases c2 : p < M_o ν (nI k) 2
    · rw [if_pos c2, if_neg (Int32.not_le.mpr c2)]
    · rw [if_neg c2, if_pos (Int32.not_lt.mp c2)]
theorem rd_unitsAt {μ ν : Mm} {a N R : Nat} (h : REL μ a (ν 260)) (g : RNG N R (ν 260)) (sd p : Int32) : O_unitsAt μ (a + 16) sd p = M_unitsAt ν sd p := by
  unfold O_unitsAt M_unitsAt
  rw [rd_n1 h]
  exact sumI_congr fun k hk => by rw [rd_sd h g hk, rd_good h g hk, rd_un h g hk]
theorem mn_ls (x y : Int32) : mnI x y = lsI x y := by
  unfold mnI lsI
  by_cases c : x < y
  · rw [if_pos c, if_neg (Int32.not_lt.mpr (Int32.le_of_lt c))]
  · rw [if_neg c]
    by_cases c2 : y < x
    · rw [if_pos c2]
    · rw [if_neg c2]
      exact Int32.le_antisymm (Int32.not_lt.mp c2) (Int32.not_lt.mp c)
theorem rd_bookValue {μ ν : Mm} {a N R : Nat} (h : REL μ a (ν 260)) (g : RNG N R (ν 260)) {p w : Int32} (hw : vp_in w 3) : O_bookValue μ (a + 16) p w = M_tellsAt ν p w := by
  unfold O_bookValue M_tellsAt M_volumeAt
  obtain ⟨j, hj, rfl⟩ := vp_nI hw (by decide)
  rw [rd_unitsAt h g, rd_unitsAt h g, mn_ls]
  rcases (show j = 0 ∨ j = 1 ∨ j = 2 by omega) with rfl | rfl | rfl
  · rw [if_pos (by decide), if_neg (by decide)]; rfl
  · rw [if_neg (by decide), if_pos (by decide), if_neg (by decide)]; rfl
  · rw [if_neg (by decide), if_neg (by decide), if_pos (by decide)]
/-! prices and numbers as natural numbers -/
theorem rd_P {ν : Mm} {N R : Nat} (g : RNG N R (ν 260)) {k : Nat} (hk : k < cn (ν 260 1)) : ∃ p, 0 < p ∧ p < 121 ∧ M_o ν (nI k) 2 = nI p ∧ ν 260 (69 + 5 * k) = nI p := by
  have h20 := g.c0
  obtain ⟨q1, q2⟩ := (g.2.2.2.2.2.2.1 k hk).2.2.1
  obtain ⟨e1, e2⟩ := vp_of2 q1 (by decide)
  refine ⟨cn (ν 260 (69 + 5 * k)), Nat.pos_of_ne_zero fun e => q2 (by rw [e1, e]; rfl), e2, ?_, e1⟩
  rw [show (2 : Int32) = nI 2 from rfl, M_o_nI (by omega) (by decide), show 67 + 5 * k + 2 = 69 + 5 * k by omega]
  exact e1
theorem rd_U {ν : Mm} {N R : Nat} (g : RNG N R (ν 260)) {k : Nat} (hk : k < cn (ν 260 1)) : ∃ u, 0 < u ∧ u < 10 ∧ M_o ν (nI k) 3 = nI u := by
  have h20 := g.c0
  obtain ⟨q1, q2⟩ := (g.2.2.2.2.2.2.1 k hk).2.2.2.1
  obtain ⟨e1, e2⟩ := vp_of2 q1 (by decide)
  refine ⟨cn (ν 260 (70 + 5 * k)), Nat.pos_of_ne_zero fun e => q2 (by rw [e1, e]; rfl), e2, ?_⟩
  rw [show (3 : Int32) = nI 3 from rfl, M_o_nI (by omega) (by decide), show 67 + 5 * k + 3 = 70 + 5 * k by omega]
  exact e1
theorem rd_numlt {ν : Mm} {N R : Nat} (g : RNG N R (ν 260)) {j k : Nat} (hj : j < cn (ν 260 1)) (hk : k < cn (ν 260 1)) : M_o ν (nI j) 0 < M_o ν (nI k) 0 ↔ j < k := by
  have h20 := g.c0
  have key : ∀ j, j < cn (ν 260 1) → ∃ m, m < 2 ^ 31 ∧ M_o ν (nI j) 0 = nI m ∧ cn (ν 260 (67 + 5 * j)) = m := by
    intro j hj
    obtain ⟨m, h1, h2⟩ := (g.2.2.2.2.2.2.1 j hj).1
    refine ⟨m, Nat.lt_trans h1 (cn_lt _), ?_, by rw [h2, cn_nI (Nat.lt_trans h1 (cn_lt _))]⟩
    rw [show (0 : Int32) = nI 0 from rfl, M_o_nI (by omega) (by decide)]
    exact h2
  obtain ⟨m1, b1, e1, f1⟩ := key j hj
  obtain ⟨m2, b2, e2, f2⟩ := key k hk
  rw [e1, e2, nI_lt_iff b1 b2, ← f1, ← f2]
  constructor
  · intro hlt
    rcases Nat.lt_trichotomy j k with q | q | q
    · exact q
    · subst q; omega
    · have := g.2.2.2.2.2.2.2 k j q hj; omega
  · intro hlt
    exact g.2.2.2.2.2.2.2 j k hlt hk
/-- ahead of another: the side the same, the price better, or the same and placed before -/
def AH (ν : Mm) (j k : Nat) : Prop := M_side ν (nI j) = M_side ν (nI k) ∧ j ≠ k ∧ ((M_side ν (nI j) = 0 ∧ M_o ν (nI k) 2 < M_o ν (nI j) 2) ∨ (¬ M_side ν (nI j) = 0 ∧ M_o ν (nI j) 2 < M_o ν (nI k) 2) ∨ (M_o ν (nI j) 2 = M_o ν (nI k) 2 ∧ j < k))
theorem ah_M {ν : Mm} {N R : Nat} (g : RNG N R (ν 260)) {j k : Nat} (hj : j < cn (ν 260 1)) (hk : k < cn (ν 260 1)) : (¬ M_isAhead ν (nI j) (nI k) = 0) ↔ AH ν j k := by
  have h20 := g.c0
  unfold M_isAhead AH
  by_cases c1 : M_side ν (nI j) = M_side ν (nI k)
  · rw [if_pos c1]
    by_cases c2 : j = k
    · subst c2
      rw [if_pos rfl]
      exact ⟨fun q => absurd rfl q, fun q => absurd rfl q.2.1⟩
    · rw [if_neg (fun e => c2 ((nI_inj (by omega) (by omega)).mp e))]
      have hn := rd_numlt g hj hk
      by_cases c3 : M_side ν (nI j) = 0
      · rw [if_pos c3]
        by_cases c4 : M_o ν (nI k) 2 < M_o ν (nI j) 2
        · rw [if_pos c4, if_neg (by decide)]
          exact ⟨fun _ => ⟨c1, c2, Or.inl ⟨c3, c4⟩⟩, fun _ => by decide⟩
        · rw [if_neg c4, if_pos rfl]
          by_cases c5 : M_o ν (nI j) 2 = M_o ν (nI k) 2
          · rw [if_pos c5]
            by_cases c6 : M_o ν (nI j) 0 < M_o ν (nI k) 0
            · rw [if_pos c6]
              exact ⟨fun _ => ⟨c1, c2, Or.inr (Or.inr ⟨c5, hn.mp c6⟩)⟩, fun _ => by decide⟩
            · rw [if_neg c6]
              exact ⟨fun q => absurd rfl q, fun q => by
                rcases q.2.2 with q | q | q
                · exact absurd q.2 c4
                · exact absurd c3 q.1
                · exact absurd (hn.mpr q.2) c6⟩
          · rw [if_neg c5]
            exact ⟨fun q => absurd rfl q, fun q => by
              rcases q.2.2 with q | q | q
              · exact absurd q.2 c4
              · exact absurd c3 q.1
              · exact absurd q.1 c5⟩
      · rw [if_neg c3]
        by_cases c4 : M_o ν (nI j) 2 < M_o ν (nI k) 2
        · rw [if_pos c4, if_neg (by decide)]
          exact ⟨fun _ => ⟨c1, c2, Or.inr (Or.inl ⟨c3, c4⟩)⟩, fun _ => by decide⟩
        · rw [if_neg c4, if_pos rfl]
          by_cases c5 : M_o ν (nI j) 2 = M_o ν (nI k) 2
          · rw [if_pos c5]
            by_cases c6 : M_o ν (nI j) 0 < M_o ν (nI k) 0
            · rw [if_pos c6]
              exact ⟨fun _ => ⟨c1, c2, Or.inr (Or.inr ⟨c5, hn.mp c6⟩)⟩, fun _ => by decide⟩
            · rw [if_neg c6]
              exact ⟨fun q => absurd rfl q, fun q => by
                rcases q.2.2 with q | q | q
                · exact absurd q.1 c3
                · exact absurd q.2 c4
                · exact absurd (hn.mpr q.2) c6⟩
          · rw [if_neg c5]
            exact ⟨fun q => absurd rfl q, fun q => by
              rcases q.2.2 with q | q | q
              · exact absurd q.1 c3
              · exact absurd q.2 c4
              · exact absurd q.1 c5⟩
  · rw [if_neg c1]
    exact ⟨fun q => absurd rfl q, fun q => absurd q.1 c1⟩
theorem ah_O {μ ν : Mm} {a N R : Nat} (h : REL μ a (ν 260)) (g : RNG N R (ν 260)) {j k : Nat} (hj : j < cn (ν 260 1)) (hk : k < cn (ν 260 1)) (hs : M_side ν (nI j) = M_side ν (nI k)) : (¬ O_isAhead μ (a + 16) (nI j) (nI k) = 0) ↔ AH ν j k := by
  have h20 := g.c0
  obtain ⟨p, p0, p1, ep, -⟩ := rd_P g hj
  obtain ⟨q, q0, q1, eq, -⟩ := rd_P g hk
  unfold O_isAhead AH
  rw [rd_pr h g hj, rd_pr h g hk, rd_sd h g hj, ep, eq]
  have l1 : nI q < nI p ↔ q < p := nI_lt_iff (by omega) (by omega)
  have l2 : nI p < nI q ↔ p < q := nI_lt_iff (by omega) (by omega)
  have l3 : nI p = nI q ↔ p = q := nI_inj (by omega) (by omega)
  by_cases c1 : p = q
  · subst c1
    rw [if_pos ((sub_eq0 (by omega) (by omega)).mpr rfl)]
    by_cases c2 : nI j < nI k
    · have c3 := (nI_lt_iff (by omega) (by omega)).mp c2
      rw [if_pos c2]
      exact ⟨fun _ => ⟨hs, by omega, Or.inr (Or.inr ⟨rfl, c3⟩)⟩, fun _ => by decide⟩
    · rw [if_neg c2]
      exact ⟨fun z => absurd rfl z, fun z => by
        rcases z.2.2 with z | z | z
        · exact absurd (l1.mp z.2) (Nat.lt_irrefl _)
        · exact absurd (l2.mp z.2) (Nat.lt_irrefl _)
        · exact absurd ((nI_lt_iff (by omega) (by omega)).mpr z.2) c2⟩
  · rw [if_neg (fun z => c1 ((sub_eq0 (by omega) (by omega)).mp z))]
    have hjk : j ≠ k := fun z => by
      subst z
      exact c1 ((nI_inj (by omega) (by omega)).mp (ep.symm.trans eq))
    by_cases c3 : M_side ν (nI j) = 0
    · rw [if_pos c3]
      by_cases c4 : 0 < nI p - nI q
      · rw [if_pos c4]
        exact ⟨fun _ => ⟨hs, hjk, Or.inl ⟨c3, l1.mpr ((sub_gt0 (by omega) (by omega)).mp c4)⟩⟩, fun _ => by decide⟩
      · rw [if_neg c4]
        exact ⟨fun z => absurd rfl z, fun z => by
          rcases z.2.2 with z | z | z
          · exact absurd ((sub_gt0 (by omega) (by omega)).mpr (l1.mp z.2)) c4
          · exact absurd c3 z.1
          · exact absurd (l3.mp z.1) c1⟩
    · rw [if_neg c3]
      by_cases c4 : nI p - nI q < 0
      · rw [if_pos c4]
        exact ⟨fun _ => ⟨hs, hjk, Or.inr (Or.inl ⟨c3, l2.mpr ((sub_lt0 (by omega) (by omega)).mp c4)⟩)⟩, fun _ => by decide⟩
      · rw [if_neg c4]
        exact ⟨fun z => absurd rfl z, fun z => by
          rcases z.2.2 with z | z | z
          · exact absurd z.1 c3
          · exact absurd ((sub_lt0 (by omega) (by omega)).mpr (l2.mp z.2)) c4
          · exact absurd (l3.mp z.1) c1⟩
theorem rd_place {μ ν : Mm} {a N R : Nat} (h : REL μ a (ν 260)) (g : RNG N R (ν 260)) {k : Nat} (hk : k < cn (ν 260 1)) : O_placeOf μ (a + 16) (nI k) = M_placeOf ν (nI k) := by
  unfold O_placeOf M_placeOf
  rw [rd_n1 h]
  refine sumI_congr fun j hj => ?_
  rw [rd_sd h g hj, rd_sd h g hk]
  by_cases c : M_side ν (nI j) = M_side ν (nI k)
  · rw [if_pos c]
    have e1 := ah_O h g hj hk c
    have e2 := ah_M g hj hk
    by_cases c2 : AH ν j k
    · rw [if_neg (e1.mpr c2), if_neg (e2.mpr c2)]
    · rw [if_pos (Decidable.not_not.mp fun z => c2 (e1.mp z)), if_pos (Decidable.not_not.mp fun z => c2 (e2.mp z))]
  · rw [if_neg c, if_pos (Decidable.not_not.mp fun z => c ((ah_M g hj hk).mp z).1)]
theorem rd_count {μ ν : Mm} {a N R : Nat} (h : REL μ a (ν 260)) (g : RNG N R (ν 260)) (t : Int32) : O_countOf μ (a + 16) t = M_ordersOf ν t 0 := by
  unfold O_countOf M_ordersOf
  rw [rd_n1 h]
  exact sumI_congr fun k hk => by rw [rd_who h g hk, if_pos (rfl : (0 : Int32) = 0)]
theorem rd_unitsOf {μ ν : Mm} {a N R : Nat} (h : REL μ a (ν 260)) (g : RNG N R (ν 260)) (t : Int32) : O_unitsOf μ (a + 16) t = M_ordersOf ν t 1 := by
  unfold O_unitsOf M_ordersOf
  rw [rd_n1 h]
  exact sumI_congr fun k hk => by rw [rd_who h g hk, rd_un h g hk, if_neg (by decide : ¬ (1 : Int32) = 0)]
theorem rd_bidWith {μ ν : Mm} {a N R : Nat} (h : REL μ a (ν 260)) (g : RNG N R (ν 260)) {j : Nat} (hj : j < cn (ν 260 0)) (s : Int32) : T_bidWith μ (a + 1) (nI j) s = M_bidBy ν (nI j) s := by
  unfold T_bidWith M_bidBy
  have e0 : R_get μ (a + 1 + 1) 8 (nI j) = M_t ν (nI j) 0 := rd_t h g hj (w := 0) (by decide)
  have e1 : R_get μ (a + 1 + 3) 8 (nI j) = M_t ν (nI j) 1 := rd_t h g hj (w := 1) (by decide)
  rw [e0, e1]
  unfold mxI mnI
  by_cases c : M_t ν (nI j) 0 = 0
  · rw [if_pos c, if_pos c]
    by_cases c2 : M_t ν (nI j) 1 - s < 1
    · rw [if_pos c2, if_neg (Int32.not_lt.mpr (Int32.le_of_lt c2))]
    · rw [if_neg c2]
      by_cases c3 : 1 < M_t ν (nI j) 1 - s
      · rw [if_pos c3]
      · rw [if_neg c3]
        exact Int32.le_antisymm (Int32.not_lt.mp c2) (Int32.not_lt.mp c3)
  · rw [if_neg c, if_neg c]
    by_cases c2 : 120 < M_t ν (nI j) 1 + s
    · rw [if_pos c2, if_neg (Int32.not_lt.mpr (Int32.le_of_lt c2))]
    · rw [if_neg c2]
      by_cases c3 : M_t ν (nI j) 1 + s < 120
      · rw [if_pos c3]
      · rw [if_neg c3]
        exact Int32.le_antisymm (Int32.not_lt.mp c3) (Int32.not_lt.mp c2)
theorem rd_bid {μ ν : Mm} {a N R : Nat} (h : REL μ a (ν 260)) (g : RNG N R (ν 260)) {j : Nat} (hj : j < cn (ν 260 0)) : T_bidOf μ (a + 1) (nI j) = M_bidOf ν (nI j) := by
  unfold T_bidOf M_bidOf
  have h20 := g.c0
  have e1 : R_get μ (a + 1 + 3) 8 (nI j) = M_t ν (nI j) 1 := rd_t h g hj (w := 1) (by decide)
  have e2 : R_get μ (a + 1 + 5) 8 (nI j) = M_t ν (nI j) 2 := rd_t h g hj (w := 2) (by decide)
  have e3 : R_get μ (a + 1 + 7) 8 (nI j) = M_t ν (nI j) 3 := rd_t h g hj (w := 3) (by decide)
  rw [rd_bidWith h g hj]
  congr 1
  unfold T_shadeOf M_shadeOf
  rw [e1, e2, e3]
  have hk : vp_in (M_t ν (nI j) 2) 4 := by
    rw [show (2 : Int32) = nI 2 from rfl, M_t_nI (by omega) (by decide), show 11 + 7 * j + 2 = 13 + 7 * j by omega]
    exact (g.2.2.2.2.2.1 j hj).2.2.1
  obtain ⟨q, hq, e⟩ := vp_nI hk (by decide)
  rw [e]
  rcases (show q = 0 ∨ q = 1 ∨ q = 2 ∨ q = 3 by omega) with rfl | rfl | rfl | rfl
  · rw [if_neg (by decide), if_neg (by decide), if_neg (by decide), if_pos (by decide)]
  · rw [if_pos (by decide), if_neg (by decide), if_neg (by decide)]
  · rw [if_neg (by decide), if_pos (by decide), if_neg (by decide), if_pos (by decide)]
  · rw [if_neg (by decide), if_neg (by decide), if_pos (by decide), if_neg (by decide), if_neg (by decide)]
theorem rd_trader {μ ν : Mm} {a N R : Nat} (h : REL μ a (ν 260)) (g : RNG N R (ν 260)) {j : Nat} (hj : j < cn (ν 260 0)) {w : Int32} (hw : vp_in w 10) : A_traderValue μ a (nI j) w = M_tellsTrader ν (nI j) w := by
  obtain ⟨q, hq, rfl⟩ := vp_nI hw (by decide)
  unfold A_traderValue M_tellsTrader
  have r : ∀ w, w < 7 → R_get μ (a + 1 + 1 + 2 * w) 8 (nI j) = M_t ν (nI j) (nI w) := fun w hw => rd_t h g hj hw
  rcases (show q = 0 ∨ q = 1 ∨ q = 2 ∨ q = 3 ∨ q = 4 ∨ q = 5 ∨ q = 6 ∨ q = 7 ∨ q = 8 ∨ q = 9 by omega) with rfl | rfl | rfl | rfl | rfl | rfl | rfl | rfl | rfl | rfl
  · rw [if_pos (by decide), if_pos (by decide)]; exact r 0 (by decide)
  · rw [if_neg (by decide), if_pos (by decide), if_pos (by decide)]; exact r 1 (by decide)
  · rw [if_neg (by decide), if_neg (by decide), if_pos (by decide), if_pos (by decide)]; exact r 2 (by decide)
  · rw [if_neg (by decide), if_neg (by decide), if_neg (by decide), if_pos (by decide), if_pos (by decide)]; exact r 3 (by decide)
  · rw [if_neg (by decide), if_neg (by decide), if_neg (by decide), if_neg (by decide), if_pos (by decide), if_neg (by decide), if_neg (by decide), if_pos (by decide)]; exact rd_bid h g hj
  · rw [if_neg (by decide), if_neg (by decide), if_neg (by decide), if_neg (by decide), if_neg (by decide), if_pos (by decide), if_neg (by decide), if_neg (by decide), if_neg (by decide), if_neg (by decide)]; exact rd_count h g _
  · rw [if_neg (by decide), if_neg (by decide), if_neg (by decide), if_neg (by decide), if_neg (by decide), if_neg (by decide), if_pos (by decide), if_neg (by decide), if_neg (by decide), if_neg (by decide), if_pos (by decide)]; exact rd_unitsOf h g _
  · rw [if_neg (by decide), if_neg (by decide), if_neg (by decide), if_neg (by decide), if_neg (by decide), if_neg (by decide), if_neg (by decide), if_pos (by decide), if_neg (by decide), if_pos (by decide)]; exact r 4 (by decide)
  · rw [if_neg (by decide), if_neg (by decide), if_neg (by decide), if_neg (by decide), if_neg (by decide), if_neg (by decide), if_neg (by decide), if_neg (by decide), if_pos (by decide), if_neg (by decide), if_pos (by decide)]; exact r 5 (by decide)
  · rw [if_neg (by decide), if_neg (by decide), if_neg (by decide), if_neg (by decide), if_neg (by decide), if_neg (by decide), if_neg (by decide), if_neg (by decide), if_neg (by decide), if_neg (by decide), if_pos (by decide)]; exact r 6 (by decide)
theorem rd_order {μ ν : Mm} {a N R : Nat} (h : REL μ a (ν 260)) (g : RNG N R (ν 260)) {k : Nat} (hk : k < cn (ν 260 1)) {w : Int32} (hw : vp_in w 5) : O_valueOf μ (a + 16) (nI k) w = M_tellsOrder ν (nI k) w := by
  obtain ⟨q, hq, rfl⟩ := vp_nI hw (by decide)
  unfold O_valueOf M_tellsOrder
  rcases (show q = 0 ∨ q = 1 ∨ q = 2 ∨ q = 3 ∨ q = 4 by omega) with rfl | rfl | rfl | rfl | rfl
  · rw [if_pos (by decide), if_neg (by decide)]; exact rd_who h g hk
  · rw [if_neg (by decide), if_pos (by decide), if_neg (by decide)]; exact rd_pr h g hk
  · rw [if_neg (by decide), if_neg (by decide), if_pos (by decide), if_neg (by decide)]; exact rd_un h g hk
  · rw [if_neg (by decide), if_neg (by decide), if_neg (by decide), if_pos (by decide), if_neg (by decide)]; exact rd_si h g hk
  · rw [if_neg (by decide), if_neg (by decide), if_neg (by decide), if_neg (by decide), if_pos (by decide)]; exact rd_place h g hk
theorem rd_trade {μ ν : Mm} {a N R : Nat} (h : REL μ a (ν 260)) (g : RNG N R (ν 260)) {i w : Int32} (hi : ¬ i < 0) (hw : vp_in w 5) : S_valueOf μ (a + 29) i w = M_tells_td ν i w := by
  obtain ⟨q, hq, rfl⟩ := vp_nI hw (by decide)
  obtain ⟨j, hj, rfl⟩ := nI_of hi
  unfold S_valueOf M_tells_td
  rw [show μ (a + 29) 0 = ν 260 9 from h.1.2.2.2.2.2.2.2.2.2.1]
  by_cases c : nI j < ν 260 9
  · rw [if_pos c, if_pos c]
    have hc := nI_lt_cn hj c
    have h20 := g.c0
    have r : ∀ w, w < 5 → R_get μ (a + 29 + 1 + 2 * w) 20 (nI j) = ν 260 (cn (167 + 5 * nI j + nI w)) := fun w hw => by
      rw [R_get_nI (by omega) (by decide), idxD, cn_nI (by omega), show a + 29 + 1 + 2 * w + 1 = a + 31 + 2 * w by omega]
      exact h.2.2.2 j hc w hw
    rcases (show q = 0 ∨ q = 1 ∨ q = 2 ∨ q = 3 ∨ q = 4 by omega) with rfl | rfl | rfl | rfl | rfl
    · rw [if_pos (by decide)]; exact r 0 (by decide)
    · rw [if_neg (by decide), if_pos (by decide)]; exact r 1 (by decide)
    · rw [if_neg (by decide), if_neg (by decide), if_pos (by decide)]; exact r 2 (by decide)
    · rw [if_neg (by decide), if_neg (by decide), if_neg (by decide), if_pos (by decide)]; exact r 3 (by decide)
    · rw [if_neg (by decide), if_neg (by decide), if_neg (by decide), if_neg (by decide)]; exact r 4 (by decide)
  · rw [if_neg c, if_neg c]
end
