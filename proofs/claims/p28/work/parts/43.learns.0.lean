noncomputable section
/-! a trader's books at the end of a round -/
theorem ch_comm {f : Nat → Int32} {i j : Nat} {v w : Int32} (h : i ≠ j) : ch (ch f i v) j w = ch (ch f j w) i v := by
  funext x
  unfold ch
  by_cases c : x = i
  · subst c; rw [if_neg h, if_pos rfl, if_pos rfl]
  · rw [if_neg c, if_neg c]
theorem ch_self {f : Nat → Int32} {i : Nat} {v : Int32} (h : f i = v) : ch f i v = f := by
  funext x
  unfold ch
  split
  · rename_i c; rw [c]; exact h.symm
  · rfl
theorem sN_eq0 {g : Nat → Nat} : ∀ {n : Nat}, sN g n = 0 → ∀ k, k < n → g k = 0
  | 0, _, k, hk => absurd hk (Nat.not_lt_zero k)
  | n + 1, h, k, hk => by
    have h2 : sN g n + g n = 0 := h
    by_cases c : k = n
    · subst c; omega
    · exact sN_eq0 (n := n) (by omega) k (by omega)
theorem sN_eqle {g h : Nat → Nat} : ∀ {n : Nat}, (∀ k, k < n → g k ≤ h k) → sN g n = sN h n → ∀ k, k < n → g k = h k
  | 0, _, _, k, hk => absurd hk (Nat.not_lt_zero k)
  | n + 1, e, h, k, hk => by
    have h2 : sN g n + g n = sN _ n + _ := h
    have h3 := sN_le (n := n) fun k hk => e k (by omega)
    have h4 := e n (by omega)
    by_cases c : k = n
    · subst c; omega
    · exact sN_eqle (n := n) (fun k hk => e k (by omega)) (by omega) k (by omega)
def tkN (f : Nat → Int32) (V t : Nat) : Nat := sN (fun k => if nT f k = t then fN f V k else 0) (cn (f 1))
def hdN (f : Nat → Int32) (t : Nat) : Nat := sN (fun k => if nT f k = t then nU f k else 0) (cn (f 1))
theorem book_at {μ : Mm} {f : Nat → Int32} {a t N R : Nat} {T pr : Int32} (h : REL μ a f) (g : RNG N R f) (ht : t < cn (f 0)) : T_book μ (a + 1) (nI t) T pr = up2 (up2 (up2 μ (a + 3 + 2 * 4) t (f (11 + 7 * t + 4) + T)) (a + 3 + 2 * 5) t (f (11 + 7 * t + 5) + gT f t pr * T)) (a + 3 + 2 * 6) t (f (11 + 7 * t + 6) + (if f (11 + 7 * t) = 0 then -pr else pr) * T) := by
  have hc := g.c0
  have h0 := h.2.1 t ht 0 (by decide)
  have h1 := h.2.1 t ht 1 (by decide)
  have h4 := h.2.1 t ht 4 (by decide)
  have h5 := h.2.1 t ht 5 (by decide)
  have h6 := h.2.1 t ht 6 (by decide)
  have g1 : ∀ κ : Mm, κ (a + 3 + 2 * 0) = μ (a + 3 + 2 * 0) → R_get κ (a + 1 + 1) 8 (nI t) = f (11 + 7 * t) := fun κ hκ => by
    rw [R_get_nI (by omega) (by decide)]
    exact (congrFun hκ t).trans h0
  have g2 : ∀ κ : Mm, κ (a + 3 + 2 * 1) = μ (a + 3 + 2 * 1) → R_get κ (a + 1 + 3) 8 (nI t) = f (12 + 7 * t) := fun κ hκ => by
    rw [R_get_nI (by omega) (by decide)]
    refine (congrFun hκ t).trans (h1.trans ?_)
    rw [show 11 + 7 * t + 1 = 12 + 7 * t by omega]
  have a1 : ∀ (κ : Mm) v, R_add κ (a + 1 + 9) 8 (nI t) v = up2 κ (a + 3 + 2 * 4) t (κ (a + 3 + 2 * 4) t + v) := fun κ v => R_add_nI (by omega) (by decide)
  have a2 : ∀ (κ : Mm) v, R_add κ (a + 1 + 11) 8 (nI t) v = up2 κ (a + 3 + 2 * 5) t (κ (a + 3 + 2 * 5) t + v) := fun κ v => R_add_nI (by omega) (by decide)
  have a3 : ∀ (κ : Mm) v, R_add κ (a + 1 + 13) 8 (nI t) v = up2 κ (a + 3 + 2 * 6) t (κ (a + 3 + 2 * 6) t + v) := fun κ v => R_add_nI (by omega) (by decide)
  unfold T_book T_gain
  try dsimp only
  rw [a1, h4, a2, a3]
  rw [g1 _ (by rw [up2_k _ _ (by omega)]), g2 _ (by rw [up2_k _ _ (by omega)])]
  rw [g1 _ (by rw [up2_k _ _ (by omega), up2_k _ _ (by omega)])]
  rw [up2_n (k := a + 3 + 2 * 4) (k' := a + 3 + 2 * 5) (by omega), h5]
  rw [up2_n (k := a + 3 + 2 * 5) (k' := a + 3 + 2 * 6) (by omega), up2_n (k := a + 3 + 2 * 4) (k' := a + 3 + 2 * 6) (by omega), h6]
  rfl
theorem settles_row {κ : Mm} {t : Nat} (ht : t < 8) : M_settles κ (nI t) 260 = ch (ch (ch (κ 260) (11 + 7 * t + 4) (κ 260 (11 + 7 * t + 4) + M_takenOf κ (nI t))) (11 + 7 * t + 5) (κ 260 (11 + 7 * t + 5) + M_gainsOf κ (nI t))) (11 + 7 * t + 6) (κ 260 (11 + 7 * t + 6) + (if κ 260 (11 + 7 * t) = 0 then -M_paid κ (nI t) else M_paid κ (nI t))) := by
  have s : ∀ (ν : Mm) w v, w < 7 → M_setT ν (nI t) (nI w) v 260 = ch (ν 260) (11 + 7 * t + w) v := fun ν w v hw => setT_ch ht hw
  have m : ∀ (ν : Mm) w, w < 7 → M_t ν (nI t) (nI w) = ν 260 (11 + 7 * t + w) := fun ν w hw => M_t_nI ht hw
  unfold M_settles
  try dsimp only
  rw [show (5 : Int32) = nI 5 from rfl, show (4 : Int32) = nI 4 from rfl, show (6 : Int32) = nI 6 from rfl, show (0 : Int32) = nI 0 from rfl]
  rw [s _ 6 _ (by decide), m _ 6 (by decide), m _ 0 (by decide), s _ 4 _ (by decide), m _ 4 (by decide), s _ 5 _ (by decide), m _ 5 (by decide)]
  rw [ch_n (by omega), ch_n (by omega), ch_n (by omega), ch_n (by omega), ch_n (by omega), ch_comm (i := 11 + 7 * t + 5) (j := 11 + 7 * t + 4) (by omega)]
  first | done | rfl
theorem settles_p {κ : Mm} {t : Int32} {p : Nat} (hp : p ≠ 260) : M_settles κ t p = κ p := by
  unfold M_settles
  try dsimp only
  rw [setT_ne hp, setT_ne hp, setT_ne hp]
theorem learns_p {κ : Mm} {t : Int32} {p : Nat} (hp : p ≠ 260) : M_learns κ t p = κ p := by
  unfold M_learns
  split
  · split
    · rfl
    · exact setT_ne hp
  · rfl
theorem fN_le (f : Nat → Int32) (V k : Nat) : fN f V k ≤ nU f k := Nat.min_le_right _ _
theorem wI_ok {v n : Nat} (h : v ≤ n) (hn : n < 2 ^ 31) : ¬ wI (nI v) 0 (nI n) = 0 := by
  unfold wI
  rw [if_neg (nI_pos (by omega)), if_neg (fun z => by have := (nI_lt_iff (by omega) (by omega)).mp z; omega)]
  decide
theorem OA_ch {f r : Nat → Int32} {t w : Nat} {v : Int32} (h : OA f r) (ht : t < 8) (hw : w < 7) (h2 : 2 ≤ w) : OA f (ch r (11 + 7 * t + w) v) := by
  refine h.tr ⟨?_, ?_, fun i i1 i2 => ?_, fun x hx => ⟨?_, ?_⟩⟩
  · rw [ch_n (by omega)]
  · rw [ch_n (by omega)]
  · rw [ch_n (by omega)]
  · rw [ch_n (by omega)]
  · rw [ch_n (by omega)]
theorem learn_at {μ κ : Mm} {f : Nat → Int32} {a t N R N0 R0 : Nat} (h : REL μ a (κ 260)) (g : RNG N R (κ 260)) (gf : RNG N0 R0 f) (hS : SM f κ) (ht : t < cn (f 0)) : ∃ v, M_learns κ (nI t) 260 = ch (κ 260) (11 + 7 * t + 3) v ∧ vp_in v 51 ∧ (T_learn μ (a + 1) (nI t) (nI (hdN f t)) (nI (tkN f (VN f) t)) = up2 μ (a + 3 + 2 * 3) t v ∨ (T_learn μ (a + 1) (nI t) (nI (hdN f t)) (nI (tkN f (VN f) t)) = μ ∧ v = κ 260 (11 + 7 * t + 3))) := by
  have hc := gf.c0
  have hc2 := g.c0
  have ht2 : t < cn (κ 260 0) := by rw [hS.1.1]; exact ht
  obtain ⟨s, hs, es⟩ := vp_nI (g.2.2.2.2.2.1 t ht2).2.2.2 (by decide)
  have es3 : κ 260 (11 + 7 * t + 3) = nI s := by rw [show 11 + 7 * t + 3 = 14 + 7 * t by omega]; exact es
  have m3 : M_t κ (nI t) 3 = nI s := by rw [show (3 : Int32) = nI 3 from rfl, M_t_nI (by omega) (by decide), es3]
  have k2 : R_get μ (a + 1 + 5) 8 (nI t) = M_t κ (nI t) 2 := rd_t h g ht2 (w := 2) (by decide)
  have k3 : R_get μ (a + 1 + 7) 8 (nI t) = nI s := (rd_t h g ht2 (w := 3) (by decide)).trans m3
  have p7 : ∀ v, R_put μ (a + 1 + 7) 8 (nI t) v = up2 μ (a + 3 + 2 * 3) t v := fun v => R_put_nI (by omega) (by decide)
  have st : ∀ v, M_setT κ (nI t) 3 v 260 = ch (κ 260) (11 + 7 * t + 3) v := fun v => setT_ch (w := 3) (by omega) (by decide)
  have keep : vp_in (nI s) 51 := vp_in_nI hs (by decide)
  unfold M_learns T_learn
  rw [k2, k3]
  by_cases c3 : M_t κ (nI t) 2 = 3
  · rw [if_pos c3, if_pos c3, m3]
    have n' : κ 260 1 = f 1 := hS.1.2.1
    have who : ∀ k, k < cn (f 1) → (M_o κ (nI k) 1 = nI t ↔ nT f k = t) := fun k hk => by
      obtain ⟨t1, -⟩ := of_T g (k := k) (by rw [n']; exact hk)
      have := nT_lt gf hk
      rw [t1, (hS.1.n gf hk).1, nI_inj (by omega) (by omega)]
    have eC : M_cntOf κ (nI t) (cn (κ 260 1)) = nI (sN (fun k => if nT f k = t then 1 else 0) (cn (f 1))) := by
      unfold M_cntOf
      rw [n', ← sumI_nI]
      refine sumI_congr fun k hk => ?_
      by_cases c : nT f k = t
      · rw [if_pos ((who k hk).mpr c), if_pos c]; rfl
      · rw [if_neg (fun z => c ((who k hk).mp z)), if_neg c]; rfl
    have eA : M_allOf κ (nI t) (cn (κ 260 1)) = nI (sN (fun k => if nT f k = t then (if fN f (VN f) k = nU f k then 1 else 0) else 0) (cn (f 1))) := by
      unfold M_allOf
      rw [n', ← sumI_nI]
      refine sumI_congr fun k hk => ?_
      obtain ⟨u1, u2, u3⟩ := of_U g (k := k) (by rw [n']; exact hk)
      rw [(hS.1.n gf hk).2.2.1] at u1 u3
      have := fN_le f (VN f) k
      by_cases c : nT f k = t
      · rw [if_pos ((who k hk).mpr c), if_pos c, fill_SM gf g hS hk, u1]
        by_cases d : fN f (VN f) k = nU f k
        · rw [if_pos (by rw [d]), if_pos d]; rfl
        · rw [if_neg (fun z => d ((nI_inj (by omega) (by omega)).mp z)), if_neg d]; rfl
      · rw [if_neg (fun z => c ((who k hk).mp z)), if_neg c]; rfl
    have eN : M_noneOf κ (nI t) (cn (κ 260 1)) = nI (sN (fun k => if nT f k = t then (if fN f (VN f) k = 0 then 1 else 0) else 0) (cn (f 1))) := by
      unfold M_noneOf
      rw [n', ← sumI_nI]
      refine sumI_congr fun k hk => ?_
      obtain ⟨u1, u2, u3⟩ := of_U g (k := k) (by rw [n']; exact hk)
      rw [(hS.1.n gf hk).2.2.1] at u1 u3
      have := fN_le f (VN f) k
      by_cases c : nT f k = t
      · rw [if_pos ((who k hk).mpr c), if_pos c, fill_SM gf g hS hk]
        by_cases d : fN f (VN f) k = 0
        · rw [if_pos (by rw [d]; rfl), if_pos d]; rfl
        · rw [if_neg (nI_n0 d (by omega)), if_neg d]; rfl
      · rw [if_neg (fun z => c ((who k hk).mp z)), if_neg c]; rfl
    have upos : ∀ k, k < cn (f 1) → 0 < nU f k ∧ nU f k < 10 := fun k hk => by
      obtain ⟨u1, u2, u3⟩ := of_U g (k := k) (by rw [n']; exact hk)
      rw [(hS.1.n gf hk).2.2.1] at u2 u3
      exact ⟨u2, u3⟩
    have bC : sN (fun k => if nT f k = t then 1 else 0) (cn (f 1)) ≤ 1 * cn (f 1) := sN_bd fun k hk => by split <;> omega
    have bA : sN (fun k => if nT f k = t then (if fN f (VN f) k = nU f k then 1 else 0) else 0) (cn (f 1)) ≤ 1 * cn (f 1) := sN_bd fun k hk => by
      split
      · split <;> omega
      · omega
    have bN : sN (fun k => if nT f k = t then (if fN f (VN f) k = 0 then 1 else 0) else 0) (cn (f 1)) ≤ 1 * cn (f 1) := sN_bd fun k hk => by
      split
      · split <;> omega
      · omega
    have bH : hdN f t ≤ 9 * cn (f 1) := sN_bd fun k hk => by
      have := upos k hk
      split <;> omega
    have bT : tkN f (VN f) t ≤ 9 * cn (f 1) := sN_bd fun k hk => by
      have := upos k hk
      have := fN_le f (VN f) k
      split <;> omega
    have iC : sN (fun k => if nT f k = t then 1 else 0) (cn (f 1)) = 0 ↔ hdN f t = 0 := by
      constructor
      · intro z
        refine sN_zero fun k hk => ?_
        have := sN_eq0 z k hk
        by_cases c : nT f k = t
        · rw [if_pos c] at this; omega
        · exact if_neg c
      · intro z
        refine sN_zero fun k hk => ?_
        have := sN_eq0 (g := fun k => if nT f k = t then nU f k else 0) z k hk
        by_cases c : nT f k = t
        · have h2 := upos k hk
          have h3 : (if nT f k = t then nU f k else 0) = 0 := this
          rw [if_pos c] at h3; omega
        · exact if_neg c
    have iA : sN (fun k => if nT f k = t then (if fN f (VN f) k = nU f k then 1 else 0) else 0) (cn (f 1)) = sN (fun k => if nT f k = t then 1 else 0) (cn (f 1)) ↔ tkN f (VN f) t = hdN f t := by
      constructor
      · intro z
        have q := sN_eqle (fun k hk => by
          show (if nT f k = t then (if fN f (VN f) k = nU f k then 1 else 0) else 0) ≤ if nT f k = t then 1 else 0
          split
          · split <;> omega
          · omega) z
        refine sN_congr fun k hk => ?_
        have h3 : (if nT f k = t then (if fN f (VN f) k = nU f k then 1 else 0) else 0) = if nT f k = t then 1 else 0 := q k hk
        by_cases c : nT f k = t
        · rw [if_pos c, if_pos c] at h3 ⊢
          by_cases d : fN f (VN f) k = nU f k
          · exact d
          · rw [if_neg d] at h3; omega
        · rw [if_neg c, if_neg c]
      · intro z
        have q := sN_eqle (fun k hk => by
          show (if nT f k = t then fN f (VN f) k else 0) ≤ if nT f k = t then nU f k else 0
          have := fN_le f (VN f) k
          split <;> omega) (show sN (fun k => if nT f k = t then fN f (VN f) k else 0) (cn (f 1)) = sN (fun k => if nT f k = t then nU f k else 0) (cn (f 1)) from z)
        refine sN_congr fun k hk => ?_
        have h3 : (if nT f k = t then fN f (VN f) k else 0) = if nT f k = t then nU f k else 0 := q k hk
        by_cases c : nT f k = t
        · rw [if_pos c, if_pos c] at h3
          rw [if_pos c, if_pos c, if_pos h3]
        · rw [if_neg c, if_neg c]
    have iN : sN (fun k => if nT f k = t then (if fN f (VN f) k = 0 then 1 else 0) else 0) (cn (f 1)) = sN (fun k => if nT f k = t then 1 else 0) (cn (f 1)) ↔ tkN f (VN f) t = 0 := by
      constructor
      · intro z
        have q := sN_eqle (fun k hk => by
          show (if nT f k = t then (if fN f (VN f) k = 0 then 1 else 0) else 0) ≤ if nT f k = t then 1 else 0
          split
          · split <;> omega
          · omega) z
        refine sN_zero fun k hk => ?_
        have h3 : (if nT f k = t then (if fN f (VN f) k = 0 then 1 else 0) else 0) = if nT f k = t then 1 else 0 := q k hk
        by_cases c : nT f k = t
        · rw [if_pos c, if_pos c] at h3
          rw [if_pos c]
          by_cases d : fN f (VN f) k = 0
          · exact d
          · rw [if_neg d] at h3; omega
        · exact if_neg c
      · intro z
        refine sN_congr fun k hk => ?_
        have h3 : (if nT f k = t then fN f (VN f) k else 0) = 0 := sN_eq0 (g := fun k => if nT f k = t then fN f (VN f) k else 0) z k hk
        by_cases c : nT f k = t
        · rw [if_pos c] at h3
          rw [if_pos c, if_pos c, if_pos h3]
        · rw [if_neg c, if_neg c]
    have eO : M_outcome κ (nI t) = if hdN f t = 0 then 0 else if tkN f (VN f) t = hdN f t then 1 else if tkN f (VN f) t = 0 then -1 else 0 := by
      unfold M_outcome
      rw [eC, eA, eN]
      by_cases d0 : hdN f t = 0
      · rw [if_pos d0, if_pos (by rw [iC.mpr d0]; rfl)]
      · rw [if_neg d0, if_neg (nI_n0 (fun z => d0 (iC.mp z)) (by omega))]
        by_cases d1 : tkN f (VN f) t = hdN f t
        · rw [if_pos d1, if_pos (by rw [iA.mpr d1])]
        · rw [if_neg d1, if_neg (fun z => d1 (iA.mp ((nI_inj (by omega) (by omega)).mp z)))]
          by_cases d2 : tkN f (VN f) t = 0
          · rw [if_pos d2, if_pos (by rw [iN.mpr d2])]
          · rw [if_neg d2, if_neg (fun z => d2 (iN.mp ((nI_inj (by omega) (by omega)).mp z)))]
    rw [eO]
    have same : ∃ v, (if wI (nI s + 0) 0 50 = 0 then κ else M_setT κ (nI t) 3 (nI s + 0)) 260 = ch (κ 260) (11 + 7 * t + 3) v ∧ v = nI s := by
      rw [Int32.add_zero, if_neg (show ¬ wI (nI s) 0 50 = 0 from wI_ok (n := 50) (by omega) (by decide)), st]
      exact ⟨_, rfl, rfl⟩
    by_cases d0 : hdN f t = 0
    · rw [if_pos d0, if_pos (show nI (hdN f t) = 0 by rw [d0]; rfl)]
      obtain ⟨v, q1, q2⟩ := same
      exact ⟨v, q1, by rw [q2]; exact keep, Or.inr ⟨rfl, by rw [q2, es3]⟩⟩
    · rw [if_neg d0, if_neg (nI_n0 d0 (by omega))]
      by_cases d1 : tkN f (VN f) t = hdN f t
      · rw [if_pos d1, if_pos (show nI (tkN f (VN f) t) = nI (hdN f t) by rw [d1]), nI_1, show (50 : Int32) = nI 50 from rfl, mnI_nI (by omega) (by omega), p7]
        by_cases d3 : s + 1 ≤ 50
        · rw [if_neg (wI_ok d3 (by decide)), st, Nat.min_eq_right d3]
          exact ⟨_, rfl, vp_in_nI (by omega) (by decide), Or.inl rfl⟩
        · have : s = 50 := by omega
          subst this
          rw [if_pos (show wI (nI (50 + 1)) 0 (nI 50) = 0 by decide)]
          exact ⟨nI 50, (ch_self es3).symm, vpd rfl, Or.inl rfl⟩
      · rw [if_neg d1, if_neg (fun z => d1 ((nI_inj (by omega) (by omega)).mp z))]
        by_cases d2 : tkN f (VN f) t = 0
        · rw [if_pos d2, if_pos (show nI (tkN f (VN f) t) = 0 by rw [d2]; rfl), p7]
          by_cases d4 : s = 0
          · subst d4
            rw [if_pos (show wI (nI 0 + -1) 0 50 = 0 by decide)]
            exact ⟨nI 0, (ch_self es3).symm, vpd rfl, Or.inl (by rw [show mxI 0 (nI 0 - 1) = nI 0 from by decide])⟩
          · obtain ⟨s, rfl⟩ : ∃ z, s = z + 1 := ⟨s - 1, by omega⟩
            have e1 : nI (s + 1) + -1 = nI s := by rw [← Int32.sub_eq_add_neg, nI_sub1]
            have e2 : mxI 0 (nI (s + 1) - 1) = nI s := by
              rw [nI_sub1]
              unfold mxI
              by_cases z : s = 0
              · subst z; rfl
              · rw [if_pos (show (0 : Int32) < nI s from (nI_lt_iff (a := 0) (by omega) (by omega)).mpr (by omega))]
            rw [e1, e2, if_neg (show ¬ wI (nI s) 0 50 = 0 from wI_ok (n := 50) (by omega) (by decide)), st]
            exact ⟨_, rfl, vp_in_nI (by omega) (by decide), Or.inl rfl⟩
        · rw [if_neg d2, if_neg (nI_n0 d2 (by omega))]
          obtain ⟨v, q1, q2⟩ := same
          exact ⟨v, q1, by rw [q2]; exact keep, Or.inr ⟨rfl, by rw [q2, es3]⟩⟩
  · rw [if_neg c3, if_neg c3]
    exact ⟨nI s, (ch_self es3).symm, keep, Or.inr ⟨rfl, es3.symm⟩⟩
end
