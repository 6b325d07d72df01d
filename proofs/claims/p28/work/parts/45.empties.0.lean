noncomputable section
/-! rows after a removal; what is needed of a row for it -/
def rmr (n m : Nat) (f : Nat → Int32) : Nat → Int32 := fun i => if i = 1 then nI (n - 1) else if 67 + 5 * m ≤ i ∧ i < 62 + 5 * n then f (i + 5) else f i
def RWk (f : Nat → Int32) : Prop := vp_in (f 0) 9 ∧ vp_in (f 1) 21 ∧ vp_in (f 9) 21 ∧ ∀ k : Nat, k < cn (f 1) → cn (f (68 + 5 * k)) < cn (f 0)
theorem RNG.W {N R : Nat} {f : Nat → Int32} (g : RNG N R f) : RWk f := ⟨g.1.1, g.1.2.1, g.1.2.2.1, fun k hk => (g.2.2.2.2.2.2.1 k hk).2.1⟩
theorem nI_prd {n : Nat} (h : 0 < n) : nI n - 1 = nI (n - 1) := by
  obtain ⟨m, rfl⟩ : ∃ m, n = m + 1 := ⟨n - 1, by omega⟩
  exact nI_sub1
theorem rem_R {μ : Mm} {f : Nat → Int32} {a k n : Nat} (h : REL μ a f) (g : RWk f) (e1 : f 1 = nI n) (hn2 : n ≤ 20) (hk : k < n) : REL (O_removeAt μ (a + 16) (nI k)) a (rmr n k f) := by
  have hcn : cn (f 1) = n := by rw [e1, cn_nI (by omega)]
  have c0' := vp_cn g.1
  have hr : ∀ i, rmr n k f i = if i = 1 then nI (n - 1) else if 67 + 5 * k ≤ i ∧ i < 62 + 5 * n then f (i + 5) else f i := fun i => rfl
  obtain ⟨r, hre⟩ : ∃ r, r = rmr n k f := ⟨_, rfl⟩
  rw [← hre] at hr ⊢
  have hO : O_removeAt μ (a + 16) (nI k) = up2 (O_remRows μ (a + 16) k) (a + 16) 0 (nI (n - 1)) := by
    unfold O_removeAt
    have q : μ (a + 16) 0 = nI n := h.1.2.1.trans e1
    rw [q, if_neg (nI_pos (by omega)), if_pos (nI_lt hk (by omega)), cn_nI (by omega), remRows_at, if_neg (by omega), q, nI_prd (by omega)]
  obtain ⟨κ, hκ⟩ : ∃ κ, κ = O_removeAt μ (a + 16) (nI k) := ⟨_, rfl⟩
  rw [← hκ] at hO ⊢
  have m : ∀ p i, ¬ (p = a + 16 ∧ i = 0) → κ p i = if (p = a + 18 ∨ p = a + 20 ∨ p = a + 22 ∨ p = a + 24 ∨ p = a + 26 ∨ p = a + 28) ∧ k ≤ i ∧ i + 1 < 20 then μ p (i + 1) else μ p i := fun p i hp => by
    rw [hO, up2_n hp, remRows_at]
  have mn : ∀ p i, ¬ (p = a + 16 ∧ i = 0) → ¬ (p = a + 18 ∨ p = a + 20 ∨ p = a + 22 ∨ p = a + 24 ∨ p = a + 26 ∨ p = a + 28) → κ p i = μ p i := fun p i hp hq => by
    rw [m p i hp, if_neg (fun c => hq c.1)]
  have m0 : ∀ p i, (p = a + 18 ∨ p = a + 20 ∨ p = a + 22 ∨ p = a + 24 ∨ p = a + 26 ∨ p = a + 28) → i < n - 1 → κ p i = μ p (if k ≤ i then i + 1 else i) := fun p i hp hi => by
    rw [m p i (by omega)]
    by_cases c : k ≤ i
    · rw [if_pos ⟨hp, c, by omega⟩, if_pos c]
    · rw [if_neg (fun z => c z.2.1), if_neg c]
  have e : ∀ i, i ≠ 1 → i < 67 ∨ 62 + 5 * n ≤ i → r i = f i := fun i q1 q2 => by rw [hr, if_neg q1, if_neg (by omega)]
  have e0 : ∀ i w, i < n - 1 → w < 5 → r (67 + w + 5 * i) = f (67 + w + 5 * (if k ≤ i then i + 1 else i)) := fun i w hi hw => by
    rw [hr, if_neg (by omega)]
    by_cases c : k ≤ i
    · rw [if_pos (by omega), if_pos c, show 67 + w + 5 * i + 5 = 67 + w + 5 * (i + 1) by omega]
    · rw [if_neg (by omega), if_neg c]
  have r1 : r 1 = nI (n - 1) := by rw [hr, if_pos rfl]
  have c1 : cn (r 1) = n - 1 := by rw [r1, cn_nI (by omega)]
  have sh : ∀ i, i < n - 1 → (if k ≤ i then i + 1 else i) < n := fun i hi => by split <;> omega
  obtain ⟨h1, h2, h3, h4⟩ := h
  refine ⟨⟨?_, ?_, ?_, ?_, ?_, ?_, ?_, ?_, ?_, ?_, ?_⟩, fun t' ht' w hw => ?_, fun i hi => ?_, fun i hi w hw => ?_⟩
  · rw [mn _ _ (by omega) (by omega), e 0 (by omega) (by omega)]; exact h1.1
  · rw [hO, up2_y ⟨rfl, rfl⟩, r1]
  · rw [mn _ _ (by omega) (by omega), e 2 (by omega) (by omega)]; exact h1.2.2.1
  · rw [mn _ _ (by omega) (by omega), e 3 (by omega) (by omega)]; exact h1.2.2.2.1
  · rw [mn _ _ (by omega) (by omega), e 4 (by omega) (by omega)]; exact h1.2.2.2.2.1
  · rw [mn _ _ (by omega) (by omega), e 5 (by omega) (by omega)]; exact h1.2.2.2.2.2.1
  · rw [mn _ _ (by omega) (by omega), e 6 (by omega) (by omega)]; exact h1.2.2.2.2.2.2.1
  · rw [mn _ _ (by omega) (by omega), e 7 (by omega) (by omega)]; exact h1.2.2.2.2.2.2.2.1
  · rw [mn _ _ (by omega) (by omega), e 8 (by omega) (by omega)]; exact h1.2.2.2.2.2.2.2.2.1
  · rw [mn _ _ (by omega) (by omega), e 9 (by omega) (by omega)]; exact h1.2.2.2.2.2.2.2.2.2.1
  · rw [mn _ _ (by omega) (by omega), e 10 (by omega) (by omega)]; exact h1.2.2.2.2.2.2.2.2.2.2
  · rw [e 0 (by omega) (by omega)] at ht'
    rw [mn _ _ (by omega) (by omega), e _ (by omega) (by omega)]
    exact h2 t' ht' w hw
  · rw [c1] at hi
    have q := h3 _ (by rw [hcn]; exact sh i hi)
    have hwk := (g.2.2.2 _ (by rw [hcn]; exact sh i hi))
    have s0 := e0 i 0 hi (by decide)
    have s1 := e0 i 1 hi (by decide)
    have s2 := e0 i 2 hi (by decide)
    have s3 := e0 i 3 hi (by decide)
    have s4 := e0 i 4 hi (by decide)
    simp only [Nat.reduceAdd] at s0 s1 s2 s3 s4
    rw [m0 _ _ (by omega) hi, m0 _ _ (by omega) hi, m0 _ _ (by omega) hi, m0 _ _ (by omega) hi, m0 _ _ (by omega) hi, m0 _ _ (by omega) hi]
    rw [s0, s1, s2, s3, s4, e (11 + 7 * cn _) (by omega) (by omega)]
    exact q
  · rw [e 9 (by omega) (by omega)] at hi
    have hq := vp_cn g.2.2.1
    rw [mn _ _ (by omega) (by omega), e _ (by omega) (by omega)]
    exact h4 i hi w hw
theorem rem_G {N R : Nat} {f : Nat → Int32} {k n : Nat} (g : RNG N R f) (e1 : f 1 = nI n) (hn2 : n ≤ 20) (hk : k < n) : RNG N R (rmr n k f) := by
  have hcn : cn (f 1) = n := by rw [e1, cn_nI (by omega)]
  have hr : ∀ i, rmr n k f i = if i = 1 then nI (n - 1) else if 67 + 5 * k ≤ i ∧ i < 62 + 5 * n then f (i + 5) else f i := fun i => rfl
  have hc := g.c0
  obtain ⟨r, hre⟩ : ∃ r, r = rmr n k f := ⟨_, rfl⟩
  rw [← hre] at hr ⊢
  have e : ∀ i, i ≠ 1 → i < 67 ∨ 62 + 5 * n ≤ i → r i = f i := fun i q1 q2 => by rw [hr, if_neg q1, if_neg (by omega)]
  have e0 : ∀ i w, i < n - 1 → w < 5 → r (67 + w + 5 * i) = f (67 + w + 5 * (if k ≤ i then i + 1 else i)) := fun i w hi hw => by
    rw [hr, if_neg (by omega)]
    by_cases c : k ≤ i
    · rw [if_pos (by omega), if_pos c, show 67 + w + 5 * i + 5 = 67 + w + 5 * (i + 1) by omega]
    · rw [if_neg (by omega), if_neg c]
  have r1 : r 1 = nI (n - 1) := by rw [hr, if_pos rfl]
  have c1 : cn (r 1) = n - 1 := by rw [r1, cn_nI (by omega)]
  have sh : ∀ i, i < n - 1 → (if k ≤ i then i + 1 else i) < n := fun i hi => by split <;> omega
  obtain ⟨g1, g2, g3, g4, g5, g6, g7, g8⟩ := g
  refine ⟨⟨?_, ?_, ?_, fun i hi => ?_⟩, ?_, ?_, ?_, ?_, fun t' ht' => ?_, fun i hi => ?_, fun j i hj hi => ?_⟩
  · rw [e 0 (by omega) (by omega)]; exact g1.1
  · rw [r1]; exact vp_in_nI (by omega) (by decide)
  · rw [e 9 (by omega) (by omega)]; exact g1.2.2.1
  · by_cases c : i < n - 1
    · have s1 := e0 i 1 c (by decide)
      simp only [Nat.reduceAdd] at s1
      rw [s1]
      exact g1.2.2.2 _ (by have := sh i c; omega)
    · rw [e (68 + 5 * i) (by omega) (by omega)]; exact g1.2.2.2 i hi
  · rw [e 2 (by omega) (by omega)]; exact g2
  · rw [e 3 (by omega) (by omega)]; exact g3
  · rw [e 4 (by omega) (by omega)]; exact g4
  · rw [e 5 (by omega) (by omega)]; exact g5
  · rw [e 0 (by omega) (by omega)] at ht'
    rw [e _ (by omega) (by omega), e _ (by omega) (by omega), e _ (by omega) (by omega), e _ (by omega) (by omega)]
    exact g6 t' ht'
  · rw [c1] at hi
    have q := g7 _ (by rw [hcn]; exact sh i hi)
    have s0 := e0 i 0 hi (by decide)
    have s1 := e0 i 1 hi (by decide)
    have s2 := e0 i 2 hi (by decide)
    have s3 := e0 i 3 hi (by decide)
    have s4 := e0 i 4 hi (by decide)
    simp only [Nat.reduceAdd] at s0 s1 s2 s3 s4
    rw [s0, s1, s2, s3, s4, e 5 (by omega) (by omega), e 0 (by omega) (by omega), e 2 (by omega) (by omega)]
    exact q
  · rw [c1] at hi
    have s0 := e0 i 0 hi (by decide)
    have t0 := e0 j 0 (by omega) (by decide)
    simp only [Nat.reduceAdd] at s0 t0
    rw [s0, t0]
    refine g8 _ _ ?_ (by rw [hcn]; exact sh i hi)
    split <;> split <;> omega
theorem remAt_out {μ : Mm} {o : Nat} {i : Int32} {p : Nat} (hp : p < o ∨ o + 13 ≤ p) : O_removeAt μ o i p = μ p := by
  have e : ∀ j, O_remRows μ o j p = μ p := fun j => by
    funext x
    rw [remRows_at, if_neg (by omega)]
  unfold O_removeAt
  split
  · rfl
  · split
    · rw [up2_k _ _ (by omega), e]
    · rfl
theorem wr_unit {μ : Mm} {a k : Nat} {f : Nat → Int32} {b : Int32} (h : REL μ a f) (g : RWk f) (hk : k < cn (f 1)) : REL (up2 μ (a + 26) k b) a (ch f (70 + 5 * k) b) := by
  have c1 := vp_cn g.1
  have c2 := vp_cn g.2.1
  have c3 := vp_cn g.2.2.1
  obtain ⟨h1, h2, h3, h4⟩ := h
  have m : ∀ q i, ¬ (q = a + 26 ∧ i = k) → up2 μ (a + 26) k b q i = μ q i := fun q i hq => up2_n hq
  have e : ∀ i, i ≠ 70 + 5 * k → ch f (70 + 5 * k) b i = f i := fun i hi => ch_n hi
  refine ⟨⟨?_, ?_, ?_, ?_, ?_, ?_, ?_, ?_, ?_, ?_, ?_⟩, fun t ht w hw => ?_, fun j hj => ?_, fun i hi w hw => ?_⟩
  · rw [m _ _ (by omega), e _ (by omega)]; exact h1.1
  · rw [m _ _ (by omega), e _ (by omega)]; exact h1.2.1
  · rw [m _ _ (by omega), e _ (by omega)]; exact h1.2.2.1
  · rw [m _ _ (by omega), e _ (by omega)]; exact h1.2.2.2.1
  · rw [m _ _ (by omega), e _ (by omega)]; exact h1.2.2.2.2.1
  · rw [m _ _ (by omega), e _ (by omega)]; exact h1.2.2.2.2.2.1
  · rw [m _ _ (by omega), e _ (by omega)]; exact h1.2.2.2.2.2.2.1
  · rw [m _ _ (by omega), e _ (by omega)]; exact h1.2.2.2.2.2.2.2.1
  · rw [m _ _ (by omega), e _ (by omega)]; exact h1.2.2.2.2.2.2.2.2.1
  · rw [m _ _ (by omega), e _ (by omega)]; exact h1.2.2.2.2.2.2.2.2.2.1
  · rw [m _ _ (by omega), e _ (by omega)]; exact h1.2.2.2.2.2.2.2.2.2.2
  · rw [e 0 (by omega)] at ht
    rw [m _ _ (by omega), e _ (by omega)]
    exact h2 t ht w hw
  · rw [e 1 (by omega)] at hj
    have q := h3 j hj
    have hw := g.2.2.2 j hj
    rw [m (a + 18) _ (by omega), m (a + 20) _ (by omega), m (a + 24) _ (by omega), m (a + 28) _ (by omega), m (a + 22) _ (by omega), e (67 + 5 * j) (by omega), e (68 + 5 * j) (by omega), e (69 + 5 * j) (by omega), e (71 + 5 * j) (by omega), e (11 + 7 * cn (f (68 + 5 * j))) (by omega)]
    by_cases c : j = k
    · subst c
      refine ⟨q.1, q.2.1, q.2.2.1, ?_, q.2.2.2.2⟩
      rw [up2_y ⟨rfl, rfl⟩]
      exact (ch_y _ _ _).symm
    · rw [m (a + 26) _ (by omega), e (70 + 5 * j) (by omega)]
      exact q
  · rw [e 9 (by omega)] at hi
    rw [m _ _ (by omega), e _ (by omega)]
    exact h4 i hi w hw
theorem rg_unit {k N R : Nat} {f : Nat → Int32} {b : Int32} (g : RNG N R f) (hk : k < cn (f 1)) (hb : vp_in b 10 ∧ b ≠ 0) : RNG N R (ch f (70 + 5 * k) b) := by
  have hc := g.c0
  have e : ∀ i, i ≠ 70 + 5 * k → ch f (70 + 5 * k) b i = f i := fun i hi => ch_n hi
  obtain ⟨g1, g2, g3, g4, g5, g6, g7, g8⟩ := g
  refine ⟨⟨?_, ?_, ?_, fun j hj => ?_⟩, ?_, ?_, ?_, ?_, fun t ht => ?_, fun j hj => ?_, fun i j hi hj => ?_⟩
  · rw [e 0 (by omega)]; exact g1.1
  · rw [e 1 (by omega)]; exact g1.2.1
  · rw [e 9 (by omega)]; exact g1.2.2.1
  · rw [e _ (by omega)]; exact g1.2.2.2 j hj
  · rw [e 2 (by omega)]; exact g2
  · rw [e 3 (by omega)]; exact g3
  · rw [e 4 (by omega)]; exact g4
  · rw [e 5 (by omega)]; exact g5
  · rw [e 0 (by omega)] at ht
    rw [e _ (by omega), e _ (by omega), e _ (by omega), e _ (by omega)]; exact g6 t ht
  · rw [e 1 (by omega)] at hj
    have q := g7 j hj
    rw [e (67 + 5 * j) (by omega), e (68 + 5 * j) (by omega), e (69 + 5 * j) (by omega), e (71 + 5 * j) (by omega), e 5 (by omega), e 0 (by omega), e 2 (by omega)]
    by_cases c : j = k
    · subst c
      rw [ch_y]
      exact ⟨q.1, q.2.1, q.2.2.1, hb, q.2.2.2.2⟩
    · rw [e (70 + 5 * j) (by omega)]
      exact q
  · rw [e 1 (by omega)] at hj
    rw [e _ (by omega), e _ (by omega)]; exact g8 i j hi hj
/-- units less what was taken, of the first c -/
def sb (F : Nat → Nat) (r : Nat → Int32) : Nat → Nat → Int32
  | 0 => r
  | c + 1 => ch (sb F r c) (70 + 5 * c) (r (70 + 5 * c) - nI (F c))
theorem sb_n {F : Nat → Nat} {r : Nat → Int32} {i : Nat} : ∀ {c : Nat}, (∀ k, k < c → i ≠ 70 + 5 * k) → sb F r c i = r i
  | 0, _ => rfl
  | c + 1, h => by
    show ch (sb F r c) (70 + 5 * c) _ i = r i
    rw [ch_n (h c (by omega))]
    exact sb_n fun k hk => h k (by omega)
theorem sb_y {F : Nat → Nat} {r : Nat → Int32} {k : Nat} : ∀ {c : Nat}, k < c → sb F r c (70 + 5 * k) = r (70 + 5 * k) - nI (F k)
  | 0, h => absurd h (Nat.not_lt_zero k)
  | c + 1, h => by
    show ch (sb F r c) (70 + 5 * c) _ (70 + 5 * k) = _
    by_cases e : k = c
    · subst e; exact ch_y _ _ _
    · rw [ch_n (by omega)]
      exact sb_y (by omega)
theorem sb_ext {F : Nat → Nat} {r g : Nat → Int32} {c : Nat} (h1 : ∀ k, k < c → g (70 + 5 * k) = r (70 + 5 * k) - nI (F k)) (h2 : ∀ i, (∀ k, k < c → i ≠ 70 + 5 * k) → g i = r i) : g = sb F r c := by
  funext i
  by_cases c' : ∃ k, k < c ∧ i = 70 + 5 * k
  · obtain ⟨k, hk, rfl⟩ := c'
    rw [h1 k hk, sb_y hk]
  · have h3 : ∀ k, k < c → i ≠ 70 + 5 * k := fun k hk z => c' ⟨k, hk, z⟩
    rw [h2 i h3, sb_n h3]
theorem sb_ch {F : Nat → Nat} {r : Nat → Int32} {c : Nat} {v : Int32} : ch (sb F r c) (70 + 5 * c) v = sb F (ch r (70 + 5 * c) v) c := by
  refine sb_ext (fun k hk => ?_) fun i hi => ?_
  · rw [ch_n (by omega), sb_y hk, ch_n (by omega)]
  · by_cases e : i = 70 + 5 * c
    · rw [e, ch_y, ch_y]
    · rw [ch_n e, ch_n e, sb_n hi]
theorem sb_rm {F : Nat → Nat} {r : Nat → Int32} {c n : Nat} : rmr n c (sb F r c) = sb F (rmr n c r) c := by
  refine sb_ext (fun k hk => ?_) fun i hi => ?_
  · unfold rmr
    rw [if_neg (by omega), if_neg (by omega), sb_y hk, if_neg (by omega), if_neg (by omega)]
  · unfold rmr
    split
    · rfl
    · split
      · exact sb_n fun k hk => by omega
      · exact sb_n hi
theorem RWk_sb {F : Nat → Nat} {r : Nat → Int32} {c : Nat} (g : RWk r) : RWk (sb F r c) := by
  have e : ∀ i, i < 67 ∨ i % 5 = 3 → sb F r c i = r i := fun i hi => sb_n fun k hk => by omega
  obtain ⟨g1, g2, g3, g4⟩ := g
  refine ⟨by rw [e 0 (by omega)]; exact g1, by rw [e 1 (by omega)]; exact g2, by rw [e 9 (by omega)]; exact g3, fun k hk => ?_⟩
  rw [e 1 (by omega)] at hk
  rw [e 0 (by omega), e (68 + 5 * k) (by omega)]
  exact g4 k hk
theorem F_all {μ : Mm} {f : Nat → Int32} {F : Nat → Nat} {a : Nat} (h : REL μ a f) (g : RWk f) (ha : a + 40 ≤ 81) (hF : ∀ k, k < cn (f 1) → μ 83 k = nI (F k)) : ∀ c, c ≤ cn (f 1) → REL (itr (F_step a) μ c) a (sb F f c) ∧ ∀ p, p ≠ a + 26 → itr (F_step a) μ c p = μ p
  | 0, _ => ⟨h, fun p _ => rfl⟩
  | c + 1, hc => by
    have c2 := vp_cn g.2.1
    obtain ⟨i1, i2⟩ := F_all h g ha hF c (by omega)
    have es : itr (F_step a) μ (c + 1) = F_step a c (itr (F_step a) μ c) := rfl
    rw [es]
    generalize itr (F_step a) μ c = s at i1 i2
    have c1 : c < cn (sb F f c 1) := by rw [sb_n fun k hk => by omega]; exact hc
    have eu : s (a + 26) c = f (70 + 5 * c) := by
      have := (i1.2.2.1 c c1).2.2.2.1
      rw [this, sb_n fun k hk => by omega]
    have eF : F_step a c s = up2 s (a + 26) c (f (70 + 5 * c) - nI (F c)) := by
      unfold F_step
      rw [R_get_nI (by omega) (by decide), i2 83 (by omega), hF c hc, R_add_nI (by omega) (by decide)]
      show up2 s (a + 26) c (s (a + 26) c + -nI (F c)) = _
      rw [eu, ← Int32.sub_eq_add_neg]
    rw [eF]
    exact ⟨wr_unit i1 (RWk_sb g) c1, fun p hp => (up2_k _ _ hp).trans (i2 p hp)⟩
/-- the empty ones are taken out on both sides -/
theorem EM_at {F : Nat → Nat} {a N R : Nat} (ha : a + 40 ≤ 81) : ∀ c (μ κ : Mm), c ≤ cn (κ 260 1) → REL μ a (sb F (κ 260) c) → RNG N R (κ 260) → (∀ k, k < c → κ 264 k = nI (F k) ∧ F k ≤ nU (κ 260) k) →
    REL (O_reL (a + 16) c μ) a (EM c κ 260) ∧ RNG N R (EM c κ 260) ∧ (∀ p, p < a ∨ a + 40 ≤ p → O_reL (a + 16) c μ p = μ p) ∧ (∀ p, p ≠ 260 → EM c κ p = κ p)
  | 0, μ, κ, _, h, g, _ => ⟨h, g, fun p _ => rfl, fun p _ => rfl⟩
  | c + 1, μ, κ, hc, h, g, hF => by
    have hcc := g.c0
    obtain ⟨n, hn2, e1⟩ : ∃ n, n ≤ 20 ∧ κ 260 1 = nI n := ⟨_, hcc.2.1, (vp_of2 g.1.2.1 (by decide)).1⟩
    have hcn : cn (κ 260 1) = n := by rw [e1, cn_nI (by omega)]
    obtain ⟨F1, F2⟩ := hF c (by omega)
    obtain ⟨u1, u2, u3⟩ := of_U g (k := c) (by omega)
    have uf : κ 260 (70 + 5 * c) = nI (nU (κ 260) c) := by
      rw [show (3 : Int32) = nI 3 from rfl, M_o_nI (by omega) (by decide), show 67 + 5 * c + 3 = 70 + 5 * c by omega] at u1
      exact u1
    obtain ⟨v, hv⟩ : ∃ v, v = nU (κ 260) c - F c := ⟨_, rfl⟩
    have vI : κ 260 (70 + 5 * c) - nI (F c) = nI v := by rw [uf, nI_subN F2, hv]
    have hset : EM_set c κ 260 = ch (κ 260) (70 + 5 * c) (nI v) := by
      unfold EM_set
      rw [u1, F1, nI_subN F2, ← hv]
      exact (setO_ch (w := 3) (by omega) (by decide)).trans (by rw [show 67 + 5 * c + 3 = 70 + 5 * c by omega])
    have hsp : ∀ p, p ≠ 260 → EM_set c κ p = κ p := fun p hp => up2_k _ _ hp
    have hme : M_o (EM_set c κ) (nI c) 3 = nI v := by
      rw [show (3 : Int32) = nI 3 from rfl, M_o_nI (by omega) (by decide), hset, show 67 + 5 * c + 3 = 70 + 5 * c by omega, ch_y]
    have hsb : sb F (κ 260) (c + 1) = ch (sb F (κ 260) c) (70 + 5 * c) (nI v) := by
      show ch (sb F (κ 260) c) (70 + 5 * c) (κ 260 (70 + 5 * c) - nI (F c)) = _
      rw [vI]
    have h1n : sb F (κ 260) (c + 1) 1 = nI n := by rw [sb_n fun k hk => by omega]; exact e1
    have hcl : R_get μ (a + 16 + 9) 20 (nI c) = nI v := by
      rw [R_get_nI (by omega) (by decide)]
      refine (h.2.2.1 c (by rw [h1n, cn_nI (by omega)]; omega)).2.2.2.1.trans ?_
      rw [hsb, ch_y]
    have eO : O_reL (a + 16) (c + 1) μ = O_reL (a + 16) c (if nI v = 0 then O_removeAt μ (a + 16) (nI c) else μ) := by
      rw [← hcl]
      rfl
    have eE : EM (c + 1) κ = EM c (if nI v = 0 then M_removes (EM_set c κ) (nI c) else EM_set c κ) := by
      rw [← hme]
      rfl
    rw [eO, eE]
    by_cases cv : v = 0
    · rw [if_pos (show nI v = 0 by rw [cv]; rfl), if_pos (show nI v = 0 by rw [cv]; rfl)]
      have es1 : EM_set c κ 260 1 = nI n := by rw [hset, ch_n (by omega)]; exact e1
      have erow : M_removes (EM_set c κ) (nI c) 260 = rmr n c (ch (κ 260) (70 + 5 * c) (nI v)) := by
        funext i
        rw [removes_row (EM_set c κ) hn2 (by omega) es1 i, hset]
        rfl
      have hR := rem_R h (RWk_sb g.W) h1n hn2 (by omega : c < n)
      rw [hsb, sb_ch, sb_rm, ← erow] at hR
      have hr1 : M_removes (EM_set c κ) (nI c) 260 1 = nI (n - 1) := by rw [erow]; exact if_pos rfl
      have hGr : RNG N R (M_removes (EM_set c κ) (nI c) 260) := by
        rw [erow]
        refine (rem_G g e1 hn2 (by omega : c < n)).lv (fun i hi => ?_) fun k hk => ?_
        · have hi2 : i ≠ 70 + 5 * (n - 1) ∨ 1 ≤ n - 1 - c := by
            by_cases z : i = 70 + 5 * (n - 1)
            · right
              unfold LV at hi
              have q0 : rmr n c (κ 260) 0 = κ 260 0 := by unfold rmr; rw [if_neg (by omega), if_neg (by omega)]
              have q1 : cn (rmr n c (κ 260) 1) = n - 1 := by
                show cn (nI (n - 1)) = _
                rw [cn_nI (by omega)]
              have q9 : rmr n c (κ 260) 9 = κ 260 9 := by unfold rmr; rw [if_neg (by omega), if_neg (by omega)]
              rw [q0, q1, q9] at hi
              omega
            · exact Or.inl z
          unfold rmr
          split
          · rfl
          · split
            · rw [ch_n (by omega)]
            · rw [ch_n (by omega)]
        · unfold rmr
          rw [if_neg (by omega)]
          split
          · rw [ch_n (by omega)]
            have := g.1.2.2.2 (k + 1) (by omega)
            rw [show 68 + 5 * k + 5 = 68 + 5 * (k + 1) by omega]
            exact this
          · rw [ch_n (by omega)]
            exact g.1.2.2.2 k hk
      have I := EM_at ha c (O_removeAt μ (a + 16) (nI c)) (M_removes (EM_set c κ) (nI c)) (by rw [hr1, cn_nI (by omega)]; omega) hR hGr (fun k hk => by
        obtain ⟨q1, q2⟩ := hF k (by omega)
        refine ⟨by rw [removes_ne (by decide), hsp 264 (by decide)]; exact q1, ?_⟩
        have : nU (M_removes (EM_set c κ) (nI c) 260) k = nU (κ 260) k := by
          unfold nU
          rw [erow]
          unfold rmr
          rw [if_neg (by omega), if_neg (by omega), ch_n (by omega)]
        rw [this]; exact q2)
      exact ⟨I.1, I.2.1, fun p hp => (I.2.2.1 p hp).trans (remAt_out (by omega)), fun p hp => (I.2.2.2 p hp).trans ((removes_ne hp).trans (hsp p hp))⟩
    · rw [if_neg (nI_n0 cv (by omega)), if_neg (nI_n0 cv (by omega))]
      rw [hsb, sb_ch, ← hset] at h
      have hG2 : RNG N R (EM_set c κ 260) := by
        rw [hset]
        exact rg_unit g (by omega) ⟨vp_in_nI (by omega) (by decide), nI_n0 cv (by omega)⟩
      have I := EM_at ha c μ (EM_set c κ) (by rw [hset, ch_n (by omega)]; omega) h hG2 (fun k hk => by
        obtain ⟨q1, q2⟩ := hF k (by omega)
        refine ⟨by rw [hsp 264 (by decide)]; exact q1, ?_⟩
        have : nU (EM_set c κ 260) k = nU (κ 260) k := by
          unfold nU
          rw [hset, ch_n (by omega)]
        rw [this]; exact q2)
      exact ⟨I.1, I.2.1, I.2.2.1, fun p hp => (I.2.2.2 p hp).trans (hsp p hp)⟩
end
