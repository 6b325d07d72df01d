noncomputable section
/-! the range of prices that trade the most -/
def dD (f : Nat → Int32) (p : Nat) : Nat := sN (fun k => if nS f k = 0 ∧ p ≤ nP f k then nU f k else 0) (cn (f 1))
def dY (f : Nat → Int32) (p : Nat) : Nat := sN (fun k => if nS f k = 1 ∧ nP f k ≤ p then nU f k else 0) (cn (f 1))
def wn (f : Nat → Int32) (sd p n : Nat) : Nat := sN (fun k => if nS f k = sd ∧ nP f k = p then nU f k else 0) n
def volN (f : Nat → Int32) (p : Nat) : Nat := min (dD f p) (dY f p)
theorem nU_le {N R k : Nat} {f : Nat → Int32} (g : RNG N R f) (hk : k < cn (f 1)) : nU f k ≤ 9 := by
  have := vp_cn (g.2.2.2.2.2.2.1 k hk).2.2.2.1.1
  unfold nU
  omega
theorem dD_bd {N R p : Nat} {f : Nat → Int32} (g : RNG N R f) : dD f p ≤ 180 ∧ dY f p ≤ 180 := by
  have hc := g.c0
  have h1 : dD f p ≤ 9 * cn (f 1) := sN_bd fun k hk => by
    have := nU_le g hk
    split <;> omega
  have h2 : dY f p ≤ 9 * cn (f 1) := sN_bd fun k hk => by
    have := nU_le g hk
    split <;> omega
  omega
theorem wn_bd {N R p sd : Nat} {f : Nat → Int32} (g : RNG N R f) {n : Nat} (hn : n ≤ cn (f 1)) : wn f sd p n ≤ 180 := by
  have hc := g.c0
  have h1 : wn f sd p n ≤ 9 * n := sN_bd fun k hk => by
    have := nU_le g (k := k) (by omega)
    split <;> omega
  omega
theorem unitsAt0 {ν : Mm} {N R p : Nat} (g : RNG N R (ν 260)) (hp : p < 1000) : M_unitsAt ν 0 (nI p) = nI (dD (ν 260) p) := by
  unfold M_unitsAt dD
  rw [← sumI_nI]
  refine sumI_congr fun k hk => ?_
  obtain ⟨s1, s2⟩ := of_S g hk
  obtain ⟨p1, p2, p3⟩ := of_P g hk
  obtain ⟨u1, u2, u3⟩ := of_U g hk
  unfold M_isGood
  rw [s1, p1, u1, show (0 : Int32) = nI 0 from rfl]
  by_cases c : nS (ν 260) k = 0
  · rw [c, if_pos rfl, if_pos rfl]
    by_cases d : p ≤ nP (ν 260) k
    · rw [if_neg (show ¬ nI (nP (ν 260) k) < nI p from fun z => by have := (nI_lt_iff (by omega) (by omega)).mp z; omega), if_neg (show ¬ (1 : Int32) = nI 0 by decide), if_pos ⟨rfl, d⟩]
    · rw [if_pos (show nI (nP (ν 260) k) < nI p from (nI_lt_iff (by omega) (by omega)).mpr (by omega)), if_pos rfl, if_neg (fun z => d z.2)]
  · rw [if_neg (fun z => c ((nI_inj (by omega) (by omega)).mp z)), if_neg (fun z => c z.1)]
theorem unitsAt1 {ν : Mm} {N R p : Nat} (g : RNG N R (ν 260)) (hp : p < 1000) : M_unitsAt ν 1 (nI p) = nI (dY (ν 260) p) := by
  unfold M_unitsAt dY
  rw [← sumI_nI]
  refine sumI_congr fun k hk => ?_
  obtain ⟨s1, s2⟩ := of_S g hk
  obtain ⟨p1, p2, p3⟩ := of_P g hk
  obtain ⟨u1, u2, u3⟩ := of_U g hk
  unfold M_isGood
  rw [s1, p1, u1, show (0 : Int32) = nI 0 from rfl, show (1 : Int32) = nI 1 from rfl]
  by_cases c : nS (ν 260) k = 1
  · rw [c, if_pos rfl, if_neg (show ¬ nI 1 = nI 0 by decide)]
    by_cases d : nP (ν 260) k ≤ p
    · rw [if_neg (show ¬ nI p < nI (nP (ν 260) k) from fun z => by have := (nI_lt_iff (by omega) (by omega)).mp z; omega), if_neg (show ¬ nI 1 = nI 0 by decide), if_pos ⟨rfl, d⟩]
    · rw [if_pos (show nI p < nI (nP (ν 260) k) from (nI_lt_iff (by omega) (by omega)).mpr (by omega)), if_pos rfl, if_neg (fun z => d z.2)]
  · rw [if_neg (fun z => c ((nI_inj (by omega) (by omega)).mp z)), if_neg (fun z => c z.1)]
theorem lsI_nI {a b : Nat} (ha : a < 2 ^ 31) (hb : b < 2 ^ 31) : lsI (nI a) (nI b) = nI (min a b) := by
  unfold lsI
  by_cases c : a < b
  · rw [if_pos ((nI_lt_iff ha hb).mpr c), Nat.min_eq_left (by omega)]
  · rw [if_neg (fun z => c ((nI_lt_iff ha hb).mp z)), Nat.min_eq_right (by omega)]
theorem mnI_nI {a b : Nat} (ha : a < 2 ^ 31) (hb : b < 2 ^ 31) : mnI (nI a) (nI b) = nI (min a b) := by rw [mn_ls, lsI_nI ha hb]
theorem volAt {ν : Mm} {N R p : Nat} (g : RNG N R (ν 260)) (hp : p < 1000) : M_volumeAt ν (nI p) = nI (volN (ν 260) p) := by
  have := dD_bd (p := p) g
  unfold M_volumeAt
  rw [unitsAt0 g hp, unitsAt1 g hp, lsI_nI (by omega) (by omega)]
  rfl
/-- most, lowest, highest -/
def gs (f : Nat → Int32) (k : Nat) (s : Int32 × Int32 × Int32) : Int32 × Int32 × Int32 :=
  (if s.1 < nI (volN f (k + 1)) then nI (volN f (k + 1)) else s.1, if s.1 < nI (volN f (k + 1)) then nI (k + 1) else s.2.1,
   if 0 < nI (volN f (k + 1)) then (if nI (volN f (k + 1)) = (if s.1 < nI (volN f (k + 1)) then nI (volN f (k + 1)) else s.1) then nI (k + 1) else s.2.2) else s.2.2)
def gsR (f : Nat → Int32) (k : Nat) : Int32 × Int32 × Int32 := itr (gs f) (0, -10000, -10000) k
theorem gsR_s (f : Nat → Int32) (k : Nat) : gsR f (k + 1) = gs f k (gsR f k) := rfl
theorem FI_at {ν : Mm} {N R : Nat} (g : RNG N R (ν 260)) : ∀ k, k < 900 → FI_run ν k 259 7 = (gsR (ν 260) k).1 ∧ FI_run ν k 259 4 = (gsR (ν 260) k).2.1 ∧ FI_run ν k 259 5 = (gsR (ν 260) k).2.2 ∧ ∀ i, i ≠ 7 → i ≠ 4 → i ≠ 5 → FI_run ν k 259 i = ν 259 i
  | 0, _ => by
    refine ⟨?_, ?_, ?_, fun i h1 h2 h3 => ?_⟩
    · show up2 (up2 (up2 ν 259 7 0) 259 4 (-10000)) 259 5 (-10000) 259 7 = 0
      rw [up2_n (by decide), up2_n (by decide), up2_y ⟨rfl, rfl⟩]
    · show up2 (up2 (up2 ν 259 7 0) 259 4 (-10000)) 259 5 (-10000) 259 4 = -10000
      rw [up2_n (by decide), up2_y ⟨rfl, rfl⟩]
    · show up2 (up2 (up2 ν 259 7 0) 259 4 (-10000)) 259 5 (-10000) 259 5 = -10000
      rw [up2_y ⟨rfl, rfl⟩]
    · show up2 (up2 (up2 ν 259 7 0) 259 4 (-10000)) 259 5 (-10000) 259 i = _
      rw [up2_n (fun z => h3 z.2), up2_n (fun z => h2 z.2), up2_n (fun z => h1 z.2)]
  | k + 1, hk => by
    obtain ⟨h7, h4, h5, ho⟩ := FI_at g k (by omega)
    have h260 := FI_260 ν k
    rw [FI_run_s, gsR_s]
    generalize FI_run ν k = κ at h7 h4 h5 ho h260
    generalize gsR (ν 260) k = s at h7 h4 h5
    have hv : M_volumeAt κ (nI (k + 1)) = nI (volN (ν 260) (k + 1)) := by
      have := volAt (ν := κ) (N := N) (R := R) (p := k + 1) (by rw [h260]; exact g) (by omega)
      rw [this, h260]
    unfold FI_step gs
    rw [hv, h7]
    generalize nI (volN (ν 260) (k + 1)) = v
    simp only []
    by_cases c : s.1 < v
    · simp only [if_pos c]
      refine ⟨?_, ?_, ?_, fun i h1 h2 h3 => ?_⟩
      · rw [up2_n (by omega), up2_n (by omega), up2_y ⟨rfl, rfl⟩]
      · rw [up2_n (by omega), up2_y ⟨rfl, rfl⟩]
      · rw [up2_y ⟨rfl, rfl⟩, up2_n (by omega), up2_y ⟨rfl, rfl⟩, up2_n (by omega), up2_n (by omega), h5]
        try simp
      · rw [up2_n (fun z => h3 z.2), up2_n (fun z => h2 z.2), up2_n (fun z => h1 z.2)]
        exact ho i h1 h2 h3
    · simp only [if_neg c]
      refine ⟨?_, ?_, ?_, fun i h1 h2 h3 => ?_⟩
      · rw [up2_n (by omega)]; exact h7
      · rw [up2_n (by omega)]; exact h4
      · rw [up2_y ⟨rfl, rfl⟩, h7, h5]
      · rw [up2_n (fun z => h3 z.2)]
        exact ho i h1 h2 h3
theorem dD_0 {N R : Nat} {ν : Mm} (g : RNG N R (ν 260)) : dD (ν 260) 0 = sN (fun k => if nS (ν 260) k = 0 then nU (ν 260) k else 0) (cn (ν 260 1)) := by
  refine sN_congr fun k hk => ?_
  by_cases c : nS (ν 260) k = 0
  · rw [if_pos ⟨c, Nat.zero_le _⟩, if_pos c]
  · rw [if_neg (fun z => c z.1), if_neg c]
theorem dY_0 {N R : Nat} {ν : Mm} (g : RNG N R (ν 260)) : dY (ν 260) 0 = 0 := by
  refine sN_zero fun k hk => ?_
  obtain ⟨p1, p2, p3⟩ := of_P g hk
  exact if_neg (fun z => by have := z.2; omega)
theorem dD_s (f : Nat → Int32) (p : Nat) : dD f p = dD f (p + 1) + wn f 0 p (cn (f 1)) := by
  unfold dD wn
  rw [← sN_add]
  refine sN_congr fun k hk => ?_
  by_cases c : nS f k = 0
  · by_cases d : nP f k = p
    · rw [if_pos ⟨c, by omega⟩, if_neg (by omega), if_pos ⟨c, d⟩, Nat.zero_add]
    · rw [if_neg (c := nS f k = 0 ∧ nP f k = p) (fun z => d z.2), Nat.add_zero]
      by_cases e : p ≤ nP f k
      · rw [if_pos ⟨c, e⟩, if_pos ⟨c, by omega⟩]
      · rw [if_neg (fun z => e z.2), if_neg (fun z => by have := z.2; omega)]
  · rw [if_neg (fun z => c z.1), if_neg (fun z => c z.1), if_neg (fun z => c z.1)]
theorem dY_s (f : Nat → Int32) (p : Nat) : dY f (p + 1) = dY f p + wn f 1 (p + 1) (cn (f 1)) := by
  unfold dY wn
  rw [← sN_add]
  refine sN_congr fun k hk => ?_
  by_cases c : nS f k = 1
  · by_cases d : nP f k = p + 1
    · rw [if_pos ⟨c, by omega⟩, if_neg (by omega), if_pos ⟨c, d⟩, Nat.zero_add]
    · rw [if_neg (c := nS f k = 1 ∧ nP f k = p + 1) (fun z => d z.2), Nat.add_zero]
      by_cases e : nP f k ≤ p
      · rw [if_pos ⟨c, by omega⟩, if_pos ⟨c, by omega⟩]
        try rfl
      · rw [if_neg (fun z => by have := z.2; omega), if_neg (fun z => by have := z.2; omega)]
        try rfl
  · rw [if_neg (fun z => c z.1), if_neg (fun z => c z.1), if_neg (fun z => c z.1)]
theorem dD_anti (f : Nat → Int32) {p q : Nat} (h : p ≤ q) : dD f q ≤ dD f p := by
  refine sN_le fun k hk => ?_
  split
  · rename_i c
    rw [if_pos ⟨c.1, by omega⟩]
    exact Nat.le_refl _
  · exact Nat.zero_le _
theorem dY_mono (f : Nat → Int32) {p q : Nat} (h : p ≤ q) : dY f p ≤ dY f q := by
  refine sN_le fun k hk => ?_
  split
  · rename_i c
    rw [if_pos ⟨c.1, by omega⟩]
    exact Nat.le_refl _
  · exact Nat.zero_le _
/-- units wanted and offered at each price, by the class -/
theorem tally_at {μ ν : Mm} {a N R : Nat} (h : REL μ a (ν 260)) (g : RNG N R (ν 260)) (ha : a + 40 ≤ 81) : ∀ k, k ≤ cn (ν 260 1) →
    (∀ p, p < 121 → (itr (P_step (a + 16)) (R_zero (R_zero μ 88 121) 90 121, 0) k).1 89 p = nI (wn (ν 260) 0 p k) ∧ (itr (P_step (a + 16)) (R_zero (R_zero μ 88 121) 90 121, 0) k).1 91 p = nI (wn (ν 260) 1 p k)) ∧
    (itr (P_step (a + 16)) (R_zero (R_zero μ 88 121) 90 121, 0) k).2 = nI (sN (fun j => if nS (ν 260) j = 0 then nU (ν 260) j else 0) k) ∧
    ∀ p, p ≠ 89 → p ≠ 91 → (itr (P_step (a + 16)) (R_zero (R_zero μ 88 121) 90 121, 0) k).1 p = μ p
  | 0, _ => by
    refine ⟨fun p hp => ⟨?_, ?_⟩, rfl, fun p h1 h2 => ?_⟩
    · show R_zero (R_zero μ 88 121) 90 121 89 p = 0
      unfold R_zero
      rw [if_neg (by omega), if_pos ⟨rfl, hp⟩]
    · show R_zero (R_zero μ 88 121) 90 121 91 p = 0
      unfold R_zero
      rw [if_pos ⟨rfl, hp⟩]
    · show R_zero (R_zero μ 88 121) 90 121 p = μ p
      funext i
      unfold R_zero
      rw [if_neg (by omega), if_neg (by omega)]
  | k + 1, hk => by
    have hc := g.c0
    obtain ⟨h1, h2, h3⟩ := tally_at h g ha k (by omega)
    show (∀ p, p < 121 → (P_step (a + 16) k (itr (P_step (a + 16)) (R_zero (R_zero μ 88 121) 90 121, 0) k)).1 89 p = nI (wn (ν 260) 0 p (k + 1)) ∧ (P_step (a + 16) k (itr (P_step (a + 16)) (R_zero (R_zero μ 88 121) 90 121, 0) k)).1 91 p = nI (wn (ν 260) 1 p (k + 1))) ∧ (P_step (a + 16) k (itr (P_step (a + 16)) (R_zero (R_zero μ 88 121) 90 121, 0) k)).2 = nI (sN (fun j => if nS (ν 260) j = 0 then nU (ν 260) j else 0) (k + 1)) ∧ ∀ p, p ≠ 89 → p ≠ 91 → (P_step (a + 16) k (itr (P_step (a + 16)) (R_zero (R_zero μ 88 121) 90 121, 0) k)).1 p = μ p
    generalize itr (P_step (a + 16)) (R_zero (R_zero μ 88 121) 90 121, 0) k = s at h1 h2 h3
    have hs : REL s.1 a (ν 260) := h.of fun p p1 p2 => h3 p (by omega) (by omega)
    obtain ⟨s1, s2⟩ := of_S g (k := k) (by omega)
    obtain ⟨p1, p2, p3⟩ := of_P g (k := k) (by omega)
    obtain ⟨u1, u2, u3⟩ := of_U g (k := k) (by omega)
    have e1 : R_get s.1 (a + 16 + 5) 20 (nI k) = nI (nS (ν 260) k) := by rw [rd_sd hs g (by omega), s1]
    have e2 : R_get s.1 (a + 16 + 7) 20 (nI k) = nI (nP (ν 260) k) := by rw [rd_pr hs g (by omega), p1]
    have e3 : R_get s.1 (a + 16 + 9) 20 (nI k) = nI (nU (ν 260) k) := by rw [rd_un hs g (by omega), u1]
    have w : ∀ sd p, wn (ν 260) sd p (k + 1) = wn (ν 260) sd p k + if nS (ν 260) k = sd ∧ nP (ν 260) k = p then nU (ν 260) k else 0 := fun _ _ => rfl
    have w2 : sN (fun j => if nS (ν 260) j = 0 then nU (ν 260) j else 0) (k + 1) = sN (fun j => if nS (ν 260) j = 0 then nU (ν 260) j else 0) k + if nS (ν 260) k = 0 then nU (ν 260) k else 0 := rfl
    by_cases c : nS (ν 260) k = 0
    · have ea : R_add s.1 88 121 (nI (nP (ν 260) k)) (nI (nU (ν 260) k)) = up2 s.1 89 (nP (ν 260) k) (nI (wn (ν 260) 0 (nP (ν 260) k) k + nU (ν 260) k)) := by
        rw [R_add_nI (by omega) (by decide), (h1 _ (by omega)).1, nI_add]
      have hp : P_step (a + 16) k s = (up2 s.1 89 (nP (ν 260) k) (nI (wn (ν 260) 0 (nP (ν 260) k) k + nU (ν 260) k)), s.2 + nI (nU (ν 260) k)) := by
        unfold P_step
        rw [if_pos (by rw [e1, c]; rfl), e2, e3, ea]
        have e4 : R_get (up2 s.1 89 (nP (ν 260) k) (nI (wn (ν 260) 0 (nP (ν 260) k) k + nU (ν 260) k))) (a + 16 + 9) 20 (nI k) = nI (nU (ν 260) k) := by
          rw [← e3]
          unfold R_get
          rw [up2_k _ _ (by omega)]
        rw [e4]
      rw [hp]
      refine ⟨fun p hp => ⟨?_, ?_⟩, ?_, fun p q1 q2 => ?_⟩
      · rw [w]
        by_cases d : nP (ν 260) k = p
        · rw [if_pos ⟨c, d⟩, ← d]; exact up2_s _ _ _ _
        · rw [if_neg (fun z => d z.2), Nat.add_zero]
          exact (up2_n (fun z => d z.2.symm)).trans (h1 p hp).1
      · rw [w, if_neg (show ¬ (nS (ν 260) k = 1 ∧ nP (ν 260) k = p) from fun z => by omega), Nat.add_zero]
        show up2 s.1 89 (nP (ν 260) k) (nI (wn (ν 260) 0 (nP (ν 260) k) k + nU (ν 260) k)) 91 p = _
        rw [up2_k _ _ (show 91 ≠ 89 by decide)]
        exact (h1 p hp).2
      · rw [w2, if_pos c]
        show s.2 + _ = _
        rw [h2, nI_add]
      · exact (up2_k _ _ q1).trans (h3 p q1 q2)
    · have ea : R_add s.1 90 121 (nI (nP (ν 260) k)) (nI (nU (ν 260) k)) = up2 s.1 91 (nP (ν 260) k) (nI (wn (ν 260) 1 (nP (ν 260) k) k + nU (ν 260) k)) := by
        rw [R_add_nI (by omega) (by decide), (h1 _ (by omega)).2, nI_add]
      have hp : P_step (a + 16) k s = (up2 s.1 91 (nP (ν 260) k) (nI (wn (ν 260) 1 (nP (ν 260) k) k + nU (ν 260) k)), s.2) := by
        unfold P_step
        rw [if_neg (fun z => c (by rw [e1] at z; exact (nI_inj (by omega) (by omega)).mp z)), e2, e3, ea]
      rw [hp]
      refine ⟨fun p hp => ⟨?_, ?_⟩, ?_, fun p q1 q2 => ?_⟩
      · rw [w, if_neg (fun z => c z.1), Nat.add_zero]
        show up2 s.1 91 (nP (ν 260) k) (nI (wn (ν 260) 1 (nP (ν 260) k) k + nU (ν 260) k)) 89 p = _
        rw [up2_k _ _ (show 89 ≠ 91 by decide)]
        exact (h1 p hp).1
      · rw [w]
        by_cases d : nP (ν 260) k = p
        · rw [if_pos ⟨by omega, d⟩, ← d]; exact up2_s _ _ _ _
        · rw [if_neg (fun z => d z.2), Nat.add_zero]
          exact (up2_n (fun z => d z.2.symm)).trans (h1 p hp).2
      · rw [w2, if_neg c, Nat.add_zero]
        exact h2
      · exact (up2_k _ _ q2).trans (h3 p q1 q2)
theorem range_at {μ ν : Mm} {a N R : Nat} (h : REL μ a (ν 260)) (g : RNG N R (ν 260)) (ha : a + 40 ≤ 81) : ∀ k, k ≤ 120 →
    (C_rangeS μ (a + 16) k).1 81 3 = (gsR (ν 260) k).1 ∧ (C_rangeS μ (a + 16) k).1 81 0 = (gsR (ν 260) k).2.1 ∧ (C_rangeS μ (a + 16) k).1 81 1 = (gsR (ν 260) k).2.2 ∧
    (C_rangeS μ (a + 16) k).2.1 = nI (dD (ν 260) k) ∧ (C_rangeS μ (a + 16) k).2.2 = nI (dY (ν 260) k) ∧
    (∀ i, i ≠ 0 → i ≠ 1 → i ≠ 3 → (C_rangeS μ (a + 16) k).1 81 i = μ 81 i) ∧ (∀ p, p ≠ 81 → p ≠ 89 → p ≠ 91 → (C_rangeS μ (a + 16) k).1 p = μ p) ∧
    (∀ p, p < 121 → (C_rangeS μ (a + 16) k).1 89 p = nI (wn (ν 260) 0 p (cn (ν 260 1))) ∧ (C_rangeS μ (a + 16) k).1 91 p = nI (wn (ν 260) 1 p (cn (ν 260 1))))
  | 0, _ => by
    have t := tally_at h g ha (cn (ν 260 1)) (Nat.le_refl _)
    have e0 : C_rangeS μ (a + 16) 0 = (up2 (up2 (up2 (C_tally μ (a + 16)).1 81 3 0) 81 0 (-10000)) 81 1 (-10000), (C_tally μ (a + 16)).2, 0) := rfl
    have e1 : C_tally μ (a + 16) = itr (P_step (a + 16)) (R_zero (R_zero μ 88 121) 90 121, 0) (cn (ν 260 1)) := by unfold C_tally; rw [rd_n1 h]
    rw [e0, e1]
    obtain ⟨t1, t2, t3⟩ := t
    generalize itr (P_step (a + 16)) (R_zero (R_zero μ 88 121) 90 121, 0) (cn (ν 260 1)) = s at t1 t2 t3
    refine ⟨?_, ?_, ?_, ?_, ?_, fun i h0 h1 h3 => ?_, fun p q1 q2 q3 => ?_, fun p hp => ⟨?_, ?_⟩⟩
    · show up2 (up2 (up2 s.1 81 3 0) 81 0 (-10000)) 81 1 (-10000) 81 3 = 0
      rw [up2_n (by decide), up2_n (by decide), up2_y ⟨rfl, rfl⟩]
    · show up2 (up2 (up2 s.1 81 3 0) 81 0 (-10000)) 81 1 (-10000) 81 0 = -10000
      rw [up2_n (by decide), up2_y ⟨rfl, rfl⟩]
    · show up2 (up2 (up2 s.1 81 3 0) 81 0 (-10000)) 81 1 (-10000) 81 1 = -10000
      exact up2_s _ _ _ _
    · rw [dD_0 g]; exact t2
    · rw [dY_0 g]; rfl
    · show up2 (up2 (up2 s.1 81 3 0) 81 0 (-10000)) 81 1 (-10000) 81 i = _
      rw [up2_n (fun z => h1 z.2), up2_n (fun z => h0 z.2), up2_n (fun z => h3 z.2), t3 81 (by decide) (by decide)]
    · show up2 (up2 (up2 s.1 81 3 0) 81 0 (-10000)) 81 1 (-10000) p = _
      rw [up2_k _ _ q1, up2_k _ _ q1, up2_k _ _ q1]
      exact t3 p q2 q3
    · show up2 (up2 (up2 s.1 81 3 0) 81 0 (-10000)) 81 1 (-10000) 89 p = _
      rw [up2_k _ _ (by decide), up2_k _ _ (by decide), up2_k _ _ (by decide)]
      exact (t1 p hp).1
    · show up2 (up2 (up2 s.1 81 3 0) 81 0 (-10000)) 81 1 (-10000) 91 p = _
      rw [up2_k _ _ (by decide), up2_k _ _ (by decide), up2_k _ _ (by decide)]
      exact (t1 p hp).2
  | k + 1, hk => by
    obtain ⟨h3, h0, h1, hd, hy, ho, hp, ht⟩ := range_at h g ha k (by omega)
    rw [C_rangeS_s, gsR_s]
    generalize C_rangeS μ (a + 16) k = s at h3 h0 h1 hd hy ho hp ht
    generalize gsR (ν 260) k = r at h3 h0 h1
    have b1 := dD_bd (p := k + 1) g
    have ed : s.2.1 - R_get s.1 88 121 (nI (k + 1) - 1) = nI (dD (ν 260) (k + 1)) := by
      rw [show nI (k + 1) - 1 = nI k from by rw [← nI_1, Int32.add_sub_cancel], R_get_nI (by omega) (by decide), (ht k (by omega)).1, hd, dD_s, ← nI_add, Int32.add_sub_cancel]
    have ey : s.2.2 + R_get s.1 90 121 (nI (k + 1)) = nI (dY (ν 260) (k + 1)) := by
      rw [R_get_nI (by omega) (by decide), (ht (k + 1) (by omega)).2, hy, dY_s, nI_add]
    have ev : mnI (nI (dD (ν 260) (k + 1))) (nI (dY (ν 260) (k + 1))) = nI (volN (ν 260) (k + 1)) := mnI_nI (by omega) (by omega)
    unfold G_step gs
    rw [ed, ey]
    dsimp only
    rw [ev, h3]
    generalize nI (volN (ν 260) (k + 1)) = v
    try simp only []
    have fin : ∀ (κ : Mm) (w : Int32), κ 81 3 = w → (if v = κ 81 3 then if 0 < κ 81 3 then up2 κ 81 1 (nI (k + 1)) else κ else κ) 81 1 = (if 0 < v then (if v = w then nI (k + 1) else κ 81 1) else κ 81 1) := fun κ w hw => by
      rw [hw]
      by_cases c1 : v = w
      · subst c1
        rw [if_pos rfl]
        by_cases c2 : 0 < v
        · rw [if_pos c2, if_pos c2, if_pos rfl, up2_y ⟨rfl, rfl⟩]
        · rw [if_neg c2, if_neg c2]
      · rw [if_neg c1, if_neg c1]
        split <;> rfl
    have fin2 : ∀ (κ : Mm) (p i : Nat), ¬ (p = 81 ∧ i = 1) → (if v = κ 81 3 then if 0 < κ 81 3 then up2 κ 81 1 (nI (k + 1)) else κ else κ) p i = κ p i := fun κ p i hpi => by
      split
      · split
        · exact up2_n hpi
        · rfl
      · rfl
    by_cases c : r.1 < v
    · simp only [if_pos c]
      have k3 : up2 (up2 s.1 81 3 v) 81 0 (nI (k + 1)) 81 3 = v := by rw [up2_n (by decide), up2_y ⟨rfl, rfl⟩]
      refine ⟨?_, ?_, ?_, by trivial, by trivial, fun i i0 i1 i3 => ?_, fun p q1 q2 q3 => ?_, fun p hp2 => ⟨?_, ?_⟩⟩
      · rw [fin2 _ _ _ (by omega)]; exact k3
      · rw [fin2 _ _ _ (by omega), up2_y ⟨rfl, rfl⟩]
      · rw [fin _ v k3, up2_n (by decide), up2_n (by decide), h1]
        try simp
      · rw [fin2 _ _ _ (by omega), up2_n (fun z => i0 z.2), up2_n (fun z => i3 z.2)]; exact ho i i0 i1 i3
      · funext i
        rw [fin2 _ _ _ (by omega), up2_n (by omega), up2_n (by omega), hp p q1 q2 q3]
      · rw [fin2 _ _ _ (by omega), up2_n (by omega), up2_n (by omega)]; exact (ht p hp2).1
      · rw [fin2 _ _ _ (by omega), up2_n (by omega), up2_n (by omega)]; exact (ht p hp2).2
    · simp only [if_neg c]
      refine ⟨?_, ?_, ?_, by trivial, by trivial, fun i i0 i1 i3 => ?_, fun p q1 q2 q3 => ?_, fun p hp2 => ⟨?_, ?_⟩⟩
      · rw [fin2 _ _ _ (by omega)]; exact h3
      · rw [fin2 _ _ _ (by omega)]; exact h0
      · rw [fin _ r.1 h3, h1]
      · rw [fin2 _ _ _ (by omega)]; exact ho i i0 i1 i3
      · funext i
        rw [fin2 _ _ _ (by omega), hp p q1 q2 q3]
      · rw [fin2 _ _ _ (by omega)]; exact (ht p hp2).1
      · rw [fin2 _ _ _ (by omega)]; exact (ht p hp2).2
/-- what the search finds -/
theorem gsR_at {N R : Nat} {f : Nat → Int32} (g : RNG N R f) : ∀ k, k ≤ 120 → ∃ V lo hi, V ≤ 180 ∧ (gsR f k).1 = nI V ∧ (V = 0 → (gsR f k).2.1 = -10000 ∧ (gsR f k).2.2 = -10000) ∧
    (0 < V → (gsR f k).2.1 = nI lo ∧ (gsR f k).2.2 = nI hi ∧ 1 ≤ lo ∧ lo ≤ hi ∧ hi ≤ k ∧ volN f lo = V ∧ volN f hi = V)
  | 0, _ => ⟨0, 0, 0, by decide, rfl, fun _ => ⟨rfl, rfl⟩, fun h => absurd h (Nat.not_lt_zero 0)⟩
  | k + 1, hk => by
    obtain ⟨V, lo, hi, h1, h2, h3, h4⟩ := gsR_at g k (by omega)
    have b1 := dD_bd (p := k + 1) g
    have b2 : volN f (k + 1) ≤ 180 := by unfold volN; omega
    rw [gsR_s]
    generalize gsR f k = s at h2 h3 h4
    generalize hv : volN f (k + 1) = v at b2
    unfold gs
    rw [hv, h2]
    simp only []
    by_cases c : V < v
    · rw [if_pos ((nI_lt_iff (by omega) (by omega)).mpr c), if_pos ((nI_lt_iff (by omega) (by omega)).mpr c), if_pos (show (0 : Int32) < nI v from (nI_lt_iff (a := 0) (by omega) (by omega)).mpr (by omega)), if_pos rfl]
      exact ⟨v, k + 1, k + 1, b2, rfl, fun z => by omega, fun _ => ⟨rfl, rfl, by omega, Nat.le_refl _, Nat.le_refl _, hv, hv⟩⟩
    · rw [if_neg (fun z => c ((nI_lt_iff (by omega) (by omega)).mp z)), if_neg (fun z => c ((nI_lt_iff (by omega) (by omega)).mp z))]
      by_cases c0 : v = 0
      · rw [if_neg (show ¬ (0 : Int32) < nI v from fun z => by have := (nI_lt_iff (a := 0) (by omega) (by omega)).mp z; omega)]
        refine ⟨V, lo, hi, h1, rfl, h3, fun z => ?_⟩
        obtain ⟨q1, q2, q3, q4, q5, q6⟩ := h4 z
        exact ⟨q1, q2, q3, q4, by omega, q6⟩
      · rw [if_pos (show (0 : Int32) < nI v from (nI_lt_iff (a := 0) (by omega) (by omega)).mpr (by omega))]
        by_cases d : v = V
        · rw [if_pos (by rw [d])]
          refine ⟨V, lo, k + 1, h1, rfl, fun z => by omega, fun z => ?_⟩
          obtain ⟨q1, q2, q3, q4, q5, q6, q7⟩ := h4 z
          exact ⟨q1, rfl, q3, by omega, Nat.le_refl _, q6, by rw [hv]; exact d⟩
        · rw [if_neg (fun z => d ((nI_inj (by omega) (by omega)).mp z))]
          refine ⟨V, lo, hi, h1, rfl, h3, fun z => ?_⟩
          obtain ⟨q1, q2, q3, q4, q5, q6⟩ := h4 z
          exact ⟨q1, q2, q3, q4, by omega, q6⟩
end
