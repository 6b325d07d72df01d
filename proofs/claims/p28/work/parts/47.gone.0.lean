noncomputable section
/-! which orders are left after rounds -/
def SubO (f' f : Nat → Int32) : Prop := ∀ k : Nat, k < cn (f' 1) → ∃ j : Nat, j < cn (f 1) ∧ f' (67 + 5 * k) = f (67 + 5 * j) ∧ f' (71 + 5 * k) = f (71 + 5 * j)
theorem SubO.rf (f : Nat → Int32) : SubO f f := fun k hk => ⟨k, hk, rfl, rfl⟩
theorem SubO.tr {f g h : Nat → Int32} (h1 : SubO f g) (h2 : SubO g h) : SubO f h := fun k hk => by
  obtain ⟨j, hj, e1, e2⟩ := h1 k hk
  obtain ⟨i, hi, e3, e4⟩ := h2 j hj
  exact ⟨i, hi, e1.trans e3, e2.trans e4⟩
theorem SubO.of {f' f : Nat → Int32} (h1 : f' 1 = f 1) (h : ∀ k : Nat, k < cn (f 1) → f' (67 + 5 * k) = f (67 + 5 * k) ∧ f' (71 + 5 * k) = f (71 + 5 * k)) : SubO f' f := fun k hk => by
  rw [h1] at hk
  exact ⟨k, hk, (h k hk).1, (h k hk).2⟩
theorem rmr_sub {f : Nat → Int32} {n k : Nat} (hn : n ≤ 20) (hk : k < n) (e : f 1 = nI n) : SubO (rmr n k f) f := fun j hj => by
  have q : rmr n k f 1 = nI (n - 1) := if_pos rfl
  rw [q, cn_nI (by omega)] at hj
  have r0 : ∀ i, 67 ≤ i → rmr n k f i = if 67 + 5 * k ≤ i ∧ i < 62 + 5 * n then f (i + 5) else f i := fun i hi => by rw [rmr_at, if_neg (by omega)]
  rw [r0 (67 + 5 * j) (by omega), r0 (71 + 5 * j) (by omega), e, cn_nI (by omega)]
  by_cases c : k ≤ j
  · refine ⟨j + 1, by omega, ?_, ?_⟩
    · rw [if_pos (show 67 + 5 * k ≤ 67 + 5 * j ∧ 67 + 5 * j < 62 + 5 * n by omega), show 67 + 5 * j + 5 = 67 + 5 * (j + 1) by omega]
    · rw [if_pos (show 67 + 5 * k ≤ 71 + 5 * j ∧ 71 + 5 * j < 62 + 5 * n by omega), show 71 + 5 * j + 5 = 71 + 5 * (j + 1) by omega]
  · refine ⟨j, by omega, ?_, ?_⟩
    · rw [if_neg (show ¬ (67 + 5 * k ≤ 67 + 5 * j ∧ 67 + 5 * j < 62 + 5 * n) by omega)]
    · rw [if_neg (show ¬ (67 + 5 * k ≤ 71 + 5 * j ∧ 71 + 5 * j < 62 + 5 * n) by omega)]
theorem removes_rmr {κ : Mm} {n c : Nat} (hn : n ≤ 20) (hc : c < n) (e : κ 260 1 = nI n) : M_removes κ (nI c) 260 = rmr n c (κ 260) := funext fun i => by rw [removes_row κ hn hc e i]; rfl
theorem EM_sub : ∀ c n (κ : Mm), n ≤ 20 → κ 260 1 = nI n → c ≤ n → SubO (EM c κ 260) (κ 260) ∧ (∀ i, i < 67 → i ≠ 1 → EM c κ 260 i = κ 260 i) ∧ ∃ m, m ≤ n ∧ EM c κ 260 1 = nI m
  | 0, n, κ, _, e, _ => ⟨SubO.rf _, fun i _ _ => rfl, n, Nat.le_refl _, e⟩
  | c + 1, n, κ, hn, e, hc => by
    have hset : EM_set c κ 260 = ch (κ 260) (70 + 5 * c) (M_o κ (nI c) 3 - κ 264 c) := by
      unfold EM_set
      exact (setO_ch (w := 3) (by omega) (by decide)).trans (by rw [show 67 + 5 * c + 3 = 70 + 5 * c by omega])
    have s1 : EM_set c κ 260 1 = nI n := by rw [hset, ch_n (by omega)]; exact e
    have sub1 : SubO (EM_set c κ 260) (κ 260) := by
      rw [hset]
      exact SubO.of (ch_n (by omega)) fun k hk => ⟨ch_n (by omega), ch_n (by omega)⟩
    have lo1 : ∀ i, i < 67 → EM_set c κ 260 i = κ 260 i := fun i hi => by rw [hset, ch_n (by omega)]
    show SubO (EM c (if M_o (EM_set c κ) (nI c) 3 = 0 then M_removes (EM_set c κ) (nI c) else EM_set c κ) 260) (κ 260) ∧ (∀ i, i < 67 → i ≠ 1 → EM c (if M_o (EM_set c κ) (nI c) 3 = 0 then M_removes (EM_set c κ) (nI c) else EM_set c κ) 260 i = κ 260 i) ∧ ∃ m, m ≤ n ∧ EM c (if M_o (EM_set c κ) (nI c) 3 = 0 then M_removes (EM_set c κ) (nI c) else EM_set c κ) 260 1 = nI m
    by_cases cv : M_o (EM_set c κ) (nI c) 3 = 0
    · rw [if_pos cv]
      have er := removes_rmr hn (by omega : c < n) s1
      obtain ⟨i1, i2, m, i3, i4⟩ := EM_sub c (n - 1) (M_removes (EM_set c κ) (nI c)) (by omega) (by rw [er]; exact if_pos rfl) (by omega)
      refine ⟨i1.tr ?_, fun i hi h1 => (i2 i hi h1).trans ?_, m, by omega, i4⟩
      · rw [er]
        exact (rmr_sub hn (by omega) s1).tr sub1
      · rw [er, rmr_at, if_neg h1, if_neg (by omega)]
        exact lo1 i hi
    · rw [if_neg cv]
      obtain ⟨i1, i2, i3⟩ := EM_sub c n (EM_set c κ) hn s1 (by omega)
      exact ⟨i1.tr sub1, fun i hi h1 => (i2 i hi h1).trans (lo1 i hi), i3⟩
theorem EX_sub : ∀ c n (κ : Mm), n ≤ 20 → κ 260 1 = nI n → c ≤ n → (∀ k, c ≤ k → k < n → ¬ κ 260 (71 + 5 * k) + κ 260 4 ≤ κ 260 2) → SubO (EX c κ 260) (κ 260) ∧ (∀ i, i < 67 → i ≠ 1 → i ≠ 10 → EX c κ 260 i = κ 260 i) ∧ ∀ k, k < cn (EX c κ 260 1) → ¬ EX c κ 260 (71 + 5 * k) + κ 260 4 ≤ κ 260 2
  | 0, n, κ, hn, e, _, h => ⟨SubO.rf _, fun i _ _ _ => rfl, fun k hk => h k (Nat.zero_le _) (by
      have : cn (EX 0 κ 260 1) = n := by
        show cn (κ 260 1) = n
        rw [e, cn_nI (by omega)]
      omega)⟩
  | c + 1, n, κ, hn, e, hc, h => by
    have hm : M_o κ (nI c) 4 = κ 260 (71 + 5 * c) := by
      rw [show (4 : Int32) = nI 4 from rfl, M_o_nI (by omega) (by decide), show 67 + 5 * c + 4 = 71 + 5 * c by omega]
    have eE : EX (c + 1) κ = EX c (if κ 260 (71 + 5 * c) + κ 260 4 ≤ κ 260 2 then EX_rem c κ else κ) := by
      rw [← hm]
      rfl
    rw [eE]
    by_cases cv : κ 260 (71 + 5 * c) + κ 260 4 ≤ κ 260 2
    · rw [if_pos cv]
      have er := removes_rmr hn (by omega : c < n) e
      have erow : ∀ i, i ≠ 10 → EX_rem c κ 260 i = rmr n c (κ 260) i := fun i hi => by
        unfold EX_rem
        rw [up2_n (fun z => hi z.2), er]
      have lo : ∀ i, i < 67 → i ≠ 1 → i ≠ 10 → EX_rem c κ 260 i = κ 260 i := fun i hi h1 h2 => by rw [erow i h2, rmr_at, if_neg h1, if_neg (by omega)]
      have h1' : EX_rem c κ 260 1 = nI (n - 1) := by rw [erow 1 (by omega)]; exact if_pos rfl
      obtain ⟨i1, i2, i3⟩ := EX_sub c (n - 1) (EX_rem c κ) (by omega) h1' (by omega) (fun k k1 k2 => by
        rw [lo 4 (by omega) (by omega) (by omega), lo 2 (by omega) (by omega) (by omega), erow _ (by omega), rmr_at, if_neg (by omega), if_pos (by omega), show 71 + 5 * k + 5 = 71 + 5 * (k + 1) by omega]
        exact h (k + 1) (by omega) (by omega))
      rw [lo 4 (by omega) (by omega) (by omega), lo 2 (by omega) (by omega) (by omega)] at i3
      refine ⟨i1.tr (SubO.tr ?_ (rmr_sub hn (by omega : c < n) e)), fun i hi h2 h3 => (i2 i hi h2 h3).trans (lo i hi h2 h3), i3⟩
      exact SubO.of (erow 1 (by omega)) fun k _ => ⟨erow _ (by omega), erow _ (by omega)⟩
    · rw [if_neg cv]
      exact EX_sub c n κ hn e (by omega) fun k k1 k2 => by
        by_cases z : k = c
        · rw [z]; exact cv
        · exact h k (by omega) k2
theorem adds_lo {κ : Mm} {b s u : Int32} {c i : Nat} (h9 : κ 260 9 = nI c) (hc : c < 20) (hi : i < 9) : M_adds κ b s u 260 i = κ 260 i := by
  have ix : (167 : Int32) + 5 * κ 260 9 = nI (167 + 5 * c) := by rw [h9, show (167 : Int32) = nI 167 from rfl, show (5 : Int32) = nI 5 from rfl, nI_mul, nI_add]
  have i1 : (167 : Int32) + 5 * κ 260 9 + 1 = nI (168 + 5 * c) := by rw [ix, nI_1, show 167 + 5 * c + 1 = 168 + 5 * c by omega]
  have i2 : (167 : Int32) + 5 * κ 260 9 + 2 = nI (169 + 5 * c) := by rw [ix, show (2 : Int32) = nI 2 from rfl, nI_add, show 167 + 5 * c + 2 = 169 + 5 * c by omega]
  have i3 : (167 : Int32) + 5 * κ 260 9 + 3 = nI (170 + 5 * c) := by rw [ix, show (3 : Int32) = nI 3 from rfl, nI_add, show 167 + 5 * c + 3 = 170 + 5 * c by omega]
  have i4 : (167 : Int32) + 5 * κ 260 9 + 4 = nI (171 + 5 * c) := by rw [ix, show (4 : Int32) = nI 4 from rfl, nI_add, show 167 + 5 * c + 4 = 171 + 5 * c by omega]
  unfold M_adds
  try dsimp only
  rw [i1, i2, i3, i4, ix, cn_nI (by omega), cn_nI (by omega), cn_nI (by omega), cn_nI (by omega), cn_nI (by omega)]
  rw [up2_n (by omega), up2_n (by omega), up2_n (by omega), up2_n (by omega), up2_n (by omega), up2_n (by omega)]
theorem TR_lo {i : Nat} (hi : i < 9) : ∀ n (κ : Mm) l b s x y, TRok n κ l b s x y → TR n κ l b s x y 260 i = κ 260 i
  | 0, κ, l, b, s, x, y, _ => rfl
  | n + 1, κ, l, b, s, x, y, h => by
    show (if 0 < l then _ else κ) 260 i = κ 260 i
    by_cases c : 0 < l
    · rw [if_pos c]
      obtain ⟨h9, h2⟩ := h c
      obtain ⟨q, hq, eq⟩ := vp_nI h9 (by decide)
      rw [TR_lo hi n _ _ _ _ _ _ h2]
      exact adds_lo eq hq hi
    · rw [if_neg c]
theorem learns_lo {κ : Mm} {t i : Nat} (ht : t < 8) (hi : i < 11) : M_learns κ (nI t) 260 i = κ 260 i := by
  have st : ∀ v, M_setT κ (nI t) 3 v 260 = ch (κ 260) (11 + 7 * t + 3) v := fun v => setT_ch (w := 3) (by omega) (by decide)
  unfold M_learns
  split
  · split
    · rfl
    · rw [st, ch_n (by omega)]
  · rfl
theorem cl2_lo {ν : Mm} {i : Nat} (hi : i < 6) (hok : M_clok ν) : ∀ k, k ≤ 8 → M_cl2 ν k 260 i = ν 260 i
  | 0, _ => by
    show M_cl1 ν 260 i = _
    unfold M_cl1
    try dsimp only
    rw [up2_n (by omega), up2_n (by omega), up2_n (by omega)]
    unfold M_trades
    rw [TR_lo (by omega) _ _ _ _ _ _ _ hok, up2_n (by omega), M_finds_260]
  | k + 1, hk => by
    show M_learns (M_settles (M_cl2 ν k) (nI k)) (nI k) 260 i = _
    rw [learns_lo (by omega) (by omega), settles_row (by omega), ch_n (by omega), ch_n (by omega), ch_n (by omega)]
    exact cl2_lo hi hok k (by omega)
theorem clears_sub {μ ν : Mm} {a N R : Nat} (h : REL μ a (ν 260)) (g : RNG N R (ν 260)) (ha : a + 40 ≤ 81) : SubO ((M_clears ν).1 260) (ν 260) ∧ (M_clears ν).1 260 2 = ν 260 2 + 1 ∧ (M_clears ν).1 260 4 = ν 260 4 ∧ ∀ k, k < cn ((M_clears ν).1 260 1) → ¬ (M_clears ν).1 260 (71 + 5 * k) + ν 260 4 ≤ ν 260 2 + 1 := by
  have hc := g.c0
  have hok := (cl1_at h g ha).2
  obtain ⟨b1, b2, b3, -⟩ := E_all h g ha 0 (Nat.zero_le _)
  have n0c : cn (M_cl1 ν 260 0) = cn (ν 260 0) := congrArg cn b3.1.1
  obtain ⟨d1, d2, d3, -⟩ := E_all h g ha (cn (ν 260 0)) (Nat.le_refl _)
  obtain ⟨κE, hκE⟩ : ∃ m, m = M_cl2 ν (cn (ν 260 0)) := ⟨_, rfl⟩
  rw [← hκE] at d1 d2 d3
  have eclE : M_clE ν = κE := by unfold M_clE; rw [n0c, hκE]
  obtain ⟨n, hn2, e1⟩ : ∃ n, n ≤ 20 ∧ ν 260 1 = nI n := ⟨_, hc.2.1, (vp_of2 g.1.2.1 (by decide)).1⟩
  have hcn : cn (ν 260 1) = n := by rw [e1, cn_nI (by omega)]
  have E1 : κE 260 1 = nI n := d3.1.2.1.trans e1
  have subE : SubO (κE 260) (ν 260) := SubO.of d3.1.2.1 fun k hk => ⟨d3.1.2.2.1 _ (by omega) (by omega), d3.1.2.2.1 _ (by omega) (by omega)⟩
  have loE : ∀ i, i < 6 → κE 260 i = ν 260 i := fun i hi => by rw [hκE]; exact cl2_lo hi hok _ (by omega)
  have kf0 : M_fillK κE (cn (κE 260 1)) 260 = κE 260 := by funext i; unfold M_fillK; rw [if_neg (by omega)]
  obtain ⟨m1, m2, m, m3, m4⟩ := EM_sub (cn (κE 260 1)) n (M_fillK κE (cn (κE 260 1))) hn2 (by rw [kf0]; exact E1) (by rw [E1, cn_nI (by omega)]; exact Nat.le_refl _)
  rw [kf0] at m1 m2
  have eMe : M_empties κE = EM (cn (κE 260 1)) (M_fillK κE (cn (κE 260 1))) := rfl
  rw [← eMe] at m1 m2 m4
  obtain ⟨κ4, hκ4⟩ : ∃ z, z = M_cl3 ν := ⟨_, rfl⟩
  have row4 : κ4 260 = ch (M_empties κE 260) 2 (M_empties κE 260 2 + 1) := by rw [hκ4]; unfold M_cl3; rw [eclE, up2_ch]
  have sub4 : SubO (κ4 260) (ν 260) := by
    refine SubO.tr ?_ (m1.tr subE)
    rw [row4]
    exact SubO.of (ch_n (by omega)) fun k _ => ⟨ch_n (by omega), ch_n (by omega)⟩
  have f2 : κ4 260 2 = ν 260 2 + 1 := by rw [row4, ch_y, m2 2 (by omega) (by omega), loE 2 (by omega)]
  have f4 : κ4 260 4 = ν 260 4 := by rw [row4, ch_n (by omega), m2 4 (by omega) (by omega), loE 4 (by omega)]
  have f1 : κ4 260 1 = nI m := by rw [row4, ch_n (by omega)]; exact m4
  obtain ⟨x1, x2, x3⟩ := EX_sub (cn (κ4 260 1)) m κ4 (by omega) f1 (by rw [f1, cn_nI (by omega)]; exact Nat.le_refl _) (fun k k1 k2 => by rw [f1, cn_nI (by omega)] at k1; omega)
  have eM : (M_clears ν).1 = EX (cn (κ4 260 1)) κ4 := by unfold M_clears; rw [← hκ4]
  rw [eM]
  rw [f2, f4] at x3
  exact ⟨x1.tr sub4, (x2 2 (by omega) (by omega) (by omega)).trans f2, (x2 4 (by omega) (by omega) (by omega)).trans f4, x3⟩
theorem find_none {κ : Mm} {x : Int32} (h : ∀ k, k < cn (κ 260 1) → ¬ κ 260 (67 + 5 * k) = x) (hn : cn (κ 260 1) ≤ 20) : M_find κ x < 0 := by
  unfold M_find fstI
  rw [fst_none fun j hj => ?_]
  · decide
  · apply decide_eq_false
    rw [show (0 : Int32) = nI 0 from rfl, M_o_nI (by omega) (by decide)]
    exact h j hj
/-- the rounds played in the trial and by the reference -/
theorem gone_at {x : Int32} {N q0 l : Nat} (hN : N < 2 ^ 31) (hq : q0 ≤ 10000) (hl : l ≤ 9) : ∀ n j (μ ρ : Mm), n + j = 8 → REL μ 41 (ρ 260) → RNG N (q0 + j) (ρ 260) → ρ 260 2 = nI (q0 + j) → ρ 260 4 = nI l → (∀ k, k < cn (ρ 260 1) → ρ 260 (67 + 5 * k) = x → ∃ s, s ≤ q0 ∧ ρ 260 (71 + 5 * k) = nI s) → ¬ M_find ρ x < 0 →
    (GI x n μ (nI (j + 1))).2 = (GN x (n + 4) ρ (nI j)).2 ∧ GNok x (n + 4) ρ ∧ (∀ p, p < 41 ∨ 91 < p → (GI x n μ (nI (j + 1))).1 p = μ p) ∧ (∀ p, p ≠ 259 → p ≠ 260 → p ≠ 264 → (GN x (n + 4) ρ (nI j)).1 p = ρ p) ∧ ∀ i, i ≠ 4 → i ≠ 5 → i ≠ 6 → i ≠ 7 → (GN x (n + 4) ρ (nI j)).1 259 i = ρ 259 i := by
  intro n
  induction n with
  | zero =>
    intro j μ ρ hnj h g h2 h4 hx hf
    have hc := g.c0
    obtain ⟨c1, c2, c3, c4, c5, c6, c7⟩ := clears_at h g (by decide) (by omega)
    obtain ⟨s1, s2, s3, s4⟩ := clears_sub h g (by decide)
    have fo := (finds_at g).2.2.2.2
    have c7' : ∀ i, i ≠ 4 → i ≠ 5 → i ≠ 6 → i ≠ 7 → (M_clears ρ).1 259 i = ρ 259 i := fun i i4 i5 i6 i7 => (c7 i).trans (fo i i4 i5 i6 i7)
    have eGN : ∀ m, GN x (m + 1) ρ (nI j) = GN x m (M_clears ρ).1 (nI (j + 1)) := fun m => by
      rw [← nI_1]
      exact if_neg hf
    have hx' : ∀ k, k < cn ((M_clears ρ).1 260 1) → (M_clears ρ).1 260 (67 + 5 * k) = x → ∃ s, s ≤ q0 ∧ (M_clears ρ).1 260 (71 + 5 * k) = nI s := fun k hk e => by
      obtain ⟨i, hi, e1, e2⟩ := s1 k hk
      obtain ⟨s, hs, es⟩ := hx i hi (e1.symm.trans e)
      exact ⟨s, hs, e2.trans es⟩
    have ifind : O_indexOf (A_endM μ 41) (41 + 16) x = M_find (M_clears ρ).1 x := rd_find c1 c2 x
    have hj : j = 8 := by omega
    subst hj
    have hnone : M_find (M_clears ρ).1 x < 0 := by
      refine find_none (fun k hk e => ?_) c2.c0.2.1
      obtain ⟨s, hs, es⟩ := hx' k hk e
      refine s4 k hk ?_
      rw [es, h4, h2, nI_add, nI_1]
      exact (nI_le_iff (by omega) (by omega)).mpr (by omega)
    have e3 : GN x 4 ρ (nI 8) = ((M_clears ρ).1, nI 9) := by
      rw [eGN 3]
      exact if_pos hnone
    rw [e3]
    refine ⟨rfl, fun _ => ⟨c4, fun z => absurd hnone z⟩, fun p _ => rfl, c6, c7'⟩
  | succ n ih =>
    intro j μ ρ hnj h g h2 h4 hx hf
    have hc := g.c0
    obtain ⟨c1, c2, c3, c4, c5, c6, c7⟩ := clears_at h g (by decide) (by omega)
    obtain ⟨s1, s2, s3, s4⟩ := clears_sub h g (by decide)
    have fo := (finds_at g).2.2.2.2
    have c7' : ∀ i, i ≠ 4 → i ≠ 5 → i ≠ 6 → i ≠ 7 → (M_clears ρ).1 259 i = ρ 259 i := fun i i4 i5 i6 i7 => (c7 i).trans (fo i i4 i5 i6 i7)
    have eGN : ∀ m, GN x (m + 1) ρ (nI j) = GN x m (M_clears ρ).1 (nI (j + 1)) := fun m => by
      rw [← nI_1]
      exact if_neg hf
    have hx' : ∀ k, k < cn ((M_clears ρ).1 260 1) → (M_clears ρ).1 260 (67 + 5 * k) = x → ∃ s, s ≤ q0 ∧ (M_clears ρ).1 260 (71 + 5 * k) = nI s := fun k hk e => by
      obtain ⟨i, hi, e1, e2⟩ := s1 k hk
      obtain ⟨s, hs, es⟩ := hx i hi (e1.symm.trans e)
      exact ⟨s, hs, e2.trans es⟩
    have ifind : O_indexOf (A_endM μ 41) (41 + 16) x = M_find (M_clears ρ).1 x := rd_find c1 c2 x
    have eGI : GI x (n + 1) μ (nI (j + 1)) = if M_find (M_clears ρ).1 x < 0 then (A_endM μ 41, nI (j + 1)) else GI x n (A_endM μ 41) (nI (j + 1 + 1)) := by
      rw [← ifind, ← nI_1 (j + 1)]
      rfl
    have e4 : n + 1 + 4 = n + 4 + 1 := by omega
    rw [eGI, e4, eGN (n + 4)]
    by_cases c : M_find (M_clears ρ).1 x < 0
    · have e3 : GN x (n + 4) (M_clears ρ).1 (nI (j + 1)) = ((M_clears ρ).1, nI (j + 1)) := by
        rw [show n + 4 = n + 3 + 1 by omega]
        exact if_pos c
      rw [if_pos c, e3]
      refine ⟨rfl, fun _ => ⟨c4, ?_⟩, fun p hp => c5 p (by omega), c6, c7'⟩
      rw [show n + 4 = n + 3 + 1 by omega]
      exact fun z => absurd c z
    · rw [if_neg c]
      obtain ⟨i1, i2, i3, i4, i5⟩ := ih (j + 1) (A_endM μ 41) (M_clears ρ).1 (by omega) c1 (by rw [← Nat.add_assoc]; exact c2) (by rw [s2, h2, nI_1, Nat.add_assoc]) (s3.trans h4) hx' c
      exact ⟨i1, fun _ => ⟨c4, i2⟩, fun p hp => (i3 p hp).trans (c5 p (by omega)), fun p p1 p2 p3 => (i4 p p1 p2 p3).trans (c6 p p1 p2 p3), fun i q4 q5 q6 q7 => (i5 i q4 q5 q6 q7).trans (c7' i q4 q5 q6 q7)⟩
theorem UND.fn {N : Nat} {μ : Mm} {st : Int32} {K K' : Nat → Int32} (h : UND N μ st K) (he : ∀ i, i < 1068 → K' i = K i) : UND N μ st K' := by
  obtain ⟨c, o, h1, h2, h3, h4, h5, h6⟩ := h
  refine ⟨c, o, h1, h2, h3, h4, h5, fun j hj => ?_⟩
  have e : ∀ i, i < 267 → kp K' j i = kp K j i := fun i hi => he _ (by omega)
  exact ⟨(h6 j hj).1.fn (h6 j hj).2 e, (h6 j hj).2.fn e⟩
end
