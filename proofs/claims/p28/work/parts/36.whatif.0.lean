noncomputable section
/-! after a settled book -/
theorem set_ask {k : Nat} {μ μ1 : Mm} (h : INV k μ) (e : μ1 = C_settle μ 1) : MI μ1 ∧ REL μ1 1 (M_thr μ1 0 260) ∧ RNG (200 * k) 9999 (M_thr μ1 0 260) ∧ M_thr μ1 0 260 = μ 260 ∧ INV (k + 1) (M_finds (M_thr μ1 0)) ∧ (∀ p, p < 81 ∨ 91 < p → μ1 p = μ p) ∧
    (μ1 81 0 = M_finds (M_thr μ1 0) 259 4 ∧ μ1 81 1 = M_finds (M_thr μ1 0) 259 5 ∧ μ1 81 2 = M_finds (M_thr μ1 0) 259 6 ∧ μ1 81 3 = M_finds (M_thr μ1 0) 259 7 ∧ μ1 81 4 = M_surplusNow (M_finds (M_thr μ1 0))) ∧
    (∀ j, j < cn (μ 260 1) → μ1 83 j = nI (fN (μ 260) (VN (μ 260)) j)) ∧ (∀ j, j < cn (μ 260 1) → μ1 83 j = M_fillOf (M_finds (M_thr μ1 0)) (nI j)) ∧ (∀ i, i ≠ 4 → i ≠ 5 → i ≠ 6 → i ≠ 7 → M_finds (M_thr μ1 0) 259 i = M_thr μ1 0 259 i) := by
  have n0 := (settle_at h.1 h.2.1 (by decide)).1
  rw [← e] at n0
  have e0 : M_thr μ1 0 260 = μ 260 := by rw [thr_260, n0 260 (by omega)]
  have hR : REL μ 1 (M_thr μ1 0 260) := by rw [e0]; exact h.1
  have hG : RNG (200 * k) 9999 (M_thr μ1 0 260) := by rw [e0]; exact h.2.1
  obtain ⟨a1, a2, a3, a4, a5, a6, a7, -⟩ := settle_at hR hG (by decide)
  rw [← e] at a1 a2 a3 a4 a5 a6 a7
  rw [e0] at a7
  obtain ⟨-, -, -, -, fo⟩ := finds_at hG
  have tp : ∀ p, p ≠ 259 → M_finds (M_thr μ1 0) p = μ1 p := fun p hp => by
    unfold M_finds
    rw [up2_k _ _ hp, FI_ne hp]
    exact up2_k _ _ hp
  refine ⟨MI_of h.2.1.MI (n0 260 (by omega)), hR.of fun p p1 p2 => n0 p (by omega), hG, e0, ?_, n0, ⟨a2, a3, a4, a5, a6⟩, a7, fun j hj => ?_, fo⟩
  · refine (INV.mono k μ h).of (fun p hp => ?_) ?_ ?_
    · rw [tp p (by omega), n0 p (by omega)]
    · rw [fo 2 (by decide) (by decide) (by decide) (by decide), show M_thr μ1 0 259 2 = μ1 259 2 from up2_n (by decide), n0 259 (by omega)]
    · rw [fo 9 (by decide) (by decide) (by decide) (by decide), show M_thr μ1 0 259 9 = μ1 259 9 from up2_n (by decide), n0 259 (by omega)]
  · rw [a7 j hj, fill_at hG (by rw [e0]; exact hj), e0]
theorem sumI_mul (g : Nat → Int32) (G : Int32) : ∀ n, sumI (fun k => g k * G) n = sumI g n * G
  | 0 => (Int32.zero_mul).symm
  | n + 1 => by
    show sumI (fun k => g k * G) n + g n * G = (sumI g n + g n) * G
    rw [sumI_mul g G n, Int32.add_mul]
/-- a trader's gain, by the row alone -/
def gT (f : Nat → Int32) (t : Nat) (p : Int32) : Int32 := if f (11 + 7 * t) = 0 then f (12 + 7 * t) - p else p - f (12 + 7 * t)
def gF (f : Nat → Int32) (t : Nat) (p : Int32) : Int32 := sumI (fun k => if nT f k = t then nI (fN f (VN f) k) else 0) (cn (f 1)) * gT f t p
theorem gainC {μ ν : Mm} {a N R t : Nat} {pr : Int32} (h : REL μ a (ν 260)) (g : RNG N R (ν 260)) (ht : t < cn (ν 260 0)) (hf : ∀ k, k < cn (ν 260 1) → μ 83 k = nI (fN (ν 260) (VN (ν 260)) k)) : C_gainOf μ a (nI t) pr = gF (ν 260) t pr := by
  have hc := g.c0
  unfold C_gainOf gF
  have e1 : T_gain μ (a + 1) (nI t) pr = gT (ν 260) t pr := by
    have q0 : R_get μ (a + 1 + 1) 8 (nI t) = ν 260 (11 + 7 * t) := by
      have := rd_t h g ht (w := 0) (by decide)
      rw [M_t_nI (by omega) (by decide)] at this
      exact this
    have q1 : R_get μ (a + 1 + 3) 8 (nI t) = ν 260 (12 + 7 * t) := by
      have := rd_t h g ht (w := 1) (by decide)
      rw [M_t_nI (by omega) (by decide), show 11 + 7 * t + 1 = 12 + 7 * t by omega] at this
      exact this
    unfold T_gain gT
    rw [q0, q1]
  have e2 : C_takenOf μ (a + 16) (nI t) = sumI (fun k => if nT (ν 260) k = t then nI (fN (ν 260) (VN (ν 260)) k) else 0) (cn (ν 260 1)) := by
    unfold C_takenOf
    rw [rd_n1 h]
    refine sumI_congr fun k hk => ?_
    obtain ⟨t1, t2⟩ := of_T g hk
    rw [rd_who h g hk, t1, R_get_nI (by omega) (by decide), hf k hk]
    by_cases c : nT (ν 260) k = t
    · rw [c, if_pos rfl, if_pos rfl]
    · rw [if_neg (fun z => c ((nI_inj (by omega) (by omega)).mp z)), if_neg c]
  rw [e1, e2]
theorem gainM {κ : Mm} {N R t : Nat} (g : RNG N R (κ 260)) (ht : t < cn (κ 260 0)) : M_gainsOf (M_finds κ) (nI t) = gF (κ 260) t (prI (gsR (κ 260) 120) (κ 260 3)) := by
  have hc := g.c0
  have e := M_finds_260 κ
  have g' : RNG N R (M_finds κ 260) := by rw [e]; exact g
  obtain ⟨f7, f4, f5, f6, fo⟩ := finds_at g
  obtain ⟨v1, v2, v3⟩ := VN_at g g.2.2.1
  rw [gains_of g' (by omega), e]
  unfold gF
  rw [← sumI_mul]
  refine sumI_congr fun k hk => ?_
  by_cases c : nT (κ 260) k = t
  · rw [if_pos c, if_pos c]
    unfold xG
    rw [fill_at g hk, f7]
    by_cases c0 : VN (κ 260) = 0
    · unfold fN
      rw [c0, Nat.zero_sub, Nat.zero_min, show nI 0 = (0 : Int32) from rfl, Int32.zero_mul, Int32.zero_mul]
    · rw [if_neg (nI_n0 c0 (by omega))]
      congr 1
      have s1 : M_side (M_finds κ) (nI k) = κ 260 (11 + 7 * t) := by
        obtain ⟨t1, -⟩ := of_T g' (k := k) (by rw [e]; exact hk)
        rw [e, c] at t1
        unfold M_side
        rw [t1, show (0 : Int32) = nI 0 from rfl, M_t_nI (by omega) (by decide), e]
        rfl
      have s2 : M_val (M_finds κ) (nI k) = κ 260 (12 + 7 * t) := by
        obtain ⟨t1, -⟩ := of_T g' (k := k) (by rw [e]; exact hk)
        rw [e, c] at t1
        unfold M_val
        rw [t1, show (1 : Int32) = nI 1 from rfl, M_t_nI (by omega) (by decide), e, show 11 + 7 * t + 1 = 12 + 7 * t by omega]
      unfold M_gainOf gT
      rw [s1, s2, f6]
  · rw [if_neg c, if_neg c, Int32.zero_mul]
/-! rows that agree where they are live -/
theorem REL.lv {N R : Nat} {μ : Mm} {a : Nat} {f f' : Nat → Int32} (h : REL μ a f) (g : RNG N R f) (he : ∀ i, LV f i → f' i = f i) : REL μ a f' := by
  obtain ⟨h1, h2, h3, h4⟩ := h
  have e : ∀ i, i < 11 → f' i = f i := fun i hi => he i (Or.inl hi)
  refine ⟨?_, fun t ht w hw => ?_, fun k hk => ?_, fun i hi w hw => ?_⟩
  · rw [e 0 (by decide), e 1 (by decide), e 2 (by decide), e 3 (by decide), e 4 (by decide), e 5 (by decide), e 6 (by decide), e 7 (by decide), e 8 (by decide), e 9 (by decide), e 10 (by decide)]
    exact h1
  · rw [e 0 (by decide)] at ht
    rw [he (11 + 7 * t + w) (Or.inr (Or.inl (by omega)))]
    exact h2 t ht w hw
  · rw [e 1 (by decide)] at hk
    have hw := (g.2.2.2.2.2.2.1 k hk).2.1
    rw [he (67 + 5 * k) (Or.inr (Or.inr (Or.inl (by omega)))), he (68 + 5 * k) (Or.inr (Or.inr (Or.inl (by omega)))), he (69 + 5 * k) (Or.inr (Or.inr (Or.inl (by omega)))), he (70 + 5 * k) (Or.inr (Or.inr (Or.inl (by omega)))), he (71 + 5 * k) (Or.inr (Or.inr (Or.inl (by omega)))), he (11 + 7 * cn (f (68 + 5 * k))) (Or.inr (Or.inl (by omega)))]
    exact h3 k hk
  · rw [e 9 (by decide)] at hi
    rw [he (167 + 5 * i + w) (Or.inr (Or.inr (Or.inr (by omega))))]
    exact h4 i hi w hw
theorem RNG.lv {N R : Nat} {f f' : Nat → Int32} (g : RNG N R f) (he : ∀ i, LV f i → f' i = f i) (hw : ∀ k : Nat, k < 20 → vp_in (f' (68 + 5 * k)) 8) : RNG N R f' := by
  obtain ⟨h1, h2, h3, h4, h5, h6, h7, h8⟩ := g
  have e : ∀ i, i < 11 → f' i = f i := fun i hi => he i (Or.inl hi)
  refine ⟨⟨?_, ?_, ?_, hw⟩, ?_, ?_, ?_, ?_, fun t ht => ?_, fun k hk => ?_, fun j k hj hk => ?_⟩
  · rw [e 0 (by decide)]; exact h1.1
  · rw [e 1 (by decide)]; exact h1.2.1
  · rw [e 9 (by decide)]; exact h1.2.2.1
  · rw [e 2 (by decide)]; exact h2
  · rw [e 3 (by decide)]; exact h3
  · rw [e 4 (by decide)]; exact h4
  · rw [e 5 (by decide)]; exact h5
  · rw [e 0 (by decide)] at ht
    rw [he (11 + 7 * t) (Or.inr (Or.inl (by omega))), he (12 + 7 * t) (Or.inr (Or.inl (by omega))), he (13 + 7 * t) (Or.inr (Or.inl (by omega))), he (14 + 7 * t) (Or.inr (Or.inl (by omega)))]
    exact h6 t ht
  · rw [e 1 (by decide)] at hk
    rw [he (67 + 5 * k) (Or.inr (Or.inr (Or.inl (by omega)))), he (68 + 5 * k) (Or.inr (Or.inr (Or.inl (by omega)))), he (69 + 5 * k) (Or.inr (Or.inr (Or.inl (by omega)))), he (70 + 5 * k) (Or.inr (Or.inr (Or.inl (by omega)))), he (71 + 5 * k) (Or.inr (Or.inr (Or.inl (by omega)))), e 5 (by decide), e 0 (by decide), e 2 (by decide)]
    exact h7 k hk
  · rw [e 1 (by decide)] at hk
    rw [he (67 + 5 * j) (Or.inr (Or.inr (Or.inl (by omega)))), he (67 + 5 * k) (Or.inr (Or.inr (Or.inl (by omega))))]
    exact h8 j k hj hk
/-- the order placed for a question and taken away again -/
theorem gainM_row {ν : Mm} {N R t : Nat} {p : Int32} (g : RNG N R (ν 260)) (hN : N + 1 < 2 ^ 31) (hn : cn (ν 260 1) < 20) (ht : t < cn (ν 260 0)) : (∀ i, ¬ (67 + 5 * cn (ν 260 1) ≤ i ∧ i < 72 + 5 * cn (ν 260 1)) → M_gainM ν (nI t) p 260 i = ν 260 i) ∧ M_gainM ν (nI t) p 260 (68 + 5 * cn (ν 260 1)) = nI t ∧ (∀ q, q ≠ 259 → q ≠ 260 → M_gainM ν (nI t) p q = ν q) ∧ (∀ i, i ≠ 4 → i ≠ 5 → i ≠ 6 → i ≠ 7 → M_gainM ν (nI t) p 259 i = ν 259 i) := by
  obtain ⟨n, hn2, e1⟩ : ∃ n, n < 20 ∧ ν 260 1 = nI n := ⟨_, hn, (vp_of2 g.1.2.1 (by decide)).1⟩
  obtain ⟨q, hpN, e5⟩ := g.2.2.2.2.1
  have hcn : cn (ν 260 1) = n := by rw [e1, cn_nI (by omega)]
  have hr := places_row ν (t := t) p 1 hn2 e1 e5
  have hg : M_gainM ν (nI t) p = up2 (up2 (M_finds (M_placesM ν (nI t) p 1)) 260 1 (nI n)) 260 5 (nI q) := by
    unfold M_gainM
    dsimp only
    rw [M_finds_260, hr, if_pos rfl, up2_n (by decide), M_finds_260, hr, if_neg (by decide), if_pos rfl, ← nI_1, ← nI_1, Int32.add_sub_cancel, Int32.add_sub_cancel]
  have hpl : cn (M_placesM ν (nI t) p 1 260 0) = cn (ν 260 0) := by rw [hr, if_neg (by omega), if_neg (by omega), if_neg (by omega), if_neg (by omega), if_neg (by omega), if_neg (by omega), if_neg (by omega)]
  rw [hg, hcn]
  have tp : ∀ p', p' ≠ 259 → M_finds (M_placesM ν (nI t) p 1) p' = M_placesM ν (nI t) p 1 p' := fun p' hp => by
    unfold M_finds
    rw [up2_k _ _ hp, FI_ne hp]
  refine ⟨fun i hi => ?_, ?_, fun p' h1 h2 => ?_, fun i h1 h2 h3 h4 => ?_⟩
  · by_cases c5 : i = 5
    · subst c5; rw [up2_y ⟨rfl, rfl⟩, e5]
    · rw [up2_n (fun z => c5 z.2)]
      by_cases c1 : i = 1
      · subst c1; rw [up2_y ⟨rfl, rfl⟩, e1]
      · rw [up2_n (fun z => c1 z.2), M_finds_260, hr, if_neg c1, if_neg c5, if_neg (by omega), if_neg (by omega), if_neg (by omega), if_neg (by omega), if_neg (by omega)]
  · rw [up2_n (by omega), up2_n (by omega), M_finds_260, hr, if_neg (by omega), if_neg (by omega), if_neg (by omega), if_pos rfl]
  · rw [up2_k _ _ h2, up2_k _ _ h2, tp p' h1, places_ne h2]
  · rw [up2_k _ _ (by decide), up2_k _ _ (by decide)]
    have : M_finds (M_placesM ν (nI t) p 1) 259 i = M_placesM ν (nI t) p 1 259 i := by
      unfold M_finds
      rw [up2_n (fun z => h3 z.2)]
      have key : ∀ k, FI_run (M_placesM ν (nI t) p 1) k 259 i = M_placesM ν (nI t) p 1 259 i := fun k => by
        refine itr_inv (fun _ (s : Mm) => s 259 i = M_placesM ν (nI t) p 1 259 i) (by rw [up2_n (fun z => h2 z.2), up2_n (fun z => h1 z.2), up2_n (fun z => h4 z.2)]) (fun k s hs => ?_) k
        show (FI_step k s) 259 i = _
        unfold FI_step
        try dsimp only
        rw [up2_n (fun z => h2 z.2)]
        split
        · rw [up2_n (fun z => h1 z.2), up2_n (fun z => h4 z.2), hs]
        · exact hs
      exact key _
    rw [this, places_ne (by decide)]
theorem place_lo {μ ν : Mm} {a t N R : Nat} {pr u : Int32} (h : REL μ a (ν 260)) (g : RNG N R (ν 260)) (hN : N + 1 < 2 ^ 31) (hn : cn (ν 260 1) < 20) {p : Nat} (hp : p < a) : A_placeM μ a (nI t) pr u p = μ p := by
  obtain ⟨n, hn2, e1⟩ : ∃ n, n < 20 ∧ ν 260 1 = nI n := ⟨_, hn, (vp_of2 g.1.2.1 (by decide)).1⟩
  obtain ⟨q, hpN, e5⟩ := g.2.2.2.2.1
  rw [place_at μ (t := t) pr u hn2 (by omega) ((rd_n1 h).trans e1) (h.1.2.2.2.2.2.1.trans e5)]
  rw [up2_k _ _ (by omega), up2_k _ _ (by omega), up2_k _ _ (by omega), up2_k _ _ (by omega), up2_k _ _ (by omega), up2_k _ _ (by omega), up2_k _ _ (by omega), up2_k _ _ (by omega)]
/-- what a question leaves keeps the invariant -/
theorem gain_inv {k : Nat} {μ μ1 ρ κ : Mm} (h : INV k μ) (n1 : ∀ p, p < 41 ∨ 91 < p → μ1 p = μ p) (hρ : ρ = M_thr μ1 0) (e0 : ρ 260 = μ 260) (hlv : ∀ i, LV (ρ 260) i → κ 260 i = ρ 260 i) (hw : ∀ j : Nat, j < 20 → vp_in (κ 260 (68 + 5 * j)) 8) (w3 : ∀ q, q ≠ 259 → q ≠ 260 → κ q = ρ q) (w4 : ∀ i, i ≠ 4 → i ≠ 5 → i ≠ 6 → i ≠ 7 → κ 259 i = ρ 259 i) : INV (k + 1) κ := by
  obtain ⟨a, b, c, L, hL, d1, d2, d3⟩ := INV.mono k μ h
  have e : ∀ p, p ≠ 259 → p ≠ 260 → (p < 41 ∨ 91 < p) → κ p = μ p := fun p p1 p2 p3 => by rw [w3 p p1 p2, hρ, show M_thr μ1 0 p = μ1 p from up2_k _ _ p1, n1 p p3]
  have e9 : ∀ i, i ≠ 3 → i ≠ 4 → i ≠ 5 → i ≠ 6 → i ≠ 7 → κ 259 i = μ 259 i := fun i i3 i4 i5 i6 i7 => by rw [w4 i i4 i5 i6 i7, hρ, show M_thr μ1 0 259 i = μ1 259 i from up2_n (fun z => i3 z.2), n1 259 (by omega)]
  rw [e0] at hlv
  refine ⟨?_, ?_, ?_, L, hL, ?_, ?_, fun i hi => ?_⟩
  · exact REL.lv (a.of fun p p1 p2 => e p (by omega) (by omega) (by omega)) b hlv
  · exact b.lv hlv hw
  · rw [e 261 (by decide) (by decide) (by decide), e9 2 (by decide) (by decide) (by decide) (by decide) (by decide)]
    exact c.of fun p p1 p2 => e p (by omega) (by omega) (by omega)
  · rw [e 254 (by decide) (by decide) (by decide)]; exact d1
  · rw [e9 9 (by decide) (by decide) (by decide) (by decide) (by decide)]; exact d2
  · rw [e 258 (by decide) (by decide) (by decide), e 262 (by decide) (by decide) (by decide)]; exact d3 i hi
end
