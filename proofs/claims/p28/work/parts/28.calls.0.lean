noncomputable section
/-! calls that write: what they need -/
theorem wI1 {v : Int32} {n : Nat} (h : ¬ wI v 1 (nI n) = 0) (hn : n + 1 < 2 ^ 31 := by decide) : vp_in v (n + 1) ∧ v ≠ 0 := by
  unfold wI at h
  have h1 : ¬ v < 1 := fun e => h (if_pos e)
  rw [if_neg h1] at h
  have h2 : ¬ nI n < v := fun e => h (if_pos e)
  have h0 : ¬ v < 0 := fun e => h1 (Int32.lt_trans e (by decide))
  obtain ⟨j, hj, rfl⟩ := nI_of h0
  have h3 : ¬ n < j := fun c => h2 (nI_lt c hj)
  exact ⟨vp_in_nI (by omega) (by omega), fun e => h1 (by rw [e]; decide)⟩
theorem M_rec_259 {μ : Mm} {i : Nat} (h : i ≠ 2) : M_records μ 259 i = μ 259 i := by
  unfold M_records
  show up2 (M_keeps (M_drop μ) (M_drop μ 259 2)) 259 2 _ 259 i = _
  rw [up2_n (fun c => h c.2), M_keeps_ne (by decide), M_drop_259 _ _ h]
theorem rec3 (μ : Mm) (v : Int32) : M_records (M_thr μ v) 259 3 = v := by rw [M_rec_259 (by decide)]; exact up2_s _ _ _ _
theorem rec9 (μ : Mm) (v : Int32) : M_records (M_thr μ v) 259 9 = μ 259 9 := by
  rw [M_rec_259 (by decide)]
  exact up2_n (by decide)
theorem pre_call {k : Nat} {μ μ1 : Mm} (h : INV k μ) (he : ∀ p, 92 ≤ p → μ1 p = U_push μ 1 p) : MI μ1 ∧ vp_in (μ1 259 2) 5 ∧ (∀ p, 254 ≤ p → μ1 p = μ p) ∧ REL (U_push μ 1) 1 (M_records (M_thr μ1 0) 260) ∧ RNG (200 * k) 9999 (M_records (M_thr μ1 0) 260) ∧ M_records (M_thr μ1 0) 260 = μ 260 := by
  have hp := (push_UND h.2.2.1 h.1 h.2.1).2
  have e : ∀ p, 254 ≤ p → μ1 p = μ p := fun p hp2 => by rw [he p (by omega)]; exact hp p (Or.inr hp2)
  have e2 : M_records (M_thr μ1 0) 260 = μ 260 := by rw [M_records_ne (by decide) (by decide), thr_260, e 260 (by decide)]
  refine ⟨MI_of h.2.1.MI (e 260 (by decide)), ?_, e, ?_, ?_, e2⟩
  · rw [e 259 (by decide)]; exact h.st
  · rw [e2]; exact h.1.of fun p h1 h3 => hp p (by omega)
  · rw [e2]; exact h.2.1
theorem INV_call {k : Nat} {μ μ1 ν : Mm} (h : INV k μ) (he : ∀ p, 92 ≤ p → μ1 p = U_push μ 1 p) (he2 : ∀ p, p ≠ 259 → p ≠ 260 → p ≠ 264 → ν p = M_records (M_thr μ1 0) p) (h2 : ν 259 2 = M_records (M_thr μ1 0) 259 2) (h9 : ν 259 9 = M_records (M_thr μ1 0) 259 9) (hR : REL μ1 1 (ν 260)) (hG : RNG (200 * (k + 1)) 9999 (ν 260)) : INV (k + 1) ν := by
  obtain ⟨-, -, e, -, -, -⟩ := pre_call h he
  have hn : ∀ p, p ≠ 259 → p ≠ 260 → p ≠ 261 → p ≠ 264 → ν p = μ1 p := fun p q1 q2 q3 q4 => by
    rw [he2 p q1 q2 q4, M_records_ne q1 q3]
    exact up2_k _ _ q1
  have t1 : M_thr μ1 0 259 2 = μ 259 2 := by rw [show M_thr μ1 0 259 2 = μ1 259 2 from up2_n (by decide), e 259 (by decide)]
  have t2 : M_thr μ1 0 261 = μ 261 := by rw [show M_thr μ1 0 261 = μ1 261 from up2_k _ _ (by decide), e 261 (by decide)]
  have t3 : M_thr μ1 0 260 = μ 260 := by rw [thr_260, e 260 (by decide)]
  have hu := push_UND (ν := M_thr μ1 0) (N := 200 * k) (by rw [t1, t2]; exact h.2.2.1) (by rw [t3]; exact h.1) (by rw [t3]; exact h.2.1)
  refine ⟨?_, hG, ?_, ?_⟩
  · exact hR.of fun p q1 q2 => hn p (by omega) (by omega) (by omega) (by omega)
  · rw [h2, he2 261 (by decide) (by decide) (by decide)]
    exact (hu.1.of fun p q1 q2 => by rw [hn p (by omega) (by omega) (by omega) (by omega), he p q1]).mono (by omega)
  · obtain ⟨L, hL, d1, d2, d3⟩ := h.2.2.2
    refine ⟨L, hL, ?_, ?_, fun i hi => ?_⟩
    · rw [hn 254 (by decide) (by decide) (by decide) (by decide), e 254 (by decide)]; exact d1
    · rw [h9, rec9, e 259 (by decide)]; exact d2
    · rw [hn 258 (by decide) (by decide) (by decide) (by decide), hn 262 (by decide) (by decide) (by decide) (by decide), e 258 (by decide), e 262 (by decide)]; exact d3 i hi
/-- one number of an auction's own -/
def HD (i ci : Nat) : Prop := (i = 2 ∧ ci = 5) ∨ (i = 3 ∧ ci = 3) ∨ (i = 4 ∧ ci = 4) ∨ (i = 5 ∧ ci = 6) ∨ (i = 6 ∧ ci = 7) ∨ (i = 7 ∧ ci = 8) ∨ (i = 8 ∧ ci = 9) ∨ (i = 10 ∧ ci = 10)
theorem wr_h {μ : Mm} {a : Nat} {f : Nat → Int32} {v : Int32} {i ci : Nat} (h : REL μ a f) (hp : HD i ci) : REL (up2 μ a ci v) a (ch f i v) := by
  obtain ⟨⟨e1, e2, e3, e4, e5, e6, e7, e8, e9, e10, e11⟩, ht, ho, hd⟩ := h
  have hi : i < 11 ∧ i ≠ 0 ∧ i ≠ 1 ∧ i ≠ 9 := by unfold HD at hp; omega
  have m : ∀ q j, q ≠ a → up2 μ a ci v q j = μ q j := fun q j hq => up2_n (fun c => hq c.1)
  have e : ∀ j, j ≠ i → ch f i v j = f j := fun j hj => ch_n hj
  have hh : ∀ i' ci', HD i' ci' → μ a ci' = f i' → up2 μ a ci v a ci' = ch f i v i' := fun i' ci' hp' he => by
    by_cases c : i' = i
    · have : ci' = ci := by unfold HD at hp hp'; omega
      rw [up2_y ⟨rfl, this⟩]
      exact (if_pos c).symm
    · have : ci' ≠ ci := by unfold HD at hp hp'; omega
      rw [up2_n (fun z => this z.2), e _ c]
      exact he
  refine ⟨⟨?_, ?_, hh 2 5 (by unfold HD; omega) e3, hh 3 3 (by unfold HD; omega) e4, hh 4 4 (by unfold HD; omega) e5, hh 5 6 (by unfold HD; omega) e6, hh 6 7 (by unfold HD; omega) e7, hh 7 8 (by unfold HD; omega) e8, hh 8 9 (by unfold HD; omega) e9, ?_, hh 10 10 (by unfold HD; omega) e11⟩, fun t ht' w hw => ?_, fun k hk => ?_, fun j hj w hw => ?_⟩
  · rw [m _ _ (by omega), e _ (by omega)]; exact e1
  · rw [m _ _ (by omega), e _ (by omega)]; exact e2
  · rw [m _ _ (by omega), e _ (by omega)]; exact e10
  · rw [e 0 (by omega)] at ht'
    rw [m _ _ (by omega), e _ (by omega)]; exact ht t ht' w hw
  · rw [e 1 (by omega)] at hk
    rw [m _ _ (by omega), m _ _ (by omega), m _ _ (by omega), m _ _ (by omega), m _ _ (by omega), m _ _ (by omega)]
    rw [e (67 + 5 * k) (by omega), e (68 + 5 * k) (by omega), e (69 + 5 * k) (by omega), e (70 + 5 * k) (by omega), e (71 + 5 * k) (by omega), e (11 + 7 * cn (f (68 + 5 * k))) (by omega)]
    exact ho k hk
  · rw [e 9 (by omega)] at hj
    rw [m _ _ (by omega), e _ (by omega)]; exact hd j hj w hw
theorem rg_h {f : Nat → Int32} {N R i : Nat} {v : Int32} (g : RNG N R f) (hi : i = 3 ∨ i = 4 ∨ i = 6 ∨ i = 7 ∨ i = 8 ∨ i = 10) (h3 : i = 3 → vp_in v 11) (h4 : i = 4 → vp_in v 10 ∧ v ≠ 0) : RNG N R (ch f i v) := by
  obtain ⟨g1, g2, g3, g4, g5, g6, g7, g8⟩ := g
  have e : ∀ j, j ≠ i → ch f i v j = f j := fun j hj => ch_n hj
  have y : ch f i v i = v := if_pos rfl
  refine ⟨⟨?_, ?_, ?_, fun k hk => ?_⟩, ?_, ?_, ?_, ?_, fun t ht => ?_, fun k hk => ?_, fun j k hj hk => ?_⟩
  · rw [e 0 (by omega)]; exact g1.1
  · rw [e 1 (by omega)]; exact g1.2.1
  · rw [e 9 (by omega)]; exact g1.2.2.1
  · rw [e _ (by omega)]; exact g1.2.2.2 k hk
  · rw [e 2 (by omega)]; exact g2
  · by_cases c : i = 3
    · subst c; rw [y]; exact h3 rfl
    · rw [e 3 (fun z => c z.symm)]; exact g3
  · by_cases c : i = 4
    · subst c; rw [y]; exact h4 rfl
    · rw [e 4 (fun z => c z.symm)]; exact g4
  · rw [e 5 (by omega)]; exact g5
  · rw [e 0 (by omega)] at ht
    rw [e _ (by omega), e _ (by omega), e _ (by omega), e _ (by omega)]; exact g6 t ht
  · rw [e 1 (by omega)] at hk
    rw [e (67 + 5 * k) (by omega), e (68 + 5 * k) (by omega), e (69 + 5 * k) (by omega), e (70 + 5 * k) (by omega), e (71 + 5 * k) (by omega), e 5 (by omega), e 0 (by omega), e 2 (by omega)]
    exact g7 k hk
  · rw [e 1 (by omega)] at hk
    rw [e _ (by omega), e _ (by omega)]; exact g8 j k hj hk
theorem i_vp {x : Int32} {n : Nat} (h0 : 0 < x.toInt) (hn : x.toInt < (n : Int)) (hb : n < 2 ^ 31) : vp_in x n ∧ x ≠ 0 := by
  have h1 : ¬ x < 0 := fun c => by
    have := Int32.lt_iff_toInt_lt.mp c
    have e : (0 : Int32).toInt = 0 := rfl
    omega
  obtain ⟨j, hj, rfl⟩ := nI_of h1
  rw [nI_toInt hj] at h0 hn
  refine ⟨vp_in_nI (by omega) (by omega), fun c => ?_⟩
  have := congrArg Int32.toInt c
  rw [nI_toInt hj] at this
  have e : (0 : Int32).toInt = 0 := rfl
  omega
theorem sub_i {x y : Int32} (h1 : -1000000 < x.toInt - y.toInt) (h2 : x.toInt - y.toInt < 1000000) : (x - y).toInt = x.toInt - y.toInt := by
  rw [Int32.toInt_sub, Int.bmod_eq_of_le (by omega) (by omega)]
theorem add_i {x y : Int32} (h1 : -1000000 < x.toInt + y.toInt) (h2 : x.toInt + y.toInt < 1000000) : (x + y).toInt = x.toInt + y.toInt := by
  rw [Int32.toInt_add, Int.bmod_eq_of_le (by omega) (by omega)]
theorem shade_rng {ν : Mm} {N R j : Nat} (g : RNG N R (ν 260)) (hj : j < cn (ν 260 0)) : 0 ≤ (M_shadeOf ν (nI j)).toInt ∧ (M_shadeOf ν (nI j)).toInt < 51 := by
  have hc := g.c0
  obtain ⟨-, ⟨gv, -⟩, -, ga⟩ := g.2.2.2.2.2.1 j hj
  obtain ⟨s, hs, es⟩ := vp_nI ga (by decide)
  obtain ⟨v, hv, ev⟩ := vp_nI gv (by decide)
  have q1 : M_t ν (nI j) 1 = nI v := by
    rw [show (1 : Int32) = nI 1 from rfl, M_t_nI (by omega) (by decide), show 11 + 7 * j + 1 = 12 + 7 * j by omega, ev]
  have q3 : M_t ν (nI j) 3 = nI s := by
    rw [show (3 : Int32) = nI 3 from rfl, M_t_nI (by omega) (by decide), show 11 + 7 * j + 3 = 14 + 7 * j by omega, es]
  unfold M_shadeOf
  rw [q1, q3]
  split
  · decide
  · split
    · have hm : v * s ≤ 99 * 50 := Nat.mul_le_mul (by omega) (by omega)
      rw [nI_mul, Int32.toInt_div, nI_toInt (by omega)]
      have e : (100 : Int32).toInt = 100 := rfl
      rw [e, Int.tdiv_eq_ediv_of_nonneg (Int.natCast_nonneg _)]
      generalize hx : ((v * s : Nat) : Int) = X
      have hX : 0 ≤ X ∧ X ≤ 4950 := by omega
      rw [Int.bmod_eq_of_le (by omega) (by omega)]
      omega
    · rw [nI_toInt (by omega)]
      omega
theorem bid_rng {ν : Mm} {N R j : Nat} (g : RNG N R (ν 260)) (hj : j < cn (ν 260 0)) : vp_in (M_bidOf ν (nI j)) 121 ∧ M_bidOf ν (nI j) ≠ 0 := by
  have hc := g.c0
  obtain ⟨-, ⟨gv, gv0⟩, -, -⟩ := g.2.2.2.2.2.1 j hj
  obtain ⟨v, hv, ev⟩ := vp_nI gv (by decide)
  have hv0 : v ≠ 0 := fun c => gv0 (by rw [ev, c]; rfl)
  have q1 : M_t ν (nI j) 1 = nI v := by
    rw [show (1 : Int32) = nI 1 from rfl, M_t_nI (by omega) (by decide), show 11 + 7 * j + 1 = 12 + 7 * j by omega, ev]
  obtain ⟨hs1, hs2⟩ := shade_rng g hj
  unfold M_bidOf M_bidBy
  rw [q1]
  generalize hx : M_shadeOf ν (nI j) = s at hs1 hs2
  have ev2 := nI_toInt (n := v) (by omega)
  have e1 : (1 : Int32).toInt = 1 := rfl
  have e120 : (120 : Int32).toInt = 120 := rfl
  split
  · have es := sub_i (x := nI v) (y := s) (by omega) (by omega)
    split
    · exact ⟨vpd rfl, by decide⟩
    · rename_i c
      have c2 : ¬ (nI v - s).toInt < (1 : Int32).toInt := fun z => c (Int32.lt_iff_toInt_lt.mpr z)
      exact i_vp (by omega) (by omega) (by decide)
  · have es := add_i (x := nI v) (y := s) (by omega) (by omega)
    split
    · exact ⟨vpd rfl, by decide⟩
    · rename_i c
      have c2 : ¬ (120 : Int32).toInt < (nI v + s).toInt := fun z => c (Int32.lt_iff_toInt_lt.mpr z)
      exact i_vp (by omega) (by omega) (by decide)
/-! a removed order -/
theorem remRows_at (μ : Mm) (o j p i : Nat) : O_remRows μ o j p i = if (p = o + 2 ∨ p = o + 4 ∨ p = o + 6 ∨ p = o + 8 ∨ p = o + 10 ∨ p = o + 12) ∧ j ≤ i ∧ i + 1 < 20 then μ p (i + 1) else μ p i := by
  unfold O_remRows R_rem
  by_cases c : j ≤ i ∧ i + 1 < 20
  · rcases (show p = o + 2 ∨ p = o + 4 ∨ p = o + 6 ∨ p = o + 8 ∨ p = o + 10 ∨ p = o + 12 ∨ ¬ (p = o + 2 ∨ p = o + 4 ∨ p = o + 6 ∨ p = o + 8 ∨ p = o + 10 ∨ p = o + 12) by omega) with d | d | d | d | d | d | d
    all_goals first
      | (subst d; repeat (first | rw [if_pos (by omega)] | rw [if_neg (by omega)]))
      | (repeat (first | rw [if_pos (by omega)] | rw [if_neg (by omega)]))
  · repeat (first | rw [if_neg (by omega)])
theorem removes_row (ν : Mm) {n k : Nat} (hn : n ≤ 20) (hk : k < n) (h1 : ν 260 1 = nI n) (i : Nat) : M_removes ν (nI k) 260 i = if i = 1 then nI (n - 1) else if 67 + 5 * k ≤ i ∧ i < 62 + 5 * n then ν 260 (i + 5) else ν 260 i := by
  unfold M_removes M_remK
  rw [h1, cn_nI (by omega), cn_nI (by omega)]
  have e : nI n - 1 = nI (n - 1) := by
    obtain ⟨m, rfl⟩ : ∃ m, n = m + 1 := ⟨n - 1, by omega⟩
    rw [← nI_1, Int32.add_sub_cancel]; rfl
  rw [e]
  by_cases c : i = 1
  · subst c
    rw [if_neg (by omega), if_pos rfl]
    exact up2_s _ _ _ _
  · rw [if_neg c]
    by_cases d : 67 + 5 * k ≤ i ∧ i < 62 + 5 * n
    · rw [if_pos ⟨rfl, d.1, by omega⟩, if_pos d]
      exact up2_n (by omega)
    · rw [if_neg (fun z => d ⟨z.2.1, by omega⟩), if_neg d]
      exact up2_n (fun z => c z.2)
theorem wr_rem {μ ν : Mm} {a k N R : Nat} (h : REL μ a (ν 260)) (g : RNG N R (ν 260)) (hk : k < cn (ν 260 1)) :
    REL (O_removeAt μ (a + 16) (nI k)) a (M_removes ν (nI k) 260) ∧ RNG N R (M_removes ν (nI k) 260) := by
  have hc := g.c0
  obtain ⟨n, hn2, e1⟩ : ∃ n, n ≤ 20 ∧ ν 260 1 = nI n := ⟨_, hc.2.1, (vp_of2 g.1.2.1 (by decide)).1⟩
  have hcn : cn (ν 260 1) = n := by rw [e1, cn_nI (by omega)]
  rw [hcn] at hk
  have hr := removes_row ν hn2 hk e1
  obtain ⟨r, hre⟩ : ∃ r, r = M_removes ν (nI k) 260 := ⟨_, rfl⟩
  rw [← hre] at hr ⊢
  have em : nI n - 1 = nI (n - 1) := by
    obtain ⟨m, rfl⟩ : ∃ m, n = m + 1 := ⟨n - 1, by omega⟩
    rw [← nI_1, Int32.add_sub_cancel]; rfl
  have hO : O_removeAt μ (a + 16) (nI k) = up2 (O_remRows μ (a + 16) k) (a + 16) 0 (nI (n - 1)) := by
    unfold O_removeAt
    have q : μ (a + 16) 0 = nI n := (rd_n1 h).trans e1
    rw [q, if_neg (nI_pos (by omega)), if_pos (nI_lt hk (by omega)), cn_nI (by omega), remRows_at, if_neg (by omega), q, em]
  obtain ⟨κ, hκ⟩ : ∃ κ, κ = O_removeAt μ (a + 16) (nI k) := ⟨_, rfl⟩
  rw [← hκ] at hO ⊢
  have m : ∀ p i, ¬ (p = a + 16 ∧ i = 0) → κ p i = if (p = a + 18 ∨ p = a + 20 ∨ p = a + 22 ∨ p = a + 24 ∨ p = a + 26 ∨ p = a + 28) ∧ k ≤ i ∧ i + 1 < 20 then μ p (i + 1) else μ p i := fun p i hp => by
    rw [hO, up2_n hp, remRows_at]
  have mn : ∀ p i, ¬ (p = a + 16 ∧ i = 0) → ¬ (p = a + 18 ∨ p = a + 20 ∨ p = a + 22 ∨ p = a + 24 ∨ p = a + 26 ∨ p = a + 28) → κ p i = μ p i := fun p i hp hq => by
    rw [m p i hp, if_neg (fun c => hq c.1)]
  have m0 : ∀ p i, (p = a + 18 ∨ p = a + 20 ∨ p = a + 22 ∨ p = a + 24 ∨ p = a + 26 ∨ p = a + 28) → i < n - 1 → κ p i = μ p (if k ≤ i then i + 1 else i) := fun p i hp hi => by
    rw [m p i (by omega)]
    by_cases c : k ≤ i
    · rw [if_pos ⟨hp, c, by omega⟩, if_pos c]
    · rw [if_neg (fun z => c z.2.1), if_neg c]
  have e : ∀ i, i ≠ 1 → i < 67 ∨ 62 + 5 * n ≤ i → r i = ν 260 i := fun i q1 q2 => by rw [hr, if_neg q1, if_neg (by omega)]
  have e0 : ∀ i w, i < n - 1 → w < 5 → r (67 + w + 5 * i) = ν 260 (67 + w + 5 * (if k ≤ i then i + 1 else i)) := fun i w hi hw => by
    rw [hr, if_neg (by omega)]
    by_cases c : k ≤ i
    · rw [if_pos (by omega), if_pos c, show 67 + w + 5 * i + 5 = 67 + w + 5 * (i + 1) by omega]
    · rw [if_neg (by omega), if_neg c]
  have r1 : r 1 = nI (n - 1) := by rw [hr, if_pos rfl]
  have c1 : cn (r 1) = n - 1 := by rw [r1, cn_nI (by omega)]
  have sh : ∀ i, i < n - 1 → (if k ≤ i then i + 1 else i) < n := fun i hi => by split <;> omega
  obtain ⟨h1, h2, h3, h4⟩ := h
  constructor
  · refine ⟨⟨?_, ?_, ?_, ?_, ?_, ?_, ?_, ?_, ?_, ?_, ?_⟩, fun t' ht' w hw => ?_, fun i hi => ?_, fun i hi w hw => ?_⟩
    · rw [mn _ _ (by omega) (by omega), e 0 (by omega) (by omega)]; exact h1.1
    · rw [hO, up2_y ⟨rfl, rfl⟩, r1]
    · rw [mn _ _ (by omega) (by omega), e 2 (by omega) (by omega)]; exact h1.2.2.1
    · rw [mn _ _ (by omega) (by omega), e 3 (by omega) (by omega)]; exact h1.2.2.2.1
    · rw [mn _ _ (by omega) (by omega), e 4 (by omega) (by omega)]; exact h1.2.2.2.2.1
    · rw [mn _ _ (by omega) (by omega), e 5 (by omega) (by omega)]; exact h1.2.2.2.2.2.1
    · rw [mn _ _ (by omega) (by omega), e 6 (by omega) (by omega)]; exact h1.2.2.2.2.2.2.1
    · rw [mn _ _ (by omega) (by omega), e 7 (by omega) (by omega)]; exact h1.2.2.2.2.2.2.2.1
    · rw [mn _ _ (by omega) (by omega), e 8 (by omega) (by omega)]; exact h1.2.2.2.2.2.2.2.2.1
    · rw [mn _ _ (by omega) (by omega), e 9 (by omega) (by omega)]; exact h1.2.2.2.2.2.2.2.2.2.1
    · rw [mn _ _ (by omega) (by omega), e 10 (by omega) (by omega)]; exact h1.2.2.2.2.2.2.2.2.2.2
    · rw [e 0 (by omega) (by omega)] at ht'
      rw [mn _ _ (by omega) (by omega), e _ (by omega) (by omega)]
      exact h2 t' ht' w hw
    · rw [c1] at hi
      have q := h3 _ (by rw [hcn]; exact sh i hi)
      have hwk := (g.2.2.2.2.2.2.1 _ (by rw [hcn]; exact sh i hi)).2.1
      have s0 := e0 i 0 hi (by decide)
      have s1 := e0 i 1 hi (by decide)
      have s2 := e0 i 2 hi (by decide)
      have s3 := e0 i 3 hi (by decide)
      have s4 := e0 i 4 hi (by decide)
      simp only [Nat.reduceAdd] at s0 s1 s2 s3 s4
      rw [m0 _ _ (by omega) hi, m0 _ _ (by omega) hi, m0 _ _ (by omega) hi, m0 _ _ (by omega) hi, m0 _ _ (by omega) hi, m0 _ _ (by omega) hi]
      rw [s0, s1, s2, s3, s4, e (11 + 7 * cn _) (by omega) (by omega)]
      exact q
    · rw [e 9 (by omega) (by omega)] at hi
      have hq := hc.2.2
      rw [mn _ _ (by omega) (by omega), e _ (by omega) (by omega)]
      exact h4 i hi w hw
  · obtain ⟨g1, g2, g3, g4, g5, g6, g7, g8⟩ := g
    refine ⟨⟨?_, ?_, ?_, fun i hi => ?_⟩, ?_, ?_, ?_, ?_, fun t' ht' => ?_, fun i hi => ?_, fun j i hj hi => ?_⟩
    · rw [e 0 (by omega) (by omega)]; exact g1.1
    · rw [r1]; exact vp_in_nI (by omega) (by decide)
    · rw [e 9 (by omega) (by omega)]; exact g1.2.2.1
    · by_cases c : i < n - 1
      · have s1 := e0 i 1 c (by decide)
        simp only [Nat.reduceAdd] at s1
        rw [s1]
        exact g1.2.2.2 _ (by have := sh i c; omega)
      · rw [e (68 + 5 * i) (by omega) (by omega)]; exact g1.2.2.2 i hi
    · rw [e 2 (by omega) (by omega)]; exact g2
    · rw [e 3 (by omega) (by omega)]; exact g3
    · rw [e 4 (by omega) (by omega)]; exact g4
    · rw [e 5 (by omega) (by omega)]; exact g5
    · rw [e 0 (by omega) (by omega)] at ht'
      rw [e _ (by omega) (by omega), e _ (by omega) (by omega), e _ (by omega) (by omega), e _ (by omega) (by omega)]
      exact g6 t' ht'
    · rw [c1] at hi
      have q := g7 _ (by rw [hcn]; exact sh i hi)
      have s0 := e0 i 0 hi (by decide)
      have s1 := e0 i 1 hi (by decide)
      have s2 := e0 i 2 hi (by decide)
      have s3 := e0 i 3 hi (by decide)
      have s4 := e0 i 4 hi (by decide)
      simp only [Nat.reduceAdd] at s0 s1 s2 s3 s4
      rw [s0, s1, s2, s3, s4, e 5 (by omega) (by omega), e 0 (by omega) (by omega), e 2 (by omega) (by omega)]
      exact q
    · rw [c1] at hi
      have s0 := e0 i 0 hi (by decide)
      have t0 := e0 j 0 (by omega) (by decide)
      simp only [Nat.reduceAdd] at s0 t0
      rw [s0, t0]
      refine g8 _ _ ?_ (by rw [hcn]; exact sh i hi)
      split <;> split <;> omega
end
