/-! keeping a state and bringing it back -/
theorem RNG.fn {N R : Nat} {f g : Nat → Int32} (h : RNG N R f) (he : ∀ i, i < 267 → g i = f i) : RNG N R g := by
  obtain ⟨c0, c1, c9⟩ := h.c0
  obtain ⟨h1, h2, h3, h4, h5, h6, h7, h8⟩ := h
  refine ⟨?_, ?_, ?_, ?_, ?_, fun t ht => ?_, fun k hk => ?_, fun j k hj hk => ?_⟩
  · rw [he 0 (by decide), he 1 (by decide), he 9 (by decide)]
    exact ⟨h1.1, h1.2.1, h1.2.2.1, fun k hk => by rw [he (68 + 5 * k) (by omega)]; exact h1.2.2.2 k hk⟩
  · rw [he 2 (by decide)]; exact h2
  · rw [he 3 (by decide)]; exact h3
  · rw [he 4 (by decide)]; exact h4
  · rw [he 5 (by decide)]; exact h5
  · rw [he 0 (by decide)] at ht
    rw [he (11 + 7 * t) (by omega), he (12 + 7 * t) (by omega), he (13 + 7 * t) (by omega), he (14 + 7 * t) (by omega)]
    exact h6 t ht
  · rw [he 1 (by decide)] at hk
    rw [he (67 + 5 * k) (by omega), he (68 + 5 * k) (by omega), he (69 + 5 * k) (by omega), he (70 + 5 * k) (by omega), he (71 + 5 * k) (by omega), he 5 (by decide), he 0 (by decide), he 2 (by decide)]
    exact h7 k hk
  · rw [he 1 (by decide)] at hk
    rw [he (67 + 5 * j) (by omega), he (67 + 5 * k) (by omega)]
    exact h8 j k hj hk
theorem REL.fn {N R : Nat} {μ : Mm} {a : Nat} {f g : Nat → Int32} (h : REL μ a f) (hg : RNG N R f) (he : ∀ i, i < 267 → g i = f i) : REL μ a g := by
  obtain ⟨c0, c1, c9⟩ := hg.c0
  obtain ⟨h1, h2, h3, h4⟩ := h
  refine ⟨?_, fun t ht w hw => ?_, fun k hk => ?_, fun i hi w hw => ?_⟩
  · rw [he 0 (by decide), he 1 (by decide), he 2 (by decide), he 3 (by decide), he 4 (by decide), he 5 (by decide), he 6 (by decide), he 7 (by decide), he 8 (by decide), he 9 (by decide), he 10 (by decide)]
    exact h1
  · rw [he 0 (by decide)] at ht
    rw [he (11 + 7 * t + w) (by omega)]
    exact h2 t ht w hw
  · rw [he 1 (by decide)] at hk
    have q := h3 k hk
    have hw := (hg.2.2.2.2.2.2.1 k hk).2.1
    rw [he (67 + 5 * k) (by omega), he (68 + 5 * k) (by omega), he (69 + 5 * k) (by omega), he (70 + 5 * k) (by omega), he (71 + 5 * k) (by omega), he (11 + 7 * cn (f (68 + 5 * k))) (by omega)]
    exact q
  · rw [he 9 (by decide)] at hi
    rw [he (167 + 5 * i + w) (by omega)]
    exact h4 i hi w hw
theorem fm4_nI {n : Nat} (h : n < 2 ^ 31) : fmI (nI n) 4 = nI (n % 4) := by
  have h0 : ¬ nI n < 0 := nI_pos h
  have hx : ¬ nI n ^^^ 4 < 0 := fun c => h0 ((xor4_neg _).mp c)
  have h1 := rm4 (nI n)
  unfold fmI
  rw [if_pos (Int32.not_lt.mp hx)]
  apply Int32.toInt_inj.mp
  rw [h1, nI_toInt h, nI_toInt (by have := Nat.mod_lt n (show 0 < 4 by decide); omega)]
  rw [Int.tmod_eq_emod_of_nonneg (Int.natCast_nonneg n)]
  rfl
theorem drop_at {ν : Mm} {c : Nat} (hs : ν 259 2 = nI c) (hc : c ≤ 4) : ∃ d, d ≤ 3 ∧ M_drop ν 259 2 = nI d ∧ M_drop ν 260 = ν 260 ∧ (∀ j, j < d → ∀ i, i < 267 → kp (M_drop ν 261) j i = kp (ν 261) (j + (c - d)) i) ∧ c ≤ d + 1 ∧ d ≤ c ∧ (c ≤ 3 → d = c) ∧ (c = 4 → d = 3) := by
  by_cases h4 : c = 4
  · subst h4
    refine ⟨3, by decide, ?_, M_drop_ne (by decide) (by decide), fun j hj i hi => ?_, by decide, by decide, fun h => absurd h (by decide), fun _ => rfl⟩
    · unfold M_drop
      rw [if_pos (show ν 259 2 = 4 from hs), up2_s, show M_shiftK ν 801 259 2 = ν 259 2 from by simp [M_shiftK], hs]
      rfl
    · unfold M_drop
      rw [if_pos (show ν 259 2 = 4 from hs)]
      show up2 (M_shiftK ν 801) 259 2 _ 261 (267 * j + i) = ν 261 (267 * (j + 1) + i)
      rw [up2_k _ _ (by decide)]
      unfold M_shiftK
      rw [if_pos ⟨rfl, by omega⟩, show 267 * j + i + 267 = 267 * (j + 1) + i by omega]
  · have hn : ¬ ν 259 2 = 4 := by
      rw [hs]
      intro e
      have := congrArg cn e
      rw [cn_nI (by omega)] at this
      exact h4 this
    have e : M_drop ν = ν := if_neg hn
    rw [e]
    exact ⟨c, by omega, hs, rfl, fun j hj i hi => by rw [Nat.sub_self]; rfl, by omega, Nat.le_refl _, fun _ => rfl, fun h => absurd h h4⟩
theorem U_drop_at {μ : Mm} {c o : Nat} (hc : c ≤ 4) (ho : o < 4) (h0 : μ 92 0 = nI c) (h1 : μ 92 1 = nI o) :
    ∃ d p, (c ≤ 3 → d = c ∧ p = o) ∧ (c = 4 → d = 3 ∧ p = (o + 1) % 4) ∧ U_drop μ 92 0 = nI d ∧ U_drop μ 92 1 = nI p ∧ ∀ q, q ≠ 92 → U_drop μ q = μ q := by
  by_cases h4 : c = 4
  · subst h4
    refine ⟨3, (o + 1) % 4, fun h => absurd h (by decide), fun _ => ⟨rfl, rfl⟩, ?_, ?_, fun q hq => ?_⟩
    · unfold U_drop
      rw [if_pos (show μ 92 0 = 4 from h0)]
      show up2 (up2 μ 92 1 _) 92 0 (up2 μ 92 1 _ 92 0 - 1) 92 0 = nI 3
      rw [up2_s, show ∀ v, up2 μ 92 1 v 92 0 = μ 92 0 from fun v => by simp [up2], h0]
      rfl
    · unfold U_drop
      rw [if_pos (show μ 92 0 = 4 from h0)]
      show up2 (up2 μ 92 1 _) 92 0 _ 92 1 = nI ((o + 1) % 4)
      rw [show ∀ (ν : Mm) v, up2 ν 92 0 v 92 1 = ν 92 1 from fun ν v => by simp [up2], up2_s, h1, nI_1, fm4_nI (by omega)]
    · unfold U_drop
      rw [if_pos (show μ 92 0 = 4 from h0)]
      exact (up2_k _ _ hq).trans (up2_k _ _ hq)
  · have hn : ¬ μ 92 0 = 4 := by
      rw [h0]
      intro e
      have := congrArg cn e
      rw [cn_nI (by omega)] at this
      exact h4 this
    have e : U_drop μ = μ := if_neg hn
    rw [e]
    exact ⟨c, o, fun _ => ⟨rfl, rfl⟩, fun h => absurd h h4, h0, h1, fun _ _ => rfl⟩
theorem U_at_nI {μ : Mm} {o c : Nat} (h1 : μ 92 1 = nI o) (ho : o < 4) (hc : c ≤ 4) : U_at μ (nI c) = 94 + 40 * ((o + c) % 4) := by
  unfold U_at U_place
  rw [h1, nI_add, fm4_nI (by omega), cn_nI (by have := Nat.mod_lt (o + c) (show 0 < 4 by decide); omega)]
/-- a state kept on both sides -/
theorem push_UND {N : Nat} {μ ν : Mm} (h : UND N μ (ν 259 2) (ν 261)) (hR : REL μ 1 (ν 260)) (hG : RNG N 9999 (ν 260)) : UND N (U_push μ 1) (M_records ν 259 2) (M_records ν 261) ∧ ∀ p, p < 92 ∨ 254 ≤ p → U_push μ 1 p = μ p := by
  obtain ⟨c, o, hc, ho, h0, hs, h1, h6⟩ := h
  obtain ⟨d, p, d1, d2, e0, e1, e2⟩ := U_drop_at hc ho h0 h1
  obtain ⟨d', -, f0, f1, f2, f3, f4, f5, f6⟩ := drop_at hs hc
  have hdd : d' = d ∧ p = (o + (c - d)) % 4 ∧ d ≤ 3 := by
    by_cases h4 : c = 4
    · obtain ⟨rfl, rfl⟩ := d2 h4
      have := f6 h4
      subst this
      subst h4
      exact ⟨rfl, rfl, by decide⟩
    · obtain ⟨rfl, rfl⟩ := d1 (by omega)
      have := f5 (by omega)
      exact ⟨this, by rw [Nat.sub_self, Nat.add_zero, Nat.mod_eq_of_lt ho], by omega⟩
  obtain ⟨rfl, hp, hd3⟩ := hdd
  have hp4 : p < 4 := by rw [hp]; exact Nat.mod_lt _ (by decide)
  have hpd : (p + d') % 4 < 4 := Nat.mod_lt _ (by decide)
  obtain ⟨u, hu⟩ : ∃ u, u = U_drop μ := ⟨_, rfl⟩
  rw [← hu] at e0 e1 e2
  have hat : U_at u (u 92 0) = 94 + 40 * ((p + d') % 4) := by rw [e0]; exact U_at_nI e1 hp4 (by omega)
  have hU : U_push μ 1 = up2 (A_copy u (94 + 40 * ((p + d') % 4)) 1) 92 0 (A_copy u (94 + 40 * ((p + d') % 4)) 1 92 0 + 1) := by
    unfold U_push
    rw [← hu]
    show up2 (A_copy u (U_at u (u 92 0)) 1) 92 0 _ = _
    rw [hat]
  have hab : 94 + 40 * ((p + d') % 4) + 40 ≤ 1 ∨ 1 + 40 ≤ 94 + 40 * ((p + d') % 4) := Or.inr (by omega)
  have hout : ∀ q, q ≠ 92 → (q < 94 + 40 * ((p + d') % 4) ∨ 94 + 40 * ((p + d') % 4) + 40 ≤ q) → U_push μ 1 q = μ q := by
    intro q h9 hq
    rw [hU, up2_k _ _ h9, A_copy_out hab hq, e2 q h9]
  have hMr : M_records ν 259 2 = nI (d' + 1) := by
    unfold M_records
    show up2 (M_keeps (M_drop ν) (M_drop ν 259 2)) 259 2 (M_keeps (M_drop ν) (M_drop ν 259 2) 259 2 + 1) 259 2 = _
    rw [up2_s, M_keeps_ne (by decide), f0, nI_1]
  have hMk : ∀ j i, i < 267 → kp (M_records ν 261) j i = if j = d' then ν 260 i else kp (M_drop ν 261) j i := by
    intro j i hi
    unfold M_records kp
    show up2 (M_keeps (M_drop ν) (M_drop ν 259 2)) 259 2 _ 261 (267 * j + i) = _
    rw [up2_k _ _ (by decide), f0]
    unfold M_keeps M_keepK
    rw [cn_nI (by omega)]
    by_cases hj : j = d'
    · subst hj
      rw [if_pos ⟨rfl, by omega, by omega⟩, if_pos rfl, f1, Nat.add_sub_cancel_left]
    · rw [if_neg (fun c => hj (by omega)), if_neg hj]
  refine ⟨⟨d' + 1, p, by omega, hp4, ?_, hMr, ?_, fun j hj => ?_⟩, fun q hq => hout q (by omega) (by omega)⟩
  · rw [hU, up2_s, A_copy_out hab (by omega), e0, nI_1]
  · rw [hU, show ∀ (κ : Mm) v, up2 κ 92 0 v 92 1 = κ 92 1 from fun κ v => by simp [up2], A_copy_out hab (by omega), e1]
  · by_cases hjd : j = d'
    · subst hjd
      have hg : ∀ i, i < 267 → kp (M_records ν 261) j i = ν 260 i := fun i hi => by rw [hMk j i hi, if_pos rfl]
      refine ⟨?_, hG.fn hg⟩
      refine REL.fn (f := ν 260) ?_ hG hg
      have hu1 : REL u 1 (ν 260) := hR.of fun q h2 h3 => e2 q (by omega)
      have := A_copy_REL hab hu1 hG.c0.1 hG.c0.2.1 hG.c0.2.2
      exact this.of fun q h2 h3 => by rw [hU, up2_k _ _ (by omega)]
    · have hj2 : j < d' := by omega
      obtain ⟨g1, g2⟩ := h6 (j + (c - d')) (by omega)
      have hg : ∀ i, i < 267 → kp (M_records ν 261) j i = kp (ν 261) (j + (c - d')) i := fun i hi => by rw [hMk j i hi, if_neg hjd, f2 j hj2 i hi]
      refine ⟨?_, g2.fn hg⟩
      refine REL.fn ?_ g2 hg
      have hm : (p + j) % 4 = (o + (j + (c - d'))) % 4 := by rw [hp]; omega
      rw [hm]
      refine g1.of fun q h2 h3 => hout q (by omega) ?_
      have hne : (o + (j + (c - d'))) % 4 ≠ (p + d') % 4 := by rw [hp]; omega
      have := Nat.mod_lt (o + (j + (c - d'))) (show 0 < 4 by decide)
      omega
