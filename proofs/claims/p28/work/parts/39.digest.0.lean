noncomputable section
theorem now_at {μ ν κ : Mm} {N R : Nat} {w : Int32} (h : REL μ 1 (ν 260)) (g : RNG N R (ν 260)) (hκ : ∀ p, p ≠ 89 → p ≠ 91 → κ p = C_settle μ 1 p) (hw : vp_in w 7) : C_valueOf κ 1 w = M_nowVal (M_finds ν) w ∧ (∀ p, p ≠ 89 → p ≠ 91 → C_valueM κ 1 w p = C_settle μ 1 p) ∧ M_grok (M_finds ν) := by
  obtain ⟨a1, a2, a3, a4, a5, a6, -, -⟩ := settle_at h g (by decide)
  have e := M_finds_260 ν
  have k81 := hκ 81 (by decide) (by decide)
  have r : REL κ 1 (M_finds ν 260) := by
    rw [e]
    exact h.of fun p p1 p2 => by rw [hκ p (by omega) (by omega), a1 p (by omega)]
  obtain ⟨g1, g2, ⟨q, hq, g3⟩, g4⟩ := greatest_at r (by rw [e]; exact g) (by decide)
  have f1 : (C_greatest κ 1).1 81 4 = M_surplusNow (M_finds ν) := by rw [g4 81 (by decide) (by decide), k81, a6]
  have hs : C_hundredths (C_greatest κ 1).1 (C_greatest κ 1).2 = M_share (M_surplusNow (M_finds ν)) (M_greatest (M_finds ν)) := by
    unfold C_hundredths M_share
    rw [f1, ← g1, g3]
    by_cases c : M_surplusNow (M_finds ν) < 0
    · rw [if_pos c, if_pos c]
    · rw [if_neg c, if_neg c]
      by_cases d : q = 0
      · subst d
        rw [if_neg (show ¬ (0 : Int32) < nI 0 by decide), if_pos (show nI 0 = (0 : Int32) from rfl)]
      · rw [if_pos (show (0 : Int32) < nI q from nI_lt (a := 0) (by omega) (by omega)), if_neg (nI_n0 d (by omega))]
  refine ⟨?_, fun p p1 p2 => ?_, g2⟩
  · obtain ⟨x, hx, rfl⟩ := vp_nI hw (by decide)
    unfold C_valueOf M_nowVal
    rw [k81, a2, a3, a4, a5, a6, g1, ← hs]
    have hgg : C_hundredths (C_greatest κ 1).1 (M_greatest (M_finds ν)) = C_hundredths (C_greatest κ 1).1 (C_greatest κ 1).2 := by rw [g1]
    rw [hgg]
  · unfold C_valueM
    split
    · exact hκ p p1 p2
    · split
      · exact hκ p p1 p2
      · split
        · exact hκ p p1 p2
        · split
          · exact hκ p p1 p2
          · split
            · exact hκ p p1 p2
            · rw [g4 p p1 p2]; exact hκ p p1 p2
theorem itr_congr {α : Type} {f g : Nat → α → α} {a b : α} (h0 : a = b) : ∀ {n : Nat}, (∀ k s, k < n → f k s = g k s) → itr f a n = itr g b n
  | 0, _ => h0
  | n + 1, e => by
    show f n (itr f a n) = g n (itr g b n)
    rw [itr_congr h0 fun k s hk => e k s (by omega), e n _ (by omega)]
theorem itr_five {α : Type} {f : Nat → α → α} {g : Nat → Nat → α → α} {a : α} : ∀ {n : Nat}, (∀ i w s, i < n → w < 5 → f (5 * i + w) s = g i w s) → itr f a (5 * n) = itr (fun i s => itr (g i) s 5) a n
  | 0, _ => rfl
  | n + 1, e => by
    show f (5 * n + 4) (f (5 * n + 3) (f (5 * n + 2) (f (5 * n + 1) (f (5 * n + 0) (itr f a (5 * n)))))) = g n 4 (g n 3 (g n 2 (g n 1 (g n 0 (itr (fun i s => itr (g i) s 5) a n)))))
    rw [itr_five fun i w s hi hw => e i w s (by omega) hw, e n 0 _ (by omega) (by decide), e n 1 _ (by omega) (by decide), e n 2 _ (by omega) (by decide), e n 3 _ (by omega) (by decide), e n 4 _ (by omega) (by decide)]
theorem td_at {μ ν : Mm} {a N R i w : Nat} (h : REL μ a (ν 260)) (g : RNG N R (ν 260)) (hi : i < cn (ν 260 9)) (hw : w < 5) : S_valueOf μ (a + 29) (nI i) (nI w) = ν 260 (167 + (5 * i + w)) := by
  have hc := g.c0
  obtain ⟨c, hc2, ec⟩ := vp_nI g.1.2.2.1 (by decide)
  have hcc : cn (ν 260 9) = c := by rw [ec, cn_nI (by omega)]
  rw [rd_trade h g (nI_pos (by omega)) (vp_in_nI hw (by decide))]
  unfold M_tells_td
  rw [ec, if_pos (nI_lt (by omega) (by omega)), show (167 : Int32) = nI 167 from rfl, show (5 : Int32) = nI 5 from rfl, nI_mul, nI_add, nI_add, cn_nI (by omega), Nat.add_assoc]
/-- the questions of a digest -/
theorem dg2_at {k0 : Nat} {μ μ1 : Mm} (h : INV k0 μ) (h1 : ∀ p, p ≠ 89 → p ≠ 91 → μ1 p = C_settle μ 1 p) (hd : X_dg1 μ (NN 12) = M_dg1 μ1 (NN 12)) : ∀ k, k ≤ 7 → (∀ p, p ≠ 89 → p ≠ 91 → (X_dg2 μ k).1 p = C_settle μ 1 p) ∧ (∀ p, p ≠ 259 → (M_dg2 μ1 k).1 p = μ1 p) ∧ (∀ i, i ≠ 4 → i ≠ 5 → i ≠ 6 → i ≠ 7 → (M_dg2 μ1 k).1 259 i = M_thr μ1 0 259 i) ∧ (X_dg2 μ k).2 = (M_dg2 μ1 k).2 ∧ M_grok (M_finds (M_dg2 μ1 k).1)
  | 0, _ => by
    obtain ⟨a1, -⟩ := settle_at h.1 h.2.1 (by decide)
    have e260 : (M_dg2 μ1 0).1 260 = μ 260 := by
      show M_thr μ1 0 260 = _
      rw [thr_260, h1 260 (by decide) (by decide), a1 260 (by omega)]
    refine ⟨fun p _ _ => rfl, fun p hp => up2_k _ _ hp, fun i _ _ _ _ => rfl, hd, ?_⟩
    exact (now_at (μ := μ) (ν := (M_dg2 μ1 0).1) (κ := C_settle μ 1) (w := 0) (by rw [e260]; exact h.1) (by rw [e260]; exact h.2.1) (fun p _ _ => rfl) (vpd rfl)).2.2
  | k + 1, hk => by
    obtain ⟨a1, -⟩ := settle_at h.1 h.2.1 (by decide)
    obtain ⟨b1, b2, b3, b4, b5⟩ := dg2_at h h1 hd k (by omega)
    have e0 : (M_dg2 μ1 k).1 260 = μ 260 := by rw [b2 260 (by decide), h1 260 (by decide) (by decide), a1 260 (by omega)]
    have hw : vp_in (nI k) 7 := vp_in_nI (by omega) (by decide)
    obtain ⟨n1, n2, n3⟩ := now_at (μ := μ) (ν := (M_dg2 μ1 k).1) (κ := (X_dg2 μ k).1) (w := nI k) (by rw [e0]; exact h.1) (by rw [e0]; exact h.2.1) b1 hw
    have es : (M_dg2 μ1 (k + 1)) = (M_finds (M_dg2 μ1 k).1, M_mix (M_dg2 μ1 k).2 (M_nowVal (M_finds (M_dg2 μ1 k).1) (nI k)).toInt64) := rfl
    have ex : X_dg2 μ (k + 1) = (C_valueM (X_dg2 μ k).1 1 (nI k), X_mix (X_dg2 μ k).2 (C_valueOf (X_dg2 μ k).1 1 (nI k)).toInt64) := rfl
    obtain ⟨-, -, -, -, fo⟩ := finds_at (ν := (M_dg2 μ1 k).1) (by rw [e0]; exact h.2.1)
    rw [es, ex]
    have e1 : M_finds (M_dg2 μ1 k).1 260 = μ 260 := by rw [M_finds_260, e0]
    refine ⟨n2, fun p hp => ?_, fun i i4 i5 i6 i7 => ?_, ?_, ?_⟩
    · show M_finds (M_dg2 μ1 k).1 p = _
      unfold M_finds
      rw [up2_k _ _ hp, FI_ne hp]
      exact b2 p hp
    · exact (fo i i4 i5 i6 i7).trans (b3 i i4 i5 i6 i7)
    · show X_mix (X_dg2 μ k).2 (C_valueOf (X_dg2 μ k).1 1 (nI k)).toInt64 = M_mix (M_dg2 μ1 k).2 (M_nowVal (M_finds (M_dg2 μ1 k).1) (nI k)).toInt64
      rw [b4, n1]
      rfl
    · exact (now_at (μ := μ) (ν := M_finds (M_dg2 μ1 k).1) (κ := C_settle μ 1) (w := 0) (by rw [e1]; exact h.1) (by rw [e1]; exact h.2.1) (fun p _ _ => rfl) (vpd rfl)).2.2
theorem INV_und {k : Nat} {μ : Mm} (h : INV k μ) : μ 92 0 = μ 259 2 := by
  obtain ⟨c, o, -, -, h3, h4, -⟩ := h.2.2.1
  rw [h3, h4]
theorem mix_eq : M_mix = X_mix := rfl
theorem dig_tr {μ1 ρ : Mm} {N R t : Nat} {s : Int64} (r : REL μ1 1 (ρ 260)) (g : RNG N R (ρ 260)) (ht : t < cn (ρ 260 0)) : X_mixTr μ1 t s (NN 10) = M_dgT ρ (nI t) s (NN 10) := by
  unfold X_mixTr M_dgT
  rw [NN_eq 10]
  refine itr_congr rfl fun w s hw => ?_
  rw [rd_trader r g ht (vp_in_nI hw (by decide)), mix_eq]
theorem dig_or {μ1 ρ : Mm} {N R i : Nat} {s : Int64} (r : REL μ1 1 (ρ 260)) (g : RNG N R (ρ 260)) (hi : i < cn (ρ 260 1)) (hf : M_fillOf ρ (nI i) = R_get μ1 82 20 (nI i)) : X_mix (X_mixOr μ1 i (X_mix s (R_get μ1 (1 + 16 + 1) 20 (nI i)).toInt64) (NN 5)) (R_get μ1 82 20 (nI i)).toInt64 = M_dgO ρ (nI i) s := by
  have e : X_mixOr μ1 i (X_mix s (M_o ρ (nI i) 0).toInt64) 5 = M_dgO1 ρ (nI i) s 5 := by
    unfold M_dgO1 X_mixOr
    rw [mix_eq]
    refine itr_congr rfl fun w s hw => ?_
    rw [rd_order r g hi (vp_in_nI hw (by decide))]
  unfold M_dgO
  rw [NN_eq 5, hf, rd_num r g hi, mix_eq, e]
theorem dig_td {μ1 ρ : Mm} {N R : Nat} {s : Int64} (r : REL μ1 1 (ρ 260)) (g : RNG N R (ρ 260)) : X_mixTrades μ1 s (cn (ρ 260 9)) = itr (fun i h => M_mix h (ρ 260 (167 + i)).toInt64) s (5 * cn (ρ 260 9)) := by
  refine Eq.trans ?_ (itr_five (g := fun i w s => X_mix s (S_valueOf μ1 (1 + 29) (nI i) (nI w)).toInt64) fun i w s hi hw => ?_).symm
  · unfold X_mixTrades
    refine itr_congr rfl fun i s hi => ?_
    unfold X_mixTd
    rw [NN_eq 5]
  · rw [td_at r g hi hw, mix_eq]
theorem dig_val {μ μ1 ρ : Mm} {N R : Nat} (h1 : μ1 = X_digestM μ) (hρ : ρ = M_dgM μ1) (r : REL μ1 1 (ρ 260)) (g : RNG N R (ρ 260)) (hf : ∀ i, i < cn (ρ 260 1) → M_fillOf ρ (nI i) = R_get μ1 82 20 (nI i)) (hd : (X_dg2 μ (NN 7)).2 = (M_dg2 μ1 (NN 7)).2) : X_digest μ = M_digest μ1 := by
  have e3 : X_mixTraders μ1 (M_dg2 μ1 (NN 7)).2 (cn (ρ 260 0)) = M_dg3 μ1 (cn (ρ 260 0)) := by
    unfold M_dg3 X_mixTraders
    rw [← hρ]
    exact itr_congr rfl fun t s ht => dig_tr r g ht
  have e4 : X_mixOrders μ1 (M_dg3 μ1 (cn (ρ 260 0))) (cn (ρ 260 1)) = M_dg4 μ1 (cn (ρ 260 1)) := by
    unfold M_dg4 X_mixOrders
    rw [← hρ]
    exact itr_congr rfl fun i s hi => dig_or r g hi (hf i hi)
  have e5 : X_mixTrades μ1 (M_dg4 μ1 (cn (ρ 260 1))) (cn (ρ 260 9)) = M_dg5 μ1 (5 * cn (ρ 260 9)) := by
    unfold M_dg5
    rw [← hρ]
    exact dig_td r g
  unfold M_digest X_digest
  dsimp only
  rw [← h1, ← hρ, hd, rd_n0 r, rd_n1 r, show μ1 (1 + 29) 0 = ρ 260 9 from r.1.2.2.2.2.2.2.2.2.2.1, e3, e4, e5]
end
