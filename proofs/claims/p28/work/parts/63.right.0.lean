noncomputable section
/-! what must hold behind a turn, by the row -/
theorem fst_no {f : Nat → Bool} : ∀ {n : Nat}, fst f n = none → ∀ j, j < n → f j = false
  | 0, _, j, hj => absurd hj (Nat.not_lt_zero j)
  | n + 1, h, j, hj => by
    unfold fst at h
    split at h
    · cases h
    · rename_i e
      by_cases c : f n = true
      · rw [if_pos c] at h
        cases h
      · by_cases q : j = n
        · rw [q]
          exact Bool.eq_false_iff.mpr c
        · exact fst_no e j (by omega)
theorem find_ge {ν : Mm} {x : Int32} {j : Nat} (hj : j < cn (ν 260 1)) (hc : cn (ν 260 1) ≤ 20) (e : M_o ν (nI j) 0 = x) : ¬ M_find ν x < 0 := by
  unfold M_find fstI
  split
  · rename_i k q
    have := (fst_lt q).1
    exact nI_pos (by omega)
  · rename_i q
    have := fst_no q j hj
    exact absurd e (of_decide_eq_false this)
theorem find_is {ν : Mm} {x : Int32} {j : Nat} (hc : cn (ν 260 1) ≤ 20) (h : M_find ν x = nI j) (hj : j < 20) : M_o ν (nI j) 0 = x := by
  unfold M_find fstI at h
  split at h
  · rename_i k q
    obtain ⟨q1, q2⟩ := fst_lt q
    have := (nI_inj (a := k) (b := j) (by omega) (by omega)).mp h
    rw [← this]
    exact of_decide_eq_true q2
  · exact absurd h.symm (fun z => nI_pos (n := j) (by omega) (by rw [z]; decide))
theorem num_at {f : Nat → Int32} {j : Nat} (hj : j < 20) : M_o (gm f) (nI j) 0 = f (67 + 5 * j) := by
  rw [show (0 : Int32) = nI 0 from rfl, M_o_nI hj (by decide), gm_260, Nat.add_zero]
theorem sum_at {μ : Mm} {f : Nat → Int32} {N R w : Nat} (h : REL μ 1 f) (g : RNG N R f) (hw : 7 ≤ w) (hw2 : w < 10) : LV_sum μ (nI w) (cn (X_whole μ 0)) = sT f (8 + w) := by
  have hc := g.c0
  unfold LV_sum sT
  rw [show X_whole μ 0 = f 0 from wh_at h 0 (by decide)]
  refine sumI_congr fun t ht => ?_
  rw [tv_at h g ht (by omega)]
  have e : M_tellsTrader (gm f) (nI t) (nI w) = M_t (gm f) (nI t) (nI (w - 3)) := by
    rcases (show w = 7 ∨ w = 8 ∨ w = 9 by omega) with rfl | rfl | rfl <;> rfl
  rw [e, M_t_nI (by omega) (by omega), gm_260, show 11 + 7 * t + (w - 3) = 8 + w + 7 * t by omega]
theorem ones (n : Nat) : sumI (fun _ => 1) n = nI n := by
  have e := sumI_nI (fun _ => 1) n
  rw [sN_k, Nat.one_mul] at e
  exact e
theorem count_at {μ : Mm} {f : Nat → Int32} {N R : Nat} (h : REL μ 1 f) (g : RNG N R f) : LV_sum μ 5 (cn (X_whole μ 0)) = f 1 := by
  have hc := g.c0
  unfold LV_sum
  rw [show X_whole μ 0 = f 0 from wh_at h 0 (by decide)]
  have e : ∀ t, t < cn (f 0) → A_traderValue μ 1 (nI t) 5 = sumI (fun k => if nT f k = t then 1 else 0) (cn (f 1)) := fun t ht => by
    show O_countOf μ (1 + 16) (nI t) = _
    unfold O_countOf
    rw [show μ (1 + 16) 0 = f 1 from h.1.2.1]
    refine sumI_congr fun k hk => ?_
    have q := rd_who (ν := gm f) (toG h) (rgG g) (k := k) (by rw [gm_260]; exact hk)
    obtain ⟨t1, t2⟩ := of_T (ν := gm f) (rgG g) (k := k) (by rw [gm_260]; exact hk)
    rw [gm_260] at t1 t2
    rw [q, t1]
    by_cases c : nT f k = t
    · rw [c, if_pos rfl, if_pos rfl]
    · rw [if_neg c, if_neg (fun z => c ((nI_inj (by omega) (by omega)).mp z))]
  rw [sumI_congr e, sum_by (nT f) (fun _ => 1) (fun k hk => nT_lt g hk), ones]
  exact (vp_of2 g.1.2.1 (by decide)).1.symm
theorem there_at {μ : Mm} {f : Nat → Int32} {N R : Nat} (h : REL μ 1 f) (g : RNG N R f) (hN : N < 2 ^ 30) : LV_there μ (cn (X_whole μ 5)) = f 1 := by
  have hc := g.c0
  unfold LV_there
  rw [show X_whole μ 5 = f 5 from wh_at h 5 (by decide)]
  obtain ⟨p, hp, e5⟩ := g.2.2.2.2.1
  have ep : cn (f 5) = p := by rw [e5, cn_nI (by omega)]
  have hnum : ∀ j, j < cn (f 1) → cn (f (67 + 5 * j)) < cn (f 5) ∧ f (67 + 5 * j) = nI (cn (f (67 + 5 * j))) := fun j hj => by
    obtain ⟨⟨m, hm, em⟩, -⟩ := g.2.2.2.2.2.2.1 j hj
    rw [em, cn_nI (by omega)]
    exact ⟨hm, rfl⟩
  have e : ∀ m, m < cn (f 5) → (if LV_units μ (nI m) ≤ 0 then (0 : Int32) else 1) = sumI (fun j => if cn (f (67 + 5 * j)) = m then 1 else 0) (cn (f 1)) := fun m hm => by
    rw [un_at h g]
    by_cases c : M_find (gm f) (nI m) < 0
    · rw [if_pos c, if_pos (by decide)]
      refine (sumI_zero fun j hj => ?_).symm
      rw [if_neg]
      intro z
      refine find_ge (ν := gm f) (x := nI m) (j := j) (by rw [gm_260]; exact hj) (by rw [gm_260]; exact hc.2.1) ?_ c
      rw [num_at (by omega), (hnum j hj).2, z]
    · obtain ⟨j, hj, ej⟩ := fi_at g c
      have hu := of_U (ν := gm f) (rgG g) (k := j) (by rw [gm_260]; exact hj)
      rw [gm_260] at hu
      have hz : ¬ nI (nU f j) ≤ 0 := fun z => absurd (show (0 : Int32) < nI (nU f j) from nI_lt (a := 0) (b := nU f j) hu.2.1 (by omega)) (Int32.not_lt.mpr z)
      rw [if_neg c, ej, hu.1, if_neg hz]
      have ex := find_is (ν := gm f) (by rw [gm_260]; exact hc.2.1) ej (by omega)
      rw [num_at (by omega)] at ex
      have em : cn (f (67 + 5 * j)) = m := by rw [ex, cn_nI (by omega)]
      refine (sumI_at 1 hj).symm.trans (sumI_congr fun i hi => ?_)
      by_cases q : j = i
      · rw [if_pos q, ← q, if_pos em]
      · rw [if_neg q, if_neg]
        intro z
        rcases Nat.lt_or_gt_of_ne q with q | q
        · have := g.2.2.2.2.2.2.2 j i q hi
          omega
        · have := g.2.2.2.2.2.2.2 i j q hj
          omega
  rw [sumI_congr e, sum_by (fun j => cn (f (67 + 5 * j))) (fun _ => 1) (fun j hj => (hnum j hj).1), ones]
  exact (vp_of2 g.1.2.1 (by decide)).1.symm
theorem fin_at {l : Launch} (hfl : l.stackTraces = false) (G : GG) (B : Nat) {μ : Mm} {f : Nat → Int32} {N R : Nat} {C : Int32} (h : REL μ 1 f) (g : RNG N R f) (hN : N ≤ 40) (hC : CONS C f) : FIN l G B C μ := by
  have hc := g.c0
  obtain ⟨u1, u2, u3, p, x, c, c5, c10, cC, hle, hp⟩ := hC
  obtain ⟨p', hp', e5⟩ := g.2.2.2.2.1
  have epp : p = p' := (nI_inj (by omega) (by omega)).mp (c5.symm.trans e5)
  refine ⟨ML_areRight l hfl G B μ ?_ ?_ ?_ ?_ ?_ ?_, ?_⟩
  · rw [show X_whole μ 5 = f 5 from wh_at h 5 (by decide), e5, cn_nI (by omega)]; omega
  · rw [show (7 : Int32) = nI 7 from rfl, sum_at h g (by decide) (by decide), show X_whole μ 6 = f 6 from wh_at h 6 (by decide)]; exact u1
  · rw [show (8 : Int32) = nI 8 from rfl, sum_at h g (by decide) (by decide), show X_whole μ 7 = f 7 from wh_at h 7 (by decide)]; exact u2
  · rw [show (9 : Int32) = nI 9 from rfl, sum_at h g (by decide) (by decide)]; exact u3
  · rw [count_at h g, show X_whole μ 1 = f 1 from wh_at h 1 (by decide)]
  · rw [count_at h g, there_at h g (by omega)]
  · rw [show X_whole μ 1 = f 1 from wh_at h 1 (by decide), show X_whole μ 10 = f 10 from wh_at h 10 (by decide), show X_whole μ 5 = f 5 from wh_at h 5 (by decide), c5, c10, cC, (vp_of2 g.1.2.1 (by decide)).1, nI_add, nI_add]
    exact nI_le (by omega) (by omega)
end
