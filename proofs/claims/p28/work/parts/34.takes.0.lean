noncomputable section
/-! what is taken of each order -/
def aN (f : Nat → Int32) (k : Nat) : Nat := sN (fun j => if nS f j = nS f k ∧ nW f j < nW f k then nU f j else 0) (cn (f 1))
def fN (f : Nat → Int32) (V k : Nat) : Nat := min (V - aN f k) (nU f k)
def VN (f : Nat → Int32) : Nat := cn (gsR f 120).1
theorem nI_div {a b : Nat} (ha : a < 2 ^ 31) (hb : b < 2 ^ 31) : nI a / nI b = nI (a / b) := by
  apply Int32.toInt_inj.mp
  have hd : a / b ≤ a := Nat.div_le_self a b
  rw [Int32.toInt_div, nI_toInt ha, nI_toInt hb, nI_toInt (by omega), Int.tdiv_eq_ediv_of_nonneg (Int.natCast_nonneg _), ← Int.natCast_ediv]
  generalize hx : a / b = x at hd
  rw [Int.bmod_eq_of_le (by omega) (by omega)]
theorem nI_n0 {n : Nat} (h : n ≠ 0) (hn : n < 2 ^ 31) : ¬ nI n = (0 : Int32) := fun z => h ((nI_inj (b := 0) hn (by decide)).mp z)
theorem nI_subN {a b : Nat} (h : b ≤ a) : nI a - nI b = nI (a - b) := by
  obtain ⟨c, rfl⟩ : ∃ c, a = c + b := ⟨a - b, by omega⟩
  rw [← nI_add, Int32.add_sub_cancel, Nat.add_sub_cancel]
theorem dY_tot {N R : Nat} {ν : Mm} (g : RNG N R (ν 260)) (p : Nat) : dY (ν 260) p ≤ sN (fun k => if nS (ν 260) k = 1 then nU (ν 260) k else 0) (cn (ν 260 1)) := by
  refine sN_le fun k hk => ?_
  split
  · rename_i c
    rw [if_pos c.1]
    exact Nat.le_refl _
  · exact Nat.zero_le _
theorem dD_tot {N R : Nat} {ν : Mm} (g : RNG N R (ν 260)) (p : Nat) : dD (ν 260) p ≤ sN (fun k => if nS (ν 260) k = 0 then nU (ν 260) k else 0) (cn (ν 260 1)) := by
  refine sN_le fun k hk => ?_
  split
  · rename_i c
    rw [if_pos c.1]
    exact Nat.le_refl _
  · exact Nat.zero_le _
/-- the price from most, lowest, highest -/
def prI (s : Int32 × Int32 × Int32) (sp : Int32) : Int32 := if s.1 = 0 then -10000 else s.2.1 + (s.2.2 - s.2.1) * sp / 10
/-- what the search has found -/
theorem VN_at {ν : Mm} {N R : Nat} {sp : Int32} (g : RNG N R (ν 260)) (hsp : vp_in sp 11) : VN (ν 260) ≤ 180 ∧ (gsR (ν 260) 120).1 = nI (VN (ν 260)) ∧ (0 < VN (ν 260) → ∃ p, 1 ≤ p ∧ p ≤ 120 ∧ prI (gsR (ν 260) 120) sp = nI p ∧ VN (ν 260) ≤ dD (ν 260) p ∧ VN (ν 260) ≤ dY (ν 260) p) := by
  obtain ⟨V, lo, hi, h1, h2, h3, h4⟩ := gsR_at g 120 (Nat.le_refl _)
  have e : VN (ν 260) = V := by
    unfold VN
    rw [h2, cn_nI (by omega)]
  rw [e]
  refine ⟨h1, h2, fun hV => ?_⟩
  obtain ⟨l1, l2, l3, l4, l5, l6, l7⟩ := h4 hV
  obtain ⟨s, hs, rfl⟩ := vp_nI hsp (by decide)
  have hm : (hi - lo) * s ≤ (hi - lo) * 10 := Nat.mul_le_mul_left _ (by omega)
  have hd : (hi - lo) * s / 10 ≤ hi - lo := by omega
  refine ⟨lo + (hi - lo) * s / 10, by omega, by omega, ?_, ?_, ?_⟩
  · unfold prI
    rw [h2, if_neg (fun z => by have := (nI_inj (b := 0) (by omega) (by decide)).mp z; omega), l1, l2, nI_subN l4, nI_mul, show (10 : Int32) = nI 10 from rfl, nI_div (by omega) (by decide), nI_add]
  · have b1 := dD_anti (ν 260) (p := lo + (hi - lo) * s / 10) (q := hi) (by omega)
    have b2 : V ≤ dD (ν 260) hi := by rw [← l7]; exact Nat.min_le_left _ _
    omega
  · have b1 := dY_mono (ν 260) (p := lo) (q := lo + (hi - lo) * s / 10) (by omega)
    have b2 : V ≤ dY (ν 260) lo := by rw [← l6]; exact Nat.min_le_right _ _
    omega
theorem finds_at {ν : Mm} {N R : Nat} (g : RNG N R (ν 260)) : M_finds ν 259 7 = nI (VN (ν 260)) ∧ M_finds ν 259 4 = (gsR (ν 260) 120).2.1 ∧ M_finds ν 259 5 = (gsR (ν 260) 120).2.2 ∧ M_finds ν 259 6 = prI (gsR (ν 260) 120) (ν 260 3) ∧ ∀ i, i ≠ 4 → i ≠ 5 → i ≠ 6 → i ≠ 7 → M_finds ν 259 i = ν 259 i := by
  obtain ⟨f7, f4, f5, fo⟩ := FI_at g 120 (by decide)
  have e := (VN_at g g.2.2.1).2.1
  have h260 := FI_260 ν 120
  unfold M_finds
  rw [NN_eq 120]
  generalize FI_run ν 120 = κ at f7 f4 f5 fo h260
  refine ⟨?_, ?_, ?_, ?_, fun i h1 h2 h3 h4 => ?_⟩
  · rw [up2_n (by decide), f7, e]
  · rw [up2_n (by decide), f4]
  · rw [up2_n (by decide), f5]
  · rw [up2_y ⟨rfl, rfl⟩]
    unfold M_priceOf prI
    rw [f7, f4, f5, h260]
  · rw [up2_n (fun z => h3 z.2)]
    exact fo i h4 h1 h2
theorem subI_nI (g : Nat → Nat) (a : Int32) : ∀ n, subI (fun j => nI (g j)) a n = a - nI (sN g n)
  | 0 => by
    show a = a - nI 0
    rw [show nI 0 = 0 from rfl, Int32.sub_zero]
  | n + 1 => by
    show subI (fun j => nI (g j)) a n - nI (g n) = a - nI (sN g n + g n)
    rw [subI_nI g a n, ← nI_add, Int32.sub_sub]
theorem subI_congr {g h : Nat → Int32} {a : Int32} : ∀ {n : Nat}, (∀ k, k < n → g k = h k) → subI g a n = subI h a n
  | 0, _ => rfl
  | n + 1, e => by
    show subI g a n - g n = subI h a n - h n
    rw [subI_congr fun k hk => e k (by omega), e n (by omega)]
theorem aN_bd {N R k : Nat} {f : Nat → Int32} (g : RNG N R f) : aN f k ≤ 180 := by
  have hc := g.c0
  have h1 : aN f k ≤ 9 * cn (f 1) := sN_bd fun j hj => by
    have := nU_le g hj
    split <;> omega
  omega
theorem fill_of {κ : Mm} {N R V k : Nat} (g : RNG N R (κ 260)) (hV : V ≤ 180) (h7 : κ 259 7 = nI V) (h6 : 0 < V → ∃ p, 1 ≤ p ∧ p ≤ 120 ∧ κ 259 6 = nI p ∧ V ≤ dD (κ 260) p ∧ V ≤ dY (κ 260) p) (hk : k < cn (κ 260 1)) : M_fillOf κ (nI k) = nI (fN (κ 260) V k) := by
  have hc := g.c0
  have ha := aN_bd (k := k) g
  obtain ⟨u1, u2, u3⟩ := of_U g hk
  obtain ⟨s1, s2⟩ := of_S g hk
  obtain ⟨p1, p2, p3⟩ := of_P g hk
  have hl : M_leftOf κ (nI k) (cn (κ 260 1)) = nI V - nI (aN (κ 260) k) := by
    unfold M_leftOf
    rw [h7]
    refine Eq.trans (subI_congr fun j hj => ?_) (subI_nI (fun j => if nS (κ 260) j = nS (κ 260) k ∧ nW (κ 260) j < nW (κ 260) k then nU (κ 260) j else 0) (nI V) (cn (κ 260 1)))
    have q := (ah_M g hj hk).trans (AH_iff g hj hk)
    by_cases c : M_isAhead κ (nI j) (nI k) = 0
    · rw [if_pos c, if_neg (fun z => q.mpr z c)]
      rfl
    · rw [if_neg c, if_pos (q.mp c)]
      exact (of_U g hj).1
  unfold M_fillOf
  rw [h7]
  by_cases c0 : V = 0
  · subst c0
    rw [if_pos (show nI 0 = (0 : Int32) from rfl)]
    unfold fN
    rw [Nat.zero_sub, Nat.zero_min]
    rfl
  · obtain ⟨p, q1, q2, q3, q4, q5⟩ := h6 (by omega)
    rw [if_neg (nI_n0 c0 (by omega)), q3, hl, u1]
    by_cases cg : M_isGood κ (nI k) (nI p) = 0
    · rw [if_pos cg]
      have hb : V ≤ aN (κ 260) k := by
        unfold M_isGood at cg
        rw [s1, p1] at cg
        obtain ⟨y, wy, y0, y1⟩ := nW_e (κ 260) k
        by_cases d : nS (κ 260) k = 0
        · rw [d, if_pos (show nI 0 = (0 : Int32) from rfl)] at cg
          have e : nP (κ 260) k < p := by
            by_cases e : nI (nP (κ 260) k) < nI p
            · exact (nI_lt_iff (by omega) (by omega)).mp e
            · rw [if_neg e] at cg; exact absurd cg (by decide)
          refine Nat.le_trans q4 (sN_le fun j hj => ?_)
          split
          · rename_i z
            obtain ⟨x, wx, x0, x1⟩ := nW_e (κ 260) j
            rw [if_pos ⟨by rw [z.1, d], by have := x0 z.1; have := y0 d; have := (of_P g hj).2.2; omega⟩]
            exact Nat.le_refl _
          · exact Nat.zero_le _
        · rw [if_neg (nI_n0 d (by omega))] at cg
          have e : p < nP (κ 260) k := by
            by_cases e : nI p < nI (nP (κ 260) k)
            · exact (nI_lt_iff (by omega) (by omega)).mp e
            · rw [if_neg e] at cg; exact absurd cg (by decide)
          refine Nat.le_trans q5 (sN_le fun j hj => ?_)
          split
          · rename_i z
            obtain ⟨x, wx, x0, x1⟩ := nW_e (κ 260) j
            rw [if_pos ⟨by omega, by have := x1 (by omega); have := y1 d; omega⟩]
            exact Nat.le_refl _
          · exact Nat.zero_le _
      unfold fN
      rw [Nat.sub_eq_zero_of_le hb, Nat.zero_min]
      rfl
    · rw [if_neg cg]
      by_cases cl : V < aN (κ 260) k
      · rw [if_pos ((sub_lt0 (by omega) (by omega)).mpr cl)]
        unfold fN
        rw [Nat.sub_eq_zero_of_le (by omega), Nat.zero_min]
        rfl
      · rw [if_neg (fun z => cl ((sub_lt0 (by omega) (by omega)).mp z)), nI_subN (by omega), lsI_nI (by omega) (by omega)]
        rfl
theorem fill_at {ν : Mm} {N R k : Nat} (g : RNG N R (ν 260)) (hk : k < cn (ν 260 1)) : M_fillOf (M_finds ν) (nI k) = nI (fN (ν 260) (VN (ν 260)) k) := by
  have e := M_finds_260 ν
  obtain ⟨f7, f4, f5, f6, fo⟩ := finds_at g
  obtain ⟨v1, v2, v3⟩ := VN_at g g.2.2.1
  have := fill_of (κ := M_finds ν) (N := N) (R := R) (V := VN (ν 260)) (k := k) (by rw [e]; exact g) v1 f7 (fun h => by
    obtain ⟨p, q1, q2, q3, q4, q5⟩ := v3 h
    rw [e]
    exact ⟨p, q1, q2, f6.trans q3, q4, q5⟩) (by rw [e]; exact hk)
  rw [this, e]
/-- what the class takes, by its queue -/
theorem take_at {μ ν : Mm} {a N R q sd L V : Nat} {qf : Nat → Nat} (h : REL μ a (ν 260)) (g : RNG N R (ν 260)) (ha : a + 40 ≤ 81) (hV : V ≤ 180) (hq : q + 1 ≠ 83) (hQ : QI (cn (ν 260 1)) (nS (ν 260)) (nW (ν 260)) sd qf L) (hr : ∀ i, i < L → μ (q + 1) i = nI (qf i)) :
    ∀ k, k ≤ L → (itr (K_step q 20 (a + 16)) (μ, nI V) k).2 = nI (V - sN (fun x => nU (ν 260) (qf x)) k) ∧ (∀ i, i < k → (itr (K_step q 20 (a + 16)) (μ, nI V) k).1 83 (qf i) = nI (fN (ν 260) V (qf i))) ∧ (∀ j, (∀ i, i < k → qf i ≠ j) → (itr (K_step q 20 (a + 16)) (μ, nI V) k).1 83 j = μ 83 j) ∧ ∀ p, p ≠ 83 → (itr (K_step q 20 (a + 16)) (μ, nI V) k).1 p = μ p
  | 0, _ => ⟨rfl, fun i hi => absurd hi (Nat.not_lt_zero i), fun j _ => rfl, fun p _ => rfl⟩
  | k + 1, hk => by
    have hc := g.c0
    have hL := hQ.len
    obtain ⟨h1, h2, h3, h4⟩ := take_at h g ha hV hq hQ hr k (by omega)
    show (K_step q 20 (a + 16) k (itr (K_step q 20 (a + 16)) (μ, nI V) k)).2 = nI (V - sN (fun x => nU (ν 260) (qf x)) (k + 1)) ∧ (∀ i, i < k + 1 → (K_step q 20 (a + 16) k (itr (K_step q 20 (a + 16)) (μ, nI V) k)).1 83 (qf i) = nI (fN (ν 260) V (qf i))) ∧ (∀ j, (∀ i, i < k + 1 → qf i ≠ j) → (K_step q 20 (a + 16) k (itr (K_step q 20 (a + 16)) (μ, nI V) k)).1 83 j = μ 83 j) ∧ ∀ p, p ≠ 83 → (K_step q 20 (a + 16) k (itr (K_step q 20 (a + 16)) (μ, nI V) k)).1 p = μ p
    generalize itr (K_step q 20 (a + 16)) (μ, nI V) k = s at h1 h2 h3 h4
    obtain ⟨b1, b2⟩ := hQ.1 k (by omega)
    have hs : REL s.1 a (ν 260) := h.of fun p p1 p2 => h4 p (by omega)
    obtain ⟨u1, u2, u3⟩ := of_U g b1
    have e1 : R_get s.1 q 20 (nI k) = nI (qf k) := by rw [R_get_nI (by omega) (by decide), h4 (q + 1) hq, hr k (by omega)]
    have e2 : R_get s.1 (a + 16 + 9) 20 (nI (qf k)) = nI (nU (ν 260) (qf k)) := by rw [rd_un hs g b1, u1]
    have e3 : mnI s.2 (nI (nU (ν 260) (qf k))) = nI (fN (ν 260) V (qf k)) := by
      rw [h1, mnI_nI (by omega) (by omega)]
      unfold fN aN
      rw [b2, ← hQ.sum (nU (ν 260)) (by omega)]
    have e4 : K_step q 20 (a + 16) k s = (up2 s.1 83 (qf k) (nI (fN (ν 260) V (qf k))), s.2 - nI (fN (ν 260) V (qf k))) := by
      unfold K_step
      rw [e1, e2, e3, R_put_nI (by omega) (by decide)]
    rw [e4]
    have e5 : fN (ν 260) V (qf k) = min (V - sN (fun x => nU (ν 260) (qf x)) k) (nU (ν 260) (qf k)) := by
      unfold fN aN
      rw [b2, ← hQ.sum (nU (ν 260)) (by omega)]
    refine ⟨?_, fun i hi => ?_, fun j hj => ?_, fun p hp => ?_⟩
    · show s.2 - nI (fN (ν 260) V (qf k)) = nI (V - (sN (fun x => nU (ν 260) (qf x)) k + nU (ν 260) (qf k)))
      rw [h1, e5, nI_subN (by omega)]
      congr 1
      omega
    · by_cases c : i = k
      · subst c; exact up2_s _ _ _ _
      · show up2 s.1 83 (qf k) (nI (fN (ν 260) V (qf k))) 83 (qf i) = _
        rw [up2_n (fun z => hQ.inj i k (by omega) (by omega) z.2)]
        exact h2 i (by omega)
    · show up2 s.1 83 (qf k) (nI (fN (ν 260) V (qf k))) 83 j = _
      rw [up2_n (fun z => hj k (by omega) z.2.symm)]
      exact h3 j fun i hi => hj i (by omega)
    · exact (up2_k _ _ hp).trans (h4 p hp)
theorem fN_tot {ν : Mm} {N R V sd L : Nat} {qf : Nat → Nat} (g : RNG N R (ν 260)) (hQ : QI (cn (ν 260 1)) (nS (ν 260)) (nW (ν 260)) sd qf L) (hV : V ≤ sN (fun k => if nS (ν 260) k = sd then nU (ν 260) k else 0) (cn (ν 260 1))) : sN (fun k => if nS (ν 260) k = sd then fN (ν 260) V k else 0) (cn (ν 260 1)) = V := by
  rw [← hQ.all (fN (ν 260) V)]
  rw [← hQ.all (nU (ν 260))] at hV
  have e : sN (fun x => fN (ν 260) V (qf x)) L = sN (fun x => min (V - sN (fun y => nU (ν 260) (qf y)) x) (nU (ν 260) (qf x))) L := sN_congr fun x hx => by
    unfold fN aN
    rw [(hQ.1 x hx).2, ← hQ.sum (nU (ν 260)) hx]
  rw [e, greedy (fun x => nU (ν 260) (qf x)) V L]
  exact Nat.min_eq_left hV
end
