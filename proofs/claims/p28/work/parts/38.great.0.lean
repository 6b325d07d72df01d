noncomputable section
/-! the greatest surplus on both sides -/
def ub (f : Nat → Int32) (sd x n : Nat) : Nat := sN (fun k => if nS f k = sd ∧ nV f k = x then nU f k else 0) n
theorem ub_bd {N R sd x n : Nat} {f : Nat → Int32} (g : RNG N R f) (hn : n ≤ cn (f 1)) : ub f sd x n ≤ 180 := by
  have hc := g.c0
  have h1 : ub f sd x n ≤ 9 * n := sN_bd fun k hk => by
    have := nU_le g (k := k) (by omega)
    split <;> omega
  omega
theorem unitsBy_at {κ : Mm} {N R sd x : Nat} (g : RNG N R (κ 260)) (hsd : sd ≤ 1) (hx : x < 1000) : M_unitsBy κ (nI sd) (nI x) = nI (ub (κ 260) sd x (cn (κ 260 1))) := by
  unfold M_unitsBy ub
  rw [← sumI_nI]
  refine sumI_congr fun k hk => ?_
  obtain ⟨s1, s2⟩ := of_S g hk
  obtain ⟨v1, v2, v3⟩ := of_V g hk
  obtain ⟨u1, -, -⟩ := of_U g hk
  rw [s1, v1, u1]
  by_cases c : nS (κ 260) k = sd
  · rw [c, if_pos rfl]
    by_cases d : nV (κ 260) k = x
    · rw [d, if_pos rfl, if_pos ⟨rfl, rfl⟩]
    · rw [if_neg (fun z => d ((nI_inj (by omega) (by omega)).mp z)), if_neg (fun z => d z.2)]
      rfl
  · rw [if_neg (fun z => c ((nI_inj (by omega) (by omega)).mp z)), if_neg (fun z => c z.1)]
    rfl
theorem tallyV_at {μ ν : Mm} {a N R : Nat} (h : REL μ a (ν 260)) (g : RNG N R (ν 260)) (ha : a + 40 ≤ 81) : ∀ k, k ≤ cn (ν 260 1) →
    (∀ x, x < 121 → (itr (V_step a) (R_zero (R_zero μ 88 121) 90 121) k) 89 x = nI (ub (ν 260) 0 x k) ∧ (itr (V_step a) (R_zero (R_zero μ 88 121) 90 121) k) 91 x = nI (ub (ν 260) 1 x k)) ∧ ∀ p, p ≠ 89 → p ≠ 91 → (itr (V_step a) (R_zero (R_zero μ 88 121) 90 121) k) p = μ p
  | 0, _ => by
    refine ⟨fun p hp => ⟨?_, ?_⟩, fun p h1 h2 => ?_⟩
    · show R_zero (R_zero μ 88 121) 90 121 89 p = 0
      unfold R_zero
      rw [if_neg (by omega), if_pos ⟨rfl, hp⟩]
    · show R_zero (R_zero μ 88 121) 90 121 91 p = 0
      unfold R_zero
      rw [if_pos ⟨rfl, hp⟩]
    · show R_zero (R_zero μ 88 121) 90 121 p = μ p
      funext i
      unfold R_zero
      rw [if_neg (by omega), if_neg (by omega)]
  | k + 1, hk => by
    have hc := g.c0
    obtain ⟨h1, h3⟩ := tallyV_at h g ha k (by omega)
    show (∀ x, x < 121 → (V_step a k (itr (V_step a) (R_zero (R_zero μ 88 121) 90 121) k)) 89 x = nI (ub (ν 260) 0 x (k + 1)) ∧ (V_step a k (itr (V_step a) (R_zero (R_zero μ 88 121) 90 121) k)) 91 x = nI (ub (ν 260) 1 x (k + 1))) ∧ ∀ p, p ≠ 89 → p ≠ 91 → (V_step a k (itr (V_step a) (R_zero (R_zero μ 88 121) 90 121) k)) p = μ p
    generalize itr (V_step a) (R_zero (R_zero μ 88 121) 90 121) k = s at h1 h3
    have hs : REL s a (ν 260) := h.of fun p p1 p2 => h3 p (by omega) (by omega)
    obtain ⟨s1, s2⟩ := of_S g (k := k) (by omega)
    obtain ⟨p1, p2, p3⟩ := of_V g (k := k) (by omega)
    obtain ⟨u1, u2, u3⟩ := of_U g (k := k) (by omega)
    have e1 : R_get s (a + 16 + 5) 20 (nI k) = nI (nS (ν 260) k) := by rw [rd_sd hs g (by omega), s1]
    have e2 : R_get s (a + 1 + 3) 8 (R_get s (a + 16 + 3) 20 (nI k)) = nI (nV (ν 260) k) := by rw [rd_vl hs g (by omega), p1]
    have e3 : R_get s (a + 16 + 9) 20 (nI k) = nI (nU (ν 260) k) := by rw [rd_un hs g (by omega), u1]
    have w : ∀ sd p, ub (ν 260) sd p (k + 1) = ub (ν 260) sd p k + if nS (ν 260) k = sd ∧ nV (ν 260) k = p then nU (ν 260) k else 0 := fun _ _ => rfl
    by_cases c : nS (ν 260) k = 0
    · have ea : V_step a k s = up2 s 89 (nV (ν 260) k) (nI (ub (ν 260) 0 (nV (ν 260) k) k + nU (ν 260) k)) := by
        unfold V_step
        rw [if_pos (by rw [e1, c]; rfl), e2, e3, R_add_nI (by omega) (by decide), (h1 _ (by omega)).1, nI_add]
      rw [ea]
      refine ⟨fun p hp => ⟨?_, ?_⟩, fun p q1 q2 => ?_⟩
      · rw [w]
        by_cases d : nV (ν 260) k = p
        · rw [if_pos ⟨c, d⟩, ← d]; exact up2_s _ _ _ _
        · rw [if_neg (fun z => d z.2), Nat.add_zero]
          exact (up2_n (fun z => d z.2.symm)).trans (h1 p hp).1
      · rw [w, if_neg (show ¬ (nS (ν 260) k = 1 ∧ nV (ν 260) k = p) from fun z => by omega), Nat.add_zero, up2_k _ _ (by decide)]
        exact (h1 p hp).2
      · exact (up2_k _ _ q1).trans (h3 p q1 q2)
    · have ea : V_step a k s = up2 s 91 (nV (ν 260) k) (nI (ub (ν 260) 1 (nV (ν 260) k) k + nU (ν 260) k)) := by
        unfold V_step
        rw [if_neg (show ¬ R_get s (a + 16 + 5) 20 (nI k) = 0 by rw [e1]; exact nI_n0 c (by omega)), e2, e3, R_add_nI (by omega) (by decide), (h1 _ (by omega)).2, nI_add]
      rw [ea]
      refine ⟨fun p hp => ⟨?_, ?_⟩, fun p q1 q2 => ?_⟩
      · rw [w, if_neg (fun z => c z.1), Nat.add_zero, up2_k _ _ (by decide)]
        exact (h1 p hp).1
      · rw [w]
        by_cases d : nV (ν 260) k = p
        · rw [if_pos ⟨by omega, d⟩, ← d]; exact up2_s _ _ _ _
        · rw [if_neg (fun z => d z.2), Nat.add_zero]
          exact (up2_n (fun z => d z.2.symm)).trans (h1 p hp).2
      · exact (up2_k _ _ q2).trans (h3 p q1 q2)
theorem nI_sub1 {n : Nat} : nI (n + 1) - 1 = nI n := by rw [← nI_1, Int32.add_sub_cancel]
/-- both walks, from highs and lows m apart -/
theorem great_at {κ : Mm} {N R : Nat} (g : RNG N R (κ 260)) : ∀ m n n' h l b d s (μ : Mm), h = l + m → m ≤ n → 2 * m ≤ n' → 1 ≤ l → h ≤ 99 → b ≤ 180 → d ≤ 180 → μ 89 h = nI b → μ 91 l = nI d →
    (∀ x, x < h → μ 89 x = nI (ub (κ 260) 0 x (cn (κ 260 1)))) → (∀ x, l < x → x < 121 → μ 91 x = nI (ub (κ 260) 1 x (cn (κ 260 1)))) →
    (FG n μ (nI h) (nI l) (nI s)).2 = GR κ n' (nI s) (nI h) (nI l) (nI b) (nI d) ∧ GRok κ n' (nI h) (nI l) (nI b) (nI d) ∧ (∃ r, r ≤ s + 17640 * m ∧ (FG n μ (nI h) (nI l) (nI s)).2 = nI r) ∧ ∀ p, p ≠ 89 → p ≠ 91 → (FG n μ (nI h) (nI l) (nI s)).1 p = μ p
  | 0, n, n', h, l, b, d, s, μ, e, _, _, h1, h2, _, _, _, _, _, _ => by
    obtain rfl : l = h := by omega
    have hn : ¬ nI l < nI l := fun z => by have := (nI_lt_iff (by omega) (by omega)).mp z; omega
    have e1 : FG n μ (nI l) (nI l) (nI s) = (μ, nI s) := by
      cases n with
      | zero => rfl
      | succ n => unfold FG; rw [if_neg hn]
    have e2 : GR κ n' (nI s) (nI l) (nI l) (nI b) (nI d) = nI s := by
      cases n' with
      | zero => rfl
      | succ n => unfold GR; rw [if_neg hn]
    have e3 : GRok κ n' (nI l) (nI l) (nI b) (nI d) := by
      cases n' with
      | zero => exact hn
      | succ n => unfold GRok; exact fun z => absurd z hn
    rw [e1, e2]
    exact ⟨rfl, e3, ⟨s, by omega, rfl⟩, fun p _ _ => rfl⟩
  | m + 1, n, n', h, l, b, d, s, μ, e, hn, hn', h1, h2, hb, hd, h3, h4, h5, h6 => by
    obtain ⟨n, rfl⟩ : ∃ q, n = q + 1 := ⟨n - 1, by omega⟩
    obtain ⟨n', rfl⟩ : ∃ q, n' = q + 1 := ⟨n' - 1, by omega⟩
    obtain ⟨h, rfl⟩ : ∃ q, h = q + 1 := ⟨h - 1, by omega⟩
    have hlt : nI l < nI (h + 1) := (nI_lt_iff (by omega) (by omega)).mpr (by omega)
    have bh := ub_bd (sd := 0) (x := h) g (Nat.le_refl _)
    have bl := ub_bd (sd := 1) (x := l + 1) g (Nat.le_refl _)
    have hu0 := unitsBy_at (sd := 0) (x := h) g (by omega) (by omega)
    have hu1 := unitsBy_at (sd := 1) (x := l + 1) g (by omega) (by omega)
    obtain ⟨μ1, hμ1⟩ : ∃ z, z = R_add (R_add μ 88 121 (nI (h + 1)) (-(mnI (R_get μ 88 121 (nI (h + 1))) (R_get μ 90 121 (nI l))))) 90 121 (nI l) (-(mnI (R_get μ 88 121 (nI (h + 1))) (R_get μ 90 121 (nI l)))) := ⟨_, rfl⟩
    have g1 : R_get μ 88 121 (nI (h + 1)) = nI b := by rw [R_get_nI (by omega) (by decide)]; exact h3
    have g2 : R_get μ 90 121 (nI l) = nI d := by rw [R_get_nI (by omega) (by decide)]; exact h4
    have gm : mnI (nI b) (nI d) = nI (min b d) := mnI_nI (by omega) (by omega)
    have hm1 : μ1 = up2 (up2 μ 89 (h + 1) (nI (b - min b d))) 91 l (nI (d - min b d)) := by
      rw [hμ1, g1, g2, gm, R_add_nI (by omega) (by decide), R_add_nI (by omega) (by decide), up2_k _ _ (by decide)]
      show up2 (up2 μ 89 (h + 1) (μ 89 (h + 1) + -nI (min b d))) 91 l (μ 91 l + -nI (min b d)) = _
      rw [h3, h4, ← Int32.sub_eq_add_neg, ← Int32.sub_eq_add_neg, nI_subN (by omega), nI_subN (by omega)]
    have hFG : FG (n + 1) μ (nI (h + 1)) (nI l) (nI s) = if R_get μ1 88 121 (nI (h + 1)) = 0 then FG n μ1 (nI (h + 1) - 1) (nI l) (nI s + mnI (nI b) (nI d) * (nI (h + 1) - nI l)) else FG n μ1 (nI (h + 1)) (nI l + 1) (nI s + mnI (nI b) (nI d) * (nI (h + 1) - nI l)) := by
      rw [hμ1, ← g1, ← g2]
      exact if_pos hlt
    have k1 : ∀ x, x < h + 1 → μ1 89 x = nI (ub (κ 260) 0 x (cn (κ 260 1))) := fun x hx => by
      rw [hm1, up2_k _ _ (by decide), up2_n (by omega)]
      exact h5 x hx
    have k2 : ∀ x, l < x → x < 121 → μ1 91 x = nI (ub (κ 260) 1 x (cn (κ 260 1))) := fun x hx hx2 => by
      rw [hm1, up2_n (by omega), up2_k _ _ (by decide)]
      exact h6 x hx hx2
    have k3 : μ1 89 (h + 1) = nI (b - min b d) := by rw [hm1, up2_k _ _ (by decide), up2_y ⟨rfl, rfl⟩]
    have k4 : μ1 91 l = nI (d - min b d) := by rw [hm1, up2_y ⟨rfl, rfl⟩]
    have k5 : ∀ p, p ≠ 89 → p ≠ 91 → μ1 p = μ p := fun p p1 p2 => by rw [hm1, up2_k _ _ p2, up2_k _ _ p1]
    have gm2 : min b d * (h + 1 - l) ≤ 180 * 98 := Nat.mul_le_mul (by omega) (by omega)
    have es : nI s + mnI (nI b) (nI d) * (nI (h + 1) - nI l) = nI (s + min b d * (h + 1 - l)) := by rw [gm, nI_subN (by omega), nI_mul, nI_add]
    have gr : R_get μ1 88 121 (nI (h + 1)) = nI (b - min b d) := by rw [R_get_nI (by omega) (by decide)]; exact k3
    rw [hFG, gr, es, nI_sub1, nI_1]
    have els : lsI (nI b) (nI d) = nI (min b d) := lsI_nI (by omega) (by omega)
    by_cases cb : b = 0
    · have m0 : min b d = 0 := by omega
      have m1 : b - min b d = 0 := by omega
      have m2 : d - min b d = d := by omega
      obtain ⟨r1, r2, ⟨r, r3, r4⟩, r5⟩ := great_at g m n n' h l (ub (κ 260) 0 h (cn (κ 260 1))) d (s + min b d * (h + 1 - l)) μ1 (by omega) (by omega) (by omega) h1 (by omega) bh hd (k1 h (by omega)) (by rw [k4, m2]) (fun x hx => k1 x (by omega)) k2
      have eG : GR κ (n' + 1) (nI s) (nI (h + 1)) (nI l) (nI b) (nI d) = GR κ n' (nI s) (nI h) (nI l) (nI (ub (κ 260) 0 h (cn (κ 260 1)))) (nI d) := by
        rw [← hu0, ← nI_sub1 (n := h)]
        show (if nI l < nI (h + 1) then _ else _) = _
        rw [if_pos hlt, if_pos (show nI b = 0 by rw [cb]; rfl)]
        rfl
      have eO : GRok κ (n' + 1) (nI (h + 1)) (nI l) (nI b) (nI d) := by
        intro _
        refine ⟨fun _ => ?_, fun z => absurd (show nI b = 0 by rw [cb]; rfl) z, fun z => absurd (show nI b = 0 by rw [cb]; rfl) z⟩
        rw [nI_sub1]
        exact hu0 ▸ r2
      have e0 : s + min b d * (h + 1 - l) = s := by rw [m0, Nat.zero_mul, Nat.add_zero]
      rw [if_pos (show nI (b - min b d) = 0 by rw [m1]; rfl), eG]
      rw [e0] at r1 r3 r4 r5 ⊢
      exact ⟨r1, eO, ⟨r, by omega, r4⟩, fun p p1 p2 => (r5 p p1 p2).trans (k5 p p1 p2)⟩
    · have nb : ¬ nI b = 0 := nI_n0 cb (by omega)
      by_cases cd : d = 0
      · have m0 : min b d = 0 := by omega
        have m1 : b - min b d = b := by omega
        obtain ⟨r1, r2, ⟨r, r3, r4⟩, r5⟩ := great_at g m n n' (h + 1) (l + 1) b (ub (κ 260) 1 (l + 1) (cn (κ 260 1))) (s + min b d * (h + 1 - l)) μ1 (by omega) (by omega) (by omega) (by omega) (by omega) hb bl (by rw [k3, m1]) (k2 (l + 1) (by omega) (by omega)) k1 (fun x hx hx2 => k2 x (by omega) hx2)
        have eG : GR κ (n' + 1) (nI s) (nI (h + 1)) (nI l) (nI b) (nI d) = GR κ n' (nI s) (nI (h + 1)) (nI (l + 1)) (nI b) (nI (ub (κ 260) 1 (l + 1) (cn (κ 260 1)))) := by
          rw [← hu1, ← nI_1 l]
          show (if nI l < nI (h + 1) then _ else _) = _
          rw [if_pos hlt, if_neg nb, if_pos (show nI d = 0 by rw [cd]; rfl)]
          rfl
        have eO : GRok κ (n' + 1) (nI (h + 1)) (nI l) (nI b) (nI d) := by
          intro _
          refine ⟨fun z => absurd z nb, fun _ _ => ?_, fun _ z => absurd (show nI d = 0 by rw [cd]; rfl) z⟩
          rw [nI_1]
          exact hu1 ▸ r2
        have e0 : s + min b d * (h + 1 - l) = s := by rw [m0, Nat.zero_mul, Nat.add_zero]
        rw [if_neg (show ¬ nI (b - min b d) = 0 by rw [m1]; exact nb), eG]
        rw [e0] at r1 r3 r4 r5 ⊢
        exact ⟨r1, eO, ⟨r, by omega, r4⟩, fun p p1 p2 => (r5 p p1 p2).trans (k5 p p1 p2)⟩
      · have nd : ¬ nI d = 0 := nI_n0 cd (by omega)
        obtain ⟨n', rfl⟩ : ∃ q, n' = q + 1 := ⟨n' - 1, by omega⟩
        have eG : GR κ (n' + 1 + 1) (nI s) (nI (h + 1)) (nI l) (nI b) (nI d) = GR κ (n' + 1) (nI (s + min b d * (h + 1 - l))) (nI (h + 1)) (nI l) (nI (b - min b d)) (nI (d - min b d)) := by
          show (if nI l < nI (h + 1) then _ else _) = _
          rw [if_pos hlt, if_neg nb, if_neg nd, els, nI_subN (by omega), nI_subN (by omega), nI_subN (by omega), nI_mul, nI_add]
        have eO0 : GRok κ (n' + 1) (nI (h + 1)) (nI l) (nI (b - min b d)) (nI (d - min b d)) → GRok κ (n' + 1 + 1) (nI (h + 1)) (nI l) (nI b) (nI d) := by
          intro hk _
          refine ⟨fun z => absurd z nb, fun _ z => absurd z nd, fun _ _ => ?_⟩
          rw [els, nI_subN (by omega), nI_subN (by omega)]
          exact hk
        rw [eG]
        by_cases c : b - min b d = 0
        · obtain ⟨r1, r2, ⟨r, r3, r4⟩, r5⟩ := great_at g m n n' h l (ub (κ 260) 0 h (cn (κ 260 1))) (d - min b d) (s + min b d * (h + 1 - l)) μ1 (by omega) (by omega) (by omega) h1 (by omega) bh (by omega) (k1 h (by omega)) k4 (fun x hx => k1 x (by omega)) k2
          have eG2 : GR κ (n' + 1) (nI (s + min b d * (h + 1 - l))) (nI (h + 1)) (nI l) (nI (b - min b d)) (nI (d - min b d)) = GR κ n' (nI (s + min b d * (h + 1 - l))) (nI h) (nI l) (nI (ub (κ 260) 0 h (cn (κ 260 1)))) (nI (d - min b d)) := by
            rw [← hu0, ← nI_sub1 (n := h)]
            show (if nI l < nI (h + 1) then _ else _) = _
            rw [if_pos hlt, if_pos (show nI (b - min b d) = 0 by rw [c]; rfl)]
            rfl
          rw [if_pos (show nI (b - min b d) = 0 by rw [c]; rfl), eG2]
          refine ⟨r1, eO0 fun _ => ⟨fun _ => ?_, fun z => absurd (show nI (b - min b d) = 0 by rw [c]; rfl) z, fun z => absurd (show nI (b - min b d) = 0 by rw [c]; rfl) z⟩, ⟨r, by omega, r4⟩, fun p p1 p2 => (r5 p p1 p2).trans (k5 p p1 p2)⟩
          rw [nI_sub1]
          exact hu0 ▸ r2
        · have cd2 : d - min b d = 0 := by omega
          have nb2 : ¬ nI (b - min b d) = 0 := nI_n0 c (by omega)
          obtain ⟨r1, r2, ⟨r, r3, r4⟩, r5⟩ := great_at g m n n' (h + 1) (l + 1) (b - min b d) (ub (κ 260) 1 (l + 1) (cn (κ 260 1))) (s + min b d * (h + 1 - l)) μ1 (by omega) (by omega) (by omega) (by omega) (by omega) (by omega) bl k3 (k2 (l + 1) (by omega) (by omega)) k1 (fun x hx hx2 => k2 x (by omega) hx2)
          have eG2 : GR κ (n' + 1) (nI (s + min b d * (h + 1 - l))) (nI (h + 1)) (nI l) (nI (b - min b d)) (nI (d - min b d)) = GR κ n' (nI (s + min b d * (h + 1 - l))) (nI (h + 1)) (nI (l + 1)) (nI (b - min b d)) (nI (ub (κ 260) 1 (l + 1) (cn (κ 260 1)))) := by
            rw [← hu1, ← nI_1 l]
            show (if nI l < nI (h + 1) then _ else _) = _
            rw [if_pos hlt, if_neg nb2, if_pos (show nI (d - min b d) = 0 by rw [cd2]; rfl)]
            rfl
          rw [if_neg nb2, eG2]
          refine ⟨r1, eO0 fun _ => ⟨fun z => absurd z nb2, fun _ _ => ?_, fun _ z => absurd (show nI (d - min b d) = 0 by rw [cd2]; rfl) z⟩, ⟨r, by omega, r4⟩, fun p p1 p2 => (r5 p p1 p2).trans (k5 p p1 p2)⟩
          rw [nI_1]
          exact hu1 ▸ r2
theorem greatest_at {μ κ : Mm} {a N R : Nat} (h : REL μ a (κ 260)) (g : RNG N R (κ 260)) (ha : a + 40 ≤ 81) : (C_greatest μ a).2 = M_greatest κ ∧ M_grok κ ∧ (∃ r, r < 2 ^ 30 ∧ (C_greatest μ a).2 = nI r) ∧ ∀ p, p ≠ 89 → p ≠ 91 → (C_greatest μ a).1 p = μ p := by
  obtain ⟨t1, t2⟩ := tallyV_at h g ha (cn (κ 260 1)) (Nat.le_refl _)
  have eT : C_tallyV μ a = itr (V_step a) (R_zero (R_zero μ 88 121) 90 121) (cn (κ 260 1)) := by unfold C_tallyV; rw [rd_n1 h]
  rw [← eT] at t1 t2
  have hu0 := unitsBy_at (sd := 0) (x := 99) g (by omega) (by omega)
  have hu1 := unitsBy_at (sd := 1) (x := 1) g (by omega) (by omega)
  obtain ⟨r1, r2, ⟨r, r3, r4⟩, r5⟩ := great_at g 98 98 400 99 1 _ _ 0 (C_tallyV μ a) rfl (by decide) (by decide) (by decide) (by decide) (ub_bd g (Nat.le_refl _)) (ub_bd g (Nat.le_refl _)) (t1 99 (by decide)).1 (t1 1 (by decide)).2 (fun x hx => (t1 x (by omega)).1) (fun x _ hx => (t1 x hx).2)
  rw [← hu0, ← hu1] at r1 r2
  have eC : C_greatest μ a = FG 98 (C_tallyV μ a) (nI 99) (nI 1) (nI 0) := C_greatest_eq μ a
  rw [eC]
  refine ⟨?_, ?_, ⟨r, by omega, r4⟩, fun p p1 p2 => (r5 p p1 p2).trans (t2 p p1 p2)⟩
  · unfold M_greatest
    rw [NN_eq 400]
    exact r1
  · unfold M_grok
    rw [NN_eq 400]
    exact r2
end
