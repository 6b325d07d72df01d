noncomputable section
theorem E_at {μ0 ν μ κ : Mm} {a N R t N0 R0 : Nat} (ha : a + 40 ≤ 81) (gf : RNG N0 R0 (ν 260)) (hE : EN a N R (ν 260) μ0 ν μ κ) (ht : t < cn (ν 260 0)) : EN a N R (ν 260) μ0 ν (E_step a t μ) (M_learns (M_settles κ (nI t)) (nI t)) := by
  have hc := gf.c0
  obtain ⟨hR, hG, hS, h4, h5, h6, h7, h8, h9⟩ := hE
  have ht2 : t < cn (κ 260 0) := by rw [hS.1.1]; exact ht
  have n' : κ 260 1 = ν 260 1 := hS.1.2.1
  obtain ⟨T, hT⟩ : ∃ T, T = tkN (ν 260) (VN (ν 260)) t := ⟨_, rfl⟩
  have bT : T ≤ 180 := by
    have : tkN (ν 260) (VN (ν 260)) t ≤ 9 * cn (ν 260 1) := sN_bd fun k hk => by
      have := nU_le gf hk
      have := fN_le (ν 260) (VN (ν 260)) k
      split <;> omega
    omega
  have tk : C_takenOf μ (a + 16) (nI t) = nI T := by
    rw [hT]
    unfold C_takenOf tkN
    rw [rd_n1 hR, n', ← sumI_nI]
    refine sumI_congr fun k hk => ?_
    have hk' : k < cn (κ 260 1) := by rw [n']; exact hk
    obtain ⟨t1, -⟩ := of_T hG hk'
    have := nT_lt gf hk
    rw [rd_who hR hG hk', t1, (hS.1.n gf hk).1, R_get_nI (by omega) (by decide), h9 k hk]
    by_cases c : nT (ν 260) k = t
    · rw [c, if_pos rfl, if_pos rfl]
    · rw [if_neg (fun z => c ((nI_inj (by omega) (by omega)).mp z)), if_neg c]; rfl
  have tkM : M_takenOf κ (nI t) = nI T := by rw [taken_SM gf hG hS (by omega), hT]; rfl
  obtain ⟨pr, hpr⟩ : ∃ p, p = prI (gsR (ν 260) 120) (ν 260 3) := ⟨_, rfl⟩
  rw [← hpr] at h7
  have gM : M_gainsOf κ (nI t) = nI T * gT (ν 260) t pr := by
    rw [gains_SM gf hG hS ht, ← hpr]
    unfold gF
    congr 1
    rw [hT]
    unfold tkN
    rw [← sumI_nI]
    refine sumI_congr fun k hk => ?_
    split <;> rfl
  have gTe : gT (κ 260) t pr = gT (ν 260) t pr := by
    unfold gT
    rw [(hS.1.2.2.2 t (by omega)).1, (hS.1.2.2.2 t (by omega)).2]
  have pd : M_paid κ (nI t) = nI T * pr := by
    unfold M_paid
    rw [tkM, hS.2.2, ← hpr]
    by_cases c : T = 0
    · rw [c, if_pos (show nI 0 = (0 : Int32) from rfl), show nI 0 = (0 : Int32) from rfl, Int32.zero_mul]
    · rw [if_neg (nI_n0 c (by omega))]
  obtain ⟨r, hr⟩ : ∃ r, r = κ 260 := ⟨_, rfl⟩
  obtain ⟨A, hA⟩ : ∃ z, z = r (11 + 7 * t + 4) + nI T := ⟨_, rfl⟩
  obtain ⟨Bb, hB⟩ : ∃ z, z = r (11 + 7 * t + 5) + nI T * gT (ν 260) t pr := ⟨_, rfl⟩
  obtain ⟨Cc, hC⟩ : ∃ z, z = r (11 + 7 * t + 6) + (if r (11 + 7 * t) = 0 then -(nI T * pr) else nI T * pr) := ⟨_, rfl⟩
  have rowM : M_settles κ (nI t) 260 = ch (ch (ch r (11 + 7 * t + 4) A) (11 + 7 * t + 5) Bb) (11 + 7 * t + 6) Cc := by
    rw [settles_row (by omega), tkM, gM, pd, ← hr, ← hA, ← hB, ← hC]
  have bk : T_book μ (a + 1) (nI t) (nI T) (μ 81 2) = up2 (up2 (up2 μ (a + 3 + 2 * 4) t A) (a + 3 + 2 * 5) t Bb) (a + 3 + 2 * 6) t Cc := by
    have e3 : (if r (11 + 7 * t) = 0 then -pr else pr) * nI T = if r (11 + 7 * t) = 0 then -(nI T * pr) else nI T * pr := by
      split
      · rw [Int32.neg_mul, Int32.mul_comm]
      · rw [Int32.mul_comm]
    rw [h7, book_at hR hG ht2, ← hr, e3, hr, gTe, ← hr, Int32.mul_comm (gT (ν 260) t pr), ← hA, ← hB, ← hC]
  obtain ⟨μ1, hμ1⟩ : ∃ m, m = T_book μ (a + 1) (nI t) (nI T) (μ 81 2) := ⟨_, rfl⟩
  obtain ⟨κ1, hκ1⟩ : ∃ m, m = M_settles κ (nI t) := ⟨_, rfl⟩
  rw [← hμ1] at bk
  rw [← hκ1] at rowM
  rw [← hr] at hR hG ht2
  have nc : (4 = 1 → vp_in A 100 ∧ A ≠ 0) ∧ (4 = 2 → vp_in A 4) ∧ (4 = 3 → vp_in A 51) := ⟨fun z => absurd z (by decide), fun z => absurd z (by decide), fun z => absurd z (by decide)⟩
  have R1 := wr_t (w := 4) (v := A) hR hG ht2 (by decide) (by decide)
  have G1 := rg_t (w := 4) (v := A) hG ht2 (by decide) (by decide) ⟨fun z => absurd z (by decide), fun z => absurd z (by decide), fun z => absurd z (by decide)⟩
  have t1 : t < cn (ch r (11 + 7 * t + 4) A 0) := by rw [ch_n (by omega)]; exact ht2
  have R2 := wr_t (w := 5) (v := Bb) R1 G1 t1 (by decide) (by decide)
  have G2 := rg_t (w := 5) (v := Bb) G1 t1 (by decide) (by decide) ⟨fun z => absurd z (by decide), fun z => absurd z (by decide), fun z => absurd z (by decide)⟩
  have t2 : t < cn (ch (ch r (11 + 7 * t + 4) A) (11 + 7 * t + 5) Bb 0) := by rw [ch_n (by omega)]; exact t1
  have R3 := wr_t (w := 6) (v := Cc) R2 G2 t2 (by decide) (by decide)
  have G3 := rg_t (w := 6) (v := Cc) G2 t2 (by decide) (by decide) ⟨fun z => absurd z (by decide), fun z => absurd z (by decide), fun z => absurd z (by decide)⟩
  rw [← bk, ← rowM] at R3
  rw [← rowM] at G3
  have S3 : SM (ν 260) κ1 := by
    refine ⟨?_, ?_, ?_⟩
    · rw [rowM]
      have o := hS.1
      rw [← hr] at o
      exact OA_ch (OA_ch (OA_ch o (by omega) (by decide) (by decide)) (by omega) (by decide) (by decide)) (by omega) (by decide) (by decide)
    · rw [hκ1, settles_p (by decide)]; exact hS.2.1
    · rw [hκ1, settles_p (by decide)]; exact hS.2.2
  have ht3 : t < cn (κ1 260 0) := by rw [S3.1.1]; exact ht
  have hd : O_unitsOf μ1 (a + 16) (nI t) = nI (hdN (ν 260) t) := by
    rw [rd_unitsOf R3 G3]
    unfold M_ordersOf hdN
    rw [S3.1.2.1, ← sumI_nI]
    refine sumI_congr fun k hk => ?_
    have hk' : k < cn (κ1 260 1) := by rw [S3.1.2.1]; exact hk
    obtain ⟨w1, -⟩ := of_T G3 hk'
    obtain ⟨w2, -⟩ := of_U G3 hk'
    have := nT_lt gf hk
    rw [w1, (S3.1.n gf hk).1, w2, (S3.1.n gf hk).2.2.1]
    by_cases c : nT (ν 260) k = t
    · rw [c, if_pos rfl, if_neg (by decide), if_pos rfl]
    · rw [if_neg (fun z => c ((nI_inj (by omega) (by omega)).mp z)), if_neg c]; rfl
  have eE : E_step a t μ = T_learn μ1 (a + 1) (nI t) (nI (hdN (ν 260) t)) (nI (tkN (ν 260) (VN (ν 260)) t)) := by
    unfold E_step
    dsimp only
    rw [tk, ← hμ1, hd, hT]
  obtain ⟨v, l1, l2, l3⟩ := learn_at R3 G3 gf S3 ht
  rw [eE, ← hκ1]
  obtain ⟨μ2, hμ2⟩ : ∃ m, m = T_learn μ1 (a + 1) (nI t) (nI (hdN (ν 260) t)) (nI (tkN (ν 260) (VN (ν 260)) t)) := ⟨_, rfl⟩
  rw [← hμ2] at l3 ⊢
  have o1 : ∀ p, p < a ∨ a + 40 ≤ p → μ1 p = μ p := fun p hp => by rw [bk, up2_k _ _ (by omega), up2_k _ _ (by omega), up2_k _ _ (by omega)]
  have o2 : ∀ p, p < a ∨ a + 40 ≤ p → μ2 p = μ1 p := fun p hp => by
    rcases l3 with z | z
    · rw [z, up2_k _ _ (by omega)]
    · rw [z.1]
  have R4 : REL μ2 a (M_learns κ1 (nI t) 260) := by
    rw [l1]
    rcases l3 with z | z
    · rw [z]; exact wr_t (w := 3) R3 G3 ht3 (by decide) (by decide)
    · rw [z.1, ch_self z.2.symm]; exact R3
  have G4 : RNG N R (M_learns κ1 (nI t) 260) := by
    rw [l1]
    exact rg_t (w := 3) G3 ht3 (by decide) (by decide) ⟨fun z => absurd z (by decide), fun z => absurd z (by decide), fun _ => l2⟩
  refine ⟨R4, G4, ⟨?_, ?_, ?_⟩, fun p hp => ?_, fun p p1 p2 => ?_, fun i => ?_, ?_, ?_, fun k hk => ?_⟩
  · rw [l1]; exact OA_ch S3.1 (by omega) (by decide) (by decide)
  · rw [learns_p (by decide)]; exact S3.2.1
  · rw [learns_p (by decide)]; exact S3.2.2
  · rw [o2 p (by omega), o1 p (by omega), h4 p hp]
  · rw [learns_p p2, hκ1, settles_p p2]; exact h5 p p1 p2
  · rw [learns_p (by decide), hκ1, settles_p (by decide)]; exact h6 i
  · rw [o2 81 (by omega), o1 81 (by omega), h7, hpr]
  · rw [o2 81 (by omega), o1 81 (by omega)]; exact h8
  · rw [o2 83 (by omega), o1 83 (by omega)]; exact h9 k hk
theorem E_all {μ ν : Mm} {a N R : Nat} (h : REL μ a (ν 260)) (g : RNG N R (ν 260)) (ha : a + 40 ≤ 81) : ∀ k, k ≤ cn (ν 260 0) → EN a N R (ν 260) μ ν (A_end2 μ a k) (M_cl2 ν k)
  | 0, _ => (cl1_at h g ha).1
  | k + 1, hk => E_at ha g (E_all h g ha k (by omega)) (by omega)
end
