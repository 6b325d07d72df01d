noncomputable section
/-! the end of a round: settled, paired, booked -/
theorem pb_pos {f : Nat → Int32} {N R V sd L i : Nat} {qf : Nat → Nat} (g : RNG N R f) (hQ : QI (cn (f 1)) (nS f) (nW f) sd qf L) (hi : i < L) (h : sN (fun x => fN f V (qf x)) i < V) : 0 < fN f V (qf i) := by
  have e : sN (fun x => fN f V (qf x)) i = sN (fun x => min (V - sN (fun y => nU f (qf y)) x) (nU f (qf x))) i := sN_congr fun x hx => by
    unfold fN aN
    rw [(hQ.1 x (by omega)).2, ← hQ.sum (nU f) (by omega)]
  rw [e, greedy (fun x => nU f (qf x)) V i] at h
  have e2 : fN f V (qf i) = min (V - sN (fun y => nU f (qf y)) i) (nU f (qf i)) := by
    unfold fN aN
    rw [(hQ.1 i hi).2, ← hQ.sum (nU f) hi]
  have hu : 0 < nU f (qf i) := by
    obtain ⟨u1, u2⟩ := (g.2.2.2.2.2.2.1 _ (hQ.1 i hi).1).2.2.2.1
    obtain ⟨v, hv, ev⟩ := vp_nI u1 (by decide)
    unfold nU
    rw [ev, cn_nI (by omega)]
    rcases Nat.eq_zero_or_pos v with z | z
    · rw [ev, z] at u2; exact absurd rfl u2
    · exact z
  rw [e2]
  omega
theorem QI_two {n Lb Ls : Nat} {S W qb qs : Nat → Nat} (hb : QI n S W 0 qb Lb) (hs : QI n S W 1 qs Ls) : Lb + Ls ≤ n := by
  have h1 := hb.all (fun _ => 1)
  have h2 := hs.all (fun _ => 1)
  rw [sN_k] at h1 h2
  have h3 := sN_add (fun k => if S k = 0 then 1 else 0) (fun k => if S k = 1 then 1 else 0) n
  have h4 := sN_le (g := fun k => (if S k = 0 then 1 else 0) + if S k = 1 then 1 else 0) (h := fun _ => 1) (n := n) fun k _ => by
    show (if S k = 0 then 1 else 0) + (if S k = 1 then 1 else 0) ≤ 1
    split <;> split <;> omega
  rw [sN_k] at h4
  omega
theorem wr_no {μ : Mm} {a N R : Nat} {f : Nat → Int32} (h : REL μ a f) (g : RNG N R f) : REL (up2 μ (a + 29) 0 0) a (ch f 9 0) ∧ RNG N R (ch f 9 0) := by
  have hc := g.c0
  have m : ∀ q j, q ≠ a + 29 → up2 μ (a + 29) 0 0 q j = μ q j := fun q j hq => up2_n (fun c => hq c.1)
  have e : ∀ j, j ≠ 9 → ch f 9 0 j = f j := fun j hj => ch_n hj
  have z : cn (ch f 9 0 9) = 0 := by rw [ch_y]; rfl
  constructor
  · obtain ⟨⟨e1, e2, e3, e4, e5, e6, e7, e8, e9, e10, e11⟩, ht, ho, hd⟩ := h
    refine ⟨⟨?_, ?_, ?_, ?_, ?_, ?_, ?_, ?_, ?_, ?_, ?_⟩, fun t ht' w hw => ?_, fun k hk => ?_, fun j hj w hw => ?_⟩
    · rw [m _ _ (by omega), e _ (by omega)]; exact e1
    · rw [m _ _ (by omega), e _ (by omega)]; exact e2
    · rw [m _ _ (by omega), e _ (by omega)]; exact e3
    · rw [m _ _ (by omega), e _ (by omega)]; exact e4
    · rw [m _ _ (by omega), e _ (by omega)]; exact e5
    · rw [m _ _ (by omega), e _ (by omega)]; exact e6
    · rw [m _ _ (by omega), e _ (by omega)]; exact e7
    · rw [m _ _ (by omega), e _ (by omega)]; exact e8
    · rw [m _ _ (by omega), e _ (by omega)]; exact e9
    · rw [up2_y ⟨rfl, rfl⟩, ch_y]
    · rw [m _ _ (by omega), e _ (by omega)]; exact e11
    · rw [e 0 (by omega)] at ht'
      rw [m _ _ (by omega), e _ (by omega)]; exact ht t ht' w hw
    · rw [e 1 (by omega)] at hk
      rw [m _ _ (by omega), m _ _ (by omega), m _ _ (by omega), m _ _ (by omega), m _ _ (by omega), m _ _ (by omega)]
      rw [e (67 + 5 * k) (by omega), e (68 + 5 * k) (by omega), e (69 + 5 * k) (by omega), e (70 + 5 * k) (by omega), e (71 + 5 * k) (by omega), e (11 + 7 * cn (f (68 + 5 * k))) (by omega)]
      exact ho k hk
    · rw [z] at hj; exact absurd hj (Nat.not_lt_zero j)
  · obtain ⟨g1, g2, g3, g4, g5, g6, g7, g8⟩ := g
    refine ⟨⟨?_, ?_, ?_, fun k hk => ?_⟩, ?_, ?_, ?_, ?_, fun t ht => ?_, fun k hk => ?_, fun j k hj hk => ?_⟩
    · rw [e 0 (by omega)]; exact g1.1
    · rw [e 1 (by omega)]; exact g1.2.1
    · rw [ch_y]; exact vpd rfl
    · rw [e _ (by omega)]; exact g1.2.2.2 k hk
    · rw [e 2 (by omega)]; exact g2
    · rw [e 3 (by omega)]; exact g3
    · rw [e 4 (by omega)]; exact g4
    · rw [e 5 (by omega)]; exact g5
    · rw [e 0 (by omega)] at ht
      rw [e _ (by omega), e _ (by omega), e _ (by omega), e _ (by omega)]; exact g6 t ht
    · rw [e 1 (by omega)] at hk
      rw [e (67 + 5 * k) (by omega), e (68 + 5 * k) (by omega), e (69 + 5 * k) (by omega), e (70 + 5 * k) (by omega), e (71 + 5 * k) (by omega), e 5 (by omega), e 0 (by omega), e 2 (by omega)]
      exact g7 k hk
    · rw [e 1 (by omega)] at hk
      rw [e _ (by omega), e _ (by omega)]; exact g8 j k hj hk
/-- what holds of both sides while a round ends -/
def EN (a N R : Nat) (f : Nat → Int32) (μ0 ν0 μ κ : Mm) : Prop :=
  REL μ a (κ 260) ∧ RNG N R (κ 260) ∧ SM f κ ∧ (∀ p, p < a ∨ (a + 40 ≤ p ∧ p < 81) ∨ 91 < p → μ p = μ0 p) ∧ (∀ p, p ≠ 259 → p ≠ 260 → κ p = ν0 p) ∧ (∀ i, κ 259 i = M_finds ν0 259 i) ∧ μ 81 2 = prI (gsR f 120) (f 3) ∧ μ 81 3 = nI (VN f) ∧ ∀ k, k < cn (f 1) → μ 83 k = nI (fN f (VN f) k)
theorem cl1_at {μ ν : Mm} {a N R : Nat} (h : REL μ a (ν 260)) (g : RNG N R (ν 260)) (ha : a + 40 ≤ 81) : EN a N R (ν 260) μ ν (A_end1 μ a) (M_cl1 ν) ∧ M_clok ν := by
  have hc := g.c0
  obtain ⟨v1, v2, v3⟩ := VN_at g g.2.2.1
  obtain ⟨f7, f4, f5, f6, fo⟩ := finds_at g
  obtain ⟨s1, s2, s3, s4, s5, s6, s7, Lb, Ls, qb, qs, hb, hs, s8, s9, s85, s87⟩ := settle_at h g ha
  obtain ⟨μ1, hμ1⟩ : ∃ m, m = C_settle μ a := ⟨_, rfl⟩
  rw [← hμ1] at s1 s2 s3 s4 s5 s6 s7 s8 s9 s85 s87
  have hLb := hb.len
  have hLs := hs.len
  have tot : ∀ V, V = VN (ν 260) → V ≤ sN (fun k => if nS (ν 260) k = 0 then nU (ν 260) k else 0) (cn (ν 260 1)) ∧ V ≤ sN (fun k => if nS (ν 260) k = 1 then nU (ν 260) k else 0) (cn (ν 260 1)) := fun V hV => by
    by_cases c : V = 0
    · omega
    · obtain ⟨p, -, -, -, q4, q5⟩ := v3 (by omega)
      have := dD_tot g p
      have := dY_tot g p
      omega
  have hF : sN (fun i => fN (ν 260) (VN (ν 260)) (qb i)) Lb = VN (ν 260) := by rw [hb.all (fN (ν 260) (VN (ν 260)))]; exact fN_tot g hb (tot _ rfl).1
  have hG : sN (fun i => fN (ν 260) (VN (ν 260)) (qs i)) Ls = VN (ν 260) := by rw [hs.all (fN (ν 260) (VN (ν 260)))]; exact fN_tot g hs (tot _ rfl).2
  have r1 : REL μ1 a (ν 260) := h.of fun p p1 p2 => s1 p (by omega)
  obtain ⟨w1, w2⟩ := wr_no r1 g
  obtain ⟨κ0, hκ0⟩ : ∃ m, m = up2 (M_finds ν) 260 9 0 := ⟨_, rfl⟩
  have e0 : κ0 260 = ch (ν 260) 9 0 := by rw [hκ0, up2_ch, M_finds_260]
  have k59 : κ0 259 = M_finds ν 259 := by rw [hκ0, up2_k _ _ (by decide)]
  have oa : OA (ν 260) (κ0 260) := by
    rw [e0]
    exact ⟨ch_n (by decide), ch_n (by decide), fun i i1 i2 => ch_n (by omega), fun t ht => ⟨ch_n (by omega), ch_n (by omega)⟩⟩
  have sm0 : SM (ν 260) κ0 := ⟨oa, by rw [k59]; exact f7, by rw [k59]; exact f6⟩
  have u8 : ∀ p, p ≠ a + 29 → up2 μ1 (a + 29) 0 0 p = μ1 p := fun p hp => up2_k _ _ hp
  have T := trades_at (V := VN (ν 260)) ha g rfl v1 hb hs hF hG (fun i hi hlt => pb_pos g hb hi hlt) (fun i hi hlt => pb_pos g hs hi hlt) (by have := QI_two hb hs; omega) (Lb + Ls) 40 0 0 0 0 0 (VN (ν 260)) (up2 μ1 (a + 29) 0 0) κ0
    (by rw [e0]; exact w1) (by rw [e0]; exact w2) sm0 (by rw [e0, ch_y]; rfl) (Nat.le_refl _) (Nat.zero_le _) (Nat.zero_le _) (by omega) (by have := QI_two hb hs; omega) (Nat.zero_add _) (Nat.zero_add _) (Or.inl rfl) (Or.inl rfl)
    (by rw [u8 81 (by omega)]; exact s8) (by rw [u8 81 (by omega)]; exact s9) (fun i hi => by rw [u8 85 (by omega)]; exact s85 i hi) (fun i hi => by rw [u8 87 (by omega)]; exact s87 i hi) (fun k hk => by rw [u8 83 (by omega)]; exact s7 k hk)
  have eP : C_pairOff μ1 (a + 16) (a + 29) = PF (a + 16) (a + 29) (Lb + Ls) (up2 μ1 (a + 29) 0 0) (nI 0) (nI 0) (nI 0) (nI 0) := by
    unfold C_pairOff
    rw [s8, s9, cn_nI (by omega), cn_nI (by omega)]
    rfl
  have k7 : κ0 259 7 = nI (VN (ν 260)) := by rw [k59]; exact f7
  have eT : M_trades (M_finds ν) = TR 40 κ0 (nI (VN (ν 260))) (nI 0) (nI 0) (nI 0) (nI 0) := by
    unfold M_trades
    rw [← hκ0, NN_eq 40, k7]
    rfl
  have eO : M_clok ν = TRok 40 κ0 (nI (VN (ν 260))) (nI 0) (nI 0) (nI 0) (nI 0) := by
    unfold M_clok M_trok
    rw [← hκ0, NN_eq 40, k7]
    rfl
  rw [← eP, ← eT] at T
  rw [← eO] at T
  obtain ⟨t1, t2, t3, t4, t5, t6⟩ := T
  obtain ⟨μ2, hμ2⟩ : ∃ m, m = C_pairOff μ1 (a + 16) (a + 29) := ⟨_, rfl⟩
  obtain ⟨κ2, hκ2⟩ : ∃ m, m = M_trades (M_finds ν) := ⟨_, rfl⟩
  rw [← hμ2] at t1 t6
  rw [← hκ2] at t1 t2 t3 t5
  have m2 : ∀ p, p < a ∨ a + 40 ≤ p → μ2 p = μ1 p := fun p hp => by rw [t6 p hp, u8 p (by omega)]
  have eA : A_end1 μ a = up2 (up2 (up2 μ2 a 9 (μ2 81 2)) a 7 (μ2 a 7 + μ2 81 3)) a 8 (μ2 a 8 + μ2 81 4) := by
    unfold A_end1
    dsimp only
    rw [← hμ1, ← hμ2, up2_n (by omega), up2_n (by omega), up2_n (by omega), up2_n (by omega), up2_n (by omega), up2_n (by omega)]
  have k259 : ∀ i, κ2 259 i = M_finds ν 259 i := fun i => by rw [t5 259 (by decide), k59]
  have eM : M_cl1 ν = up2 (up2 (up2 κ2 260 7 (κ2 260 7 + M_surplusNow (M_finds ν))) 260 6 (κ2 260 6 + nI (VN (ν 260)))) 260 8 (prI (gsR (ν 260) 120) (ν 260 3)) := by
    unfold M_cl1
    dsimp only
    rw [← hκ2, surplus_SM g t2 t3, up2_n (by omega), up2_n (by omega), up2_n (by omega), up2_n (by omega), t3.2.1, k259 6, f6]
  obtain ⟨μe, hμe⟩ : ∃ m, m = A_end1 μ a := ⟨_, rfl⟩
  obtain ⟨κe, hκe⟩ : ∃ m, m = M_cl1 ν := ⟨_, rfl⟩
  rw [← hμe] at eA
  rw [← hκe] at eM
  have v82 : μ2 81 2 = prI (gsR (ν 260) 120) (ν 260 3) := by rw [m2 81 (by omega), s4, f6]
  have v83 : μ2 81 3 = nI (VN (ν 260)) := by rw [m2 81 (by omega), s5, f7]
  have v84 : μ2 81 4 = M_surplusNow (M_finds ν) := by rw [m2 81 (by omega), s6]
  have row : κe 260 = ch (ch (ch (κ2 260) 8 (prI (gsR (ν 260) 120) (ν 260 3))) 6 (κ2 260 6 + nI (VN (ν 260)))) 7 (κ2 260 7 + M_surplusNow (M_finds ν)) := by
    rw [eM, up2_ch, up2_ch, up2_ch]
    funext i
    unfold ch
    by_cases c6 : i = 6
    · subst c6; rfl
    · by_cases c7 : i = 7
      · subst c7; rfl
      · by_cases c8 : i = 8
        · subst c8; rfl
        · rw [if_neg c8, if_neg c6, if_neg c7, if_neg c7, if_neg c6, if_neg c8]
  have eR : REL μe a (κe 260) := by
    rw [row, eA, v82, v83, v84, show μ2 a 7 = κ2 260 6 from t1.1.2.2.2.2.2.2.1, show μ2 a 8 = κ2 260 7 from t1.1.2.2.2.2.2.2.2.1]
    exact wr_h (wr_h (wr_h t1 (by unfold HD; omega)) (by unfold HD; omega)) (by unfold HD; omega)
  have eG : RNG N R (κe 260) := by
    rw [row]
    exact rg_h (rg_h (rg_h t2 (by omega) (fun z => absurd z (by decide)) (fun z => absurd z (by decide))) (by omega) (fun z => absurd z (by decide)) (fun z => absurd z (by decide))) (by omega) (fun z => absurd z (by decide)) (fun z => absurd z (by decide))
  have kp' : ∀ p, p ≠ 260 → κe p = κ2 p := fun p hp => by rw [eM, up2_k _ _ hp, up2_k _ _ hp, up2_k _ _ hp]
  have oe : OA (κ2 260) (κe 260) := by
    rw [row]
    refine ⟨?_, ?_, fun i i1 i2 => ?_, fun t ht => ⟨?_, ?_⟩⟩
    · rw [ch_n (by decide), ch_n (by decide), ch_n (by decide)]
    · rw [ch_n (by decide), ch_n (by decide), ch_n (by decide)]
    · rw [ch_n (by omega), ch_n (by omega), ch_n (by omega)]
    · rw [ch_n (by omega), ch_n (by omega), ch_n (by omega)]
    · rw [ch_n (by omega), ch_n (by omega), ch_n (by omega)]
  have ma : ∀ p, p ≠ a → μe p = μ2 p := fun p hp => by rw [eA, up2_k _ _ hp, up2_k _ _ hp, up2_k _ _ hp]
  rw [← hμe, ← hκe]
  refine ⟨⟨eR, eG, ⟨t3.1.tr oe, ?_, ?_⟩, fun p hp => ?_, fun p p1 p2 => ?_, fun i => ?_, ?_, ?_, fun k hk => ?_⟩, t4⟩
  · rw [kp' 259 (by decide), k259]; exact f7
  · rw [kp' 259 (by decide), k259]; exact f6
  · rw [ma p (by omega), m2 p (by omega), s1 p (by omega)]
  · rw [kp' p p2, t5 p p2, hκ0, up2_k _ _ p2]
    unfold M_finds
    rw [up2_k _ _ p1, FI_ne p1]
  · rw [kp' 259 (by decide), k259]
  · rw [ma 81 (by omega)]; exact v82
  · rw [ma 81 (by omega)]; exact v83
  · rw [ma 83 (by omega), m2 83 (by omega)]; exact s7 k hk
end
