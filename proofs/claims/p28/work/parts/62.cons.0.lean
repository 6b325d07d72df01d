noncomputable section
/-! a round's end: what the row keeps together -/
theorem adds_mid {κ : Mm} {b s u : Int32} {c i : Nat} (h9 : κ 260 9 = nI c) (hc : c < 20) (hi : i < 167) (hi9 : i ≠ 9) : M_adds κ b s u 260 i = κ 260 i := by
  have ix : (167 : Int32) + 5 * κ 260 9 = nI (167 + 5 * c) := by rw [h9, show (167 : Int32) = nI 167 from rfl, show (5 : Int32) = nI 5 from rfl, nI_mul, nI_add]
  have i1 : (167 : Int32) + 5 * κ 260 9 + 1 = nI (168 + 5 * c) := by rw [ix, nI_1, show 167 + 5 * c + 1 = 168 + 5 * c by omega]
  have i2 : (167 : Int32) + 5 * κ 260 9 + 2 = nI (169 + 5 * c) := by rw [ix, show (2 : Int32) = nI 2 from rfl, nI_add, show 167 + 5 * c + 2 = 169 + 5 * c by omega]
  have i3 : (167 : Int32) + 5 * κ 260 9 + 3 = nI (170 + 5 * c) := by rw [ix, show (3 : Int32) = nI 3 from rfl, nI_add, show 167 + 5 * c + 3 = 170 + 5 * c by omega]
  have i4 : (167 : Int32) + 5 * κ 260 9 + 4 = nI (171 + 5 * c) := by rw [ix, show (4 : Int32) = nI 4 from rfl, nI_add, show 167 + 5 * c + 4 = 171 + 5 * c by omega]
  unfold M_adds
  try dsimp only
  rw [i1, i2, i3, i4, ix, cn_nI (by omega), cn_nI (by omega), cn_nI (by omega), cn_nI (by omega), cn_nI (by omega)]
  rw [up2_n (by omega), up2_n (by omega), up2_n (by omega), up2_n (by omega), up2_n (by omega), up2_n (by omega)]
theorem TR_mid {i : Nat} (hi : i < 167) (hi9 : i ≠ 9) : ∀ n (κ : Mm) l b s x y, TRok n κ l b s x y → TR n κ l b s x y 260 i = κ 260 i
  | 0, κ, l, b, s, x, y, _ => rfl
  | n + 1, κ, l, b, s, x, y, h => by
    show (if 0 < l then _ else κ) 260 i = κ 260 i
    by_cases c : 0 < l
    · rw [if_pos c]
      obtain ⟨h9, h2⟩ := h c
      obtain ⟨q, hq, eq⟩ := vp_nI h9 (by decide)
      rw [TR_mid hi hi9 n _ _ _ _ _ _ h2]
      exact adds_mid eq hq hi hi9
    · rw [if_neg c]
theorem cl1_row {μ ν : Mm} {a N R : Nat} (h : REL μ a (ν 260)) (g : RNG N R (ν 260)) (ha : a + 40 ≤ 81) : (∀ i, i < 67 → i ≠ 6 → i ≠ 7 → i ≠ 8 → i ≠ 9 → M_cl1 ν 260 i = ν 260 i) ∧ M_cl1 ν 260 6 = ν 260 6 + nI (VN (ν 260)) ∧ M_cl1 ν 260 7 = ν 260 7 + M_surplusNow (M_finds ν) := by
  obtain ⟨⟨-, eG, eS, -, -, e9, -⟩, hok⟩ := cl1_at h g ha
  obtain ⟨f7, f4, f5, f6, fo⟩ := finds_at g
  obtain ⟨κ2, hκ2⟩ : ∃ m, m = M_trades (M_finds ν) := ⟨_, rfl⟩
  have mid : ∀ i, i < 167 → i ≠ 9 → κ2 260 i = ν 260 i := fun i hi hi9 => by
    rw [hκ2]
    unfold M_trades
    rw [TR_mid hi hi9 _ _ _ _ _ _ _ hok, up2_n (by omega), M_finds_260]
  obtain ⟨κe, hκe⟩ : ∃ m, m = M_cl1 ν := ⟨_, rfl⟩
  have eM : κe = up2 (up2 (up2 κ2 260 7 (κ2 260 7 + M_surplusNow κ2)) 260 6 (κ2 260 6 + κ2 259 7)) 260 8 (κ2 259 6) := by
    rw [hκe]
    unfold M_cl1
    dsimp only
    rw [← hκ2, up2_n (by omega), up2_n (by omega), up2_n (by omega), up2_n (by omega)]
  rw [← hκe] at eG eS e9 ⊢
  have k9 : ∀ i, κ2 259 i = κe 259 i := fun i => by rw [eM, up2_n (by omega), up2_n (by omega), up2_n (by omega)]
  have row2 : κ2 260 = ch (ch (ch (κe 260) 8 (κ2 260 8)) 6 (κ2 260 6)) 7 (κ2 260 7) := by
    funext i
    unfold ch
    by_cases c7 : i = 7
    · subst c7; rfl
    · by_cases c6 : i = 6
      · subst c6; rfl
      · by_cases c8 : i = 8
        · subst c8; rfl
        · rw [if_neg c7, if_neg c6, if_neg c8, eM, up2_n (by omega), up2_n (by omega), up2_n (by omega)]
  have g2 : RNG N R (κ2 260) := by
    rw [row2]
    exact rg_h (rg_h (rg_h eG (by omega) (fun z => absurd z (by decide)) (fun z => absurd z (by decide))) (by omega) (fun z => absurd z (by decide)) (fun z => absurd z (by decide))) (by omega) (fun z => absurd z (by decide)) (fun z => absurd z (by decide))
  have s2 : SM (ν 260) κ2 := by
    refine ⟨⟨mid 0 (by decide) (by decide), mid 1 (by decide) (by decide), fun i i1 i2 => mid i (by omega) (by omega), fun t ht => ⟨mid _ (by omega) (by omega), mid _ (by omega) (by omega)⟩⟩, ?_, ?_⟩
    · rw [k9, e9]; exact f7
    · rw [k9, e9]; exact f6
  refine ⟨fun i i2 i6 i7 i8 i9 => ?_, ?_, ?_⟩
  · rw [eM, up2_n (by omega), up2_n (by omega), up2_n (by omega)]
    exact mid i (by omega) i9
  · rw [eM, up2_n (by omega), up2_y ⟨rfl, rfl⟩, mid 6 (by decide) (by decide), k9, e9, f7]
  · rw [eM, up2_n (by omega), up2_n (by omega), up2_y ⟨rfl, rfl⟩, mid 7 (by decide) (by decide), surplus_SM g g2 s2]
theorem learns_i {κ : Mm} {t i : Nat} (ht : t < 8) (hi : i ≠ 14 + 7 * t) : M_learns κ (nI t) 260 i = κ 260 i := by
  unfold M_learns
  split
  · split
    · rfl
    · rw [show ∀ v, M_setT κ (nI t) 3 v 260 = ch (κ 260) (11 + 7 * t + 3) v from fun v => setT_ch (w := 3) ht (by decide), ch_n (by omega)]
  · rfl
/-- what a trader is paid, or pays -/
def mY (f : Nat → Int32) (t : Nat) : Int32 := if f (11 + 7 * t) = 0 then -(nI (tkN f (VN f) t) * prI (gsR f 120) (f 3)) else nI (tkN f (VN f) t) * prI (gsR f 120) (f 3)
theorem settles_i {ν κ : Mm} {N R N' R' t : Nat} (g : RNG N R (ν 260)) (g' : RNG N' R' (κ 260)) (hS : SM (ν 260) κ) (ht : t < cn (ν 260 0)) (i : Nat) :
    M_settles κ (nI t) 260 i = if i = 15 + 7 * t then κ 260 i + nI (tkN (ν 260) (VN (ν 260)) t) else if i = 16 + 7 * t then κ 260 i + gF (ν 260) t (prI (gsR (ν 260) 120) (ν 260 3)) else if i = 17 + 7 * t then κ 260 i + mY (ν 260) t else κ 260 i := by
  have hc := g.c0
  have hT : M_takenOf κ (nI t) = nI (tkN (ν 260) (VN (ν 260)) t) := taken_SM g g' hS (by omega)
  have hG := gains_SM g g' hS ht
  have hP : (if κ 260 (11 + 7 * t) = 0 then -M_paid κ (nI t) else M_paid κ (nI t)) = mY (ν 260) t := by
    have e : M_paid κ (nI t) = nI (tkN (ν 260) (VN (ν 260)) t) * prI (gsR (ν 260) 120) (ν 260 3) := by
      unfold M_paid
      rw [hT, hS.2.2]
      by_cases c : nI (tkN (ν 260) (VN (ν 260)) t) = 0
      · rw [if_pos c, c, Int32.zero_mul]
      · rw [if_neg c]
    rw [e, (hS.1.2.2.2 t (by omega)).1]
    rfl
  rw [settles_row (by omega), hT, hG, hP, show 11 + 7 * t + 4 = 15 + 7 * t by omega, show 11 + 7 * t + 5 = 16 + 7 * t by omega, show 11 + 7 * t + 6 = 17 + 7 * t by omega]
  unfold ch
  by_cases c1 : i = 15 + 7 * t
  · subst c1
    rw [if_neg (by omega), if_neg (by omega), if_pos rfl, if_pos rfl]
  · by_cases c2 : i = 16 + 7 * t
    · subst c2
      rw [if_neg (by omega), if_pos rfl, if_neg (by omega), if_pos rfl]
    · by_cases c3 : i = 17 + 7 * t
      · subst c3
        rw [if_pos rfl, if_neg (by omega), if_neg (by omega), if_pos rfl]
      · rw [if_neg c3, if_neg c2, if_neg c1, if_neg c1, if_neg c2, if_neg c3]
theorem cl2_row {μ ν : Mm} {a N R : Nat} (h : REL μ a (ν 260)) (g : RNG N R (ν 260)) (ha : a + 40 ≤ 81) : ∀ k, k ≤ cn (ν 260 0) → (∀ i, i < 11 → M_cl2 ν k 260 i = M_cl1 ν 260 i) ∧ M_cl2 ν k 260 6 = ν 260 6 + nI (VN (ν 260)) ∧ M_cl2 ν k 260 7 = ν 260 7 + M_surplusNow (M_finds ν) ∧
    ∀ t, t < cn (ν 260 0) → M_cl2 ν k 260 (15 + 7 * t) = (if t < k then ν 260 (15 + 7 * t) + nI (tkN (ν 260) (VN (ν 260)) t) else ν 260 (15 + 7 * t)) ∧
      M_cl2 ν k 260 (16 + 7 * t) = (if t < k then ν 260 (16 + 7 * t) + gF (ν 260) t (prI (gsR (ν 260) 120) (ν 260 3)) else ν 260 (16 + 7 * t)) ∧
      M_cl2 ν k 260 (17 + 7 * t) = (if t < k then ν 260 (17 + 7 * t) + mY (ν 260) t else ν 260 (17 + 7 * t)) := by
  have hc := g.c0
  intro k
  induction k with
  | zero =>
    intro _
    obtain ⟨r1, r2, r3⟩ := cl1_row h g ha
    refine ⟨fun i _ => rfl, r2, r3, fun t ht => ⟨?_, ?_, ?_⟩⟩
    · rw [if_neg (Nat.not_lt_zero t)]; exact r1 _ (by omega) (by omega) (by omega) (by omega) (by omega)
    · rw [if_neg (Nat.not_lt_zero t)]; exact r1 _ (by omega) (by omega) (by omega) (by omega) (by omega)
    · rw [if_neg (Nat.not_lt_zero t)]; exact r1 _ (by omega) (by omega) (by omega) (by omega) (by omega)
  | succ k ih =>
    intro hk
    obtain ⟨i0, i6, i7, it⟩ := ih (by omega)
    obtain ⟨-, d2, d3, -⟩ := E_all h g ha k (by omega)
    have hs := fun i => settles_i g d2 d3 (t := k) (by omega) i
    have e : M_cl2 ν (k + 1) = M_learns (M_settles (M_cl2 ν k) (nI k)) (nI k) := rfl
    rw [e]
    refine ⟨fun i hi => ?_, ?_, ?_, fun t ht => ?_⟩
    · rw [learns_i (by omega) (by omega), hs, if_neg (by omega), if_neg (by omega), if_neg (by omega)]; exact i0 i hi
    · rw [learns_i (by omega) (by omega), hs, if_neg (by omega), if_neg (by omega), if_neg (by omega)]; exact i6
    · rw [learns_i (by omega) (by omega), hs, if_neg (by omega), if_neg (by omega), if_neg (by omega)]; exact i7
    · obtain ⟨j1, j2, j3⟩ := it t ht
      refine ⟨?_, ?_, ?_⟩
      · rw [learns_i (by omega) (by omega), hs]
        by_cases c : t = k
        · subst c
          rw [if_neg (Nat.lt_irrefl t)] at j1
          rw [if_pos rfl, j1, if_pos (Nat.lt_succ_self t)]
        · rw [if_neg (by omega), if_neg (by omega), if_neg (by omega), j1]
          by_cases c2 : t < k
          · rw [if_pos c2, if_pos (by omega)]
          · rw [if_neg c2, if_neg (by omega)]
      · rw [learns_i (by omega) (by omega), hs]
        by_cases c : t = k
        · subst c
          rw [if_neg (Nat.lt_irrefl t)] at j2
          rw [if_neg (by omega), if_pos rfl, j2, if_pos (Nat.lt_succ_self t)]
        · rw [if_neg (by omega), if_neg (by omega), if_neg (by omega), j2]
          by_cases c2 : t < k
          · rw [if_pos c2, if_pos (by omega)]
          · rw [if_neg c2, if_neg (by omega)]
      · rw [learns_i (by omega) (by omega), hs]
        by_cases c : t = k
        · subst c
          rw [if_neg (Nat.lt_irrefl t)] at j3
          rw [if_neg (by omega), if_neg (by omega), if_pos rfl, j3, if_pos (Nat.lt_succ_self t)]
        · rw [if_neg (by omega), if_neg (by omega), if_neg (by omega), j3]
          by_cases c2 : t < k
          · rw [if_pos c2, if_pos (by omega)]
          · rw [if_neg c2, if_neg (by omega)]
/-- expired ones are counted -/
theorem EX_cnt : ∀ c n x (κ : Mm), κ 260 1 = nI n → κ 260 10 = nI x → c ≤ n → ∃ n' x', EX c κ 260 1 = nI n' ∧ EX c κ 260 10 = nI x' ∧ n' + x' = n + x ∧ n' ≤ n
  | 0, n, x, κ, h1, h2, _ => ⟨n, x, h1, h2, rfl, Nat.le_refl _⟩
  | c + 1, n, x, κ, h1, h2, hc => by
    show ∃ n' x', EX c (if M_o κ (nI c) 4 + κ 260 4 ≤ κ 260 2 then EX_rem c κ else κ) 260 1 = nI n' ∧ EX c (if M_o κ (nI c) 4 + κ 260 4 ≤ κ 260 2 then EX_rem c κ else κ) 260 10 = nI x' ∧ n' + x' = n + x ∧ n' ≤ n
    by_cases q : M_o κ (nI c) 4 + κ 260 4 ≤ κ 260 2
    · rw [if_pos q]
      obtain ⟨m, rfl⟩ : ∃ m, n = m + 1 := ⟨n - 1, by omega⟩
      have e1 : EX_rem c κ 260 1 = nI m := by
        unfold EX_rem
        rw [up2_n (by omega), rem_1, h1, ← nI_1, Int32.add_sub_cancel]
      have e2 : EX_rem c κ 260 10 = nI (x + 1) := by
        unfold EX_rem
        rw [up2_y ⟨rfl, rfl⟩, rem_ct (by decide) (by decide), h2, nI_1]
      obtain ⟨n', x', q1, q2, q3, q4⟩ := EX_cnt c m (x + 1) (EX_rem c κ) e1 e2 (by omega)
      exact ⟨n', x', q1, q2, by omega, by omega⟩
    · rw [if_neg q]
      exact EX_cnt c n x κ h1 h2 (by omega)
theorem clears_row {μ ν : Mm} {a N R x : Nat} (h : REL μ a (ν 260)) (g : RNG N R (ν 260)) (ha : a + 40 ≤ 81) (h10 : ν 260 10 = nI x) :
    (∀ i, i < 67 → i ≠ 1 → i ≠ 2 → i ≠ 10 → (M_clears ν).1 260 i = M_cl2 ν (cn (ν 260 0)) 260 i) ∧ ∃ n' x', (M_clears ν).1 260 1 = nI n' ∧ (M_clears ν).1 260 10 = nI x' ∧ n' + x' ≤ cn (ν 260 1) + x ∧ n' ≤ cn (ν 260 1) := by
  have hc := g.c0
  have b := E_all h g ha 0 (Nat.zero_le _)
  have n0c : cn (M_cl1 ν 260 0) = cn (ν 260 0) := congrArg cn b.2.2.1.1.1
  obtain ⟨d1, d2, d3, -⟩ := E_all h g ha (cn (ν 260 0)) (Nat.le_refl _)
  obtain ⟨r0, r6, r7, -⟩ := cl2_row h g ha (cn (ν 260 0)) (Nat.le_refl _)
  have q1 := (cl1_row h g ha).1
  obtain ⟨n, hn⟩ : ∃ n, n = cn (ν 260 1) := ⟨_, rfl⟩
  have e1 : ν 260 1 = nI n := by rw [hn]; exact (vp_of2 g.1.2.1 (by decide)).1
  rw [← hn] at hc ⊢
  obtain ⟨κE, hκE⟩ : ∃ m, m = M_cl2 ν (cn (ν 260 0)) := ⟨_, rfl⟩
  rw [← hκE] at d2 d3 r0 ⊢
  have eclE : M_clE ν = κE := by unfold M_clE; rw [n0c, hκE]
  have nE : κE 260 1 = nI n := d3.1.2.1.trans e1
  have xE : κE 260 10 = nI x := by rw [r0 10 (by decide), q1 10 (by decide) (by decide) (by decide) (by decide) (by decide)]; exact h10
  have cE : cn (κE 260 1) = n := by rw [nE, cn_nI (by omega)]
  obtain ⟨κf, hκf⟩ : ∃ m, m = M_fillK κE n := ⟨_, rfl⟩
  have kf0 : κf 260 = κE 260 := by rw [hκf, fillK_260]
  obtain ⟨-, m2, m, hm, m3⟩ := EM_sub n n κf (by omega) (by rw [kf0]; exact nE) (Nat.le_refl _)
  have eMe : M_empties κE = EM n κf := by unfold M_empties; rw [cE, hκf]
  obtain ⟨κ4, hκ4⟩ : ∃ m, m = M_cl3 ν := ⟨_, rfl⟩
  have ek4 : κ4 = up2 (M_empties κE) 260 2 (M_empties κE 260 2 + 1) := by rw [hκ4]; unfold M_cl3; rw [eclE]
  have k4 : ∀ i, i ≠ 2 → κ4 260 i = EM n κf 260 i := fun i hi => by rw [ek4, up2_n (by omega), eMe]
  have n4 : κ4 260 1 = nI m := by rw [k4 1 (by decide)]; exact m3
  have x4 : κ4 260 10 = nI x := by rw [k4 10 (by decide), m2 10 (by decide) (by decide), kf0]; exact xE
  have c4 : cn (κ4 260 1) = m := by rw [n4, cn_nI (by omega)]
  have eM : (M_clears ν).1 = EX m κ4 := by unfold M_clears; rw [← hκ4, c4]
  obtain ⟨-, x2, -⟩ := EX_sub m m κ4 (by omega) n4 (Nat.le_refl _) (fun k k1 k2 => absurd k1 (by omega))
  obtain ⟨n', x', y1, y2, y3, y4⟩ := EX_cnt m m x κ4 n4 x4 (Nat.le_refl _)
  rw [eM]
  refine ⟨fun i hi i1 i2 i10 => ?_, n', x', y1, y2, by omega, by omega⟩
  rw [x2 i hi i1 i10, k4 i i2, m2 i hi i1, kf0]
/-! sums -/
theorem two_mulI (x : Int32) : 2 * x = x + x := by
  rw [show (2 : Int32) = 1 + 1 from rfl, Int32.add_mul, Int32.one_mul]
theorem tk_sum {f : Nat → Int32} {N R : Nat} (g : RNG N R f) (F : Nat → Nat) : sumI (fun t => nI (sN (fun k => if nT f k = t then F k else 0) (cn (f 1)))) (cn (f 0)) = nI (sN F (cn (f 1))) := by
  rw [← sumI_nI, ← sum_by (nT f) (fun k => nI (F k)) (n := cn (f 1)) (m := cn (f 0)) (fun k hk => nT_lt g hk)]
  refine sumI_congr fun t ht => ?_
  rw [← sumI_nI]
  refine sumI_congr fun k hk => ?_
  by_cases c : nT f k = t
  · rw [if_pos c, if_pos c]
  · rw [if_neg c, if_neg c]; rfl
theorem nS_01 {f : Nat → Int32} {N R k : Nat} (g : RNG N R f) (hk : k < cn (f 1)) : nS f k = 0 ∧ f (11 + 7 * nT f k) = 0 ∨ nS f k = 1 ∧ f (11 + 7 * nT f k) = 1 := by
  rcases (g.2.2.2.2.2.1 (nT f k) (nT_lt g hk)).1 with e | e
  · left
    unfold nS
    rw [e]
    exact ⟨rfl, rfl⟩
  · right
    unfold nS
    rw [e]
    exact ⟨rfl, rfl⟩
theorem V_tot {ν : Mm} {μ : Mm} {a N R : Nat} (h : REL μ a (ν 260)) (g : RNG N R (ν 260)) (ha : a + 40 ≤ 81) : sN (fun k => if nS (ν 260) k = 0 then fN (ν 260) (VN (ν 260)) k else 0) (cn (ν 260 1)) = VN (ν 260) ∧ sN (fun k => if nS (ν 260) k = 1 then fN (ν 260) (VN (ν 260)) k else 0) (cn (ν 260 1)) = VN (ν 260) := by
  obtain ⟨v1, v2, v3⟩ := VN_at g g.2.2.1
  obtain ⟨-, -, -, -, -, -, -, Lb, Ls, qb, qs, hb, hs, -⟩ := settle_at h g ha
  have tot : VN (ν 260) ≤ sN (fun k => if nS (ν 260) k = 0 then nU (ν 260) k else 0) (cn (ν 260 1)) ∧ VN (ν 260) ≤ sN (fun k => if nS (ν 260) k = 1 then nU (ν 260) k else 0) (cn (ν 260 1)) := by
    by_cases c : VN (ν 260) = 0
    · omega
    · obtain ⟨p, -, -, -, q4, q5⟩ := v3 (by omega)
      have := dD_tot g p
      have := dY_tot g p
      omega
  exact ⟨fN_tot g hb tot.1, fN_tot g hs tot.2⟩
theorem F_two {ν : Mm} {μ : Mm} {a N R : Nat} (h : REL μ a (ν 260)) (g : RNG N R (ν 260)) (ha : a + 40 ≤ 81) : sN (fN (ν 260) (VN (ν 260))) (cn (ν 260 1)) = VN (ν 260) + VN (ν 260) := by
  obtain ⟨h0, h1⟩ := V_tot h g ha
  have e : sN (fN (ν 260) (VN (ν 260))) (cn (ν 260 1)) = sN (fun k => (if nS (ν 260) k = 0 then fN (ν 260) (VN (ν 260)) k else 0) + (if nS (ν 260) k = 1 then fN (ν 260) (VN (ν 260)) k else 0)) (cn (ν 260 1)) := by
    refine sN_congr fun k hk => ?_
    rcases nS_01 g hk with ⟨e, -⟩ | ⟨e, -⟩
    · rw [e, if_pos rfl, if_neg (by decide), Nat.add_zero]
    · rw [e, if_neg (by decide), if_pos rfl, Nat.zero_add]
  rw [e, sN_add, h0, h1]
theorem sumI_neg (g : Nat → Int32) : ∀ n, -sumI g n = sumI (fun k => -(g k)) n
  | 0 => Int32.neg_zero
  | n + 1 => by
    show -(sumI g n + g n) = sumI (fun k => -(g k)) n + -(g n)
    rw [← sumI_neg g n, Int32.neg_add, Int32.sub_eq_add_neg]
theorem mY_sum {ν : Mm} {μ : Mm} {a N R : Nat} (h : REL μ a (ν 260)) (g : RNG N R (ν 260)) (ha : a + 40 ≤ 81) : sumI (mY (ν 260)) (cn (ν 260 0)) = 0 := by
  have hc := g.c0
  obtain ⟨h0, h1⟩ := V_tot h g ha
  obtain ⟨f, hf⟩ : ∃ f, f = ν 260 := ⟨_, rfl⟩
  rw [← hf] at h0 h1 hc g ⊢
  obtain ⟨P, hP⟩ : ∃ P, P = prI (gsR f 120) (f 3) := ⟨_, rfl⟩
  obtain ⟨V, hV⟩ : ∃ V, V = VN f := ⟨_, rfl⟩
  rw [← hV] at h0 h1
  have e : ∀ t, t < cn (f 0) → mY f t = sumI (fun k => if nT f k = t then (if nS f k = 0 then -(nI (fN f V k) * P) else nI (fN f V k) * P) else 0) (cn (f 1)) := fun t ht => by
    unfold mY tkN
    rw [← hP, ← hV, ← sumI_nI, ← sumI_mul]
    by_cases c : f (11 + 7 * t) = 0
    · rw [if_pos c, show ∀ n, -sumI (fun k => nI (if nT f k = t then fN f V k else 0) * P) n = sumI (fun k => -(nI (if nT f k = t then fN f V k else 0) * P)) n from fun n => sumI_neg _ n]
      refine sumI_congr fun k hk => ?_
      by_cases q : nT f k = t
      · rw [if_pos q, if_pos q]
        rcases nS_01 g hk with ⟨z, -⟩ | ⟨-, z⟩
        · rw [if_pos z]
        · rw [q, c] at z
          exact absurd z (by decide)
      · rw [if_neg q, if_neg q, show nI 0 = (0 : Int32) from rfl, Int32.zero_mul, Int32.neg_zero]
    · rw [if_neg c]
      refine sumI_congr fun k hk => ?_
      by_cases q : nT f k = t
      · rw [if_pos q, if_pos q]
        rcases nS_01 g hk with ⟨-, z⟩ | ⟨z, -⟩
        · rw [q] at z
          exact absurd z c
        · rw [if_neg (by rw [z]; decide)]
      · rw [if_neg q, if_neg q, show nI 0 = (0 : Int32) from rfl, Int32.zero_mul]
  rw [sumI_congr e, sum_by (nT f) _ (fun k hk => nT_lt g hk), bal (nS f) (fN f V) P (fun k hk => by rcases nS_01 g hk with ⟨z, -⟩ | ⟨z, -⟩ <;> rw [z] <;> decide), h0, h1, Int32.sub_self]
/-- what is kept: units, gains, money; what is in the book, was cancelled, expired -/
def sT (f : Nat → Int32) (w : Nat) : Int32 := sumI (fun t => f (w + 7 * t)) (cn (f 0))
def CONS (C : Int32) (f : Nat → Int32) : Prop := sT f 15 = 2 * f 6 ∧ sT f 16 = f 7 ∧ sT f 17 = 0 ∧ ∃ p x c : Nat, f 5 = nI p ∧ f 10 = nI x ∧ C = nI c ∧ cn (f 1) + c + x ≤ p ∧ p < 2 ^ 20
theorem clear_cons {μ ν : Mm} {N R : Nat} {C : Int32} (h : REL μ 1 (ν 260)) (g : RNG N R (ν 260)) (hC : CONS C (ν 260)) : CONS C ((M_clears ν).1 260) ∧ cn ((M_clears ν).1 260 1) ≤ cn (ν 260 1) ∧ cn ((M_clears ν).1 260 1) < 2 ^ 20 := by
  have hc := g.c0
  obtain ⟨u1, u2, u3, p, x, c, c5, c10, cC, hle, hp⟩ := hC
  obtain ⟨w, n', x', w1, w10, wle, wn⟩ := clears_row h g (by decide) c10
  obtain ⟨r0, r6, r7, rt⟩ := cl2_row h g (by decide) (cn (ν 260 0)) (Nat.le_refl _)
  have q1 := (cl1_row h g (by decide)).1
  obtain ⟨f', hf'⟩ : ∃ f', f' = (M_clears ν).1 260 := ⟨_, rfl⟩
  rw [← hf'] at w w1 w10 ⊢
  have e0 : f' 0 = ν 260 0 := by rw [w 0 (by decide) (by decide) (by decide) (by decide), r0 0 (by decide), q1 0 (by decide) (by decide) (by decide) (by decide) (by decide)]
  have e5 : f' 5 = ν 260 5 := by rw [w 5 (by decide) (by decide) (by decide) (by decide), r0 5 (by decide), q1 5 (by decide) (by decide) (by decide) (by decide) (by decide)]
  have e6 : f' 6 = ν 260 6 + nI (VN (ν 260)) := by rw [w 6 (by decide) (by decide) (by decide) (by decide), r6]
  have e7 : f' 7 = ν 260 7 + M_surplusNow (M_finds ν) := by rw [w 7 (by decide) (by decide) (by decide) (by decide), r7]
  have et : ∀ t, t < cn (ν 260 0) → f' (15 + 7 * t) = ν 260 (15 + 7 * t) + nI (tkN (ν 260) (VN (ν 260)) t) ∧ f' (16 + 7 * t) = ν 260 (16 + 7 * t) + gF (ν 260) t (prI (gsR (ν 260) 120) (ν 260 3)) ∧ f' (17 + 7 * t) = ν 260 (17 + 7 * t) + mY (ν 260) t := fun t ht => by
    obtain ⟨j1, j2, j3⟩ := rt t ht
    rw [if_pos ht] at j1 j2 j3
    exact ⟨(w _ (by omega) (by omega) (by omega) (by omega)).trans j1, (w _ (by omega) (by omega) (by omega) (by omega)).trans j2, (w _ (by omega) (by omega) (by omega) (by omega)).trans j3⟩
  have cn1 : cn (f' 1) = n' := by rw [w1, cn_nI (by omega)]
  refine ⟨⟨?_, ?_, ?_, p, x', c, e5.trans c5, w10, cC, by omega, hp⟩, by omega, by omega⟩
  · unfold sT at u1 ⊢
    rw [e0, sumI_congr (fun t ht => (et t ht).1), sumI_add, u1]
    unfold tkN
    rw [tk_sum g, F_two h g (by decide), e6, Int32.mul_add, ← nI_add, two_mulI (nI (VN (ν 260)))]
  · unfold sT at u2 ⊢
    rw [e0, sumI_congr (fun t ht => (et t ht).2.1), sumI_add, u2, e7]
    congr 1
    unfold M_surplusNow
    rw [show cn (M_finds ν 260 0) = cn (ν 260 0) by rw [M_finds_260]]
    exact sumI_congr fun t ht => (gainM g ht).symm
  · unfold sT at u3 ⊢
    rw [e0, sumI_congr (fun t ht => (et t ht).2.2), sumI_add, u3, mY_sum h g (by decide)]
    rfl
end
