noncomputable section
/-! the reader of commands on both sides: words, numbers, a command -/
def TB (L : Nat) (t : Nat → Nat) : Prop := L ≤ 150 ∧ ∀ i, i < L → t i < 128
def SS (L : Nat) (t : Nat → Nat) (p : Nat) (μ κ : Mm) : Prop := TC L t μ ∧ TM L t κ ∧ p ≤ L ∧ μ 254 4 = nI p ∧ κ 259 10 = nI p
def SC (L : Nat) (t : Nat → Nat) (p : Nat) (μ κ : Mm) : Prop := TC L t μ ∧ TM L t κ ∧ p ≤ L ∧ μ 254 4 = nI p ∧ κ 259 10 = nI (sk L t L p)
theorem TB.lt {L : Nat} {t : Nat → Nat} (h : TB L t) {p : Nat} (hp : p ≤ L) : p < 2 ^ 31 := by have := h.1; omega
theorem code_step {a b : Nat} (hb : 97 ≤ b) : 27 * nI a + nI b - 97 + 1 = nI (27 * a + (b - 96)) := by
  rw [show (27 : Int32) = nI 27 from rfl, nI_mul, nI_add, show (97 : Int32) = nI 97 from rfl, nI_subN (by omega), nI_1]
  exact congrArg nI (by omega)
theorem RW_at {L : Nat} {t : Nat → Nat} (hT : TB L t) (p0 : Nat) : ∀ n p l (κ : Mm) (c : Int32), TM L t κ → p ≤ L → κ 259 10 = nI p → p0 + l = p → (l ≤ 6 → c = nI (cN t p0 l)) →
    (RW n κ c (nI l)).1 = up2 κ 259 10 (nI (lq L t n p)) ∧ (RW n κ c (nI l)).2.2 = nI (lq L t n p - p0) ∧ (lq L t n p - p0 ≤ 6 → (RW n κ c (nI l)).2.1 = nI (cN t p0 (lq L t n p - p0)))
  | 0, p, l, κ, c, h, hp, h10, hl, hc => by
    show κ = up2 κ 259 10 (nI p) ∧ nI l = nI (p - p0) ∧ (p - p0 ≤ 6 → c = nI (cN t p0 (p - p0)))
    rw [show p - p0 = l by omega]
    exact ⟨(up2_same h10).symm, rfl, hc⟩
  | n + 1, p, l, κ, c, h, hp, h10, hl, hc => by
    have hb := isHere_iff (a := 97) (b := 122) h hT.1 hp h10 hT.2 (by decide) (by decide)
    by_cases d : p < L ∧ 97 ≤ t p ∧ t p ≤ 122
    · have e : lq L t (n + 1) p = lq L t n (p + 1) := if_pos d
      have e2 : RW (n + 1) κ c (nI l) = RW n (up2 κ 259 10 (nI (p + 1))) (if nI l < 6 then 27 * c + M_here κ - 97 + 1 else 0) (nI (l + 1)) := by
        rw [RW, if_neg (show ¬ M_isHere κ 97 122 = 0 from fun z => hb.mp z d), nx_at h10, nI_1]
      have ih := RW_at hT p0 n (p + 1) (l + 1) (up2 κ 259 10 (nI (p + 1))) (if nI l < 6 then 27 * c + M_here κ - 97 + 1 else 0) (h.up (by decide)) (by omega) (up2_y ⟨rfl, rfl⟩) (by omega) (fun z => by
        rw [if_pos (show nI l < (6 : Int32) from nI_lt (b := 6) (by omega) (by decide)), hc (by omega), here_at h d.1 hT.1 h10, code_step d.2.1]
        show nI _ = nI (27 * cN t p0 l + (t (p0 + l) - 96))
        rw [hl])
      rw [up2_two] at ih
      rw [e2, e]
      exact ih
    · have e : lq L t (n + 1) p = p := if_neg d
      have e2 : RW (n + 1) κ c (nI l) = (κ, c, nI l) := by
        rw [RW, if_pos (show M_isHere κ 97 122 = 0 from hb.mpr d)]
      rw [e2, e]
      show κ = up2 κ 259 10 (nI p) ∧ nI l = nI (p - p0) ∧ (p - p0 ≤ 6 → c = nI (cN t p0 (p - p0)))
      rw [show p - p0 = l by omega]
      exact ⟨(up2_same h10).symm, rfl, hc⟩
theorem fstI_cg {p q : Nat → Bool} {n : Nat} (e : ∀ k, k < n → p k = q k) : fstI p n = fstI q n := by
  unfold fstI
  rw [fst_congr e]
/-- which word it is -/
def wk (L : Nat) (t : Nat → Nat) (p : Nat) : Int32 := fstI (fun k => mt t p (lq L t L p - p) k) 8
theorem wk_k (L : Nat) (t : Nat → Nat) (p : Nat) : wk L t p = -1 ∨ ∃ k, k < 8 ∧ mt t p (lq L t L p - p) k = true ∧ wk L t p = nI k := by
  unfold wk
  cases e : fst (fun k => mt t p (lq L t L p - p) k) 8 with
  | none => exact Or.inl (by unfold fstI; rw [e])
  | some k => exact Or.inr ⟨k, (fst_lt e).1, (fst_lt e).2, by unfold fstI; rw [e]⟩
theorem stands_iff {L p m k : Nat} {t : Nat → Nat} {ν : Mm} (hT : TB L t) (h : TC L t ν) (hm : p + m ≤ L) (hk : k < 8) :
    (¬ W_stands ν 257 150 k (nI p) (nI m) = 0) ↔ (m = wl k ∧ ∀ j, j < wl k → t (p + j) = wb k j) := by
  have hL := hT.1
  unfold W_stands
  by_cases c : m = wl k
  · have hin : ∀ j, j < wl k → R_get ν 257 150 (nI p + nI j) = nI (t (p + j)) := fun j hj => by
      rw [nI_add, R_get_nI (by omega) (by decide)]
      exact h.2 (p + j) (by omega)
    rw [if_pos (show nI m = nI (wdL.getD k 0) from congrArg nI c)]
    by_cases d : ∀ j, j < wl k → t (p + j) = wb k j
    · rw [if_pos (show ∀ j, j < wdL.getD k 0 → R_get ν 257 150 (nI p + nI j) = W_byte k j from fun j hj => by rw [hin j hj, wb_nI k hk j hj, d j hj])]
      exact ⟨fun _ => ⟨c, d⟩, fun _ => by decide⟩
    · rw [if_neg (show ¬ ∀ j, j < wdL.getD k 0 → R_get ν 257 150 (nI p + nI j) = W_byte k j from fun z => d fun j hj => by
        have h1 := (hin j hj).symm.trans (z j hj)
        rw [wb_nI k hk j hj] at h1
        have h2 := hT.2 (p + j) (by omega)
        have h3 := wb_in k hk j hj
        rw [Nat.zero_add] at h3
        exact (nI_inj (by omega) (by omega)).mp h1)]
      exact ⟨fun z => absurd rfl z, fun z => absurd z.2 d⟩
  · have h6 : wl k ≤ 6 := (W_len k hk).2
    rw [if_neg (show ¬ nI m = nI (wdL.getD k 0) from fun z => c ((nI_inj (by omega) (by omega)).mp z))]
    exact ⟨fun z => absurd rfl z, fun z => absurd z.1 c⟩
theorem C_word {L p : Nat} {t : Nat → Nat} {μ : Mm} (hT : TB L t) (h : TC L t μ) (hp : p ≤ L) (h4 : μ 254 4 = nI p) : D_letters μ = up2 μ 254 4 (nI (lq L t L p)) ∧ D_word μ = wk L t p := by
  have e1 : D_letters μ = up2 μ 254 4 (nI (lq L t L p)) := by
    rw [D_letters_eq, h.1, cn_nI (hT.lt (Nat.le_refl L))]
    exact C_lq hT.1 hT.2 L p μ h hp h4
  refine ⟨e1, ?_⟩
  obtain ⟨l1, l2, l3⟩ := lq_le L t L p hp
  rw [D_word_eq, e1, up2_y ⟨rfl, rfl⟩, h4, nI_subN l1]
  unfold W_of wk
  refine fstI_cg fun k hk => ?_
  show decide _ = mt t p (lq L t L p - p) k
  unfold mt
  exact decide_eq_decide.mpr (stands_iff hT (h.up (by decide)) (by omega) hk)
theorem wc_lt : ∀ k, k < 8 → wc k < 2 ^ 31 ∧ wc k ≠ 0 ∧ wl k ≤ 6 ∧ wl k ≠ 0 := by decide +kernel
theorem M_wordA {L p : Nat} {t : Nat → Nat} {κ : Mm} (hT : TB L t) (h : TM L t κ) (hp : p ≤ L) (h10 : κ 259 10 = nI p) : M_cmdK κ = up2 (up2 κ 259 10 (nI (lq L t L p))) 259 11 (wk L t p) := by
  have r : (RW L κ 0 0).1 = up2 κ 259 10 (nI (lq L t L p)) ∧ (RW L κ 0 0).2.2 = nI (lq L t L p - p) ∧ (lq L t L p - p ≤ 6 → (RW L κ 0 0).2.1 = nI (cN t p (lq L t L p - p))) := RW_at hT p L p 0 κ 0 h hp h10 (Nat.add_zero p) (fun _ => rfl)
  obtain ⟨l1, l2, l3⟩ := lq_le L t L p hp
  have hL := hT.1
  have ek : M_kindOf (M_readsWord κ) = wk L t p := by
    unfold M_readsWord
    rw [M_word_eq, h.1, cn_nI (hT.lt (Nat.le_refl L)), r.2.1, kind_fst]
    unfold wk
    refine fstI_cg fun k hk => ?_
    show decide (_ = nI (wc k)) = mt t p (lq L t L p - p) k
    obtain ⟨w1, w2, w3, w4⟩ := wc_lt k hk
    by_cases c : lq L t L p - p ≤ 6
    · have hm : ∀ j, j < lq L t L p - p → 97 ≤ t (p + j) ∧ t (p + j) ≤ 122 := fun j hj => l3 (p + j) (by omega) (by omega)
      have h27 : cN t p (lq L t L p - p) < 27 ^ 6 := Nat.lt_of_lt_of_le (cN_lt hm) (Nat.pow_le_pow_right (by decide) c)
      rw [if_neg (show ¬ (6 : Int32) < nI (lq L t L p - p) from fun z => by have := nI_lt_of (x := lq L t L p - p) (y := 6) (by omega) (by decide) z; omega), r.2.2 c, Bool.eq_iff_iff, decide_eq_true_eq, mt_iff hk hm]
      exact nI_inj (Nat.lt_trans h27 (by decide)) w1
    · rw [if_pos (show (6 : Int32) < nI (lq L t L p - p) from nI_lt (a := 6) (by omega) (by omega))]
      have e1 : decide ((0 : Int32) = nI (wc k)) = false := decide_eq_false fun z => w2 ((nI_inj (a := 0) (by decide) w1).mp z).symm
      have e2 : mt t p (lq L t L p - p) k = false := decide_eq_false fun z => by have := z.1; omega
      rw [e1, e2]
  unfold M_cmdK
  rw [ek, M_word_eq, h.1, cn_nI (hT.lt (Nat.le_refl L)), r.1]
theorem C_rw0 {L p : Nat} {t : Nat → Nat} {μ : Mm} (hT : TB L t) (h : TC L t μ) (hp : p ≤ L) (h4 : μ 254 4 = nI p) (hw : wk L t p = -1) : D_readWord μ = 0 ∧ D_readWordM μ 254 5 = nI p := by
  obtain ⟨e1, e2⟩ := C_word hT h hp h4
  have hn : D_word μ < 0 := by rw [e2, hw]; decide
  refine ⟨if_pos hn, ?_⟩
  unfold D_readWordM
  rw [if_pos hn, up2_y ⟨rfl, rfl⟩, h4]
theorem C_rw1 {L p k : Nat} {t : Nat → Nat} {μ : Mm} (hT : TB L t) (h : TC L t μ) (hp : p ≤ L) (h4 : μ 254 4 = nI p) (hk : k < 8) (hw : wk L t p = nI k) : D_readWord μ = 1 ∧ D_readWordM μ = up2 (up2 μ 254 4 (nI (lq L t L p))) 254 1 (nI k) := by
  obtain ⟨e1, e2⟩ := C_word hT h hp h4
  have hn : ¬ D_word μ < 0 := by rw [e2, hw]; exact nI_pos (by omega)
  refine ⟨if_neg hn, ?_⟩
  unfold D_readWordM
  rw [if_neg hn, e1, e2, hw]
theorem C_spaces {L p : Nat} {t : Nat → Nat} {μ : Mm} (hT : TB L t) (h : TC L t μ) (hp : p ≤ L) (h4 : μ 254 4 = nI p) : D_skipSpaces μ = up2 μ 254 4 (nI (sk L t L p)) := by
  rw [D_skipSpaces_eq, h.1, cn_nI (hT.lt (Nat.le_refl L))]
  exact C_sk hT.1 hT.2 L p μ h hp h4
theorem M_spacesA {L p : Nat} {t : Nat → Nat} {κ : Mm} (hT : TB L t) (h : TM L t κ) (hp : p ≤ L) (h10 : κ 259 10 = nI p) : M_spaces κ = up2 κ 259 10 (nI (sk L t L p)) := by
  rw [M_spaces_eq, h.1, cn_nI (hT.lt (Nat.le_refl L))]
  exact M_sk hT.1 hT.2 L p κ h hp h10
theorem sk_step {L p : Nat} {t : Nat → Nat} (c : p < L ∧ t p = 32) : sk L t L p = sk L t L (p + 1) := by
  obtain ⟨n, rfl⟩ : ∃ n, L = n + 1 := ⟨L - 1, by omega⟩
  have e : sk (n + 1) t (n + 1) p = sk (n + 1) t n (p + 1) := if_pos c
  rw [e]
  exact sk_fuel (n + 1) t n (n + 1) (p + 1) (by omega) (by omega)
/-! numbers -/
def dg (L : Nat) (t : Nat → Nat) : Nat → Nat → Nat → Nat × Nat
  | 0, p, V => (p, V)
  | n + 1, p, V => if p < L ∧ 48 ≤ t p ∧ t p ≤ 57 then dg L t n (p + 1) (10 * V + (t p - 48)) else (p, V)
theorem dg_le (L : Nat) (t : Nat → Nat) : ∀ n p V, p ≤ L → p ≤ (dg L t n p V).1 ∧ (dg L t n p V).1 ≤ L
  | 0, p, V, h => ⟨Nat.le_refl _, h⟩
  | n + 1, p, V, h => by
    by_cases c : p < L ∧ 48 ≤ t p ∧ t p ≤ 57
    · have e : dg L t (n + 1) p V = dg L t n (p + 1) (10 * V + (t p - 48)) := if_pos c
      have := dg_le L t n (p + 1) (10 * V + (t p - 48)) (by omega)
      rw [e]
      omega
    · have e : dg L t (n + 1) p V = (p, V) := if_neg c
      rw [e]
      exact ⟨Nat.le_refl _, h⟩
theorem dig_step {a b : Nat} (hb : 48 ≤ b) : nI a * 10 + nI b - 48 = nI (10 * a + (b - 48)) := by
  rw [show (10 : Int32) = nI 10 from rfl, nI_mul, nI_add, show (48 : Int32) = nI 48 from rfl, nI_subN (by omega)]
  exact congrArg nI (by omega)
theorem dig_step2 {a b : Nat} (hb : 48 ≤ b) : 10 * nI a + nI b - 48 = nI (10 * a + (b - 48)) := by
  rw [show (10 : Int32) = nI 10 from rfl, nI_mul, nI_add, show (48 : Int32) = nI 48 from rfl, nI_subN (by omega)]
  exact congrArg nI (by omega)
theorem C_dg {L : Nat} {t : Nat → Nat} (hT : TB L t) : ∀ n p V c (μ : Mm), TC L t μ → p ≤ L → μ 254 4 = nI p → D_dig n μ (nI V) (nI c) = (up2 μ 254 4 (nI (dg L t n p V).1), nI (dg L t n p V).2, nI (c + ((dg L t n p V).1 - p)))
  | 0, p, V, c, μ, h, hp, h4 => by
    show (μ, nI V, nI c) = (up2 μ 254 4 (nI p), nI V, nI (c + (p - p)))
    rw [up2_same h4, Nat.sub_self, Nat.add_zero]
  | n + 1, p, V, c, μ, h, hp, h4 => by
    have hb := byte_in (a := 48) (b := 57) h hT.1 hp hT.2 (by decide) (by decide)
    rw [D_dig, h4]
    by_cases d : p < L ∧ 48 ≤ t p ∧ t p ≤ 57
    · have e : dg L t (n + 1) p V = dg L t n (p + 1) (10 * V + (t p - 48)) := if_pos d
      have hl := (dg_le L t n (p + 1) (10 * V + (t p - 48)) (by omega)).1
      rw [if_neg (show ¬ wI (D_byteAt μ (nI p)) 48 57 = 0 from fun z => hb.mp z d), byteAt_at h hT.1 hp, if_pos d.1, dig_step d.2.1, nI_1, next_at h4, C_dg hT n (p + 1) _ (c + 1) _ (h.up (by decide)) (by omega) (up2_y ⟨rfl, rfl⟩), up2_two, e]
      rw [show c + 1 + ((dg L t n (p + 1) (10 * V + (t p - 48))).1 - (p + 1)) = c + ((dg L t n (p + 1) (10 * V + (t p - 48))).1 - p) by omega]
    · have e : dg L t (n + 1) p V = (p, V) := if_neg d
      rw [if_pos (show wI (D_byteAt μ (nI p)) 48 57 = 0 from hb.mpr d), e]
      show (μ, nI V, nI c) = (up2 μ 254 4 (nI p), nI V, nI (c + (p - p)))
      rw [up2_same h4, Nat.sub_self, Nat.add_zero]
theorem M_dgA {L : Nat} {t : Nat → Nat} (hT : TB L t) : ∀ n p V (κ : Mm), TM L t κ → p ≤ L → κ 259 10 = nI p → M_dg n κ (nI V) = (up2 κ 259 10 (nI (dg L t n p V).1), nI (dg L t n p V).2)
  | 0, p, V, κ, h, hp, h4 => by
    show (κ, nI V) = (up2 κ 259 10 (nI p), nI V)
    rw [up2_same h4]
  | n + 1, p, V, κ, h, hp, h4 => by
    have hb := isHere_iff (a := 48) (b := 57) h hT.1 hp h4 hT.2 (by decide) (by decide)
    rw [M_dg]
    by_cases d : p < L ∧ 48 ≤ t p ∧ t p ≤ 57
    · have e : dg L t (n + 1) p V = dg L t n (p + 1) (10 * V + (t p - 48)) := if_pos d
      rw [if_neg (show ¬ M_isHere κ 48 57 = 0 from fun z => hb.mp z d), here_at h d.1 hT.1 h4, dig_step2 d.2.1, nx_at h4, M_dgA hT n (p + 1) _ _ (h.up (by decide)) (by omega) (up2_y ⟨rfl, rfl⟩), up2_two, e]
    · have e : dg L t (n + 1) p V = (p, V) := if_neg d
      rw [if_pos (show M_isHere κ 48 57 = 0 from hb.mpr d), e]
      show (κ, nI V) = (up2 κ 259 10 (nI p), nI V)
      rw [up2_same h4]
theorem TC.k {L : Nat} {t : Nat → Nat} {μ : Mm} {k i : Nat} {v : Int32} (h : TC L t μ) (h1 : k ≠ 254) (h2 : k ≠ 258) : TC L t (up2 μ k i v) := ⟨(up2_n (fun z => h1 z.1.symm)).trans h.1, fun j hj => by rw [up2_k _ _ (Ne.symm h2)]; exact h.2 j hj⟩
theorem TM.k {L : Nat} {t : Nat → Nat} {κ : Mm} {k i : Nat} {v : Int32} (h : TM L t κ) (h1 : k ≠ 259) (h2 : k ≠ 262) : TM L t (up2 κ k i v) := ⟨(up2_n (fun z => h1 z.1.symm)).trans h.1, fun j hj => by rw [up2_k _ _ (Ne.symm h2)]; exact h.2 j hj⟩
theorem num_at {L p i : Nat} {t : Nat → Nat} {μ κ : Mm} (hT : TB L t) (hi : i < 3) (S : SS L t p μ κ) :
    (D_readNumber μ = 0 ∧ (M_passesNumber κ (nI i)).2 = 0 ∧ ∃ f, D_readNumberM μ (nI i) 254 5 = nI f ∧ (M_passesNumber κ (nI i)).1 259 10 = nI f) ∨
    (¬ D_readNumber μ = 0 ∧ ¬ (M_passesNumber κ (nI i)).2 = 0 ∧ ∃ e V, p < e ∧ e ≤ L ∧ D_readNumberM μ (nI i) = up2 (up2 μ 254 4 (nI e)) 256 i (nI V) ∧ (M_passesNumber κ (nI i)).1 = up2 (up2 κ 259 10 (nI e)) 263 i (nI V)) := by
  obtain ⟨hc, hm, hp, h4, h10⟩ := S
  have hL := hT.1
  have b1 := byte_is (b := 32) hc hT.1 hp hT.2 (by decide)
  have b2 := isHere_iff (a := 32) (b := 32) hm hT.1 hp h10 hT.2 (by decide) (by decide)
  by_cases c : p < L ∧ t p = 32
  · have r1 : D_byteAt μ (μ 254 4) = 32 := by rw [h4]; exact b1.mpr c
    have r0 : ¬ D_readByte μ 32 = 0 := by unfold D_readByte; rw [if_pos r1]; decide
    have m0 : ¬ M_isHere κ 32 32 = 0 := fun z => b2.mp z ⟨c.1, by omega, by omega⟩
    have eR : D_readByteM μ 32 = up2 μ 254 4 (nI (p + 1)) := by unfold D_readByteM; rw [if_pos r1, next_at h4]
    obtain ⟨s, hs⟩ : ∃ s, s = sk L t L (p + 1) := ⟨_, rfl⟩
    have s1 : p + 1 ≤ s ∧ s ≤ L := by rw [hs]; exact sk_le L t L (p + 1) (by omega)
    have hS : D_skipSpaces (D_readByteM μ 32) = up2 μ 254 4 (nI s) := by rw [eR, C_spaces hT (hc.up (by decide)) (by omega) (up2_y ⟨rfl, rfl⟩), up2_two, hs]
    have eN : D_numAt μ = (up2 μ 254 4 (nI (dg L t 3 s 0).1), nI (dg L t 3 s 0).2, nI ((dg L t 3 s 0).1 - s)) := by
      rw [D_numAt_eq, hS]
      have := C_dg hT 3 s 0 0 (up2 μ 254 4 (nI s)) (hc.up (by decide)) s1.2 (up2_y ⟨rfl, rfl⟩)
      rw [up2_two, Nat.zero_add] at this
      exact this
    have eS : M_spaces κ = up2 κ 259 10 (nI s) := by rw [M_spacesA hT hm hp h10, sk_step c, hs]
    have hm2 : TM L t (up2 κ 259 10 (nI s)) := hm.up (by decide)
    have b3 := isHere_iff (a := 48) (b := 57) hm2 hT.1 s1.2 (up2_y ⟨rfl, rfl⟩) hT.2 (by decide) (by decide)
    have eM : M_num κ = (up2 κ 259 10 (nI (dg L t 3 s 0).1), nI (dg L t 3 s 0).2) := by
      rw [M_num_eq, eS]
      have := M_dgA hT 3 s 0 (up2 κ 259 10 (nI s)) hm2 s1.2 (up2_y ⟨rfl, rfl⟩)
      rw [up2_two] at this
      exact this
    by_cases d : s < L ∧ 48 ≤ t s ∧ t s ≤ 57
    · right
      have eg : dg L t 3 s 0 = dg L t 2 (s + 1) (10 * 0 + (t s - 48)) := if_pos d
      have g1 := dg_le L t 2 (s + 1) (10 * 0 + (t s - 48)) (by omega)
      rw [← eg] at g1
      have hd : ¬ (D_numAt μ).2.2 = 0 := by rw [eN]; exact nI_n0 (by omega) (by omega)
      have hd2 : (0 : Int32) < (D_numAt μ).2.2 := by rw [eN]; exact nI_lt (a := 0) (by omega) (by omega)
      have eP : M_passesNumber κ (nI i) = (up2 (up2 κ 259 10 (nI (dg L t 3 s 0).1)) 263 i (nI (dg L t 3 s 0).2), 1) := by
        unfold M_passesNumber
        rw [if_neg m0, eS, if_neg (show ¬ M_isHere (up2 κ 259 10 (nI s)) 48 57 = 0 from fun z => b3.mp z d), eM, cn_nI (by omega)]
      have eD : D_readNumber μ = 1 := by
        unfold D_readNumber
        rw [if_neg r0, if_pos hd2]
      have eDM : D_readNumberM μ (nI i) = up2 (up2 μ 254 4 (nI (dg L t 3 s 0).1)) 256 i (nI (dg L t 3 s 0).2) := by
        unfold D_readNumberM
        rw [if_neg r0]
        try dsimp only
        rw [if_neg hd, R_put_nI hi (by decide), eN]
      rw [eP, eD]
      exact ⟨by decide, (show ¬ (1 : Int32) = 0 by decide), _, _, by omega, g1.2, eDM, rfl⟩
    · left
      have eg : dg L t 3 s 0 = (s, 0) := if_neg d
      have hd : (D_numAt μ).2.2 = 0 := by rw [eN, eg]; show nI (s - s) = 0; rw [Nat.sub_self]; rfl
      have hz : ¬ (0 : Int32) < 0 := by decide
      have eP : M_passesNumber κ (nI i) = (up2 κ 259 10 (nI s), 0) := by
        unfold M_passesNumber
        rw [if_neg m0, eS, if_pos (show M_isHere (up2 κ 259 10 (nI s)) 48 57 = 0 from b3.mpr d)]
      have eD : D_readNumber μ = 0 := by
        unfold D_readNumber
        rw [if_neg r0, hd, if_neg hz]
      have eDM : D_readNumberM μ (nI i) 254 5 = nI s := by
        unfold D_readNumberM
        rw [if_neg r0]
        try dsimp only
        rw [if_pos hd, up2_y ⟨rfl, rfl⟩, R_put_nI hi (by decide), up2_n (by omega), eN, eg]
        show up2 μ 254 4 (nI s) 254 4 = nI s
        exact up2_y ⟨rfl, rfl⟩
      have e10 : up2 κ 259 10 (nI s) 259 10 = nI s := up2_y ⟨rfl, rfl⟩
      rw [eP, eD]
      exact ⟨rfl, rfl, s, eDM, e10⟩
  · left
    have r1 : ¬ D_byteAt μ (μ 254 4) = 32 := by rw [h4]; exact fun z => c (b1.mp z)
    have r0 : D_readByte μ 32 = 0 := if_neg r1
    have m0 : M_isHere κ 32 32 = 0 := b2.mpr fun z => c ⟨z.1, by omega⟩
    have eP : M_passesNumber κ (nI i) = (κ, 0) := by
      unfold M_passesNumber
      rw [if_pos m0]
    have eD : D_readNumber μ = 0 := by
      unfold D_readNumber
      rw [if_pos r0]
    have eDM : D_readNumberM μ (nI i) 254 5 = nI p := by
      unfold D_readNumberM D_readByteM
      rw [if_pos r0, if_neg r1, up2_y ⟨rfl, rfl⟩, h4]
    rw [eP, eD]
    exact ⟨rfl, rfl, p, eDM, h10⟩
theorem nums_at {L : Nat} {t : Nat → Nat} (hT : TB L t) : ∀ n i p (μ κ : Mm), i + n ≤ 3 → SS L t p μ κ → (∀ j, j < i → μ 256 j = κ 263 j) →
    ((D_nums n μ (nI i)).2 = 0 ∧ (M_nums n κ (nI i)).2 = 0 ∧ ∃ f, (D_nums n μ (nI i)).1 254 5 = nI f ∧ (M_nums n κ (nI i)).1 259 10 = nI f) ∨
    ((D_nums n μ (nI i)).2 = 1 ∧ (M_nums n κ (nI i)).2 = 1 ∧ ∃ e, p ≤ e ∧ SS L t e (D_nums n μ (nI i)).1 (M_nums n κ (nI i)).1 ∧ (∀ j, j < i + n → (D_nums n μ (nI i)).1 256 j = (M_nums n κ (nI i)).1 263 j) ∧ ∀ j, j ≠ 4 → (D_nums n μ (nI i)).1 254 j = μ 254 j)
  | 0, i, p, μ, κ, _, S, hj => Or.inr ⟨rfl, rfl, p, Nat.le_refl _, S, hj, fun _ _ => rfl⟩
  | n + 1, i, p, μ, κ, hi, S, hj => by
    rcases num_at (i := i) hT (by omega) S with ⟨a1, a2, f, a3, a4⟩ | ⟨a1, a2, e, V, a3, a4, a5, a6⟩
    · left
      have e1 : D_nums (n + 1) μ (nI i) = (D_readNumberM μ (nI i), 0) := by rw [D_nums, if_pos a1]
      have e2 : M_nums (n + 1) κ (nI i) = ((M_passesNumber κ (nI i)).1, 0) := by rw [M_nums, if_pos a2]
      rw [e1, e2]
      exact ⟨rfl, rfl, f, a3, a4⟩
    · have e1 : D_nums (n + 1) μ (nI i) = D_nums n (up2 (up2 μ 254 4 (nI e)) 256 i (nI V)) (nI (i + 1)) := by rw [D_nums, if_neg a1, a5, nI_1]
      have e2 : M_nums (n + 1) κ (nI i) = M_nums n (up2 (up2 κ 259 10 (nI e)) 263 i (nI V)) (nI (i + 1)) := by rw [M_nums, if_neg a2, a6, nI_1]
      have ih := nums_at hT n (i + 1) e (up2 (up2 μ 254 4 (nI e)) 256 i (nI V)) (up2 (up2 κ 259 10 (nI e)) 263 i (nI V)) (by omega)
        ⟨(S.1.up (by decide)).k (by decide) (by decide), (S.2.1.up (by decide)).k (by decide) (by decide), a4, (up2_n (by omega)).trans (up2_y ⟨rfl, rfl⟩), (up2_n (by omega)).trans (up2_y ⟨rfl, rfl⟩)⟩
        (fun j hj2 => by
          by_cases c : j = i
          · rw [up2_y ⟨rfl, c⟩, up2_y ⟨rfl, c⟩]
          · rw [up2_n (fun z => c z.2), up2_n (fun z => c z.2), up2_k _ _ (by decide), up2_k _ _ (by decide)]
            exact hj j (by omega))
      rw [e1, e2]
      rcases ih with ih | ⟨i1, i2, e', i3, i4, i5, i6⟩
      · exact Or.inl ih
      · refine Or.inr ⟨i1, i2, e', by omega, i4, fun j hj2 => i5 j (by omega), fun j h4 => ?_⟩
        rw [i6 j h4, up2_n (by omega)]
        exact up2_n (fun z => h4 z.2)
/-! a command -/
def wnu (k : Nat) : Nat := ([1, 1, 3, 2, 3, 1, 2, 0] : List Nat).getD k 0
theorem wnu_e : ∀ k, k < 8 → wdN.getD k 0 = nI (wnu k) ∧ M_manyOf (nI k) = nI (wnu k) ∧ wnu k ≤ 3 ∧ nI k ≠ -1 := by decide +kernel
theorem cmd_at {L p : Nat} {t : Nat → Nat} {μ κ : Mm} (hT : TB L t) (S : SC L t p μ κ) :
    (sk L t L p = L ∧ (D_readCommand μ).2 = 0 ∧ (D_readCommand μ).1 254 5 = μ 254 5) ∨
    (sk L t L p < L ∧ (D_readCommand μ).2 = 0 ∧ (M_passesCommand κ).2 = 0 ∧ ∃ f, (D_readCommand μ).1 254 5 = nI f ∧ (M_passesCommand κ).1 259 10 = nI f ∧ (M_isHere κ 97 122 = 0 → f = sk L t L p)) ∨
    (sk L t L p < L ∧ ¬ (D_readCommand μ).2 = 0 ∧ ¬ (M_passesCommand κ).2 = 0 ∧ ¬ M_isHere κ 97 122 = 0 ∧ ∃ e k, p < e ∧ k < 8 ∧ SC L t e (D_readCommand μ).1 (M_passesCommand κ).1 ∧ (D_readCommand μ).1 254 1 = nI k ∧ (M_passesCommand κ).1 259 11 = nI k ∧
      (∀ j, j < wnu k → (D_readCommand μ).1 256 j = (M_passesCommand κ).1 263 j) ∧ (D_readCommand μ).1 254 5 = μ 254 5) := by
  obtain ⟨hc, hm, hp, h4, h10⟩ := S
  have hL := hT.1
  obtain ⟨q, hq⟩ : ∃ q, q = sk L t L p := ⟨_, rfl⟩
  have q1 : p ≤ q ∧ q ≤ L := by rw [hq]; exact sk_le L t L p hp
  rw [← hq] at h10 ⊢
  have es : D_skipSpaces μ = up2 μ 254 4 (nI q) := by rw [C_spaces hT hc hp h4, hq]
  by_cases hqL : q = L
  · left
    have e1 := rcmd_end (μ := μ) (by rw [es, up2_y ⟨rfl, rfl⟩, up2_n (by decide), hc.1, hqL])
    rw [e1]
    refine ⟨hqL, rfl, ?_⟩
    show D_skipSpaces μ 254 5 = _
    rw [es]
    exact up2_n (by decide)
  · right
    have hne : ¬ D_skipSpaces μ 254 4 = D_skipSpaces μ 254 0 := by
      rw [es, up2_y ⟨rfl, rfl⟩, up2_n (by decide), hc.1]
      exact fun z => hqL ((nI_inj (by omega) (by omega)).mp z)
    have hcq : TC L t (up2 μ 254 4 (nI q)) := hc.up (by decide)
    have h4q : up2 μ 254 4 (nI q) 254 4 = nI q := up2_y ⟨rfl, rfl⟩
    have eK := M_wordA hT hm q1.2 h10
    obtain ⟨r, hr⟩ : ∃ r, r = lq L t L q := ⟨_, rfl⟩
    obtain ⟨l1, l2, l3⟩ := lq_le L t L q q1.2
    rcases wk_k L t q with hw | ⟨k, hk, hmt, hw⟩
    · left
      obtain ⟨w1, w2⟩ := C_rw0 hT hcq q1.2 h4q hw
      rw [← es] at w1 w2
      rw [hw] at eK
      have e11 : M_cmdK κ 259 11 = -1 := by rw [eK]; exact up2_y ⟨rfl, rfl⟩
      have e1 := rcmd_w hne w1
      have e2 : M_passesCommand κ = (up2 (M_cmdK κ) 259 10 (κ 259 10), 0) := by unfold M_passesCommand; rw [if_pos e11]
      have e3 : up2 (M_cmdK κ) 259 10 (κ 259 10) 259 10 = nI q := (up2_y ⟨rfl, rfl⟩).trans h10
      rw [e1, e2]
      exact ⟨by omega, rfl, rfl, q, w2, e3, fun _ => rfl⟩
    · obtain ⟨w1, w2⟩ := C_rw1 hT hcq q1.2 h4q hk hw
      have w0 : ¬ D_readWord (D_skipSpaces μ) = 0 := by rw [es, w1]; decide
      have wM : D_readWordM (D_skipSpaces μ) = up2 (up2 μ 254 4 (nI r)) 254 1 (nI k) := by rw [es, w2, up2_two, hr]
      rw [hw, ← hr] at eK
      rw [← hr] at l1 l2 l3 hmt
      unfold mt at hmt
      obtain ⟨n1, n2, n3, n4⟩ := wnu_e k hk
      have hlen : r - q = wl k := (of_decide_eq_true hmt).1
      have hw0 := (wc_lt k hk).2.2.2
      have hlet : ¬ M_isHere κ 97 122 = 0 := fun z => (isHere_iff (a := 97) (b := 122) hm hT.1 q1.2 h10 hT.2 (by decide) (by decide)).mp z ⟨by omega, l3 q (Nat.le_refl q) (by omega)⟩
      have e11 : M_cmdK κ 259 11 = nI k := by rw [eK]; exact up2_y ⟨rfl, rfl⟩
      have e11n : ¬ M_cmdK κ 259 11 = -1 := by rw [e11]; exact n4
      have S1 : SS L t r (D_readWordM (D_skipSpaces μ)) (M_cmdK κ) := by
        rw [wM, eK]
        exact ⟨(hc.up (by decide)).up (by decide), (hm.up (by decide)).up (by decide), by omega, (up2_n (by decide)).trans (up2_y ⟨rfl, rfl⟩), (up2_n (by decide)).trans (up2_y ⟨rfl, rfl⟩)⟩
      have c1 : D_readWordM (D_skipSpaces μ) 254 1 = nI k := by rw [wM]; exact up2_y ⟨rfl, rfl⟩
      have c5 : D_readWordM (D_skipSpaces μ) 254 5 = μ 254 5 := by rw [wM, up2_n (by decide)]; exact up2_n (by decide)
      have e3 : D_cmd3 (D_skipSpaces μ) = D_nums (wnu k) (D_readWordM (D_skipSpaces μ)) (nI 0) := by
        rw [D_cmd3_eq, c1]
        unfold D_wanted
        rw [cn_nI (by omega), n1, cn_nI (by omega)]
        exact congrArg (D_nums (wnu k) (D_readWordM (D_skipSpaces μ))) (show (0 : Int32) = nI 0 from rfl)
      have e4 : M_cmdN κ = M_nums (wnu k) (M_cmdK κ) (nI 0) := by
        rw [M_cmdN_eq, e11, n2, cn_nI (by omega)]
        exact congrArg (M_nums (wnu k) (M_cmdK κ)) (show (0 : Int32) = nI 0 from rfl)
      obtain ⟨μw, hμw⟩ : ∃ m, m = D_readWordM (D_skipSpaces μ) := ⟨_, rfl⟩
      obtain ⟨κw, hκw⟩ : ∃ m, m = M_cmdK κ := ⟨_, rfl⟩
      rw [← hμw] at S1 c1 c5 e3
      rw [← hκw] at S1 e11 e11n e4
      rcases nums_at hT (wnu k) 0 r μw κw (by omega) S1 (fun j hj => absurd hj (Nat.not_lt_zero j)) with ⟨a1, a2, f, a3, a4⟩ | ⟨a1, a2, e, a3, a4, a5, a6⟩
      · left
        have e5 := rcmd_no (ν := (D_nums (wnu k) μw (nI 0)).1) hne w0 (by rw [e3]; exact Prod.ext rfl a1)
        have e6 : M_passesCommand κ = M_cmdN κ := by unfold M_passesCommand; rw [← hκw, if_neg e11n, if_pos (by rw [e4]; exact a2)]
        rw [e5, e6, e4]
        exact ⟨by omega, rfl, a2, f, a3, a4, fun z => absurd z hlet⟩
      · obtain ⟨ν, hν⟩ : ∃ m, m = (D_nums (wnu k) μw (nI 0)).1 := ⟨_, rfl⟩
        obtain ⟨ρ, hρ⟩ : ∃ m, m = (M_nums (wnu k) κw (nI 0)).1 := ⟨_, rfl⟩
        have r11 : ρ 259 11 = nI k := by rw [hρ, (nums_ne (wnu k) κw (nI 0)).1 11 (by decide)]; exact e11
        rw [← hν] at a4 a5 a6
        rw [← hρ] at a4 a5
        have e5 := rcmd_ok (ν := ν) hne w0 (by rw [e3, hν]; exact Prod.ext rfl a1)
        have e6 : (M_cmdN κ).1 = ρ := by rw [e4, hρ]
        have e7 : ¬ (M_cmdN κ).2 = 0 := by rw [e4, a2]; decide
        obtain ⟨s, hs⟩ : ∃ s, s = sk L t L e := ⟨_, rfl⟩
        have s1 : e ≤ s ∧ s ≤ L := by rw [hs]; exact sk_le L t L e a4.2.2.1
        have e8 : D_skipSpaces ν = up2 ν 254 4 (nI s) := by rw [C_spaces hT a4.1 a4.2.2.1 a4.2.2.2.1, hs]
        have e9 : M_spaces ρ = up2 ρ 259 10 (nI s) := by rw [M_spacesA hT a4.2.1 a4.2.2.1 a4.2.2.2.2, hs]
        have hν2 : TC L t (up2 ν 254 4 (nI s)) := a4.1.up (by decide)
        have hρ2 : TM L t (up2 ρ 259 10 (nI s)) := a4.2.1.up (by decide)
        have b1 := byte_is (b := 59) hν2 hT.1 s1.2 hT.2 (by decide)
        have b2 := isHere_iff (a := 59) (b := 59) hρ2 hT.1 s1.2 (up2_y ⟨rfl, rfl⟩) hT.2 (by decide) (by decide)
        have y4 : up2 ν 254 4 (nI s) 254 4 = nI s := up2_y ⟨rfl, rfl⟩
        by_cases c : s < L ∧ t s = 59
        · right
          have g1 : D_byteAt (up2 ν 254 4 (nI s)) (up2 ν 254 4 (nI s) 254 4) = 59 := by rw [y4]; exact b1.mpr c
          have g2 : D_readByteM (up2 ν 254 4 (nI s)) 59 = up2 ν 254 4 (nI (s + 1)) := by unfold D_readByteM; rw [if_pos g1, next_at y4, up2_two]
          have g3 : D_readByte (up2 ν 254 4 (nI s)) 59 = 1 := if_pos g1
          have g4 : M_passesCommand κ = (M_spaces (M_nx (up2 ρ 259 10 (nI s))), 1) := by
            unfold M_passesCommand
            rw [← hκw, if_neg e11n, if_neg e7, e6, e9, if_neg (show ¬ M_isHere (up2 ρ 259 10 (nI s)) 59 59 = 0 from fun z => b2.mp z ⟨c.1, by omega, by omega⟩)]
          have g5 : M_spaces (M_nx (up2 ρ 259 10 (nI s))) = up2 ρ 259 10 (nI (sk L t L (s + 1))) := by
            rw [nx_at (up2_y ⟨rfl, rfl⟩), up2_two, M_spacesA hT (a4.2.1.up (by decide)) (by omega) (up2_y ⟨rfl, rfl⟩), up2_two]
          have eR : D_readCommand μ = (up2 ν 254 4 (nI (s + 1)), 1) := by rw [e5, e8, g2, g3]
          have eM : M_passesCommand κ = (up2 ρ 259 10 (nI (sk L t L (s + 1))), 1) := by rw [g4, g5]
          have hS : SC L t (s + 1) (up2 ν 254 4 (nI (s + 1))) (up2 ρ 259 10 (nI (sk L t L (s + 1)))) := ⟨a4.1.up (by decide), a4.2.1.up (by decide), by omega, up2_y ⟨rfl, rfl⟩, up2_y ⟨rfl, rfl⟩⟩
          have k1 : up2 ν 254 4 (nI (s + 1)) 254 1 = nI k := by rw [up2_n (by decide), a6 1 (by decide)]; exact c1
          have k2 : up2 ρ 259 10 (nI (sk L t L (s + 1))) 259 11 = nI k := by rw [up2_n (by decide)]; exact r11
          have k3 : ∀ j, j < wnu k → up2 ν 254 4 (nI (s + 1)) 256 j = up2 ρ 259 10 (nI (sk L t L (s + 1))) 263 j := fun j hj => by
            rw [up2_k _ _ (by decide), up2_k _ _ (by decide)]
            exact a5 j (by omega)
          have k4 : up2 ν 254 4 (nI (s + 1)) 254 5 = μ 254 5 := by rw [up2_n (by decide), a6 5 (by decide)]; exact c5
          rw [eR, eM]
          exact ⟨by omega, (show ¬ (1 : Int32) = 0 by decide), (show ¬ (1 : Int32) = 0 by decide), hlet, s + 1, k, by omega, hk, hS, k1, k2, k3, k4⟩
        · left
          have g1 : ¬ D_byteAt (up2 ν 254 4 (nI s)) (up2 ν 254 4 (nI s) 254 4) = 59 := by rw [y4]; exact fun z => c (b1.mp z)
          have g2 : D_readByteM (up2 ν 254 4 (nI s)) 59 = up2 (up2 ν 254 4 (nI s)) 254 5 (nI s) := by unfold D_readByteM; rw [if_neg g1, y4]
          have g3 : D_readByte (up2 ν 254 4 (nI s)) 59 = 0 := if_neg g1
          have g4 : M_passesCommand κ = (up2 ρ 259 10 (nI s), 0) := by
            unfold M_passesCommand
            rw [← hκw, if_neg e11n, if_neg e7, e6, e9, if_pos (show M_isHere (up2 ρ 259 10 (nI s)) 59 59 = 0 from b2.mpr fun z => c ⟨z.1, by omega⟩)]
          have eR : D_readCommand μ = (up2 (up2 ν 254 4 (nI s)) 254 5 (nI s), 0) := by rw [e5, e8, g2, g3]
          have k1 : up2 (up2 ν 254 4 (nI s)) 254 5 (nI s) 254 5 = nI s := up2_y ⟨rfl, rfl⟩
          have k2 : up2 ρ 259 10 (nI s) 259 10 = nI s := up2_y ⟨rfl, rfl⟩
          rw [eR, g4]
          exact ⟨by omega, rfl, rfl, s, k1, k2, fun z => absurd z hlet⟩
end
