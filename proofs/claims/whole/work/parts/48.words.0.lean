noncomputable section
/-! the text as counts: L bytes t -/
def TC (L : Nat) (t : Nat → Nat) (μ : Mm) : Prop := μ 254 0 = nI L ∧ ∀ i, i < L → μ 258 i = nI (t i)
def TM (L : Nat) (t : Nat → Nat) (κ : Mm) : Prop := κ 259 9 = nI L ∧ ∀ i, i < L → κ 262 i = nI (t i)
def sk (L : Nat) (t : Nat → Nat) : Nat → Nat → Nat
  | 0, p => p
  | n + 1, p => if p < L ∧ t p = 32 then sk L t n (p + 1) else p
def lq (L : Nat) (t : Nat → Nat) : Nat → Nat → Nat
  | 0, p => p
  | n + 1, p => if p < L ∧ 97 ≤ t p ∧ t p ≤ 122 then lq L t n (p + 1) else p
theorem up2_same {μ : Mm} {k i : Nat} {v : Int32} (h : μ k i = v) : up2 μ k i v = μ := by
  funext a b
  unfold up2
  split
  · rename_i c; rw [c.1, c.2]; exact h.symm
  · rfl
theorem up2_two {μ : Mm} {k i : Nat} {v w : Int32} : up2 (up2 μ k i v) k i w = up2 μ k i w := by
  funext a b
  unfold up2
  split <;> rfl
theorem sk_le (L : Nat) (t : Nat → Nat) : ∀ n p, p ≤ L → p ≤ sk L t n p ∧ sk L t n p ≤ L
  | 0, p, h => ⟨Nat.le_refl _, h⟩
  | n + 1, p, h => by
    unfold sk
    split
    · have := sk_le L t n (p + 1) (by omega)
      omega
    · exact ⟨Nat.le_refl _, h⟩
theorem sk_fuel (L : Nat) (t : Nat → Nat) : ∀ n n' p, L ≤ p + n → L ≤ p + n' → sk L t n p = sk L t n' p
  | 0, n', p, h, _ => by
    cases n' with
    | zero => rfl
    | succ n' => exact (if_neg (by omega)).symm
  | n + 1, 0, p, _, h => if_neg (by omega)
  | n + 1, n' + 1, p, h, h' => by
    unfold sk
    split
    · exact sk_fuel L t n n' (p + 1) (by omega) (by omega)
    · rfl
theorem sk_idem (L : Nat) (t : Nat → Nat) : ∀ n p m, L ≤ p + n → sk L t m (sk L t n p) = sk L t n p
  | 0, p, m, h => by
    cases m with
    | zero => rfl
    | succ m => exact if_neg (by show ¬ (p < L ∧ _); omega)
  | n + 1, p, m, h => by
    by_cases c : p < L ∧ t p = 32
    · have e : sk L t (n + 1) p = sk L t n (p + 1) := if_pos c
      rw [e]
      exact sk_idem L t n (p + 1) m (by omega)
    · have e : sk L t (n + 1) p = p := if_neg c
      rw [e]
      cases m with
      | zero => rfl
      | succ m => exact if_neg c
theorem lq_le (L : Nat) (t : Nat → Nat) : ∀ n p, p ≤ L → p ≤ lq L t n p ∧ lq L t n p ≤ L ∧ ∀ j, p ≤ j → j < lq L t n p → 97 ≤ t j ∧ t j ≤ 122
  | 0, p, h => ⟨Nat.le_refl _, h, fun j h1 h2 => absurd h2 (by show ¬ j < p; omega)⟩
  | n + 1, p, h => by
    by_cases c : p < L ∧ 97 ≤ t p ∧ t p ≤ 122
    · have e : lq L t (n + 1) p = lq L t n (p + 1) := if_pos c
      rw [e]
      obtain ⟨h1, h2, h3⟩ := lq_le L t n (p + 1) (by omega)
      refine ⟨by omega, h2, fun j j1 j2 => ?_⟩
      by_cases z : j = p
      · rw [z]; exact c.2
      · exact h3 j (by omega) j2
    · have e : lq L t (n + 1) p = p := if_neg c
      rw [e]
      exact ⟨Nat.le_refl _, h, fun j h1 h2 => by omega⟩
theorem TC.up {L : Nat} {t : Nat → Nat} {μ : Mm} {i : Nat} {v : Int32} (h : TC L t μ) (hi : i ≠ 0) : TC L t (up2 μ 254 i v) := ⟨(up2_n (fun z => hi z.2.symm)).trans h.1, fun j hj => by rw [up2_k _ _ (by decide)]; exact h.2 j hj⟩
theorem TM.up {L : Nat} {t : Nat → Nat} {κ : Mm} {i : Nat} {v : Int32} (h : TM L t κ) (hi : i ≠ 9) : TM L t (up2 κ 259 i v) := ⟨(up2_n (fun z => hi z.2.symm)).trans h.1, fun j hj => by rw [up2_k _ _ (by decide)]; exact h.2 j hj⟩
theorem byteAt_at {L p : Nat} {t : Nat → Nat} {μ : Mm} (h : TC L t μ) (hL : L ≤ 150) (hp : p ≤ L) : D_byteAt μ (nI p) = if p < L then nI (t p) else -1 := by
  unfold D_byteAt
  rw [h.1]
  by_cases c : p < L
  · rw [if_pos c, if_pos (nI_lt c (by omega)), R_get_nI (by omega) (by decide)]
    exact h.2 p c
  · rw [if_neg c, if_neg (fun z => c ((nI_lt_iff (by omega) (by omega)).mp z))]
theorem wI_in {v a b : Nat} (hv : v < 2 ^ 31) (ha : a < 2 ^ 31) (hb : b < 2 ^ 31) : (wI (nI v) (nI a) (nI b) = 0) ↔ ¬ (a ≤ v ∧ v ≤ b) := by
  unfold wI
  by_cases c : v < a
  · rw [if_pos ((nI_lt_iff hv ha).mpr c)]
    exact ⟨fun _ z => by omega, fun _ => rfl⟩
  · rw [if_neg (fun z => c ((nI_lt_iff hv ha).mp z))]
    by_cases d : b < v
    · rw [if_pos ((nI_lt_iff hb hv).mpr d)]
      exact ⟨fun _ z => by omega, fun _ => rfl⟩
    · rw [if_neg (fun z => d ((nI_lt_iff hb hv).mp z))]
      exact ⟨fun z => absurd z (by decide), fun z => absurd ⟨by omega, by omega⟩ z⟩
theorem byte_in {L p a b : Nat} {t : Nat → Nat} {μ : Mm} (h : TC L t μ) (hL : L ≤ 150) (hp : p ≤ L) (ht : ∀ i, i < L → t i < 128) (ha : a < 1000) (hb : b < 1000) : (wI (D_byteAt μ (nI p)) (nI a) (nI b) = 0) ↔ ¬ (p < L ∧ a ≤ t p ∧ t p ≤ b) := by
  rw [byteAt_at h hL hp]
  by_cases c : p < L
  · have := ht p c
    rw [if_pos c, wI_in (by omega) (by omega) (by omega)]
    exact ⟨fun z w => z w.2, fun z w => z ⟨c, w⟩⟩
  · rw [if_neg c]
    refine ⟨fun _ z => c z.1, fun _ => ?_⟩
    unfold wI
    rw [if_pos]
    rw [Int32.lt_iff_toInt_lt, nI_toInt (by omega)]
    have : (-1 : Int32).toInt = -1 := rfl
    omega
theorem byte_is {L p b : Nat} {t : Nat → Nat} {μ : Mm} (h : TC L t μ) (hL : L ≤ 150) (hp : p ≤ L) (ht : ∀ i, i < L → t i < 128) (hb : b < 1000) : D_byteAt μ (nI p) = nI b ↔ p < L ∧ t p = b := by
  rw [byteAt_at h hL hp]
  by_cases c : p < L
  · have := ht p c
    rw [if_pos c, nI_inj (by omega) (by omega)]
    exact ⟨fun z => ⟨c, z⟩, fun z => z.2⟩
  · rw [if_neg c]
    refine ⟨fun z => ?_, fun z => absurd z.1 c⟩
    have e := congrArg Int32.toInt z
    rw [nI_toInt (by omega)] at e
    have : (-1 : Int32).toInt = -1 := rfl
    omega
theorem isHere_iff {L p a b : Nat} {t : Nat → Nat} {κ : Mm} (h : TM L t κ) (hL : L ≤ 150) (hp : p ≤ L) (h10 : κ 259 10 = nI p) (ht : ∀ i, i < L → t i < 128) (ha : a < 1000) (hb : b < 1000) : (M_isHere κ (nI a) (nI b) = 0) ↔ ¬ (p < L ∧ a ≤ t p ∧ t p ≤ b) := by
  unfold M_isHere M_here
  rw [h10, h.1, cn_nI (by omega)]
  by_cases c : p < L
  · have := ht p c
    rw [if_pos (nI_lt c (by omega)), h.2 p c]
    by_cases d : wI (nI (t p)) (nI a) (nI b) = 0
    · rw [if_pos d]
      exact ⟨fun _ z => (wI_in (by omega) (by omega) (by omega)).mp d z.2, fun _ => rfl⟩
    · rw [if_neg d]
      exact ⟨fun z => absurd z (by decide), fun z => absurd ((wI_in (by omega) (by omega) (by omega)).mpr fun w => z ⟨c, w⟩) d⟩
  · rw [if_neg (fun z => c ((nI_lt_iff (by omega) (by omega)).mp z))]
    exact ⟨fun _ z => c z.1, fun _ => rfl⟩
theorem here_at {L p : Nat} {t : Nat → Nat} {κ : Mm} (h : TM L t κ) (hp : p < L) (hL : L ≤ 150) (h10 : κ 259 10 = nI p) : M_here κ = nI (t p) := by
  unfold M_here
  rw [h10, cn_nI (by omega)]
  exact h.2 p hp
theorem nx_at {p : Nat} {κ : Mm} (h10 : κ 259 10 = nI p) : M_nx κ = up2 κ 259 10 (nI (p + 1)) := by
  unfold M_nx
  rw [h10, nI_1]
theorem next_at {p : Nat} {μ : Mm} (h4 : μ 254 4 = nI p) : D_next μ = up2 μ 254 4 (nI (p + 1)) := by
  unfold D_next
  rw [h4, nI_1]
theorem C_sk {L : Nat} {t : Nat → Nat} (hL : L ≤ 150) (ht : ∀ i, i < L → t i < 128) : ∀ n p (μ : Mm), TC L t μ → p ≤ L → μ 254 4 = nI p → D_skip n μ = up2 μ 254 4 (nI (sk L t n p))
  | 0, p, μ, _, _, h4 => (up2_same h4).symm
  | n + 1, p, μ, h, hp, h4 => by
    have hb := byte_is (b := 32) h hL hp ht (by decide)
    show (if μ 254 4 < μ 254 0 then if D_byteAt μ (μ 254 4) = 32 then D_skip n (D_next μ) else μ else μ) = _
    rw [h4, h.1]
    by_cases c : p < L ∧ t p = 32
    · have e : sk L t (n + 1) p = sk L t n (p + 1) := if_pos c
      rw [if_pos (nI_lt c.1 (by omega)), if_pos (show D_byteAt μ (nI p) = 32 from hb.mpr c), next_at h4, C_sk hL ht n (p + 1) _ (h.up (by decide)) (by omega) (up2_y ⟨rfl, rfl⟩), up2_two, e]
    · have e : sk L t (n + 1) p = p := if_neg c
      rw [e, up2_same h4]
      split
      · rw [if_neg (show ¬ D_byteAt μ (nI p) = 32 from fun z => c (hb.mp z))]
      · rfl
theorem M_sk {L : Nat} {t : Nat → Nat} (hL : L ≤ 150) (ht : ∀ i, i < L → t i < 128) : ∀ n p (κ : Mm), TM L t κ → p ≤ L → κ 259 10 = nI p → M_skip n κ = up2 κ 259 10 (nI (sk L t n p))
  | 0, p, κ, _, _, h4 => (up2_same h4).symm
  | n + 1, p, κ, h, hp, h4 => by
    have hb := isHere_iff (a := 32) (b := 32) h hL hp h4 ht (by decide) (by decide)
    show (if M_isHere κ 32 32 = 0 then κ else M_skip n (M_nx κ)) = _
    by_cases c : p < L ∧ t p = 32
    · have e : sk L t (n + 1) p = sk L t n (p + 1) := if_pos c
      rw [if_neg (show ¬ M_isHere κ 32 32 = 0 from fun z => hb.mp z ⟨c.1, by omega, by omega⟩), nx_at h4, M_sk hL ht n (p + 1) _ (h.up (by decide)) (by omega) (up2_y ⟨rfl, rfl⟩), up2_two, e]
    · have e : sk L t (n + 1) p = p := if_neg c
      rw [if_pos (show M_isHere κ 32 32 = 0 from hb.mpr fun z => c ⟨z.1, by omega⟩), e, up2_same h4]
theorem C_lq {L : Nat} {t : Nat → Nat} (hL : L ≤ 150) (ht : ∀ i, i < L → t i < 128) : ∀ n p (μ : Mm), TC L t μ → p ≤ L → μ 254 4 = nI p → D_let n μ = up2 μ 254 4 (nI (lq L t n p))
  | 0, p, μ, _, _, h4 => (up2_same h4).symm
  | n + 1, p, μ, h, hp, h4 => by
    have hb := byte_in (a := 97) (b := 122) h hL hp ht (by decide) (by decide)
    show (if μ 254 4 < μ 254 0 then if wI (D_byteAt μ (μ 254 4)) 97 122 = 0 then μ else D_let n (D_next μ) else μ) = _
    rw [h4, h.1]
    by_cases c : p < L ∧ 97 ≤ t p ∧ t p ≤ 122
    · have e : lq L t (n + 1) p = lq L t n (p + 1) := if_pos c
      rw [if_pos (nI_lt c.1 (by omega)), if_neg (show ¬ wI (D_byteAt μ (nI p)) 97 122 = 0 from fun z => hb.mp z c), next_at h4, C_lq hL ht n (p + 1) _ (h.up (by decide)) (by omega) (up2_y ⟨rfl, rfl⟩), up2_two, e]
    · have e : lq L t (n + 1) p = p := if_neg c
      rw [e, up2_same h4]
      split
      · rw [if_pos (show wI (D_byteAt μ (nI p)) 97 122 = 0 from hb.mpr c)]
      · rfl
/-! words as numbers to the base 27 -/
def cN (t : Nat → Nat) (p : Nat) : Nat → Nat
  | 0 => 0
  | m + 1 => 27 * cN t p m + (t (p + m) - 96)
theorem cN_lt {t : Nat → Nat} {p : Nat} : ∀ {m}, (∀ j, j < m → 97 ≤ t (p + j) ∧ t (p + j) ≤ 122) → cN t p m < 27 ^ m
  | 0, _ => Nat.zero_lt_one
  | m + 1, h => by
    have h1 := cN_lt (m := m) fun j hj => h j (by omega)
    have h2 := h m (by omega)
    show 27 * cN t p m + (t (p + m) - 96) < 27 ^ (m + 1)
    rw [Nat.pow_succ]
    omega
theorem cN_inj {t u : Nat → Nat} {p q : Nat} : ∀ {m m'}, (∀ j, j < m → 97 ≤ t (p + j) ∧ t (p + j) ≤ 122) → (∀ j, j < m' → 97 ≤ u (q + j) ∧ u (q + j) ≤ 122) → cN t p m = cN u q m' → m = m' ∧ ∀ j, j < m → t (p + j) = u (q + j)
  | 0, 0, _, _, _ => ⟨rfl, fun j hj => absurd hj (Nat.not_lt_zero j)⟩
  | 0, m' + 1, _, h', e => by
    have h2 := h' m' (by omega)
    have e2 : 0 = 27 * cN u q m' + (u (q + m') - 96) := e
    omega
  | m + 1, 0, h, _, e => by
    have h2 := h m (by omega)
    have e2 : 27 * cN t p m + (t (p + m) - 96) = 0 := e
    omega
  | m + 1, m' + 1, h, h', e => by
    have h2 := h m (by omega)
    have h3 := h' m' (by omega)
    have e2 : 27 * cN t p m + (t (p + m) - 96) = 27 * cN u q m' + (u (q + m') - 96) := e
    obtain ⟨i1, i2⟩ := cN_inj (m := m) (m' := m') (fun j hj => h j (by omega)) (fun j hj => h' j (by omega)) (by omega)
    refine ⟨by omega, fun j hj => ?_⟩
    by_cases c : j = m
    · subst c
      rw [← i1] at e2 h3
      omega
    · exact i2 j (by omega)
theorem cN_congr {t u : Nat → Nat} {p q : Nat} : ∀ {m}, (∀ j, j < m → t (p + j) = u (q + j)) → cN t p m = cN u q m
  | 0, _ => rfl
  | m + 1, h => by
    show 27 * cN t p m + (t (p + m) - 96) = 27 * cN u q m + (u (q + m) - 96)
    rw [cN_congr fun j hj => h j (by omega), h m (by omega)]
/-- the word's bytes and length, its number -/
def wb (k j : Nat) : Nat := cn (W_byte k j)
def wl (k : Nat) : Nat := wdL.getD k 0
def wc (k : Nat) : Nat := ([1494603, 275531535, 10255685, 1705, 8328978, 43856058, 14006, 1834209] : List Nat).getD k 0
theorem wb_in : ∀ k, k < 8 → ∀ j, j < wl k → 97 ≤ wb k (0 + j) ∧ wb k (0 + j) ≤ 122 := by
  intro k hk j hj
  have h6 : wl k ≤ 6 := (W_len k hk).2
  have : ∀ k, k < 8 → ∀ j, j < 6 → j < wl k → 97 ≤ wb k (0 + j) ∧ wb k (0 + j) ≤ 122 := by decide +kernel
  exact this k hk j (by omega) hj
theorem wb_nI : ∀ k, k < 8 → ∀ j, j < wl k → W_byte k j = nI (wb k j) := by
  intro k hk j hj
  have h6 : wl k ≤ 6 := (W_len k hk).2
  have : ∀ k, k < 8 → ∀ j, j < 6 → j < wl k → W_byte k j = nI (wb k j) := by decide +kernel
  exact this k hk j (by omega) hj
theorem wc_e : ∀ k, k < 8 → cN (wb k) 0 (wl k) = wc k := by decide +kernel
/-- the text's word from p on, m letters, is the k-th -/
def mt (t : Nat → Nat) (p m k : Nat) : Bool := decide (m = wl k ∧ ∀ j, j < wl k → t (p + j) = wb k j)
theorem mt_iff {t : Nat → Nat} {p m k : Nat} (hk : k < 8) (hm : ∀ j, j < m → 97 ≤ t (p + j) ∧ t (p + j) ≤ 122) : mt t p m k = true ↔ cN t p m = wc k := by
  unfold mt
  rw [decide_eq_true_eq, ← wc_e k hk]
  constructor
  · rintro ⟨e, h⟩
    rw [← e] at h ⊢
    exact cN_congr fun j hj => (h j hj).trans (by rw [Nat.zero_add])
  · intro e
    obtain ⟨i1, i2⟩ := cN_inj hm (wb_in k hk) e
    refine ⟨i1, fun j hj => ?_⟩
    have := i2 j (by omega)
    rw [Nat.zero_add] at this
    exact this
theorem fst_first {q : Nat → Bool} {n k : Nat} (hk : k < n) (h : ∀ j, j < k → q j = false) (hq : q k = true) : fstI q n = nI k := by
  unfold fstI
  rw [fst_some hk h hq]
theorem kind_fst (w : Int32) : M_kindOf w = fstI (fun k => decide (w = nI (wc k))) 8 := by
  unfold M_kindOf
  rw [show M_codeOf 98 117 121 101 114 32 = nI (wc 0) from by decide +kernel]
  rw [show M_codeOf 115 101 108 108 101 114 = nI (wc 1) from by decide +kernel]
  rw [show M_codeOf 115 104 97 100 101 32 = nI (wc 2) from by decide +kernel]
  rw [show M_codeOf 98 105 100 32 32 32 = nI (wc 3) from by decide +kernel]
  rw [show M_codeOf 111 114 100 101 114 32 = nI (wc 4) from by decide +kernel]
  rw [show M_codeOf 99 97 110 99 101 108 = nI (wc 5) from by decide +kernel]
  rw [show M_codeOf 115 101 116 32 32 32 = nI (wc 6) from by decide +kernel]
  rw [show M_codeOf 99 108 101 97 114 32 = nI (wc 7) from by decide +kernel]
  by_cases c0 : w = nI (wc 0)
  · rw [if_pos c0]
    exact (fst_first (q := fun k => decide (w = nI (wc k))) (n := 8) (k := 0) (by decide) (fun j hj => decide_eq_false fun z => by
      exact absurd hj (Nat.not_lt_zero j)
      ) (decide_eq_true c0)).symm
  rw [if_neg c0]
  by_cases c1 : w = nI (wc 1)
  · rw [if_pos c1]
    exact (fst_first (q := fun k => decide (w = nI (wc k))) (n := 8) (k := 1) (by decide) (fun j hj => decide_eq_false fun z => by
      rcases (show j = 0 by omega) with rfl
      · exact c0 z
      ) (decide_eq_true c1)).symm
  rw [if_neg c1]
  by_cases c2 : w = nI (wc 2)
  · rw [if_pos c2]
    exact (fst_first (q := fun k => decide (w = nI (wc k))) (n := 8) (k := 2) (by decide) (fun j hj => decide_eq_false fun z => by
      rcases (show j = 0 ∨ j = 1 by omega) with rfl | rfl
      · exact c0 z
      · exact c1 z
      ) (decide_eq_true c2)).symm
  rw [if_neg c2]
  by_cases c3 : w = nI (wc 3)
  · rw [if_pos c3]
    exact (fst_first (q := fun k => decide (w = nI (wc k))) (n := 8) (k := 3) (by decide) (fun j hj => decide_eq_false fun z => by
      rcases (show j = 0 ∨ j = 1 ∨ j = 2 by omega) with rfl | rfl | rfl
      · exact c0 z
      · exact c1 z
      · exact c2 z
      ) (decide_eq_true c3)).symm
  rw [if_neg c3]
  by_cases c4 : w = nI (wc 4)
  · rw [if_pos c4]
    exact (fst_first (q := fun k => decide (w = nI (wc k))) (n := 8) (k := 4) (by decide) (fun j hj => decide_eq_false fun z => by
      rcases (show j = 0 ∨ j = 1 ∨ j = 2 ∨ j = 3 by omega) with rfl | rfl | rfl | rfl
      · exact c0 z
      · exact c1 z
      · exact c2 z
      · exact c3 z
      ) (decide_eq_true c4)).symm
  rw [if_neg c4]
  by_cases c5 : w = nI (wc 5)
  · rw [if_pos c5]
    exact (fst_first (q := fun k => decide (w = nI (wc k))) (n := 8) (k := 5) (by decide) (fun j hj => decide_eq_false fun z => by
      rcases (show j = 0 ∨ j = 1 ∨ j = 2 ∨ j = 3 ∨ j = 4 by omega) with rfl | rfl | rfl | rfl | rfl
      · exact c0 z
      · exact c1 z
      · exact c2 z
      · exact c3 z
      · exact c4 z
      ) (decide_eq_true c5)).symm
  rw [if_neg c5]
  by_cases c6 : w = nI (wc 6)
  · rw [if_pos c6]
    exact (fst_first (q := fun k => decide (w = nI (wc k))) (n := 8) (k := 6) (by decide) (fun j hj => decide_eq_false fun z => by
      rcases (show j = 0 ∨ j = 1 ∨ j = 2 ∨ j = 3 ∨ j = 4 ∨ j = 5 by omega) with rfl | rfl | rfl | rfl | rfl | rfl
      · exact c0 z
      · exact c1 z
      · exact c2 z
      · exact c3 z
      · exact c4 z
      · exact c5 z
      ) (decide_eq_true c6)).symm
  rw [if_neg c6]
  by_cases c7 : w = nI (wc 7)
  · rw [if_pos c7]
    exact (fst_first (q := fun k => decide (w = nI (wc k))) (n := 8) (k := 7) (by decide) (fun j hj => decide_eq_false fun z => by
      rcases (show j = 0 ∨ j = 1 ∨ j = 2 ∨ j = 3 ∨ j = 4 ∨ j = 5 ∨ j = 6 by omega) with rfl | rfl | rfl | rfl | rfl | rfl | rfl
      · exact c0 z
      · exact c1 z
      · exact c2 z
      · exact c3 z
      · exact c4 z
      · exact c5 z
      · exact c6 z
      ) (decide_eq_true c7)).symm
  rw [if_neg c7]
  unfold fstI
  rw [fst_none (p := fun k => decide (w = nI (wc k))) (n := 8) fun j hj => decide_eq_false fun z => by
      rcases (show j = 0 ∨ j = 1 ∨ j = 2 ∨ j = 3 ∨ j = 4 ∨ j = 5 ∨ j = 6 ∨ j = 7 by omega) with rfl | rfl | rfl | rfl | rfl | rfl | rfl | rfl
      · exact c0 z
      · exact c1 z
      · exact c2 z
      · exact c3 z
      · exact c4 z
      · exact c5 z
      · exact c6 z
      · exact c7 z]
end
