noncomputable section
/-! sums of counts; a queue of one side in its order -/
def sN (g : Nat → Nat) : Nat → Nat
  | 0 => 0
  | n + 1 => sN g n + g n
theorem sN_congr {g h : Nat → Nat} {n : Nat} (e : ∀ k, k < n → g k = h k) : sN g n = sN h n := by
  induction n with
  | zero => rfl
  | succ n ih =>
    show sN g n + g n = sN h n + h n
    rw [ih fun k hk => e k (by omega), e n (by omega)]
theorem sN_add (g h : Nat → Nat) (n : Nat) : sN (fun k => g k + h k) n = sN g n + sN h n := by
  induction n with
  | zero => rfl
  | succ n ih =>
    show sN (fun k => g k + h k) n + (g n + h n) = (sN g n + g n) + (sN h n + h n)
    omega
theorem sN_le {g h : Nat → Nat} {n : Nat} (e : ∀ k, k < n → g k ≤ h k) : sN g n ≤ sN h n := by
  induction n with
  | zero => exact Nat.le_refl _
  | succ n ih => exact Nat.add_le_add (ih fun k hk => e k (by omega)) (e n (by omega))
theorem sN_zero {g : Nat → Nat} {n : Nat} (e : ∀ k, k < n → g k = 0) : sN g n = 0 := by
  induction n with
  | zero => rfl
  | succ n ih =>
    show sN g n + g n = 0
    rw [ih fun k hk => e k (by omega), e n (by omega)]
theorem sN_one (g : Nat → Nat) {n a : Nat} (ha : a < n) : sN (fun j => if j = a then g j else 0) n = g a := by
  induction n with
  | zero => exact absurd ha (Nat.not_lt_zero _)
  | succ n ih =>
    show sN (fun j => if j = a then g j else 0) n + (if n = a then g n else 0) = g a
    by_cases c : n = a
    · rw [if_pos c, sN_zero fun k hk => if_neg (by omega), Nat.zero_add, c]
    · rw [if_neg c, ih (by omega), Nat.add_zero]
theorem sN_bd {g : Nat → Nat} {c : Nat} : ∀ {n : Nat}, (∀ k, k < n → g k ≤ c) → sN g n ≤ c * n
  | 0, _ => Nat.zero_le _
  | n + 1, e => by
    have h1 := sN_bd (n := n) fun k hk => e k (by omega)
    have h2 := e n (by omega)
    show sN g n + g n ≤ c * (n + 1)
    rw [Nat.mul_succ]
    omega
theorem sN_mono {g : Nat → Nat} {a b : Nat} (h : a ≤ b) : sN g a ≤ sN g b := by
  induction b with
  | zero => rw [Nat.le_zero.mp h]; exact Nat.le_refl _
  | succ b ih =>
    by_cases c : a = b + 1
    · rw [c]; exact Nat.le_refl _
    · exact Nat.le_trans (ih (by omega)) (Nat.le_add_right _ _)
theorem sumI_nI (g : Nat → Nat) (n : Nat) : sumI (fun k => nI (g k)) n = nI (sN g n) := by
  induction n with
  | zero => rfl
  | succ n ih =>
    show sumI (fun k => nI (g k)) n + nI (g n) = nI (sN g n + g n)
    rw [ih, nI_add]
def memq (q : Nat → Nat) : Nat → Nat → Bool
  | 0, _ => false
  | i + 1, j => memq q i j || decide (q i = j)
theorem memq_iff {q : Nat → Nat} {j : Nat} : ∀ {i : Nat}, memq q i j = true ↔ ∃ x, x < i ∧ q x = j
  | 0 => ⟨fun h => Bool.noConfusion h, fun ⟨x, h, _⟩ => absurd h (Nat.not_lt_zero x)⟩
  | i + 1 => by
    show (memq q i j || decide (q i = j)) = true ↔ _
    rw [Bool.or_eq_true, memq_iff, decide_eq_true_eq]
    constructor
    · rintro (⟨x, h1, h2⟩ | h)
      · exact ⟨x, by omega, h2⟩
      · exact ⟨i, by omega, h⟩
    · rintro ⟨x, h1, h2⟩
      by_cases c : x = i
      · exact Or.inr (c ▸ h2)
      · exact Or.inl ⟨x, by omega, h2⟩
theorem psum (g q : Nat → Nat) {n : Nat} : ∀ i, (∀ x, x < i → q x < n) → (∀ x y, x < y → y < i → q x ≠ q y) → sN (fun x => g (q x)) i = sN (fun j => if memq q i j = true then g j else 0) n
  | 0, _, _ => (sN_zero fun k _ => if_neg (fun h => Bool.noConfusion (show false = true from h))).symm
  | i + 1, h1, h2 => by
    show sN (fun x => g (q x)) i + g (q i) = _
    rw [psum g q i (fun x hx => h1 x (by omega)) (fun x y hx hy => h2 x y hx (by omega)), ← sN_one g (h1 i (by omega)), ← sN_add]
    refine sN_congr fun j hj => ?_
    show _ = if (memq q i j || decide (q i = j)) = true then g j else 0
    by_cases c : j = q i
    · have hm : ¬ memq q i j = true := fun e => by
        obtain ⟨x, hx, ex⟩ := memq_iff.mp e
        exact h2 x i hx (by omega) (ex.trans c)
      rw [if_pos c, if_neg hm, if_pos (by rw [decide_eq_true c.symm, Bool.or_true])]
      exact Nat.zero_add _
    · rw [if_neg c, decide_eq_false (fun e => c e.symm), Bool.or_false]
      exact Nat.add_zero _
/-- the first n indices' part of one side, in the order of W -/
def QI (n : Nat) (S W : Nat → Nat) (sd : Nat) (q : Nat → Nat) (L : Nat) : Prop :=
  (∀ i, i < L → q i < n ∧ S (q i) = sd) ∧ (∀ i j, i < j → j < L → W (q i) < W (q j)) ∧ ∀ x, x < n → S x = sd → ∃ i, i < L ∧ q i = x
theorem QI.o (S W : Nat → Nat) (sd : Nat) (q : Nat → Nat) : QI 0 S W sd q 0 := ⟨fun i h => absurd h (Nat.not_lt_zero i), fun i j _ h => absurd h (Nat.not_lt_zero j), fun x h => absurd h (Nat.not_lt_zero x)⟩
theorem QI.skip {k L sd : Nat} {S W q : Nat → Nat} (h : QI k S W sd q L) (hs : S k ≠ sd) : QI (k + 1) S W sd q L := by
  refine ⟨fun i hi => ⟨by have := (h.1 i hi).1; omega, (h.1 i hi).2⟩, h.2.1, fun x hx e => ?_⟩
  by_cases c : x = k
  · exact absurd (c ▸ e) hs
  · exact h.2.2 x (by omega) e
theorem QI.put {k L sd m : Nat} {S W q q' : Nat → Nat} (h : QI k S W sd q L) (hs : S k = sd) (hm : m ≤ L) (h1 : ∀ i, i < m → W (q i) < W k) (h2 : ∀ i, m ≤ i → i < L → W k < W (q i)) (hq : ∀ i, i ≤ L → q' i = if i < m then q i else if i = m then k else q (i - 1)) : QI (k + 1) S W sd q' (L + 1) := by
  have a1 : ∀ i, i < m → q' i = q i := fun i hi => by rw [hq i (by omega), if_pos hi]
  have a2 : q' m = k := by rw [hq m hm, if_neg (by omega), if_pos rfl]
  have a3 : ∀ i, m ≤ i → i < L → q' (i + 1) = q i := fun i h3 h4 => by rw [hq _ (by omega), if_neg (by omega), if_neg (by omega), Nat.add_sub_cancel]
  refine ⟨fun i hi => ?_, fun i j hij hj => ?_, fun x hx e => ?_⟩
  · by_cases c1 : i < m
    · rw [a1 i c1]; exact ⟨by have := (h.1 i (by omega)).1; omega, (h.1 i (by omega)).2⟩
    · by_cases c2 : i = m
      · subst c2; rw [a2]; exact ⟨by omega, hs⟩
      · obtain ⟨i', rfl⟩ : ∃ i', i = i' + 1 := ⟨i - 1, by omega⟩
        rw [a3 i' (by omega) (by omega)]; exact ⟨by have := (h.1 i' (by omega)).1; omega, (h.1 i' (by omega)).2⟩
  · by_cases c1 : j < m
    · rw [a1 j c1, a1 i (by omega)]; exact h.2.1 i j hij (by omega)
    · by_cases c2 : j = m
      · subst c2; rw [a2, a1 i hij]; exact h1 i hij
      · obtain ⟨j', rfl⟩ : ∃ j', j = j' + 1 := ⟨j - 1, by omega⟩
        rw [a3 j' (by omega) (by omega)]
        by_cases c3 : i < m
        · rw [a1 i c3]; exact h.2.1 i j' (by omega) (by omega)
        · by_cases c4 : i = m
          · subst c4; rw [a2]; exact h2 j' (by omega) (by omega)
          · obtain ⟨i', rfl⟩ : ∃ i', i = i' + 1 := ⟨i - 1, by omega⟩
            rw [a3 i' (by omega) (by omega)]; exact h.2.1 i' j' (by omega) (by omega)
  · by_cases c : x = k
    · subst c; exact ⟨m, by omega, a2⟩
    · obtain ⟨i, hi, ei⟩ := h.2.2 x (by omega) e
      by_cases c1 : i < m
      · exact ⟨i, by omega, (a1 i c1).trans ei⟩
      · exact ⟨i + 1, by omega, (a3 i (by omega) hi).trans ei⟩
theorem QI.inj {n L sd : Nat} {S W q : Nat → Nat} (h : QI n S W sd q L) : ∀ x y, x < y → y < L → q x ≠ q y := fun x y h1 h2 e => by
  have := h.2.1 x y h1 h2
  rw [e] at this
  omega
theorem sN_k (c : Nat) : ∀ n, sN (fun _ => c) n = c * n
  | 0 => rfl
  | n + 1 => by
    show sN (fun _ => c) n + c = _
    rw [sN_k c n, Nat.mul_succ]
theorem QI.len {n L sd : Nat} {S W q : Nat → Nat} (h : QI n S W sd q L) : L ≤ n := by
  have h1 := psum (fun _ => 1) q (n := n) L (fun x hx => (h.1 x hx).1) h.inj
  have h2 := sN_le (g := fun j => if memq q L j = true then 1 else 0) (h := fun _ => 1) (n := n) fun k _ => by
    show (if memq q L k = true then 1 else 0) ≤ 1
    split <;> omega
  rw [sN_k] at h2
  rw [show (fun x => (fun _ => 1) (q x)) = fun _ : Nat => 1 from rfl, sN_k] at h1
  omega
theorem QI.sum {n L sd i : Nat} {S W q : Nat → Nat} (h : QI n S W sd q L) (g : Nat → Nat) (hi : i < L) : sN (fun x => g (q x)) i = sN (fun j => if S j = sd ∧ W j < W (q i) then g j else 0) n := by
  rw [psum g q (n := n) i (fun x hx => (h.1 x (by omega)).1) (fun x y h1 h2 => h.inj x y h1 (by omega))]
  refine sN_congr fun j hj => ?_
  by_cases c : memq q i j = true
  · obtain ⟨x, hx, ex⟩ := memq_iff.mp c
    have h3 := h.1 x (by omega)
    have h4 := h.2.1 x i hx hi
    rw [if_pos c, if_pos ⟨ex ▸ h3.2, ex ▸ h4⟩]
  · rw [if_neg c, if_neg (fun d => c ?_)]
    obtain ⟨x, hx, ex⟩ := h.2.2 j hj d.1
    refine memq_iff.mpr ⟨x, ?_, ex⟩
    have d2 := d.2
    rw [← ex] at d2
    rcases Nat.lt_trichotomy x i with z | z | z
    · exact z
    · rw [z] at d2; omega
    · have := h.2.1 i x z hx; omega
theorem QI.all {n L sd : Nat} {S W q : Nat → Nat} (h : QI n S W sd q L) (g : Nat → Nat) : sN (fun x => g (q x)) L = sN (fun j => if S j = sd then g j else 0) n := by
  rw [psum g q (n := n) L (fun x hx => (h.1 x hx).1) h.inj]
  refine sN_congr fun j hj => ?_
  by_cases c : memq q L j = true
  · obtain ⟨x, hx, ex⟩ := memq_iff.mp c
    have h3 := h.1 x (by omega)
    rw [if_pos c, if_pos (ex ▸ h3.2)]
  · rw [if_neg c, if_neg (fun d => c ?_)]
    obtain ⟨x, hx, ex⟩ := h.2.2 j hj d
    exact memq_iff.mpr ⟨x, hx, ex⟩
theorem greedy (u : Nat → Nat) (V : Nat) : ∀ i, sN (fun x => min (V - sN u x) (u x)) i = min V (sN u i)
  | 0 => (Nat.min_zero V).symm
  | i + 1 => by
    show sN (fun x => min (V - sN u x) (u x)) i + min (V - sN u i) (u i) = min V (sN u i + u i)
    rw [greedy u V i]
    omega
end
