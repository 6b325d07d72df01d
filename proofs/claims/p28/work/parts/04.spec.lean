/-! pure words: rows, sums, the first that is so -/
def mxI (x y : Int32) : Int32 := if x < y then y else x
def mnI (x y : Int32) : Int32 := if y < x then y else x
def cn (x : Int32) : Nat := x.toNatClampNeg
def bI (p : Prop) [Decidable p] : Int32 := if p then 1 else 0
def sumI (g : Nat → Int32) : Nat → Int32
  | 0 => 0
  | n + 1 => sumI g n + g n
def fst (p : Nat → Bool) : Nat → Option Nat
  | 0 => none
  | n + 1 => match fst p n with
    | some k => some k
    | none => if p n then some n else none
def fstI (p : Nat → Bool) (n : Nat) : Int32 := match fst p n with
  | some k => nI k
  | none => -1
theorem fst_none {p : Nat → Bool} {n : Nat} (h : ∀ j, j < n → p j = false) : fst p n = none := by
  induction n with
  | zero => rfl
  | succ n ih => simp [fst, ih (fun j hj => h j (by omega)), h n (by omega)]
theorem fst_some {p : Nat → Bool} {n k : Nat} (hk : k < n) (h : ∀ j, j < k → p j = false) (hp : p k = true) : fst p n = some k := by
  induction n with
  | zero => omega
  | succ n ih =>
    by_cases e : k = n
    · subst e
      simp [fst, fst_none h, hp]
    · simp [fst, ih (by omega)]
theorem fstI_none {p : Nat → Bool} {n : Nat} (h : ∀ j, j < n → p j = false) : fstI p n = -1 := by simp [fstI, fst_none h]
theorem fstI_some {p : Nat → Bool} {n k : Nat} (hk : k < n) (h : ∀ j, j < k → p j = false) (hp : p k = true) : fstI p n = nI k := by simp [fstI, fst_some hk h hp]
theorem cn_lt (x : Int32) : cn x < 2 ^ 31 := by
  have h1 := x.toInt_lt
  unfold cn
  rw [Int32.toNatClampNeg]
  omega
theorem cn_nI {n : Nat} (h : n < 2 ^ 31) : cn (nI n) = n := nI_clamp h
theorem nI_cn {x : Int32} (h : ¬ x < 0) : nI (cn x) = x := by
  obtain ⟨j, hj, rfl⟩ := nI_of h
  rw [cn_nI hj]
/-- a counter below a count isn't past it -/
theorem cn_in {x : Int32} {k : Nat} (h : k < cn x) : ¬ x ≤ nI k := by
  intro hle
  have h1 := cn_lt x
  have h2 : (nI k).toInt = (k : Int) := nI_toInt (by omega)
  have h3 := Int32.le_iff_toInt_le.mp hle
  unfold cn at h
  rw [Int32.toNatClampNeg] at h
  omega
theorem cn_out (x : Int32) : x ≤ nI (cn x) := by
  have h1 := cn_lt x
  have h2 : (nI (cn x)).toInt = (cn x : Int) := nI_toInt h1
  refine Int32.le_iff_toInt_le.mpr ?_
  rw [h2]
  unfold cn
  rw [Int32.toNatClampNeg]
  omega
theorem cn_succ {x y : Int32} (h1 : ¬ x < 0) (h2 : x < y) : cn x + 1 < 2 ^ 31 := by
  have h3 := Int32.lt_iff_toInt_lt.mp h2
  have h4 := y.toInt_lt
  have h5 := x.toInt_lt
  unfold cn
  rw [Int32.toNatClampNeg]
  omega
theorem vp_of {n : Nat} (hn : n ≤ 1000) {i : Int32} (h1 : ¬ i < 0) (h2 : ¬ nI n ≤ i) : vp_in i n := by
  refine vp_in_iff.mpr ?_
  have h3 : (nI n).toInt = (n : Int) := nI_toInt (by omega)
  have h4 := Int32.not_lt.mp h1
  have h5 := Int32.not_le.mp h2
  have h6 := Int32.le_iff_toInt_le.mp h4
  have h7 := Int32.lt_iff_toInt_lt.mp h5
  rw [h3] at h7
  exact ⟨h6, h7⟩
theorem vp_ofN {n k : Nat} (hn : n ≤ 1000) (h : k < n) : vp_in (nI k) n := vp_in_nI h (by omega)
def rg (n : Nat) (f : Nat → Int32) (i : Int32) : Int32 := if i < 0 then 0 else if nI n ≤ i then 0 else f (cn i)
def R_get (μ : Mm) (k n : Nat) (i : Int32) : Int32 := rg n (μ (k + 1)) i
def R_put (μ : Mm) (k n : Nat) (i v : Int32) : Mm := if i < 0 then μ else if nI n ≤ i then μ else up2 μ (k + 1) (cn i) v
def R_add (μ : Mm) (k n : Nat) (i v : Int32) : Mm := if i < 0 then μ else if nI n ≤ i then μ else up2 μ (k + 1) (cn i) (μ (k + 1) (cn i) + v)
def R_zero (μ : Mm) (k n : Nat) : Mm := fun a i => if a = k + 1 ∧ i < n then 0 else μ a i
def R_rem (μ : Mm) (k n : Nat) (j : Nat) : Mm := fun a i => if a = k + 1 ∧ j ≤ i ∧ i + 1 < n then μ (k + 1) (i + 1) else μ a i
def R_remK (μ : Mm) (k : Nat) (j c : Nat) : Mm := fun a i => if a = k + 1 ∧ j ≤ i ∧ i < j + c then μ (k + 1) (i + 1) else μ a i
def R_copy (μ : Mm) (k n b : Nat) : Mm := fun a i => if a = k + 1 ∧ i < n then μ (b + 1) i else μ a i
theorem R_zero_0 (μ : Mm) (k : Nat) : μ = R_zero μ k 0 := by
  funext a i
  simp [R_zero]
theorem R_zero_s (μ : Mm) (k c : Nat) (hc : c < 2 ^ 31) : up2 (R_zero μ k c) (k + 1) (nI c).toNatClampNeg 0 = R_zero μ k (c + 1) := by
  rw [nI_clamp hc]
  funext a i
  by_cases ha : a = k + 1 <;> by_cases hi : i = c
  · simp [up2, R_zero, ha, hi]
  · have : i < c + 1 ↔ i < c := by omega
    simp [up2, R_zero, ha, hi, this]
  · simp [up2, R_zero, ha]
  · simp [up2, R_zero, ha]
theorem R_copy_0 (μ : Mm) (k b : Nat) : μ = R_copy μ k 0 b := by
  funext a i
  simp [R_copy]
theorem R_copy_g (μ : Mm) {k n b c : Nat} (hn : n ≤ 1000) (hc : c < n) : R_get (R_copy μ k c b) b n (nI c) = μ (b + 1) c := by
  unfold R_get rg
  rw [if_neg (nI_pos (by omega)), if_neg (nI_ge hc (by omega)), cn_nI (by omega)]
  simp [R_copy]
theorem R_copy_s (μ : Mm) (k b c : Nat) (hc : c < 2 ^ 31) : up2 (R_copy μ k c b) (k + 1) (nI c).toNatClampNeg (μ (b + 1) c) = R_copy μ k (c + 1) b := by
  rw [nI_clamp hc]
  funext a i
  by_cases ha : a = k + 1 <;> by_cases hi : i = c
  · simp [up2, R_copy, ha, hi]
  · have : i < c + 1 ↔ i < c := by omega
    simp [up2, R_copy, ha, hi, this]
  · simp [up2, R_copy, ha]
  · simp [up2, R_copy, ha]
theorem R_remK_0 (μ : Mm) (k j : Nat) : μ = R_remK μ k j 0 := by
  funext a i
  simp only [R_remK]
  rw [if_neg (by omega)]
theorem R_remK_e (μ : Mm) (k n j : Nat) : R_rem μ k n j = R_remK μ k j (n - (j + 1)) := by
  funext a i
  have : (j ≤ i ∧ i + 1 < n) ↔ (j ≤ i ∧ i < j + (n - (j + 1))) := by omega
  simp [R_remK, R_rem, this]
theorem R_remK_s (μ : Mm) (k j c : Nat) : up2 (R_remK μ k j c) (k + 1) (j + c) (R_remK μ k j c (k + 1) (j + c + 1)) = R_remK μ k j (c + 1) := by
  funext a i
  by_cases ha : a = k + 1 <;> by_cases hi : i = j + c
  · simp only [up2, R_remK]
    rw [if_pos ⟨ha, hi⟩, if_neg (by omega), if_pos ⟨ha, by omega, by omega⟩, hi]
  · have : i < j + (c + 1) ↔ i < j + c := by omega
    simp [up2, R_remK, ha, hi, this]
  · simp [up2, R_remK, ha]
  · simp [up2, R_remK, ha]
theorem sw_off2 {d : Int} {a b : Int} {x : Int32} (h0 : ¬ x = 0) (h1 : ¬ x = 1) : Op.lookupswitch.offset [(0, a), (1, b)] d x.toInt = d := by
  have e0 : ¬ x.toInt = 0 := fun h => h0 (Int32.toInt_inj.mp h)
  have e1 : ¬ x.toInt = 1 := fun h => h1 (Int32.toInt_inj.mp h)
  simp [Op.lookupswitch.offset, Ne.symm e0, Ne.symm e1, e0, e1]
theorem sw_out_0_0 {x : Int32} (h0 : ¬ x = 0) : x.toInt < 0 ∨ 0 < x.toInt := by
  have e0 : ¬ x.toInt = 0 := fun h => h0 (Int32.toInt_inj.mp h)
  omega
theorem sw_out_1_1 {x : Int32} (h1 : ¬ x = 1) : x.toInt < 1 ∨ 1 < x.toInt := by
  have e1 : ¬ x.toInt = 1 := fun h => h1 (Int32.toInt_inj.mp h)
  omega
theorem sw_out_0_1 {x : Int32} (h0 : ¬ x = 0) (h1 : ¬ x = 1) : x.toInt < 0 ∨ 1 < x.toInt := by
  have e0 : ¬ x.toInt = 0 := fun h => h0 (Int32.toInt_inj.mp h)
  have e1 : ¬ x.toInt = 1 := fun h => h1 (Int32.toInt_inj.mp h)
  omega
theorem sw_out_1_2 {x : Int32} (h1 : ¬ x = 1) (h2 : ¬ x = 2) : x.toInt < 1 ∨ 2 < x.toInt := by
  have e1 : ¬ x.toInt = 1 := fun h => h1 (Int32.toInt_inj.mp h)
  have e2 : ¬ x.toInt = 2 := fun h => h2 (Int32.toInt_inj.mp h)
  omega
theorem sw_out_0_2 {x : Int32} (h0 : ¬ x = 0) (h1 : ¬ x = 1) (h2 : ¬ x = 2) : x.toInt < 0 ∨ 2 < x.toInt := by
  have e0 : ¬ x.toInt = 0 := fun h => h0 (Int32.toInt_inj.mp h)
  have e1 : ¬ x.toInt = 1 := fun h => h1 (Int32.toInt_inj.mp h)
  have e2 : ¬ x.toInt = 2 := fun h => h2 (Int32.toInt_inj.mp h)
  omega
theorem sw_out_1_3 {x : Int32} (h1 : ¬ x = 1) (h2 : ¬ x = 2) (h3 : ¬ x = 3) : x.toInt < 1 ∨ 3 < x.toInt := by
  have e1 : ¬ x.toInt = 1 := fun h => h1 (Int32.toInt_inj.mp h)
  have e2 : ¬ x.toInt = 2 := fun h => h2 (Int32.toInt_inj.mp h)
  have e3 : ¬ x.toInt = 3 := fun h => h3 (Int32.toInt_inj.mp h)
  omega
theorem sw_out_0_3 {x : Int32} (h0 : ¬ x = 0) (h1 : ¬ x = 1) (h2 : ¬ x = 2) (h3 : ¬ x = 3) : x.toInt < 0 ∨ 3 < x.toInt := by
  have e0 : ¬ x.toInt = 0 := fun h => h0 (Int32.toInt_inj.mp h)
  have e1 : ¬ x.toInt = 1 := fun h => h1 (Int32.toInt_inj.mp h)
  have e2 : ¬ x.toInt = 2 := fun h => h2 (Int32.toInt_inj.mp h)
  have e3 : ¬ x.toInt = 3 := fun h => h3 (Int32.toInt_inj.mp h)
  omega
theorem sw_out_1_4 {x : Int32} (h1 : ¬ x = 1) (h2 : ¬ x = 2) (h3 : ¬ x = 3) (h4 : ¬ x = 4) : x.toInt < 1 ∨ 4 < x.toInt := by
  have e1 : ¬ x.toInt = 1 := fun h => h1 (Int32.toInt_inj.mp h)
  have e2 : ¬ x.toInt = 2 := fun h => h2 (Int32.toInt_inj.mp h)
  have e3 : ¬ x.toInt = 3 := fun h => h3 (Int32.toInt_inj.mp h)
  have e4 : ¬ x.toInt = 4 := fun h => h4 (Int32.toInt_inj.mp h)
  omega
theorem sw_out_0_4 {x : Int32} (h0 : ¬ x = 0) (h1 : ¬ x = 1) (h2 : ¬ x = 2) (h3 : ¬ x = 3) (h4 : ¬ x = 4) : x.toInt < 0 ∨ 4 < x.toInt := by
  have e0 : ¬ x.toInt = 0 := fun h => h0 (Int32.toInt_inj.mp h)
  have e1 : ¬ x.toInt = 1 := fun h => h1 (Int32.toInt_inj.mp h)
  have e2 : ¬ x.toInt = 2 := fun h => h2 (Int32.toInt_inj.mp h)
  have e3 : ¬ x.toInt = 3 := fun h => h3 (Int32.toInt_inj.mp h)
  have e4 : ¬ x.toInt = 4 := fun h => h4 (Int32.toInt_inj.mp h)
  omega
theorem sw_out_1_5 {x : Int32} (h1 : ¬ x = 1) (h2 : ¬ x = 2) (h3 : ¬ x = 3) (h4 : ¬ x = 4) (h5 : ¬ x = 5) : x.toInt < 1 ∨ 5 < x.toInt := by
  have e1 : ¬ x.toInt = 1 := fun h => h1 (Int32.toInt_inj.mp h)
  have e2 : ¬ x.toInt = 2 := fun h => h2 (Int32.toInt_inj.mp h)
  have e3 : ¬ x.toInt = 3 := fun h => h3 (Int32.toInt_inj.mp h)
  have e4 : ¬ x.toInt = 4 := fun h => h4 (Int32.toInt_inj.mp h)
  have e5 : ¬ x.toInt = 5 := fun h => h5 (Int32.toInt_inj.mp h)
  omega
theorem sw_out_0_5 {x : Int32} (h0 : ¬ x = 0) (h1 : ¬ x = 1) (h2 : ¬ x = 2) (h3 : ¬ x = 3) (h4 : ¬ x = 4) (h5 : ¬ x = 5) : x.toInt < 0 ∨ 5 < x.toInt := by
  have e0 : ¬ x.toInt = 0 := fun h => h0 (Int32.toInt_inj.mp h)
  have e1 : ¬ x.toInt = 1 := fun h => h1 (Int32.toInt_inj.mp h)
  have e2 : ¬ x.toInt = 2 := fun h => h2 (Int32.toInt_inj.mp h)
  have e3 : ¬ x.toInt = 3 := fun h => h3 (Int32.toInt_inj.mp h)
  have e4 : ¬ x.toInt = 4 := fun h => h4 (Int32.toInt_inj.mp h)
  have e5 : ¬ x.toInt = 5 := fun h => h5 (Int32.toInt_inj.mp h)
  omega
theorem sw_out_1_6 {x : Int32} (h1 : ¬ x = 1) (h2 : ¬ x = 2) (h3 : ¬ x = 3) (h4 : ¬ x = 4) (h5 : ¬ x = 5) (h6 : ¬ x = 6) : x.toInt < 1 ∨ 6 < x.toInt := by
  have e1 : ¬ x.toInt = 1 := fun h => h1 (Int32.toInt_inj.mp h)
  have e2 : ¬ x.toInt = 2 := fun h => h2 (Int32.toInt_inj.mp h)
  have e3 : ¬ x.toInt = 3 := fun h => h3 (Int32.toInt_inj.mp h)
  have e4 : ¬ x.toInt = 4 := fun h => h4 (Int32.toInt_inj.mp h)
  have e5 : ¬ x.toInt = 5 := fun h => h5 (Int32.toInt_inj.mp h)
  have e6 : ¬ x.toInt = 6 := fun h => h6 (Int32.toInt_inj.mp h)
  omega
theorem sw_out_0_6 {x : Int32} (h0 : ¬ x = 0) (h1 : ¬ x = 1) (h2 : ¬ x = 2) (h3 : ¬ x = 3) (h4 : ¬ x = 4) (h5 : ¬ x = 5) (h6 : ¬ x = 6) : x.toInt < 0 ∨ 6 < x.toInt := by
  have e0 : ¬ x.toInt = 0 := fun h => h0 (Int32.toInt_inj.mp h)
  have e1 : ¬ x.toInt = 1 := fun h => h1 (Int32.toInt_inj.mp h)
  have e2 : ¬ x.toInt = 2 := fun h => h2 (Int32.toInt_inj.mp h)
  have e3 : ¬ x.toInt = 3 := fun h => h3 (Int32.toInt_inj.mp h)
  have e4 : ¬ x.toInt = 4 := fun h => h4 (Int32.toInt_inj.mp h)
  have e5 : ¬ x.toInt = 5 := fun h => h5 (Int32.toInt_inj.mp h)
  have e6 : ¬ x.toInt = 6 := fun h => h6 (Int32.toInt_inj.mp h)
  omega
theorem sw_out_1_7 {x : Int32} (h1 : ¬ x = 1) (h2 : ¬ x = 2) (h3 : ¬ x = 3) (h4 : ¬ x = 4) (h5 : ¬ x = 5) (h6 : ¬ x = 6) (h7 : ¬ x = 7) : x.toInt < 1 ∨ 7 < x.toInt := by
  have e1 : ¬ x.toInt = 1 := fun h => h1 (Int32.toInt_inj.mp h)
  have e2 : ¬ x.toInt = 2 := fun h => h2 (Int32.toInt_inj.mp h)
  have e3 : ¬ x.toInt = 3 := fun h => h3 (Int32.toInt_inj.mp h)
  have e4 : ¬ x.toInt = 4 := fun h => h4 (Int32.toInt_inj.mp h)
  have e5 : ¬ x.toInt = 5 := fun h => h5 (Int32.toInt_inj.mp h)
  have e6 : ¬ x.toInt = 6 := fun h => h6 (Int32.toInt_inj.mp h)
  have e7 : ¬ x.toInt = 7 := fun h => h7 (Int32.toInt_inj.mp h)
  omega
theorem sw_out_0_7 {x : Int32} (h0 : ¬ x = 0) (h1 : ¬ x = 1) (h2 : ¬ x = 2) (h3 : ¬ x = 3) (h4 : ¬ x = 4) (h5 : ¬ x = 5) (h6 : ¬ x = 6) (h7 : ¬ x = 7) : x.toInt < 0 ∨ 7 < x.toInt := by
  have e0 : ¬ x.toInt = 0 := fun h => h0 (Int32.toInt_inj.mp h)
  have e1 : ¬ x.toInt = 1 := fun h => h1 (Int32.toInt_inj.mp h)
  have e2 : ¬ x.toInt = 2 := fun h => h2 (Int32.toInt_inj.mp h)
  have e3 : ¬ x.toInt = 3 := fun h => h3 (Int32.toInt_inj.mp h)
  have e4 : ¬ x.toInt = 4 := fun h => h4 (Int32.toInt_inj.mp h)
  have e5 : ¬ x.toInt = 5 := fun h => h5 (Int32.toInt_inj.mp h)
  have e6 : ¬ x.toInt = 6 := fun h => h6 (Int32.toInt_inj.mp h)
  have e7 : ¬ x.toInt = 7 := fun h => h7 (Int32.toInt_inj.mp h)
  omega
theorem sw_out_1_8 {x : Int32} (h1 : ¬ x = 1) (h2 : ¬ x = 2) (h3 : ¬ x = 3) (h4 : ¬ x = 4) (h5 : ¬ x = 5) (h6 : ¬ x = 6) (h7 : ¬ x = 7) (h8 : ¬ x = 8) : x.toInt < 1 ∨ 8 < x.toInt := by
  have e1 : ¬ x.toInt = 1 := fun h => h1 (Int32.toInt_inj.mp h)
  have e2 : ¬ x.toInt = 2 := fun h => h2 (Int32.toInt_inj.mp h)
  have e3 : ¬ x.toInt = 3 := fun h => h3 (Int32.toInt_inj.mp h)
  have e4 : ¬ x.toInt = 4 := fun h => h4 (Int32.toInt_inj.mp h)
  have e5 : ¬ x.toInt = 5 := fun h => h5 (Int32.toInt_inj.mp h)
  have e6 : ¬ x.toInt = 6 := fun h => h6 (Int32.toInt_inj.mp h)
  have e7 : ¬ x.toInt = 7 := fun h => h7 (Int32.toInt_inj.mp h)
  have e8 : ¬ x.toInt = 8 := fun h => h8 (Int32.toInt_inj.mp h)
  omega
theorem sw_out_0_8 {x : Int32} (h0 : ¬ x = 0) (h1 : ¬ x = 1) (h2 : ¬ x = 2) (h3 : ¬ x = 3) (h4 : ¬ x = 4) (h5 : ¬ x = 5) (h6 : ¬ x = 6) (h7 : ¬ x = 7) (h8 : ¬ x = 8) : x.toInt < 0 ∨ 8 < x.toInt := by
  have e0 : ¬ x.toInt = 0 := fun h => h0 (Int32.toInt_inj.mp h)
  have e1 : ¬ x.toInt = 1 := fun h => h1 (Int32.toInt_inj.mp h)
  have e2 : ¬ x.toInt = 2 := fun h => h2 (Int32.toInt_inj.mp h)
  have e3 : ¬ x.toInt = 3 := fun h => h3 (Int32.toInt_inj.mp h)
  have e4 : ¬ x.toInt = 4 := fun h => h4 (Int32.toInt_inj.mp h)
  have e5 : ¬ x.toInt = 5 := fun h => h5 (Int32.toInt_inj.mp h)
  have e6 : ¬ x.toInt = 6 := fun h => h6 (Int32.toInt_inj.mp h)
  have e7 : ¬ x.toInt = 7 := fun h => h7 (Int32.toInt_inj.mp h)
  have e8 : ¬ x.toInt = 8 := fun h => h8 (Int32.toInt_inj.mp h)
  omega
theorem sw_out_1_9 {x : Int32} (h1 : ¬ x = 1) (h2 : ¬ x = 2) (h3 : ¬ x = 3) (h4 : ¬ x = 4) (h5 : ¬ x = 5) (h6 : ¬ x = 6) (h7 : ¬ x = 7) (h8 : ¬ x = 8) (h9 : ¬ x = 9) : x.toInt < 1 ∨ 9 < x.toInt := by
  have e1 : ¬ x.toInt = 1 := fun h => h1 (Int32.toInt_inj.mp h)
  have e2 : ¬ x.toInt = 2 := fun h => h2 (Int32.toInt_inj.mp h)
  have e3 : ¬ x.toInt = 3 := fun h => h3 (Int32.toInt_inj.mp h)
  have e4 : ¬ x.toInt = 4 := fun h => h4 (Int32.toInt_inj.mp h)
  have e5 : ¬ x.toInt = 5 := fun h => h5 (Int32.toInt_inj.mp h)
  have e6 : ¬ x.toInt = 6 := fun h => h6 (Int32.toInt_inj.mp h)
  have e7 : ¬ x.toInt = 7 := fun h => h7 (Int32.toInt_inj.mp h)
  have e8 : ¬ x.toInt = 8 := fun h => h8 (Int32.toInt_inj.mp h)
  have e9 : ¬ x.toInt = 9 := fun h => h9 (Int32.toInt_inj.mp h)
  omega
theorem sw_out_0_9 {x : Int32} (h0 : ¬ x = 0) (h1 : ¬ x = 1) (h2 : ¬ x = 2) (h3 : ¬ x = 3) (h4 : ¬ x = 4) (h5 : ¬ x = 5) (h6 : ¬ x = 6) (h7 : ¬ x = 7) (h8 : ¬ x = 8) (h9 : ¬ x = 9) : x.toInt < 0 ∨ 9 < x.toInt := by
  have e0 : ¬ x.toInt = 0 := fun h => h0 (Int32.toInt_inj.mp h)
  have e1 : ¬ x.toInt = 1 := fun h => h1 (Int32.toInt_inj.mp h)
  have e2 : ¬ x.toInt = 2 := fun h => h2 (Int32.toInt_inj.mp h)
  have e3 : ¬ x.toInt = 3 := fun h => h3 (Int32.toInt_inj.mp h)
  have e4 : ¬ x.toInt = 4 := fun h => h4 (Int32.toInt_inj.mp h)
  have e5 : ¬ x.toInt = 5 := fun h => h5 (Int32.toInt_inj.mp h)
  have e6 : ¬ x.toInt = 6 := fun h => h6 (Int32.toInt_inj.mp h)
  have e7 : ¬ x.toInt = 7 := fun h => h7 (Int32.toInt_inj.mp h)
  have e8 : ¬ x.toInt = 8 := fun h => h8 (Int32.toInt_inj.mp h)
  have e9 : ¬ x.toInt = 9 := fun h => h9 (Int32.toInt_inj.mp h)
  omega
theorem sw_out_1_10 {x : Int32} (h1 : ¬ x = 1) (h2 : ¬ x = 2) (h3 : ¬ x = 3) (h4 : ¬ x = 4) (h5 : ¬ x = 5) (h6 : ¬ x = 6) (h7 : ¬ x = 7) (h8 : ¬ x = 8) (h9 : ¬ x = 9) (h10 : ¬ x = 10) : x.toInt < 1 ∨ 10 < x.toInt := by
  have e1 : ¬ x.toInt = 1 := fun h => h1 (Int32.toInt_inj.mp h)
  have e2 : ¬ x.toInt = 2 := fun h => h2 (Int32.toInt_inj.mp h)
  have e3 : ¬ x.toInt = 3 := fun h => h3 (Int32.toInt_inj.mp h)
  have e4 : ¬ x.toInt = 4 := fun h => h4 (Int32.toInt_inj.mp h)
  have e5 : ¬ x.toInt = 5 := fun h => h5 (Int32.toInt_inj.mp h)
  have e6 : ¬ x.toInt = 6 := fun h => h6 (Int32.toInt_inj.mp h)
  have e7 : ¬ x.toInt = 7 := fun h => h7 (Int32.toInt_inj.mp h)
  have e8 : ¬ x.toInt = 8 := fun h => h8 (Int32.toInt_inj.mp h)
  have e9 : ¬ x.toInt = 9 := fun h => h9 (Int32.toInt_inj.mp h)
  have e10 : ¬ x.toInt = 10 := fun h => h10 (Int32.toInt_inj.mp h)
  omega
theorem sw_out_0_10 {x : Int32} (h0 : ¬ x = 0) (h1 : ¬ x = 1) (h2 : ¬ x = 2) (h3 : ¬ x = 3) (h4 : ¬ x = 4) (h5 : ¬ x = 5) (h6 : ¬ x = 6) (h7 : ¬ x = 7) (h8 : ¬ x = 8) (h9 : ¬ x = 9) (h10 : ¬ x = 10) : x.toInt < 0 ∨ 10 < x.toInt := by
  have e0 : ¬ x.toInt = 0 := fun h => h0 (Int32.toInt_inj.mp h)
  have e1 : ¬ x.toInt = 1 := fun h => h1 (Int32.toInt_inj.mp h)
  have e2 : ¬ x.toInt = 2 := fun h => h2 (Int32.toInt_inj.mp h)
  have e3 : ¬ x.toInt = 3 := fun h => h3 (Int32.toInt_inj.mp h)
  have e4 : ¬ x.toInt = 4 := fun h => h4 (Int32.toInt_inj.mp h)
  have e5 : ¬ x.toInt = 5 := fun h => h5 (Int32.toInt_inj.mp h)
  have e6 : ¬ x.toInt = 6 := fun h => h6 (Int32.toInt_inj.mp h)
  have e7 : ¬ x.toInt = 7 := fun h => h7 (Int32.toInt_inj.mp h)
  have e8 : ¬ x.toInt = 8 := fun h => h8 (Int32.toInt_inj.mp h)
  have e9 : ¬ x.toInt = 9 := fun h => h9 (Int32.toInt_inj.mp h)
  have e10 : ¬ x.toInt = 10 := fun h => h10 (Int32.toInt_inj.mp h)
  omega
theorem sw_out_1_11 {x : Int32} (h1 : ¬ x = 1) (h2 : ¬ x = 2) (h3 : ¬ x = 3) (h4 : ¬ x = 4) (h5 : ¬ x = 5) (h6 : ¬ x = 6) (h7 : ¬ x = 7) (h8 : ¬ x = 8) (h9 : ¬ x = 9) (h10 : ¬ x = 10) (h11 : ¬ x = 11) : x.toInt < 1 ∨ 11 < x.toInt := by
  have e1 : ¬ x.toInt = 1 := fun h => h1 (Int32.toInt_inj.mp h)
  have e2 : ¬ x.toInt = 2 := fun h => h2 (Int32.toInt_inj.mp h)
  have e3 : ¬ x.toInt = 3 := fun h => h3 (Int32.toInt_inj.mp h)
  have e4 : ¬ x.toInt = 4 := fun h => h4 (Int32.toInt_inj.mp h)
  have e5 : ¬ x.toInt = 5 := fun h => h5 (Int32.toInt_inj.mp h)
  have e6 : ¬ x.toInt = 6 := fun h => h6 (Int32.toInt_inj.mp h)
  have e7 : ¬ x.toInt = 7 := fun h => h7 (Int32.toInt_inj.mp h)
  have e8 : ¬ x.toInt = 8 := fun h => h8 (Int32.toInt_inj.mp h)
  have e9 : ¬ x.toInt = 9 := fun h => h9 (Int32.toInt_inj.mp h)
  have e10 : ¬ x.toInt = 10 := fun h => h10 (Int32.toInt_inj.mp h)
  have e11 : ¬ x.toInt = 11 := fun h => h11 (Int32.toInt_inj.mp h)
  omega
theorem sw_out_0_11 {x : Int32} (h0 : ¬ x = 0) (h1 : ¬ x = 1) (h2 : ¬ x = 2) (h3 : ¬ x = 3) (h4 : ¬ x = 4) (h5 : ¬ x = 5) (h6 : ¬ x = 6) (h7 : ¬ x = 7) (h8 : ¬ x = 8) (h9 : ¬ x = 9) (h10 : ¬ x = 10) (h11 : ¬ x = 11) : x.toInt < 0 ∨ 11 < x.toInt := by
  have e0 : ¬ x.toInt = 0 := fun h => h0 (Int32.toInt_inj.mp h)
  have e1 : ¬ x.toInt = 1 := fun h => h1 (Int32.toInt_inj.mp h)
  have e2 : ¬ x.toInt = 2 := fun h => h2 (Int32.toInt_inj.mp h)
  have e3 : ¬ x.toInt = 3 := fun h => h3 (Int32.toInt_inj.mp h)
  have e4 : ¬ x.toInt = 4 := fun h => h4 (Int32.toInt_inj.mp h)
  have e5 : ¬ x.toInt = 5 := fun h => h5 (Int32.toInt_inj.mp h)
  have e6 : ¬ x.toInt = 6 := fun h => h6 (Int32.toInt_inj.mp h)
  have e7 : ¬ x.toInt = 7 := fun h => h7 (Int32.toInt_inj.mp h)
  have e8 : ¬ x.toInt = 8 := fun h => h8 (Int32.toInt_inj.mp h)
  have e9 : ¬ x.toInt = 9 := fun h => h9 (Int32.toInt_inj.mp h)
  have e10 : ¬ x.toInt = 10 := fun h => h10 (Int32.toInt_inj.mp h)
  have e11 : ¬ x.toInt = 11 := fun h => h11 (Int32.toInt_inj.mp h)
  omega
theorem sw_out_1_12 {x : Int32} (h1 : ¬ x = 1) (h2 : ¬ x = 2) (h3 : ¬ x = 3) (h4 : ¬ x = 4) (h5 : ¬ x = 5) (h6 : ¬ x = 6) (h7 : ¬ x = 7) (h8 : ¬ x = 8) (h9 : ¬ x = 9) (h10 : ¬ x = 10) (h11 : ¬ x = 11) (h12 : ¬ x = 12) : x.toInt < 1 ∨ 12 < x.toInt := by
  have e1 : ¬ x.toInt = 1 := fun h => h1 (Int32.toInt_inj.mp h)
  have e2 : ¬ x.toInt = 2 := fun h => h2 (Int32.toInt_inj.mp h)
  have e3 : ¬ x.toInt = 3 := fun h => h3 (Int32.toInt_inj.mp h)
  have e4 : ¬ x.toInt = 4 := fun h => h4 (Int32.toInt_inj.mp h)
  have e5 : ¬ x.toInt = 5 := fun h => h5 (Int32.toInt_inj.mp h)
  have e6 : ¬ x.toInt = 6 := fun h => h6 (Int32.toInt_inj.mp h)
  have e7 : ¬ x.toInt = 7 := fun h => h7 (Int32.toInt_inj.mp h)
  have e8 : ¬ x.toInt = 8 := fun h => h8 (Int32.toInt_inj.mp h)
  have e9 : ¬ x.toInt = 9 := fun h => h9 (Int32.toInt_inj.mp h)
  have e10 : ¬ x.toInt = 10 := fun h => h10 (Int32.toInt_inj.mp h)
  have e11 : ¬ x.toInt = 11 := fun h => h11 (Int32.toInt_inj.mp h)
  have e12 : ¬ x.toInt = 12 := fun h => h12 (Int32.toInt_inj.mp h)
  omega
