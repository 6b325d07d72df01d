noncomputable section
/-! parts of a block of forty places, taken over from another -/
def blk (a b : Nat) (S : Nat → Nat → Bool) (μ : Mm) : Mm := fun p i => if a ≤ p ∧ S (p - a) i = true then μ (p - a + b) i else μ p i
def lo40 (S : Nat → Nat → Bool) : Prop := ∀ q i, S q i = true → q < 40
theorem blk_comp {a b : Nat} {S1 S2 : Nat → Nat → Bool} {μ : Mm} (h1 : lo40 S1) (h2 : lo40 S2) (hab : a + 40 ≤ b ∨ b + 40 ≤ a) : blk a b S2 (blk a b S1 μ) = blk a b (fun q i => S2 q i || S1 q i) μ := by
  funext p i
  simp only [blk]
  by_cases c2 : a ≤ p ∧ S2 (p - a) i = true
  · have hq := h2 _ _ c2.2
    rw [if_pos c2, if_neg (fun c => by have := h1 _ _ c.2; omega), if_pos ⟨c2.1, by rw [c2.2]; rfl⟩]
  · rw [if_neg c2]
    by_cases c1 : a ≤ p ∧ S1 (p - a) i = true
    · rw [if_pos c1, if_pos ⟨c1.1, by rw [c1.2, Bool.or_true]⟩]
    · rw [if_neg c1, if_neg (fun c => ?_)]
      rcases (Bool.or_eq_true _ _).mp c.2 with h | h
      · exact c2 ⟨c.1, h⟩
      · exact c1 ⟨c.1, h⟩
def sR (o n : Nat) : Nat → Nat → Bool := fun q i => decide (q = o + 1 ∧ i < n)
def sF (o j : Nat) : Nat → Nat → Bool := fun q i => decide (q = o ∧ i = j)
theorem R_copy_blk {a b o x y n : Nat} (μ : Mm) (hx : x = a + o) (hy : y = b + o) : R_copy μ x n y = blk a b (sR o n) μ := by
  subst hx
  subst hy
  funext p i
  simp only [R_copy, blk, sR, decide_eq_true_eq]
  by_cases c : p = a + o + 1 ∧ i < n
  · rw [if_pos c, if_pos ⟨by omega, by omega, c.2⟩, show p - a + b = b + o + 1 by omega]
  · rw [if_neg c, if_neg (fun h => c ⟨by omega, h.2.2⟩)]
theorem up2_blk {a b o x y j : Nat} (μ : Mm) (hx : x = a + o) (hy : y = b + o) : up2 μ x j (μ y j) = blk a b (sF o j) μ := by
  subst hx
  subst hy
  funext p i
  simp only [up2, blk, sF, decide_eq_true_eq]
  by_cases c : p = a + o ∧ i = j
  · rw [if_pos c, if_pos ⟨by omega, by omega, c.2⟩, show p - a + b = b + o by omega, c.2]
  · rw [if_neg c, if_neg (fun h => c ⟨by omega, h.2.2⟩)]
theorem lo_R {o n : Nat} (h : o + 1 < 40) : lo40 (sR o n) := fun q i c => by
  have := of_decide_eq_true c
  omega
theorem lo_F {o n : Nat} (h : o < 40) : lo40 (sF o n) := fun q i c => by
  have := of_decide_eq_true c
  omega
theorem lo_or {S1 S2 : Nat → Nat → Bool} (h1 : lo40 S1) (h2 : lo40 S2) : lo40 (fun q i => S1 q i || S2 q i) := fun q i c => by
  rcases (Bool.or_eq_true _ _).mp c with h | h
  · exact h1 _ _ h
  · exact h2 _ _ h
/-- a copy is made of parts -/
def CB (a b : Nat) (μ ν : Mm) (S : Nat → Nat → Bool) : Prop := ν = blk a b S μ ∧ lo40 S
theorem CB.R {a b o x y n : Nat} {μ ν : Mm} {S : Nat → Nat → Bool} (hab : a + 40 ≤ b ∨ b + 40 ≤ a) (h : CB a b μ ν S) (hx : x = a + o) (hy : y = b + o) (ho : o + 1 < 40) : CB a b μ (R_copy ν x n y) (fun q i => sR o n q i || S q i) := by
  refine ⟨?_, lo_or (lo_R ho) h.2⟩
  rw [R_copy_blk ν hx hy, h.1, blk_comp h.2 (lo_R ho) hab]
theorem CB.F {a b o x y j : Nat} {μ ν : Mm} {S : Nat → Nat → Bool} (hab : a + 40 ≤ b ∨ b + 40 ≤ a) (h : CB a b μ ν S) (hx : x = a + o) (hy : y = b + o) (ho : o < 40) : CB a b μ (up2 ν x j (ν y j)) (fun q i => sF o j q i || S q i) := by
  refine ⟨?_, lo_or (lo_F ho) h.2⟩
  rw [up2_blk ν hx hy, h.1, blk_comp h.2 (lo_F ho) hab]
theorem CB.o {a b : Nat} {μ : Mm} : CB a b μ μ (fun _ _ => false) := by
  refine ⟨?_, fun _ _ h => Bool.noConfusion h⟩
  funext p i
  simp [blk]
/-- what an auction's copy takes over -/
def sA : Nat → Nat → Bool := fun q i =>
  sF 10 10 q i || false
theorem A_copy_CB {a b : Nat} (μ : Mm) (hab : a + 40 ≤ b ∨ b + 40 ≤ a) : ∃ S : Nat → Nat → Bool, CB a b μ (A_copy μ a b) S ∧
    (∀ i, S 1 i = decide (i = 0) ∧ S 16 i = decide (i = 0) ∧ S 29 i = decide (i = 0)) ∧ (∀ i, 3 ≤ i → i ≤ 10 → S 0 i = true) ∧
    (∀ w i, w < 7 → i < 8 → S (3 + 2 * w) i = true) ∧ (∀ w i, w < 6 → i < 20 → S (18 + 2 * w) i = true) ∧ (∀ w i, w < 5 → i < 20 → S (31 + 2 * w) i = true) := by
  have h1 := ((((((((CB.o (a := a) (b := b) (μ := μ)).F (o := 1) (j := 0) (x := a + 1) (y := b + 1) hab rfl rfl (by decide)).R (o := 2) (n := 8) (x := a + 1 + 1) (y := b + 1 + 1) hab rfl rfl (by decide)).R (o := 4) (n := 8) (x := a + 1 + 3) (y := b + 1 + 3) hab rfl rfl (by decide)).R (o := 6) (n := 8) (x := a + 1 + 5) (y := b + 1 + 5) hab rfl rfl (by decide)).R (o := 8) (n := 8) (x := a + 1 + 7) (y := b + 1 + 7) hab rfl rfl (by decide)).R (o := 10) (n := 8) (x := a + 1 + 9) (y := b + 1 + 9) hab rfl rfl (by decide)).R (o := 12) (n := 8) (x := a + 1 + 11) (y := b + 1 + 11) hab rfl rfl (by decide)).R (o := 14) (n := 8) (x := a + 1 + 13) (y := b + 1 + 13) hab rfl rfl (by decide)
  have h2 := ((((((h1.F (o := 16) (j := 0) (x := a + 16) (y := b + 16) hab rfl rfl (by decide)).R (o := 17) (n := 20) (x := a + 16 + 1) (y := b + 16 + 1) hab rfl rfl (by decide)).R (o := 19) (n := 20) (x := a + 16 + 3) (y := b + 16 + 3) hab rfl rfl (by decide)).R (o := 21) (n := 20) (x := a + 16 + 5) (y := b + 16 + 5) hab rfl rfl (by decide)).R (o := 23) (n := 20) (x := a + 16 + 7) (y := b + 16 + 7) hab rfl rfl (by decide)).R (o := 25) (n := 20) (x := a + 16 + 9) (y := b + 16 + 9) hab rfl rfl (by decide)).R (o := 27) (n := 20) (x := a + 16 + 11) (y := b + 16 + 11) hab rfl rfl (by decide)
  have h3 := (((((h2.F (o := 29) (j := 0) (x := a + 29) (y := b + 29) hab rfl rfl (by decide)).R (o := 30) (n := 20) (x := a + 29 + 1) (y := b + 29 + 1) hab rfl rfl (by decide)).R (o := 32) (n := 20) (x := a + 29 + 3) (y := b + 29 + 3) hab rfl rfl (by decide)).R (o := 34) (n := 20) (x := a + 29 + 5) (y := b + 29 + 5) hab rfl rfl (by decide)).R (o := 36) (n := 20) (x := a + 29 + 7) (y := b + 29 + 7) hab rfl rfl (by decide)).R (o := 38) (n := 20) (x := a + 29 + 9) (y := b + 29 + 9) hab rfl rfl (by decide)
  have h4 := (((((((h3.F (o := 0) (j := 3) (x := a) (y := b) hab rfl rfl (by decide)).F (o := 0) (j := 4) (x := a) (y := b) hab rfl rfl (by decide)).F (o := 0) (j := 5) (x := a) (y := b) hab rfl rfl (by decide)).F (o := 0) (j := 6) (x := a) (y := b) hab rfl rfl (by decide)).F (o := 0) (j := 7) (x := a) (y := b) hab rfl rfl (by decide)).F (o := 0) (j := 8) (x := a) (y := b) hab rfl rfl (by decide)).F (o := 0) (j := 9) (x := a) (y := b) hab rfl rfl (by decide)).F (o := 0) (j := 10) (x := a) (y := b) hab rfl rfl (by decide)
  refine ⟨_, h4, fun i => ⟨?_, ?_, ?_⟩, fun i h5 h6 => ?_, fun w i hw hi => ?_, fun w i hw hi => ?_, fun w i hw hi => ?_⟩
  · simp [sF, sR]
  · simp [sF, sR]
  · simp [sF, sR]
  · rcases (show i = 3 ∨ i = 4 ∨ i = 5 ∨ i = 6 ∨ i = 7 ∨ i = 8 ∨ i = 9 ∨ i = 10 by omega) with rfl | rfl | rfl | rfl | rfl | rfl | rfl | rfl <;> simp [sF, sR]
  · rcases (show w = 0 ∨ w = 1 ∨ w = 2 ∨ w = 3 ∨ w = 4 ∨ w = 5 ∨ w = 6 by omega) with rfl | rfl | rfl | rfl | rfl | rfl | rfl <;> simp [sF, sR, hi]
  · rcases (show w = 0 ∨ w = 1 ∨ w = 2 ∨ w = 3 ∨ w = 4 ∨ w = 5 by omega) with rfl | rfl | rfl | rfl | rfl | rfl <;> simp [sF, sR, hi]
  · rcases (show w = 0 ∨ w = 1 ∨ w = 2 ∨ w = 3 ∨ w = 4 by omega) with rfl | rfl | rfl | rfl | rfl <;> simp [sF, sR, hi]
/-! an auction at its places and the same as a row of the reference -/
def REL (μ : Mm) (a : Nat) (f : Nat → Int32) : Prop :=
  (μ (a + 1) 0 = f 0 ∧ μ (a + 16) 0 = f 1 ∧ μ a 5 = f 2 ∧ μ a 3 = f 3 ∧ μ a 4 = f 4 ∧ μ a 6 = f 5 ∧ μ a 7 = f 6 ∧ μ a 8 = f 7 ∧ μ a 9 = f 8 ∧ μ (a + 29) 0 = f 9 ∧ μ a 10 = f 10) ∧
  (∀ t : Nat, t < cn (f 0) → ∀ w, w < 7 → μ (a + 3 + 2 * w) t = f (11 + 7 * t + w)) ∧
  (∀ k : Nat, k < cn (f 1) → μ (a + 18) k = f (67 + 5 * k) ∧ μ (a + 20) k = f (68 + 5 * k) ∧ μ (a + 24) k = f (69 + 5 * k) ∧ μ (a + 26) k = f (70 + 5 * k) ∧ μ (a + 28) k = f (71 + 5 * k) ∧ μ (a + 22) k = f (11 + 7 * cn (f (68 + 5 * k)))) ∧
  (∀ i : Nat, i < cn (f 9) → ∀ w, w < 5 → μ (a + 31 + 2 * w) i = f (167 + 5 * i + w))
/-- what holds of a row: N placed at most, R rounds at most -/
def RNG (N R : Nat) (f : Nat → Int32) : Prop :=
  (vp_in (f 0) 9 ∧ vp_in (f 1) 21 ∧ vp_in (f 9) 21 ∧ ∀ k : Nat, k < 20 → vp_in (f (68 + 5 * k)) 8) ∧
  (∃ r, r ≤ R ∧ f 2 = nI r) ∧ vp_in (f 3) 11 ∧ (vp_in (f 4) 10 ∧ f 4 ≠ 0) ∧ (∃ p, p ≤ N ∧ f 5 = nI p) ∧
  (∀ t : Nat, t < cn (f 0) → (f (11 + 7 * t) = 0 ∨ f (11 + 7 * t) = 1) ∧ (vp_in (f (12 + 7 * t)) 100 ∧ f (12 + 7 * t) ≠ 0) ∧ vp_in (f (13 + 7 * t)) 4 ∧ vp_in (f (14 + 7 * t)) 51) ∧
  (∀ k : Nat, k < cn (f 1) → (∃ m, m < cn (f 5) ∧ f (67 + 5 * k) = nI m) ∧ cn (f (68 + 5 * k)) < cn (f 0) ∧ (vp_in (f (69 + 5 * k)) 121 ∧ f (69 + 5 * k) ≠ 0) ∧ (vp_in (f (70 + 5 * k)) 10 ∧ f (70 + 5 * k) ≠ 0) ∧ ∃ s, s ≤ cn (f 2) ∧ f (71 + 5 * k) = nI s) ∧
  ∀ j k : Nat, j < k → k < cn (f 1) → cn (f (67 + 5 * j)) < cn (f (67 + 5 * k))
def kp (K : Nat → Int32) (j : Nat) : Nat → Int32 := fun i => K (267 * j + i)
def UND (N : Nat) (μ : Mm) (st : Int32) (K : Nat → Int32) : Prop :=
  ∃ c o : Nat, c ≤ 4 ∧ o < 4 ∧ μ 92 0 = nI c ∧ st = nI c ∧ μ 92 1 = nI o ∧ ∀ j, j < c → REL μ (94 + 40 * ((o + j) % 4)) (kp K j) ∧ RNG N 9999 (kp K j)
def TXT (μ : Mm) : Prop := ∃ L : Nat, L ≤ 150 ∧ μ 254 0 = nI L ∧ μ 259 9 = nI L ∧ ∀ i, i < L → μ 258 i = μ 262 i ∧ vp_in (μ 262 i) 128
def INV (k : Nat) (μ : Mm) : Prop := REL μ 1 (μ 260) ∧ RNG (200 * k) 9999 (μ 260) ∧ UND (200 * k) μ (μ 259 2) (μ 261) ∧ TXT μ
theorem RNG.mono {N N' R R' : Nat} {f : Nat → Int32} (h : RNG N R f) (hN : N ≤ N') (hR : R ≤ R') : RNG N' R' f := by
  obtain ⟨h1, ⟨r, hr, h2⟩, h3, h4, ⟨p, hp, h5⟩, h6⟩ := h
  exact ⟨h1, ⟨r, by omega, h2⟩, h3, h4, ⟨p, by omega, h5⟩, h6⟩
theorem UND.mono {N N' : Nat} {μ : Mm} {st : Int32} {K : Nat → Int32} (h : UND N μ st K) (hN : N ≤ N') : UND N' μ st K := by
  obtain ⟨c, o, h1, h2, h3, h4, h5, h6⟩ := h
  exact ⟨c, o, h1, h2, h3, h4, h5, fun j hj => ⟨(h6 j hj).1, (h6 j hj).2.mono hN (Nat.le_refl _)⟩⟩
theorem INV.mono (k : Nat) (μ : Mm) (h : INV k μ) : INV (k + 1) μ := ⟨h.1, h.2.1.mono (by omega) (Nat.le_refl _), h.2.2.1.mono (by omega), h.2.2.2⟩
theorem RNG.MI {N R : Nat} {μ : Mm} (h : RNG N R (μ 260)) : MI μ := ⟨h.1.1, h.1.2.1, h.1.2.2.1, h.1.2.2.2⟩
/-- only the block counts -/
theorem REL.of {μ ν : Mm} {a : Nat} {f : Nat → Int32} (h : REL μ a f) (he : ∀ p, a ≤ p → p < a + 40 → ν p = μ p) : REL ν a f := by
  obtain ⟨h1, h2, h3, h4⟩ := h
  refine ⟨?_, fun t ht w hw => ?_, fun k hk => ?_, fun i hi w hw => ?_⟩
  · rw [he (a + 1) (by omega) (by omega), he (a + 16) (by omega) (by omega), he a (by omega) (by omega), he (a + 29) (by omega) (by omega)]
    exact h1
  · rw [he (a + 3 + 2 * w) (by omega) (by omega)]
    exact h2 t ht w hw
  · rw [he (a + 18) (by omega) (by omega), he (a + 20) (by omega) (by omega), he (a + 24) (by omega) (by omega), he (a + 26) (by omega) (by omega), he (a + 28) (by omega) (by omega), he (a + 22) (by omega) (by omega)]
    exact h3 k hk
  · rw [he (a + 31 + 2 * w) (by omega) (by omega)]
    exact h4 i hi w hw
/-- only what is live of the row counts -/
def LV (f : Nat → Int32) (i : Nat) : Prop := i < 11 ∨ (11 ≤ i ∧ i < 11 + 7 * cn (f 0)) ∨ (67 ≤ i ∧ i < 67 + 5 * cn (f 1)) ∨ (167 ≤ i ∧ i < 167 + 5 * cn (f 9))
theorem UND.of {N : Nat} {μ ν : Mm} {st : Int32} {K : Nat → Int32} (h : UND N μ st K) (he : ∀ p, 92 ≤ p → p < 254 → ν p = μ p) : UND N ν st K := by
  obtain ⟨c, o, h1, h2, h3, h4, h5, h6⟩ := h
  refine ⟨c, o, h1, h2, by rw [he 92 (by decide) (by decide)]; exact h3, h4, by rw [he 92 (by decide) (by decide)]; exact h5, fun j hj => ⟨(h6 j hj).1.of fun p hp hp2 => he p (by omega) ?_, (h6 j hj).2⟩⟩
  have : (o + j) % 4 < 4 := Nat.mod_lt _ (by decide)
  omega
theorem A_copy_REL {μ : Mm} {a b : Nat} {f : Nat → Int32} (hab : a + 40 ≤ b ∨ b + 40 ≤ a) (h : REL μ b f) (h0 : cn (f 0) ≤ 8) (h1 : cn (f 1) ≤ 20) (h9 : cn (f 9) ≤ 20) : REL (A_copy μ a b) a f := by
  obtain ⟨S, ⟨hS, hlo⟩, s1, s2, s3, s4, s5⟩ := A_copy_CB μ hab
  have g : ∀ q i, S q i = true → A_copy μ a b (a + q) i = μ (b + q) i := by
    intro q i hq
    rw [hS]
    unfold blk
    rw [if_pos ⟨Nat.le_add_right _ _, by rw [Nat.add_sub_cancel_left]; exact hq⟩, Nat.add_sub_cancel_left, Nat.add_comm q b]
  have g0 : ∀ i, 3 ≤ i → i ≤ 10 → A_copy μ a b a i = μ b i := fun i h3 h4 => g 0 i (s2 i h3 h4)
  obtain ⟨⟨e1, e2, e3, e4, e5, e6, e7, e8, e9, e10, e11⟩, ht, ho, hd⟩ := h
  refine ⟨⟨?_, ?_, ?_, ?_, ?_, ?_, ?_, ?_, ?_, ?_, ?_⟩, fun t ht2 w hw => ?_, fun k hk => ⟨?_, ?_, ?_, ?_, ?_, ?_⟩, fun i hi w hw => ?_⟩
  · exact (g 1 0 (by rw [(s1 0).1]; rfl)).trans e1
  · exact (g 16 0 (by rw [(s1 0).2.1]; rfl)).trans e2
  · exact (g0 5 (by decide) (by decide)).trans e3
  · exact (g0 3 (by decide) (by decide)).trans e4
  · exact (g0 4 (by decide) (by decide)).trans e5
  · exact (g0 6 (by decide) (by decide)).trans e6
  · exact (g0 7 (by decide) (by decide)).trans e7
  · exact (g0 8 (by decide) (by decide)).trans e8
  · exact (g0 9 (by decide) (by decide)).trans e9
  · exact (g 29 0 (by rw [(s1 0).2.2]; rfl)).trans e10
  · exact (g0 10 (by decide) (by decide)).trans e11
  · have := g (3 + 2 * w) t (s3 w t hw (by omega))
    rw [Nat.add_assoc a 3, this, ← Nat.add_assoc]
    exact ht t ht2 w hw
  · exact (g 18 k (s4 0 k (by decide) (by omega))).trans (ho k hk).1
  · exact (g 20 k (s4 1 k (by decide) (by omega))).trans (ho k hk).2.1
  · exact (g 24 k (s4 3 k (by decide) (by omega))).trans (ho k hk).2.2.1
  · exact (g 26 k (s4 4 k (by decide) (by omega))).trans (ho k hk).2.2.2.1
  · exact (g 28 k (s4 5 k (by decide) (by omega))).trans (ho k hk).2.2.2.2.1
  · exact (g 22 k (s4 2 k (by decide) (by omega))).trans (ho k hk).2.2.2.2.2
  · have := g (31 + 2 * w) i (s5 w i hw (by omega))
    rw [Nat.add_assoc a 31, this, ← Nat.add_assoc]
    exact hd i hi w hw
theorem A_copy_out {μ : Mm} {a b : Nat} (hab : a + 40 ≤ b ∨ b + 40 ≤ a) {p : Nat} (hp : p < a ∨ a + 40 ≤ p) : A_copy μ a b p = μ p := by
  obtain ⟨S, ⟨hS, hlo⟩, -⟩ := A_copy_CB μ hab
  rw [hS]
  funext i
  unfold blk
  rw [if_neg (fun c => by have := hlo _ _ c.2; omega)]
theorem RNG.c0 {N R : Nat} {f : Nat → Int32} (h : RNG N R f) : cn (f 0) ≤ 8 ∧ cn (f 1) ≤ 20 ∧ cn (f 9) ≤ 20 := by
  have h1 := vp_cn h.1.1
  have h2 := vp_cn h.1.2.1
  have h3 := vp_cn h.1.2.2.1
  omega
end
