noncomputable section
/-! a turn, by the row -/
def TOUT (l : Launch) (G : GG) (B : Nat) (w a b : Int32) (f : Nat → Int32) (k : Nat) (C2 : Int32) (cl : Bool) : Prop :=
  (∀ μ : Mm, ST μ f → TOK l G B μ w a b (-1000000000) μ) ∨ ∃ (v : Int32) (f' : Nat → Int32), ¬ v = -1000000000 ∧ (∀ μ : Mm, ST μ f → ∃ μ' : Mm, TOK l G B μ w a b v μ' ∧ ST μ' f' ∧ SAV μ' f ∧ μ' 254 = μ 254) ∧ RNG (k + 1) 9999 f' ∧ CONS C2 f' ∧ (cl = false → f' 10 = f 10) ∧ (cl = true → f' 1 ≤ f 1)
def TASK (l : Launch) (G : GG) (B : Nat) (w a b : Int32) (f : Nat → Int32) : Prop :=
  (∀ μ : Mm, ST μ f → TOK l G B μ w a b (-1000000000) μ) ∨ ∀ μ : Mm, ST μ f → ∃ (v : Int32) (μ' : Mm), TOK l G B μ w a b v μ' ∧ KEEP μ μ'
theorem lift_out {l : Launch} {G : GG} {B : Nat} {y : MethodName} {cw : Cond} {fr lo : Nat} {av : List Value} {w a b : Int32} {f : Nat → Int32} {k : Nat} {C2 : Int32} {cl : Bool} (h : OUT l G B y cw fr lo av f k C2 cl)
    (ok : ∀ (μ : Mm) (v : Int32) (μ' : Mm), CM l y cw fr lo G B av μ (some (.int v)) μ' → TOK l G B μ w a b v μ') (no : ∀ (μ : Mm) (E : String), (E = IOE ∨ E = IAE ∨ E = ISE) → XM l y cw 7 110 G B av μ E → TOK l G B μ w a b (-1000000000) μ) : TOUT l G B w a b f k C2 cl := by
  rcases h with ⟨E, hE, hX⟩ | ⟨v, f', h1, h2, h3⟩
  · exact Or.inl fun μ s => no μ E hE (hX μ s)
  · refine Or.inr ⟨v, f', h1, fun μ s => ?_, h3⟩
    obtain ⟨μ', q1, q2⟩ := h2 μ s
    exact ⟨μ', ok μ v μ' q1, q2⟩
theorem lift_ask {l : Launch} {G : GG} {B : Nat} {y : MethodName} {cw : Cond} {fr lo : Nat} {av : List Value} {w a b : Int32} {f : Nat → Int32} (h : XOK l G B y cw av f ∨ NOK l G B y cw fr lo av f)
    (ok : ∀ (μ : Mm) (v : Int32) (μ' : Mm), CM l y cw fr lo G B av μ (some (.int v)) μ' → TOK l G B μ w a b v μ') (no : ∀ (μ : Mm) (E : String), (E = IOE ∨ E = IAE ∨ E = ISE) → XM l y cw 7 110 G B av μ E → TOK l G B μ w a b (-1000000000) μ) : TASK l G B w a b f := by
  rcases h with ⟨E, hE, hX⟩ | h2
  · exact Or.inl fun μ s => no μ E hE (hX μ s)
  · refine Or.inr fun μ s => ?_
    obtain ⟨v, μ', q1, q2⟩ := h2 μ s
    exact ⟨v, μ', ok μ v μ' q1, q2⟩
theorem tries_no {l : Launch} {G : GG} {B : Nat} {μ : Mm} {w a b : Int32} {fr lo : Nat} (hfr : fr ≤ 9) (hlo : lo ≤ 155) {E : String} (hE : E = IOE ∨ E = IAE ∨ E = ISE) (hM : XM l yL_turn (.code yL_turn cL_turn 5 (Option.some FieldType.int)) fr lo G B [.ref (B + 0), .int w, .int a, .int b] μ E) : TOK l G B μ w a b (-1000000000) μ := by
  rcases hE with rfl | rfl | rfl
  · exact ML_tries_IOE l G B μ w a b hfr hlo hM
  · exact ML_tries_IAE l G B μ w a b hfr hlo hM
  · exact ML_tries_ISE l G B μ w a b hfr hlo hM
theorem and_lt (x : Int32) {n : Nat} (hn : n < 2 ^ 31) : ∃ i, i ≤ n ∧ x &&& nI n = nI i := by
  refine ⟨(x &&& nI n).toBitVec.toNat, ?_, ?_⟩
  · rw [Int32.toBitVec_and, BitVec.toNat_and]
    refine Nat.le_trans Nat.and_le_right ?_
    show (BitVec.ofNat 32 n).toNat ≤ n
    rw [BitVec.toNat_ofNat]
    exact Nat.mod_le _ _
  · apply Int32.toBitVec_inj.mp
    show (x &&& nI n).toBitVec = BitVec.ofNat 32 (x &&& nI n).toBitVec.toNat
    rw [BitVec.ofNat_toNat, BitVec.setWidth_eq]
end
