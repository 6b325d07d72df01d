noncomputable section
section TROW
variable {p : Program} {l : Launch} {e : Env} {R : Room} {s : State} {m : MethodId} {args : Array Value} {below : List Frame} {meth : Method} {c : Code} {H : Heap} {locs : List Loc} {cells slots : Nat} {Q : State → Prop}
variable {cc : ByteArray} {pc : Nat} {ls : Array Slot} {rest : List Value} {G : GG} {B nL : Nat} {μ : Mm} {own : String} {c1 : Cond}
theorem w_recv {E : String} {a : Nat} (h : va_O E a (AA B) s s.heap) (hS : va_S (AA B) s.heap H locs) : ∃ cell : Cell, H[a]? = some cell ∧ cell.vm.isStatics = false ∧ s.vm.findClass E = some cell.cls := by
  obtain ⟨cell, h1, h2, h3, -⟩ := h.kept hS.2.1
  exact ⟨cell, h1, h2, h3⟩
end TROW
theorem fst_lt {f : Nat → Bool} : ∀ {n k : Nat}, fst f n = some k → k < n ∧ f k = true
  | 0, k, h => by cases h
  | n + 1, k, h => by
    unfold fst at h
    split at h
    · rename_i j e
      cases h
      exact ⟨Nat.lt_succ_of_lt (fst_lt e).1, (fst_lt e).2⟩
    · split at h
      · cases h
        exact ⟨Nat.lt_succ_self _, by assumption⟩
      · cases h
theorem cur_end {L x : Int32} (h : cn L ≤ cn x) (h1 : x < L) (h2 : ¬ x < 0) : False := by
  obtain ⟨j, hj, rfl⟩ := nI_of h2
  have := nI_lt_cn hj h1
  rw [cn_nI hj] at h
  omega
theorem cur_step {L x : Int32} {n : Nat} (h : cn L ≤ cn x + (n + 1)) (h1 : x < L) (h2 : ¬ x < 0) : cn L ≤ cn (x + 1) + n := by
  obtain ⟨j, hj, rfl⟩ := nI_of h2
  have h3 := nI_lt_cn hj h1
  have h4 := cn_lt L
  rw [cn_nI hj] at h
  rw [nI_1, cn_nI (by omega)]
  omega
theorem R_get_neg {μ : Mm} {k n : Nat} {i : Int32} (h : i < 0) : R_get μ k n i = 0 := by
  unfold R_get rg
  rw [if_pos h]
theorem vp_cn {k : Int32} {n : Nat} (h : vp_in k n) : cn k < n := Nat.lt_of_not_le (fun e => h (Or.inr e))
theorem ck_lt {k : Int32} {n : Nat} (hn : n < 2 ^ 31) (h : vp_in k n) : k < nI n := by
  have h1 : ¬ k < 0 := fun e => h (Or.inl e)
  have h2 := vp_cn h
  obtain ⟨j, hj, rfl⟩ := nI_of h1
  rw [cn_nI hj] at h2
  exact nI_lt h2 hn
theorem wv_nI {G : GG} {k : Nat} (hk : k < 8) : wv G (nI k) = .ref (G.2.2.2 k) := by
  unfold wv
  rw [if_neg (nI_pos (by omega)), nI_clamp (by omega)]end
