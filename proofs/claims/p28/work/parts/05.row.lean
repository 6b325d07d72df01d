set_option maxHeartbeats 4000000 in
set_option maxRecDepth 100000 in
theorem MX5_get (l : Launch) (G : GG) (B : Nat) (μ : Mm) (o n_o : Nat) (ho : isR o n_o) (i : Int32) : CM l yX5_get (.code yX5_get cX5_get 2 (Option.some FieldType.int)) 0 0 G B [.ref (B + o), .int i] μ (some (.int (R_get μ o n_o i))) μ := by
  refine CM.of (by decide) (Nat.le_of_ble_eq_true rfl) ?_
  intro p e s m below meth c ls K hr hlocks hP hl
  have hS : va_S (AA B) s.heap s.heap [] := va_S.rf
  have hl : lv_has ls 2 [(0, .ref (B + o)), (1, .int i)] := hl
  refine lv_iload_n K.1.1 K.1.2.1 dX5_get_0 rfl (lv_at hl 1 rfl) ?_
  refine lv_if_lt (tgt := 22) K.1.1 K.1.2.1 dX5_get_1 (by decide) (fun c_1 => ?_) (fun c_1 => ?_)
  · refine lv_iconst (v := 0) K.1.1 K.1.2.1 dX5_get_22 (by decide) ?_
    exact m_iret K hr hlocks hP hS dX5_get_23 (by skip; first | (simp only [R_get, rg, cn, c_1, Int32.not_le.mpr c_1, if_true, if_false, ite_true, ite_false, reduceIte, not_true, not_false_iff]; done) | simp [R_get, rg, cn, c_1, Int32.not_le.mpr c_1]) rfl
  · refine lv_iload_n K.1.1 K.1.2.1 dX5_get_4 rfl (lv_at hl 1 rfl) ?_
    refine lv_aload_n K.1.1 K.1.2.1 dX5_get_5 rfl (lv_at hl 0 rfl) ?_
    refine m_getr K hP (Nat.lt_of_succ_lt ho.1) ho.2.1 rfl tuX5 0 (by decide) rfl q_57 dX5_get_6 ?_
    refine m_alen K hP ho.1 ho.2.2.1 (n := n_o) dX5_get_9 ?_
    refine lv_icmp_ge (tgt := 22) K.1.1 K.1.2.1 dX5_get_10 (by decide) (fun c_10 => ?_) (fun c_10 => ?_)
    · refine lv_iconst (v := 0) K.1.1 K.1.2.1 dX5_get_22 (by decide) ?_
      exact m_iret K hr hlocks hP hS dX5_get_23 (by skip; first | (simp only [R_get, rg, cn, c_1, Int32.not_lt.mp c_1, c_10, Int32.not_lt.mpr c_10, if_true, if_false, ite_true, ite_false, reduceIte, not_true, not_false_iff]; done) | simp [R_get, rg, cn, c_1, Int32.not_lt.mp c_1, c_10, Int32.not_lt.mpr c_10]) rfl
    · refine lv_aload_n K.1.1 K.1.2.1 dX5_get_13 rfl (lv_at hl 0 rfl) ?_
      refine m_getr K hP (Nat.lt_of_succ_lt ho.1) ho.2.1 rfl tuX5 0 (by decide) rfl q_57 dX5_get_14 ?_
      refine lv_iload_n K.1.1 K.1.2.1 dX5_get_17 rfl (lv_at hl 1 rfl) ?_
      refine m_iald K hP ho.1 ho.2.2.1 (n := n_o) (vp_of ho.2.2.2 c_1 c_10) dX5_get_18 ?_
      refine lv_topi (fun g_1 eg_1 => ?_)
      refine lv_goto (tgt := 23) K.1.1 K.1.2.1 dX5_get_19 (by decide) ?_
      exact m_iret K hr hlocks hP hS dX5_get_23 (by subst eg_1; first | (simp only [R_get, rg, cn, c_1, Int32.not_lt.mp c_1, c_10, Int32.not_le.mp c_10, if_true, if_false, ite_true, ite_false, reduceIte, not_true, not_false_iff]; done) | simp [R_get, rg, cn, c_1, Int32.not_lt.mp c_1, c_10, Int32.not_le.mp c_10]) rfl

set_option maxHeartbeats 4000000 in
set_option maxRecDepth 100000 in
theorem MX5_put (l : Launch) (G : GG) (B : Nat) (μ : Mm) (o n_o : Nat) (ho : isR o n_o) (i : Int32) (v : Int32) : CM l yX5_put (.code yX5_put cX5_put 3 Option.none) 0 0 G B [.ref (B + o), .int i, .int v] μ none (R_put μ o n_o i v) := by
  refine CM.of (by decide) (Nat.le_of_ble_eq_true rfl) ?_
  intro p e s m below meth c ls K hr hlocks hP hl
  have hS : va_S (AA B) s.heap s.heap [] := va_S.rf
  have hl : lv_has ls 3 [(0, .ref (B + o)), (1, .int i), (2, .int v)] := hl
  refine lv_iload_n K.1.1 K.1.2.1 dX5_put_0 rfl (lv_at hl 1 rfl) ?_
  refine lv_if_lt (tgt := 20) K.1.1 K.1.2.1 dX5_put_1 (by decide) (fun c_1 => ?_) (fun c_1 => ?_)
  · exact m_vret K hr hlocks hP hS dX5_put_20 rfl (by skip; first | (simp only [R_put, cn, c_1, Int32.not_le.mpr c_1, if_true, if_false, ite_true, ite_false, reduceIte, not_true, not_false_iff]; done) | simp [R_put, cn, c_1, Int32.not_le.mpr c_1])
  · refine lv_iload_n K.1.1 K.1.2.1 dX5_put_4 rfl (lv_at hl 1 rfl) ?_
    refine lv_aload_n K.1.1 K.1.2.1 dX5_put_5 rfl (lv_at hl 0 rfl) ?_
    refine m_getr K hP (Nat.lt_of_succ_lt ho.1) ho.2.1 rfl tuX5 0 (by decide) rfl q_57 dX5_put_6 ?_
    refine m_alen K hP ho.1 ho.2.2.1 (n := n_o) dX5_put_9 ?_
    refine lv_icmp_ge (tgt := 20) K.1.1 K.1.2.1 dX5_put_10 (by decide) (fun c_10 => ?_) (fun c_10 => ?_)
    · exact m_vret K hr hlocks hP hS dX5_put_20 rfl (by skip; first | (simp only [R_put, cn, c_1, Int32.not_lt.mp c_1, c_10, Int32.not_lt.mpr c_10, if_true, if_false, ite_true, ite_false, reduceIte, not_true, not_false_iff]; done) | simp [R_put, cn, c_1, Int32.not_lt.mp c_1, c_10, Int32.not_lt.mpr c_10])
    · refine lv_aload_n K.1.1 K.1.2.1 dX5_put_13 rfl (lv_at hl 0 rfl) ?_
      refine m_getr K hP (Nat.lt_of_succ_lt ho.1) ho.2.1 rfl tuX5 0 (by decide) rfl q_57 dX5_put_14 ?_
      refine lv_iload_n K.1.1 K.1.2.1 dX5_put_17 rfl (lv_at hl 1 rfl) ?_
      refine lv_iload_n K.1.1 K.1.2.1 dX5_put_18 rfl (lv_at hl 2 rfl) ?_
      refine m_iast K hP hS ho.1 ho.2.2.1 (n := n_o) (vp_of ho.2.2.2 c_1 c_10) dX5_put_19 (fun H locs hP hS => ?_)
      exact m_vret K hr hlocks hP hS dX5_put_20 rfl (by skip; first | (simp only [R_put, cn, c_1, Int32.not_lt.mp c_1, c_10, Int32.not_le.mp c_10, if_true, if_false, ite_true, ite_false, reduceIte, not_true, not_false_iff]; done) | simp [R_put, cn, c_1, Int32.not_lt.mp c_1, c_10, Int32.not_le.mp c_10])

set_option maxHeartbeats 4000000 in
set_option maxRecDepth 100000 in
theorem MX5_add (l : Launch) (G : GG) (B : Nat) (μ : Mm) (o n_o : Nat) (ho : isR o n_o) (i : Int32) (v : Int32) : CM l yX5_add (.code yX5_add cX5_add 3 Option.none) 0 0 G B [.ref (B + o), .int i, .int v] μ none (R_add μ o n_o i v) := by
  refine CM.of (by decide) (Nat.le_of_ble_eq_true rfl) ?_
  intro p e s m below meth c ls K hr hlocks hP hl
  have hS : va_S (AA B) s.heap s.heap [] := va_S.rf
  have hl : lv_has ls 3 [(0, .ref (B + o)), (1, .int i), (2, .int v)] := hl
  refine lv_iload_n K.1.1 K.1.2.1 dX5_add_0 rfl (lv_at hl 1 rfl) ?_
  refine lv_if_lt (tgt := 23) K.1.1 K.1.2.1 dX5_add_1 (by decide) (fun c_1 => ?_) (fun c_1 => ?_)
  · exact m_vret K hr hlocks hP hS dX5_add_23 rfl (by skip; first | (simp only [R_add, cn, c_1, Int32.not_le.mpr c_1, if_true, if_false, ite_true, ite_false, reduceIte, not_true, not_false_iff]; done) | simp [R_add, cn, c_1, Int32.not_le.mpr c_1])
  · refine lv_iload_n K.1.1 K.1.2.1 dX5_add_4 rfl (lv_at hl 1 rfl) ?_
    refine lv_aload_n K.1.1 K.1.2.1 dX5_add_5 rfl (lv_at hl 0 rfl) ?_
    refine m_getr K hP (Nat.lt_of_succ_lt ho.1) ho.2.1 rfl tuX5 0 (by decide) rfl q_57 dX5_add_6 ?_
    refine m_alen K hP ho.1 ho.2.2.1 (n := n_o) dX5_add_9 ?_
    refine lv_icmp_ge (tgt := 23) K.1.1 K.1.2.1 dX5_add_10 (by decide) (fun c_10 => ?_) (fun c_10 => ?_)
    · exact m_vret K hr hlocks hP hS dX5_add_23 rfl (by skip; first | (simp only [R_add, cn, c_1, Int32.not_lt.mp c_1, c_10, Int32.not_lt.mpr c_10, if_true, if_false, ite_true, ite_false, reduceIte, not_true, not_false_iff]; done) | simp [R_add, cn, c_1, Int32.not_lt.mp c_1, c_10, Int32.not_lt.mpr c_10])
    · refine lv_aload_n K.1.1 K.1.2.1 dX5_add_13 rfl (lv_at hl 0 rfl) ?_
      refine m_getr K hP (Nat.lt_of_succ_lt ho.1) ho.2.1 rfl tuX5 0 (by decide) rfl q_57 dX5_add_14 ?_
      refine lv_iload_n K.1.1 K.1.2.1 dX5_add_17 rfl (lv_at hl 1 rfl) ?_
      refine lv_dup2_11 K.1.1 K.1.2.1 dX5_add_18 rfl rfl ?_
      refine m_iald K hP ho.1 ho.2.2.1 (n := n_o) (vp_of ho.2.2.2 c_1 c_10) dX5_add_19 ?_
      refine lv_topi (fun g_1 eg_1 => ?_)
      refine lv_iload_n K.1.1 K.1.2.1 dX5_add_20 rfl (lv_at hl 2 rfl) ?_
      refine lv_iadd K.1.1 K.1.2.1 dX5_add_21 ?_
      refine m_iast K hP hS ho.1 ho.2.2.1 (n := n_o) (vp_of ho.2.2.2 c_1 c_10) dX5_add_22 (fun H locs hP hS => ?_)
      exact m_vret K hr hlocks hP hS dX5_add_23 rfl (by subst eg_1; first | (simp only [R_add, cn, c_1, Int32.not_lt.mp c_1, c_10, Int32.not_le.mp c_10, if_true, if_false, ite_true, ite_false, reduceIte, not_true, not_false_iff]; done) | simp [R_add, cn, c_1, Int32.not_lt.mp c_1, c_10, Int32.not_le.mp c_10])

set_option maxHeartbeats 4000000 in
set_option maxRecDepth 100000 in
theorem MX5_fillWithZeros (l : Launch) (G : GG) (B : Nat) (μ : Mm) (o n_o : Nat) (ho : isR o n_o) : CM l yX5_fillWithZeros (.code yX5_fillWithZeros cX5_fillWithZeros 2 Option.none) 0 0 G B [.ref (B + o)] μ none (R_zero μ o n_o) := by
  refine CM.of (by decide) (Nat.le_of_ble_eq_true rfl) ?_
  intro p e s m below meth c ls K hr hlocks hP hl
  have hS : va_S (AA B) s.heap s.heap [] := va_S.rf
  have hl : lv_has ls 2 [(0, .ref (B + o))] := hl
  refine lv_iconst (v := 0) K.1.1 K.1.2.1 dX5_fillWithZeros_0 (by decide) ?_
  refine lv_istore_n (lv' := [(1, .int 0), (0, .ref (B + o))]) K.1.1 K.1.2.1 dX5_fillWithZeros_1 rfl hl (by decide) rfl (fun ls hl => ?_)
  refine up_to (N := n_o) (P := fun k : Nat => ∀ (v1_2 : Int32) (μ_2 : Mm) (H : Heap) (locs : List Loc) (ls : Array Slot), (v1_2 = nI k) → (μ_2 = R_zero μ o k) → MP G B μ_2 H → va_S (AA B) s.heap H locs → lv_has ls 2 [(1, .int v1_2), (0, .ref (B + o))] → W p l e ({ frames := 0, cells := 0, slots := 0, locals := 0 } : Room) s m ([.ref (B + o)] : List Value).toArray below meth c H locs 0 0 (MF below G B none (R_zero μ o n_o) ([.ref (B + o)] : List Value).toArray s) (F0 m 2 ls [])) ?_ ?_ _ _ _ _ _ (by first | rfl | (skip; rfl)) (by exact R_zero_0 μ o) hP hS (lv_sub hl [0, 1] rfl)
  · intro v1_2 μ_2 H locs ls ev1_2 eμ_2 hP hS hl
    refine lv_iload_n K.1.1 K.1.2.1 dX5_fillWithZeros_2 rfl (lv_at hl 0 rfl) ?_
    refine lv_aload_n K.1.1 K.1.2.1 dX5_fillWithZeros_3 rfl (lv_at hl 1 rfl) ?_
    refine m_getr K hP (Nat.lt_of_succ_lt ho.1) ho.2.1 rfl tuX5 0 (by decide) rfl q_57 dX5_fillWithZeros_4 ?_
    refine m_alen K hP ho.1 ho.2.2.1 (n := n_o) dX5_fillWithZeros_7 ?_
    refine lv_icmp_ge (tgt := 24) K.1.1 K.1.2.1 dX5_fillWithZeros_8 (by decide) (fun c_8 => ?_) (fun c_8 => ?_)
    · exact m_vret K hr hlocks hP hS dX5_fillWithZeros_24 rfl (by subst ev1_2 eμ_2; rfl)
    · exact absurd c_8 (not_not_intro (by subst ev1_2 eμ_2; exact Int32.le_refl _))
  · intro k hk ih_2 v1_2 μ_2 H locs ls ev1_2 eμ_2 hP hS hl
    refine lv_iload_n K.1.1 K.1.2.1 dX5_fillWithZeros_2 rfl (lv_at hl 0 rfl) ?_
    refine lv_aload_n K.1.1 K.1.2.1 dX5_fillWithZeros_3 rfl (lv_at hl 1 rfl) ?_
    refine m_getr K hP (Nat.lt_of_succ_lt ho.1) ho.2.1 rfl tuX5 0 (by decide) rfl q_57 dX5_fillWithZeros_4 ?_
    refine m_alen K hP ho.1 ho.2.2.1 (n := n_o) dX5_fillWithZeros_7 ?_
    refine lv_icmp_ge (tgt := 24) K.1.1 K.1.2.1 dX5_fillWithZeros_8 (by decide) (fun c_8 => ?_) (fun c_8 => ?_)
    · exact absurd c_8 (by subst ev1_2 eμ_2; exact nI_ge hk (Nat.lt_of_le_of_lt ho.2.2.2 (by decide)))
    · refine lv_aload_n K.1.1 K.1.2.1 dX5_fillWithZeros_11 rfl (lv_at hl 1 rfl) ?_
      refine m_getr K hP (Nat.lt_of_succ_lt ho.1) ho.2.1 rfl tuX5 0 (by decide) rfl q_57 dX5_fillWithZeros_12 ?_
      refine lv_iload_n K.1.1 K.1.2.1 dX5_fillWithZeros_15 rfl (lv_at hl 0 rfl) ?_
      refine lv_iconst (v := 0) K.1.1 K.1.2.1 dX5_fillWithZeros_16 (by decide) ?_
      refine m_iast K hP hS ho.1 ho.2.2.1 (n := n_o) (by subst ev1_2 eμ_2; exact vp_ofN ho.2.2.2 hk) dX5_fillWithZeros_17 (fun H locs hP hS => ?_)
      obtain ⟨x_1, ex_1⟩ : ∃ y : Int32, y = v1_2 + (1) := ⟨_, rfl⟩
      refine lv_iinc (v := x_1) (lv' := [(1, .int x_1), (0, .ref (B + o))]) K.1.1 K.1.2.1 dX5_fillWithZeros_18 hl (k := 0) rfl (by rw [ex_1]; rfl) (by decide) rfl (fun ls hl => ?_)
      refine lv_goto (tgt := 2) K.1.1 K.1.2.1 dX5_fillWithZeros_21 (by decide) ?_
      exact ih_2 _ _ _ _ _ (by subst ev1_2 eμ_2 ex_1; exact nI_1 _) (by subst ev1_2 eμ_2 ex_1; exact R_zero_s _ _ _ (by have := ho.2.2.2; omega)) hP hS (lv_sub hl [0, 1] rfl)

set_option maxHeartbeats 4000000 in
set_option maxRecDepth 100000 in
theorem MX5_removeAt (l : Launch) (G : GG) (B : Nat) (μ : Mm) (o n_o : Nat) (ho : isR o n_o) (i : Int32) (hi : ¬ i < 0) (hi2 : cn i + 1 < 2 ^ 31) : CM l yX5_removeAt (.code yX5_removeAt cX5_removeAt 3 Option.none) 0 0 G B [.ref (B + o), .int i] μ none (R_rem μ o n_o (cn i)) := by
  refine CM.of (by decide) (Nat.le_of_ble_eq_true rfl) ?_
  intro p e s m below meth c ls K hr hlocks hP hl
  have hS : va_S (AA B) s.heap s.heap [] := va_S.rf
  have hl : lv_has ls 3 [(0, .ref (B + o)), (1, .int i)] := hl
  refine lv_iload_n K.1.1 K.1.2.1 dX5_removeAt_0 rfl (lv_at hl 1 rfl) ?_
  refine lv_iconst (v := 1) K.1.1 K.1.2.1 dX5_removeAt_1 (by decide) ?_
  refine lv_iadd K.1.1 K.1.2.1 dX5_removeAt_2 ?_
  refine lv_topi (fun x_1 ex_1 => ?_)
  refine lv_istore_n (lv' := [(2, .int x_1), (0, .ref (B + o)), (1, .int i)]) K.1.1 K.1.2.1 dX5_removeAt_3 rfl hl (by decide) rfl (fun ls hl => ?_)
  refine up_to (N := (n_o - (cn i + 1))) (P := fun k : Nat => ∀ (v2_4 : Int32) (μ_4 : Mm) (H : Heap) (locs : List Loc) (ls : Array Slot), (v2_4 = nI (cn i + 1 + k)) → (μ_4 = R_remK μ o (cn i) k) → MP G B μ_4 H → va_S (AA B) s.heap H locs → lv_has ls 3 [(2, .int v2_4), (0, .ref (B + o)), (1, .int i)] → W p l e ({ frames := 0, cells := 0, slots := 0, locals := 0 } : Room) s m ([.ref (B + o), .int i] : List Value).toArray below meth c H locs 0 0 (MF below G B none (R_rem μ o n_o (cn i)) ([.ref (B + o), .int i] : List Value).toArray s) (F0 m 4 ls [])) ?_ ?_ _ _ _ _ _ (by subst ex_1; have h := nI_1 (cn i); rw [nI_cn hi] at h; exact h) (by exact R_remK_0 μ o _) hP hS (lv_sub hl [0, 1, 2] rfl)
  · intro v2_4 μ_4 H locs ls ev2_4 eμ_4 hP hS hl
    refine lv_iload_n K.1.1 K.1.2.1 dX5_removeAt_4 rfl (lv_at hl 0 rfl) ?_
    refine lv_iconst (v := 1) K.1.1 K.1.2.1 dX5_removeAt_5 (by decide) ?_
    refine lv_icmp_lt (tgt := 38) K.1.1 K.1.2.1 dX5_removeAt_6 (by decide) (fun c_6 => ?_) (fun c_6 => ?_)
    · exact absurd c_6 (by subst ex_1 ev2_4 eμ_4; exact Int32.not_lt.mpr (nI_le (a := 1) (by omega) (by have := ho.2.2.2; omega)))
    · refine lv_iload_n K.1.1 K.1.2.1 dX5_removeAt_9 rfl (lv_at hl 0 rfl) ?_
      refine lv_aload_n K.1.1 K.1.2.1 dX5_removeAt_10 rfl (lv_at hl 1 rfl) ?_
      refine m_getr K hP (Nat.lt_of_succ_lt ho.1) ho.2.1 rfl tuX5 0 (by decide) rfl q_57 dX5_removeAt_11 ?_
      refine m_alen K hP ho.1 ho.2.2.1 (n := n_o) dX5_removeAt_14 ?_
      refine lv_icmp_ge (tgt := 38) K.1.1 K.1.2.1 dX5_removeAt_15 (by decide) (fun c_15 => ?_) (fun c_15 => ?_)
      · exact m_vret K hr hlocks hP hS dX5_removeAt_38 rfl (by subst ex_1 ev2_4 eμ_4; exact R_remK_e _ _ _ _)
      · exact absurd c_15 (not_not_intro (by have := ho.2.2.2; subst ex_1 ev2_4 eμ_4; exact nI_le (by omega) (by omega)))
  · intro k hk ih_4 v2_4 μ_4 H locs ls ev2_4 eμ_4 hP hS hl
    have hn := ho.2.2.2
    have hk2 : cn i + 1 + k < n_o := by omega
    refine lv_iload_n K.1.1 K.1.2.1 dX5_removeAt_4 rfl (lv_at hl 0 rfl) ?_
    refine lv_iconst (v := 1) K.1.1 K.1.2.1 dX5_removeAt_5 (by decide) ?_
    refine lv_icmp_lt (tgt := 38) K.1.1 K.1.2.1 dX5_removeAt_6 (by decide) (fun c_6 => ?_) (fun c_6 => ?_)
    · exact absurd c_6 (by subst ex_1 ev2_4 eμ_4; exact Int32.not_lt.mpr (nI_le (a := 1) (by omega) (by omega)))
    · refine lv_iload_n K.1.1 K.1.2.1 dX5_removeAt_9 rfl (lv_at hl 0 rfl) ?_
      refine lv_aload_n K.1.1 K.1.2.1 dX5_removeAt_10 rfl (lv_at hl 1 rfl) ?_
      refine m_getr K hP (Nat.lt_of_succ_lt ho.1) ho.2.1 rfl tuX5 0 (by decide) rfl q_57 dX5_removeAt_11 ?_
      refine m_alen K hP ho.1 ho.2.2.1 (n := n_o) dX5_removeAt_14 ?_
      refine lv_icmp_ge (tgt := 38) K.1.1 K.1.2.1 dX5_removeAt_15 (by decide) (fun c_15 => ?_) (fun c_15 => ?_)
      · exact absurd c_15 (by subst ex_1 ev2_4 eμ_4; exact nI_ge hk2 (by omega))
      · refine lv_aload_n K.1.1 K.1.2.1 dX5_removeAt_18 rfl (lv_at hl 1 rfl) ?_
        refine m_getr K hP (Nat.lt_of_succ_lt ho.1) ho.2.1 rfl tuX5 0 (by decide) rfl q_57 dX5_removeAt_19 ?_
        refine lv_iload_n K.1.1 K.1.2.1 dX5_removeAt_22 rfl (lv_at hl 0 rfl) ?_
        refine lv_iconst (v := 1) K.1.1 K.1.2.1 dX5_removeAt_23 (by decide) ?_
        refine lv_isub K.1.1 K.1.2.1 dX5_removeAt_24 ?_
        refine lv_aload_n K.1.1 K.1.2.1 dX5_removeAt_25 rfl (lv_at hl 1 rfl) ?_
        refine m_getr K hP (Nat.lt_of_succ_lt ho.1) ho.2.1 rfl tuX5 0 (by decide) rfl q_57 dX5_removeAt_26 ?_
        refine lv_iload_n K.1.1 K.1.2.1 dX5_removeAt_29 rfl (lv_at hl 0 rfl) ?_
        refine m_iald K hP ho.1 ho.2.2.1 (n := n_o) (by subst ex_1 ev2_4 eμ_4; exact vp_ofN hn hk2) dX5_removeAt_30 ?_
        refine lv_topi (fun g_2 eg_2 => ?_)
        refine m_iast K hP hS ho.1 ho.2.2.1 (n := n_o) (by subst ex_1 ev2_4 eμ_4 eg_2; rw [show cn i + 1 + k = cn i + k + 1 by omega, nI_pred]; exact vp_ofN hn (by omega)) dX5_removeAt_31 (fun H locs hP hS => ?_)
        obtain ⟨x_3, ex_3⟩ : ∃ y : Int32, y = v2_4 + (1) := ⟨_, rfl⟩
        refine lv_iinc (v := x_3) (lv' := [(2, .int x_3), (0, .ref (B + o)), (1, .int i)]) K.1.1 K.1.2.1 dX5_removeAt_32 hl (k := 0) rfl (by rw [ex_3]; rfl) (by decide) rfl (fun ls hl => ?_)
        refine lv_goto (tgt := 4) K.1.1 K.1.2.1 dX5_removeAt_35 (by decide) ?_
        exact ih_4 _ _ _ _ _ (by subst ex_1 ev2_4 eμ_4 eg_2 ex_3; rw [nI_1]; rfl) (by subst ex_1 ev2_4 eμ_4 eg_2 ex_3; rw [show nI (cn i + 1 + k) - 1 = nI (cn i + k) from by rw [show cn i + 1 + k = cn i + k + 1 by omega]; exact nI_pred _, nI_clamp (by omega), nI_clamp (by omega), show cn i + 1 + k = cn i + k + 1 by omega]; exact R_remK_s _ _ _ _) hP hS (lv_sub hl [0, 1, 2] rfl)

set_option maxHeartbeats 4000000 in
set_option maxRecDepth 100000 in
theorem MX5_copyFrom (l : Launch) (G : GG) (B : Nat) (μ : Mm) (o n_o : Nat) (ho : isR o n_o) (b n_b : Nat) (hb : isR b n_b) (hnb : n_b = n_o) : CM l yX5_copyFrom (.code yX5_copyFrom cX5_copyFrom 3 Option.none) 1 21 G B [.ref (B + o), .ref (B + b)] μ none (R_copy μ o n_o b) := by
  refine CM.of (by decide) (Nat.le_of_ble_eq_true rfl) ?_
  intro p e s m below meth c ls K hr hlocks hP hl
  have hS : va_S (AA B) s.heap s.heap [] := va_S.rf
  have hl : lv_has ls 3 [(0, .ref (B + o)), (1, .ref (B + b))] := hl
  refine lv_iconst (v := 0) K.1.1 K.1.2.1 dX5_copyFrom_0 (by decide) ?_
  refine lv_istore_n (lv' := [(2, .int 0), (0, .ref (B + o)), (1, .ref (B + b))]) K.1.1 K.1.2.1 dX5_copyFrom_1 rfl hl (by decide) rfl (fun ls hl => ?_)
  refine up_to (N := n_o) (P := fun k : Nat => ∀ (v2_2 : Int32) (μ_2 : Mm) (H : Heap) (locs : List Loc) (ls : Array Slot), (v2_2 = nI k) → (μ_2 = R_copy μ o k b) → MP G B μ_2 H → va_S (AA B) s.heap H locs → lv_has ls 3 [(2, .int v2_2), (0, .ref (B + o)), (1, .ref (B + b))] → W p l e ({ frames := 1, cells := 0, slots := 0, locals := 21 } : Room) s m ([.ref (B + o), .ref (B + b)] : List Value).toArray below meth c H locs 0 0 (MF below G B none (R_copy μ o n_o b) ([.ref (B + o), .ref (B + b)] : List Value).toArray s) (F0 m 2 ls [])) ?_ ?_ _ _ _ _ _ (by first | rfl | (skip; rfl)) (by exact R_copy_0 μ o b) hP hS (lv_sub hl [0, 1, 2] rfl)
  · intro v2_2 μ_2 H locs ls ev2_2 eμ_2 hP hS hl
    refine lv_iload_n K.1.1 K.1.2.1 dX5_copyFrom_2 rfl (lv_at hl 0 rfl) ?_
    refine lv_aload_n K.1.1 K.1.2.1 dX5_copyFrom_3 rfl (lv_at hl 1 rfl) ?_
    refine m_getr K hP (Nat.lt_of_succ_lt ho.1) ho.2.1 rfl tuX5 0 (by decide) rfl q_57 dX5_copyFrom_4 ?_
    refine m_alen K hP ho.1 ho.2.2.1 (n := n_o) dX5_copyFrom_7 ?_
    refine lv_icmp_ge (tgt := 28) K.1.1 K.1.2.1 dX5_copyFrom_8 (by decide) (fun c_8 => ?_) (fun c_8 => ?_)
    · exact m_vret K hr hlocks hP hS dX5_copyFrom_28 rfl (by subst ev2_2 eμ_2; rfl)
    · exact absurd c_8 (not_not_intro (by subst ev2_2 eμ_2; exact Int32.le_refl _))
  · intro k hk ih_2 v2_2 μ_2 H locs ls ev2_2 eμ_2 hP hS hl
    refine lv_iload_n K.1.1 K.1.2.1 dX5_copyFrom_2 rfl (lv_at hl 0 rfl) ?_
    refine lv_aload_n K.1.1 K.1.2.1 dX5_copyFrom_3 rfl (lv_at hl 1 rfl) ?_
    refine m_getr K hP (Nat.lt_of_succ_lt ho.1) ho.2.1 rfl tuX5 0 (by decide) rfl q_57 dX5_copyFrom_4 ?_
    refine m_alen K hP ho.1 ho.2.2.1 (n := n_o) dX5_copyFrom_7 ?_
    refine lv_icmp_ge (tgt := 28) K.1.1 K.1.2.1 dX5_copyFrom_8 (by decide) (fun c_8 => ?_) (fun c_8 => ?_)
    · exact absurd c_8 (by subst ev2_2 eμ_2; exact nI_ge hk (Nat.lt_of_le_of_lt ho.2.2.2 (by decide)))
    · refine lv_aload_n K.1.1 K.1.2.1 dX5_copyFrom_11 rfl (lv_at hl 1 rfl) ?_
      refine m_getr K hP (Nat.lt_of_succ_lt ho.1) ho.2.1 rfl tuX5 0 (by decide) rfl q_57 dX5_copyFrom_12 ?_
      refine lv_iload_n K.1.1 K.1.2.1 dX5_copyFrom_15 rfl (lv_at hl 0 rfl) ?_
      refine lv_aload_n K.1.1 K.1.2.1 dX5_copyFrom_16 rfl (lv_at hl 2 rfl) ?_
      refine lv_iload_n K.1.1 K.1.2.1 dX5_copyFrom_17 rfl (lv_at hl 0 rfl) ?_
      refine m_cV (n := 1) (As := [.int v2_2]) (rest := [.int v2_2, .ref (B + (o + 1))]) K hP hS (MX5_get l G B _ b n_b hb v2_2 ) (Nat.lt_of_succ_lt hb.1) hb.2.1 rfl q_669 q_460 q_461 q_18 q_462 hv_X5_get ⟨Nat.le_of_ble_eq_true rfl, Nat.le_of_ble_eq_true rfl⟩ rfl hl.1 rfl (Nat.le_of_ble_eq_true rfl) dX5_copyFrom_18 ⟨Nat.zero_le _, Nat.zero_le _⟩ (fun H locs hP hS => ?_)
      refine lv_topi (fun r_1 er_1 => ?_)
      refine m_iast K hP hS ho.1 ho.2.2.1 (n := n_o) (by subst ev2_2 eμ_2 er_1; exact vp_ofN ho.2.2.2 hk) dX5_copyFrom_21 (fun H locs hP hS => ?_)
      obtain ⟨x_2, ex_2⟩ : ∃ y : Int32, y = v2_2 + (1) := ⟨_, rfl⟩
      refine lv_iinc (v := x_2) (lv' := [(2, .int x_2), (0, .ref (B + o)), (1, .ref (B + b))]) K.1.1 K.1.2.1 dX5_copyFrom_22 hl (k := 0) rfl (by rw [ex_2]; rfl) (by decide) rfl (fun ls hl => ?_)
      refine lv_goto (tgt := 2) K.1.1 K.1.2.1 dX5_copyFrom_25 (by decide) ?_
      exact ih_2 _ _ _ _ _ (by subst ev2_2 eμ_2 er_1 ex_2; exact nI_1 _) (by subst ev2_2 eμ_2 er_1 ex_2; rw [hnb, R_copy_g _ ho.2.2.2 hk]; exact R_copy_s _ _ _ _ (by have := ho.2.2.2; omega)) hP hS (lv_sub hl [0, 1, 2] rfl)
