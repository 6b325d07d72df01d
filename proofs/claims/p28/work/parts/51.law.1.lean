theorem hw_cell : yL_cell.cls = RL ∧ yL_cell.cls ≠ "java/lang/invoke/MethodHandle" ∧ yL_cell.cls ≠ "java/lang/invoke/VarHandle" ∧ (parseMethodDescriptor yL_cell.desc).map (fun d => d.parameters.length) = some 2 := ⟨rfl, by decide, by decide, by decide +kernel⟩
theorem hw_up : yL_up.cls = RL ∧ yL_up.cls ≠ "java/lang/invoke/MethodHandle" ∧ yL_up.cls ≠ "java/lang/invoke/VarHandle" ∧ (parseMethodDescriptor yL_up.desc).map (fun d => d.parameters.length) = some 2 := ⟨rfl, by decide, by decide, by decide +kernel⟩
theorem hw_unitsOf : yL_unitsOf.cls = RL ∧ yL_unitsOf.cls ≠ "java/lang/invoke/MethodHandle" ∧ yL_unitsOf.cls ≠ "java/lang/invoke/VarHandle" ∧ (parseMethodDescriptor yL_unitsOf.desc).map (fun d => d.parameters.length) = some 2 := ⟨rfl, by decide, by decide, by decide +kernel⟩
theorem hw_view : yL_view.cls = RL ∧ yL_view.cls ≠ "java/lang/invoke/MethodHandle" ∧ yL_view.cls ≠ "java/lang/invoke/VarHandle" ∧ (parseMethodDescriptor yL_view.desc).map (fun d => d.parameters.length) = some 1 := ⟨rfl, by decide, by decide, by decide +kernel⟩
theorem hw_any : yL_any.cls = RL ∧ yL_any.cls ≠ "java/lang/invoke/MethodHandle" ∧ yL_any.cls ≠ "java/lang/invoke/VarHandle" ∧ (parseMethodDescriptor yL_any.desc).map (fun d => d.parameters.length) = some 3 := ⟨rfl, by decide, by decide, by decide +kernel⟩
theorem hw_isAct : yL_isAct.cls = RL ∧ yL_isAct.cls ≠ "java/lang/invoke/MethodHandle" ∧ yL_isAct.cls ≠ "java/lang/invoke/VarHandle" ∧ (parseMethodDescriptor yL_isAct.desc).map (fun d => d.parameters.length) = some 2 := ⟨rfl, by decide, by decide, by decide +kernel⟩
theorem hw_turn : yL_turn.cls = RL ∧ yL_turn.cls ≠ "java/lang/invoke/MethodHandle" ∧ yL_turn.cls ≠ "java/lang/invoke/VarHandle" ∧ (parseMethodDescriptor yL_turn.desc).map (fun d => d.parameters.length) = some 4 := ⟨rfl, by decide, by decide, by decide +kernel⟩
theorem hw_tries : yL_tries.cls = RL ∧ yL_tries.cls ≠ "java/lang/invoke/MethodHandle" ∧ yL_tries.cls ≠ "java/lang/invoke/VarHandle" ∧ (parseMethodDescriptor yL_tries.desc).map (fun d => d.parameters.length) = some 4 := ⟨rfl, by decide, by decide, by decide +kernel⟩
theorem hw_areRight : yL_areRight.cls = RL ∧ yL_areRight.cls ≠ "java/lang/invoke/MethodHandle" ∧ yL_areRight.cls ≠ "java/lang/invoke/VarHandle" ∧ (parseMethodDescriptor yL_areRight.desc).map (fun d => d.parameters.length) = some 1 := ⟨rfl, by decide, by decide, by decide +kernel⟩
theorem hw_isUndone : yL_isUndone.cls = RL ∧ yL_isUndone.cls ≠ "java/lang/invoke/MethodHandle" ∧ yL_isUndone.cls ≠ "java/lang/invoke/VarHandle" ∧ (parseMethodDescriptor yL_isUndone.desc).map (fun d => d.parameters.length) = some 6 := ⟨rfl, by decide, by decide, by decide +kernel⟩
set_option maxHeartbeats 4000000 in
set_option maxRecDepth 100000 in
theorem ML_up (l : Launch) (G : GG) (B : Nat) (μ : Mm) (x : Int32) (n : Int32) (hz : ¬ n = 0) : CM l yL_up (.code yL_up cL_up 2 (Option.some FieldType.int)) 0 0 G B [.int x, .int n] μ (some (.int (LV_up x n))) μ := by
  refine CM.of (by decide) (Nat.le_of_ble_eq_true rfl) ?_
  intro p e s m below meth c ls K hr hlocks hP hl
  have hS : va_S (AA B) s.heap s.heap [] := va_S.rf
  have hl : lv_has ls 2 [(0, .int x), (1, .int n)] := hl
  refine lv_iload_n K.1.1 K.1.2.1 dL_up_0 rfl (lv_at hl 0 rfl) ?_
  refine lv_ldc (own := RL) (v := 2147483647) K.1.1 K.1.2.1 K.1.2.2.2.1 (K.w q_636) dL_up_1 ?_
  refine lv_iand K.1.1 K.1.2.1 dL_up_3 ?_
  refine lv_iload_n K.1.1 K.1.2.1 dL_up_4 rfl (lv_at hl 1 rfl) ?_
  refine lv_irem K.1.1 K.1.2.1 dL_up_5 hz ?_
  exact m_iret K hr hlocks hP hS dL_up_6 (by skip; rfl) rfl

set_option maxHeartbeats 4000000 in
set_option maxRecDepth 100000 in
theorem ML_isAct (l : Launch) (G : GG) (B : Nat) (μ : Mm) (w : Int32) (b : Int32) : CM l yL_isAct (.code yL_isAct cL_isAct 2 (Option.some FieldType.boolean)) 0 0 G B [.int w, .int b] μ (some (.int (LV_act w b))) μ := by
  refine CM.of (by decide) (Nat.le_of_ble_eq_true rfl) ?_
  intro p e s m below meth c ls K hr hlocks hP hl
  have hS : va_S (AA B) s.heap s.heap [] := va_S.rf
  have hl : lv_has ls 2 [(0, .int w), (1, .int b)] := hl
  refine lv_iload_n K.1.1 K.1.2.1 dL_isAct_0 rfl (lv_at hl 0 rfl) ?_
  refine lv_bipush (v := 12) K.1.1 K.1.2.1 dL_isAct_1 (by decide) ?_
  refine lv_icmp_lt (tgt := 21) K.1.1 K.1.2.1 dL_isAct_3 (by decide) (fun c_3 => ?_) (fun c_3 => ?_)
  · refine lv_iconst (v := 1) K.1.1 K.1.2.1 dL_isAct_21 (by decide) ?_
    refine lv_goto (tgt := 26) K.1.1 K.1.2.1 dL_isAct_22 (by decide) ?_
    exact m_zret K hr hlocks hP hS dL_isAct_26 (by first | rfl | (skip; rfl)) (by skip; first | (simp only [LV_act, c_3, Int32.not_le.mpr c_3, if_true, if_false, ite_true, ite_false, reduceIte, not_true, not_false_iff]; done) | simp [LV_act, c_3, Int32.not_le.mpr c_3]) rfl
  · refine lv_iload_n K.1.1 K.1.2.1 dL_isAct_6 rfl (lv_at hl 0 rfl) ?_
    refine lv_bipush (v := 14) K.1.1 K.1.2.1 dL_isAct_7 (by decide) ?_
    refine lv_icmp_le (tgt := 25) K.1.1 K.1.2.1 dL_isAct_9 (by decide) (fun c_9 => ?_) (fun c_9 => ?_)
    · refine lv_iconst (v := 0) K.1.1 K.1.2.1 dL_isAct_25 (by decide) ?_
      exact m_zret K hr hlocks hP hS dL_isAct_26 (by first | rfl | (skip; rfl)) (by skip; first | (simp only [LV_act, c_3, Int32.not_lt.mp c_3, c_9, Int32.not_lt.mpr c_9, if_true, if_false, ite_true, ite_false, reduceIte, not_true, not_false_iff]; done) | simp [LV_act, c_3, Int32.not_lt.mp c_3, c_9, Int32.not_lt.mpr c_9]) rfl
    · refine lv_iload_n K.1.1 K.1.2.1 dL_isAct_12 rfl (lv_at hl 1 rfl) ?_
      refine lv_bipush (v := 7) K.1.1 K.1.2.1 dL_isAct_13 (by decide) ?_
      refine lv_iand K.1.1 K.1.2.1 dL_isAct_15 ?_
      refine lv_bipush (v := 6) K.1.1 K.1.2.1 dL_isAct_16 (by decide) ?_
      refine lv_icmp_ge (tgt := 25) K.1.1 K.1.2.1 dL_isAct_18 (by decide) (fun c_18 => ?_) (fun c_18 => ?_)
      · refine lv_iconst (v := 0) K.1.1 K.1.2.1 dL_isAct_25 (by decide) ?_
        exact m_zret K hr hlocks hP hS dL_isAct_26 (by first | rfl | (skip; rfl)) (by skip; first | (simp only [LV_act, c_3, Int32.not_lt.mp c_3, c_9, Int32.not_le.mp c_9, c_18, Int32.not_lt.mpr c_18, if_true, if_false, ite_true, ite_false, reduceIte, not_true, not_false_iff]; done) | simp [LV_act, c_3, Int32.not_lt.mp c_3, c_9, Int32.not_le.mp c_9, c_18, Int32.not_lt.mpr c_18]) rfl
      · refine lv_iconst (v := 1) K.1.1 K.1.2.1 dL_isAct_21 (by decide) ?_
        refine lv_goto (tgt := 26) K.1.1 K.1.2.1 dL_isAct_22 (by decide) ?_
        exact m_zret K hr hlocks hP hS dL_isAct_26 (by first | rfl | (skip; rfl)) (by skip; first | (simp only [LV_act, c_3, Int32.not_lt.mp c_3, c_9, Int32.not_le.mp c_9, c_18, Int32.not_le.mp c_18, if_true, if_false, ite_true, ite_false, reduceIte, not_true, not_false_iff]; done) | simp [LV_act, c_3, Int32.not_lt.mp c_3, c_9, Int32.not_le.mp c_9, c_18, Int32.not_le.mp c_18]) rfl

set_option maxHeartbeats 4000000 in
set_option maxRecDepth 100000 in
theorem ML_unitsOf (l : Launch) (hfl : l.stackTraces = false) (G : GG) (B : Nat) (μ : Mm) (n : Int32) : ELM l yL_unitsOf (.codeWith yL_unitsOf cL_unitsOf 3 (Option.some FieldType.int) [(0, 6, 7, 15), (0, 6, 10, 17)]) 8 132 1 6 G B [.ref (B + 0), .int n] μ (some (.int (LV_units μ n))) μ := by
  refine ELM.ofH (by decide) (Nat.le_of_ble_eq_true rfl) ?_
  intro p e s m below meth c ls K hD htab hr hlocks hP hl
  have hS : va_S (AA B) s.heap s.heap [] := va_S.rf
  have hl : lv_has ls 3 [(0, .ref (B + 0)), (1, .int n)] := hl
  refine lv_aload_n K.1.1 K.1.2.1 dL_unitsOf_0 rfl (lv_at hl 0 rfl) ?_
  refine lv_iload_n K.1.1 K.1.2.1 dL_unitsOf_1 rfl (lv_at hl 1 rfl) ?_
  refine lv_iconst (v := 2) K.1.1 K.1.2.1 dL_unitsOf_2 (by decide) ?_
  by_cases h0 : O_faultOfNumber μ (1 + 16) n = 0
  · refine m_cV (n := 2) (As := [.int n, .int 2]) (rest := []) (k := 0) K hP hS (MX10_orderOf l G B μ n 2 h0 rfl) (by decide) sh_0 rfl q_606 q_607 q_608 q_15 q_609 hv_X10_orderOf ⟨Nat.le_of_ble_eq_true rfl, Nat.le_of_ble_eq_true rfl⟩ rfl hl.1 rfl (Nat.le_of_ble_eq_true rfl) dL_unitsOf_3 ⟨Nat.zero_le _, Nat.zero_le _⟩ (fun H locs hP hS => ?_)
    exact e_iret K hr hlocks hP hS dL_unitsOf_6 (by unfold LV_units; rw [if_pos h0]) rfl (by omega)
  · refine e_cVX (n := 2) (As := [.int n, .int 2]) (rest := []) (k := 0) K hP hS hD (XX10_orderOf_11_1 l hfl G B μ n 2 (fault_1 h0)) (by decide) sh_0 rfl q_606 q_607 q_608 q_15 q_609 hv_X10_orderOf ⟨Nat.le_of_ble_eq_true rfl, Nat.le_of_ble_eq_true rfl⟩ rfl hl.1 rfl (Nat.le_of_ble_eq_true rfl) dL_unitsOf_3 ⟨Nat.le_of_ble_eq_true rfl, Nat.le_of_ble_eq_true rfl⟩ (fun ce q9 H locs hP hS h1 h2 h3 => ?_)
    refine vx_catch (own := RL) (name := IOE) (E := IOE) K.1.2.2.2.1 [] ⟨0, 6, 7, 15⟩ [⟨0, 6, 10, 17⟩] htab (fun z hz => by cases hz) (by decide) (by decide) (K.w q_604) (va_Nw.use rfl K.2.2.1.2.1.1) h1 h2 h3 ?_
    refine lv_astore_n (lv' := [(2, .ref q9), (0, .ref (B + 0)), (1, .int n)]) K.1.1 K.1.2.1 dL_unitsOf_7 rfl hl (by decide) rfl (fun ls hl => ?_)
    refine lv_iconst (v := (-1)) K.1.1 K.1.2.1 dL_unitsOf_8 (by decide) ?_
    exact e_iret K hr hlocks hP hS dL_unitsOf_9 (by unfold LV_units; rw [if_neg h0]) rfl (by omega)

