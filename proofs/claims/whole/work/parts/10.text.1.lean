theorem hv_J0_charAt_5068e : yJ0_charAt_5068e.cls = RJ0 ∧ yJ0_charAt_5068e.cls ≠ "java/lang/invoke/MethodHandle" ∧ yJ0_charAt_5068e.cls ≠ "java/lang/invoke/VarHandle" ∧ (parseMethodDescriptor yJ0_charAt_5068e.desc).map (fun d => d.parameters.length) = some 1 := ⟨rfl, by decide, by decide, by decide +kernel⟩

theorem hv_J0_checkIndex_df160 : yJ0_checkIndex_df160.cls = RJ0 ∧ yJ0_checkIndex_df160.cls ≠ "java/lang/invoke/MethodHandle" ∧ yJ0_checkIndex_df160.cls ≠ "java/lang/invoke/VarHandle" ∧ (parseMethodDescriptor yJ0_checkIndex_df160.desc).map (fun d => d.parameters.length) = some 2 := ⟨rfl, by decide, by decide, by decide +kernel⟩

theorem hv_J0_coder_7d493 : yJ0_coder_7d493.cls = RJ0 ∧ yJ0_coder_7d493.cls ≠ "java/lang/invoke/MethodHandle" ∧ yJ0_coder_7d493.cls ≠ "java/lang/invoke/VarHandle" ∧ (parseMethodDescriptor yJ0_coder_7d493.desc).map (fun d => d.parameters.length) = some 0 := ⟨rfl, by decide, by decide, by decide +kernel⟩

theorem hv_J0_isLatin1_aae02 : yJ0_isLatin1_aae02.cls = RJ0 ∧ yJ0_isLatin1_aae02.cls ≠ "java/lang/invoke/MethodHandle" ∧ yJ0_isLatin1_aae02.cls ≠ "java/lang/invoke/VarHandle" ∧ (parseMethodDescriptor yJ0_isLatin1_aae02.desc).map (fun d => d.parameters.length) = some 0 := ⟨rfl, by decide, by decide, by decide +kernel⟩

theorem hv_J0_length_8abf5 : yJ0_length_8abf5.cls = RJ0 ∧ yJ0_length_8abf5.cls ≠ "java/lang/invoke/MethodHandle" ∧ yJ0_length_8abf5.cls ≠ "java/lang/invoke/VarHandle" ∧ (parseMethodDescriptor yJ0_length_8abf5.desc).map (fun d => d.parameters.length) = some 0 := ⟨rfl, by decide, by decide, by decide +kernel⟩

theorem hv_J1_charAt_3b067 : yJ1_charAt_3b067.cls = RJ1 ∧ yJ1_charAt_3b067.cls ≠ "java/lang/invoke/MethodHandle" ∧ yJ1_charAt_3b067.cls ≠ "java/lang/invoke/VarHandle" ∧ (parseMethodDescriptor yJ1_charAt_3b067.desc).map (fun d => d.parameters.length) = some 2 := ⟨rfl, by decide, by decide, by decide +kernel⟩

theorem hv_J3_checkIndex_8e157 : yJ3_checkIndex_8e157.cls = RJ3 ∧ yJ3_checkIndex_8e157.cls ≠ "java/lang/invoke/MethodHandle" ∧ yJ3_checkIndex_8e157.cls ≠ "java/lang/invoke/VarHandle" ∧ (parseMethodDescriptor yJ3_checkIndex_8e157.desc).map (fun d => d.parameters.length) = some 3 := ⟨rfl, by decide, by decide, by decide +kernel⟩

theorem hv_Jx29ce0_ordinal_8abf5 : yJx29ce0_ordinal_8abf5.cls = RJx29ce0 ∧ yJx29ce0_ordinal_8abf5.cls ≠ "java/lang/invoke/MethodHandle" ∧ yJx29ce0_ordinal_8abf5.cls ≠ "java/lang/invoke/VarHandle" ∧ (parseMethodDescriptor yJx29ce0_ordinal_8abf5.desc).map (fun d => d.parameters.length) = some 0 := ⟨rfl, by decide, by decide, by decide +kernel⟩

set_option maxHeartbeats 4000000 in
set_option maxRecDepth 100000 in
theorem MJ0_coder_7d493 (l : Launch) (G : GG) (B : Nat) (μ : Mm) (i : Nat) (hi : i < 8) : CM l yJ0_coder_7d493 (.code yJ0_coder_7d493 cJ0_coder_7d493 1 (Option.some FieldType.byte)) 0 0 G B [.ref (G.2.2.2 (8 + i))] μ (some (.int (0))) μ := by
  refine CM.of (by decide) (Nat.le_of_ble_eq_true rfl) ?_
  intro p e s m below meth c ls K hr hlocks hP hl
  have hS : va_S (AA B) s.heap s.heap [] := va_S.rf
  have hl : lv_has ls 1 [(0, .ref (G.2.2.2 (8 + i)))] := hl
  refine va_gets K.1.1 K.1.2.1 K.2.2.2.2.2.2.2.2.1 hS K.1.2.2.2.1 (K.w q_464) (fun _ h => h) dJ0_coder_7d493_0 ?_
  refine lv_if_eq (tgt := 13) K.1.1 K.1.2.1 dJ0_coder_7d493_3 (by decide) (fun c_3 => ?_) (fun c_3 => ?_)
  · exact absurd c_3 (by decide)
  · refine lv_aload_n K.1.1 K.1.2.1 dJ0_coder_7d493_6 rfl (lv_at hl 0 rfl) ?_
    refine vk_getf K.1.1 K.1.2.1 (K.2.2.2.2.2.2.2.1.1.1 i hi).2.1 hS K.1.2.2.2.1 (K.w q_1553) (fun _ h => h) dJ0_coder_7d493_7 ?_
    refine lv_goto (tgt := 14) K.1.1 K.1.2.1 dJ0_coder_7d493_10 (by decide) ?_
    exact m_nret K hr hlocks hP hS dJ0_coder_7d493_14 rfl (by rfl) rfl

set_option maxHeartbeats 4000000 in
set_option maxRecDepth 100000 in
theorem MJ0_length_8abf5 (l : Launch) (G : GG) (B : Nat) (μ : Mm) (i : Nat) (hi : i < 8) : CM l yJ0_length_8abf5 (.code yJ0_length_8abf5 cJ0_length_8abf5 1 (Option.some FieldType.int)) 1 20 G B [.ref (G.2.2.2 (8 + i))] μ (some (.int (nI (wdL.getD i 0)))) μ := by
  refine CM.of (by decide) (Nat.le_of_ble_eq_true rfl) ?_
  intro p e s m below meth c ls K hr hlocks hP hl
  have hS : va_S (AA B) s.heap s.heap [] := va_S.rf
  have hl : lv_has ls 1 [(0, .ref (G.2.2.2 (8 + i)))] := hl
  refine lv_aload_n K.1.1 K.1.2.1 dJ0_length_8abf5_0 rfl (lv_at hl 0 rfl) ?_
  refine vk_getf K.1.1 K.1.2.1 (K.2.2.2.2.2.2.2.1.1.1 i hi).2.2.1 hS K.1.2.2.2.1 (K.w q_1552) (fun _ h => h) dJ0_length_8abf5_1 ?_
  refine va_tlen K.1.1 K.1.2.1 (K.2.2.2.2.2.2.2.1.1.1 i hi).2.2.2 hS (v := nI (wdL.getD i 0)) rfl dJ0_length_8abf5_4 ?_
  refine lv_aload_n K.1.1 K.1.2.1 dJ0_length_8abf5_5 rfl (lv_at hl 0 rfl) ?_
  refine m_cVR (n := 0) (As := []) (rest := [.int (nI (wdL.getD i 0))]) K hP hS (MJ0_coder_7d493 l G B _ i hi ) (vk_recv (i := i) (adK := fun j => G.2.2.2 (8 + j)) K.2.2.2.2.2.2.2.1.1 hi hS) q_460 q_461 q_462 q_101 q_463 hv_J0_coder_7d493 ⟨Nat.le_of_ble_eq_true rfl, Nat.le_of_ble_eq_true rfl⟩ rfl hl.1 rfl (Nat.le_of_ble_eq_true rfl) dJ0_length_8abf5_6 ⟨Nat.zero_le _, Nat.zero_le _⟩ (fun H locs hP hS => ?_)
  refine lv_topi (fun r_1 er_1 => ?_)
  refine lv_ishr K.1.1 K.1.2.1 dJ0_length_8abf5_9 ?_
  exact m_iret K hr hlocks hP hS dJ0_length_8abf5_10 (by subst er_1; rw [W_len_sh i hi]) rfl

set_option maxHeartbeats 4000000 in
set_option maxRecDepth 100000 in
theorem MJ0_isLatin1_aae02 (l : Launch) (G : GG) (B : Nat) (μ : Mm) (i : Nat) (hi : i < 8) : CM l yJ0_isLatin1_aae02 (.code yJ0_isLatin1_aae02 cJ0_isLatin1_aae02 1 (Option.some FieldType.boolean)) 0 0 G B [.ref (G.2.2.2 (8 + i))] μ (some (.int (1))) μ := by
  refine CM.of (by decide) (Nat.le_of_ble_eq_true rfl) ?_
  intro p e s m below meth c ls K hr hlocks hP hl
  have hS : va_S (AA B) s.heap s.heap [] := va_S.rf
  have hl : lv_has ls 1 [(0, .ref (G.2.2.2 (8 + i)))] := hl
  refine va_gets K.1.1 K.1.2.1 K.2.2.2.2.2.2.2.2.1 hS K.1.2.2.2.1 (K.w q_464) (fun _ h => h) dJ0_isLatin1_aae02_0 ?_
  refine lv_if_eq (tgt := 17) K.1.1 K.1.2.1 dJ0_isLatin1_aae02_3 (by decide) (fun c_3 => ?_) (fun c_3 => ?_)
  · exact absurd c_3 (by decide)
  · refine lv_aload_n K.1.1 K.1.2.1 dJ0_isLatin1_aae02_6 rfl (lv_at hl 0 rfl) ?_
    refine vk_getf K.1.1 K.1.2.1 (K.2.2.2.2.2.2.2.1.1.1 i hi).2.1 hS K.1.2.2.2.1 (K.w q_1553) (fun _ h => h) dJ0_isLatin1_aae02_7 ?_
    refine lv_if_ne (tgt := 17) K.1.1 K.1.2.1 dJ0_isLatin1_aae02_10 (by decide) (fun c_10 => ?_) (fun c_10 => ?_)
    · exact absurd c_10 (not_not_intro rfl)
    · refine lv_iconst (v := 1) K.1.1 K.1.2.1 dJ0_isLatin1_aae02_13 (by decide) ?_
      refine lv_goto (tgt := 18) K.1.1 K.1.2.1 dJ0_isLatin1_aae02_14 (by decide) ?_
      exact m_zret K hr hlocks hP hS dJ0_isLatin1_aae02_18 (by first | rfl | (skip; rfl)) (by rfl) rfl

set_option maxHeartbeats 4000000 in
set_option maxRecDepth 100000 in
theorem MJ3_ckN (l : Launch) (G : GG) (B : Nat) (μ : Mm) (x : Int32) (n : Int32) (h1 : ¬ x < 0) (h2 : x < n) : CM l yJ3_checkIndex_8e157 (.code yJ3_checkIndex_8e157 cJ3_checkIndex_8e157 3 (Option.some FieldType.int)) 0 0 G B [.int x, .int n, .null] μ (some (.int (x))) μ := by
  refine CM.of (by decide) (Nat.le_of_ble_eq_true rfl) ?_
  intro p e s m below meth c ls K hr hlocks hP hl
  have hS : va_S (AA B) s.heap s.heap [] := va_S.rf
  have hl : lv_has ls 3 [(0, .int x), (1, .int n), (2, .null)] := hl
  refine lv_iload_n K.1.1 K.1.2.1 dJ3_checkIndex_8e157_0 rfl (lv_at hl 0 rfl) ?_
  refine lv_if_lt (tgt := 9) K.1.1 K.1.2.1 dJ3_checkIndex_8e157_1 (by decide) (fun c_1 => ?_) (fun c_1 => ?_)
  · exact absurd c_1 (h1)
  · refine lv_iload_n K.1.1 K.1.2.1 dJ3_checkIndex_8e157_4 rfl (lv_at hl 0 rfl) ?_
    refine lv_iload_n K.1.1 K.1.2.1 dJ3_checkIndex_8e157_5 rfl (lv_at hl 1 rfl) ?_
    refine lv_icmp_lt (tgt := 16) K.1.1 K.1.2.1 dJ3_checkIndex_8e157_6 (by decide) (fun c_6 => ?_) (fun c_6 => ?_)
    · refine lv_iload_n K.1.1 K.1.2.1 dJ3_checkIndex_8e157_16 rfl (lv_at hl 0 rfl) ?_
      exact m_iret K hr hlocks hP hS dJ3_checkIndex_8e157_17 (by rfl) rfl
    · exact absurd c_6 (not_not_intro h2)

set_option maxHeartbeats 4000000 in
set_option maxRecDepth 100000 in
theorem MJ3_ckR (l : Launch) (G : GG) (B : Nat) (μ : Mm) (t : Nat) (x : Int32) (n : Int32) (h1 : ¬ x < 0) (h2 : x < n) : CM l yJ3_checkIndex_8e157 (.code yJ3_checkIndex_8e157 cJ3_checkIndex_8e157 3 (Option.some FieldType.int)) 0 0 G B [.int x, .int n, .ref t] μ (some (.int (x))) μ := by
  refine CM.of (by decide) (Nat.le_of_ble_eq_true rfl) ?_
  intro p e s m below meth c ls K hr hlocks hP hl
  have hS : va_S (AA B) s.heap s.heap [] := va_S.rf
  have hl : lv_has ls 3 [(0, .int x), (1, .int n), (2, .ref t)] := hl
  refine lv_iload_n K.1.1 K.1.2.1 dJ3_checkIndex_8e157_0 rfl (lv_at hl 0 rfl) ?_
  refine lv_if_lt (tgt := 9) K.1.1 K.1.2.1 dJ3_checkIndex_8e157_1 (by decide) (fun c_1 => ?_) (fun c_1 => ?_)
  · exact absurd c_1 (h1)
  · refine lv_iload_n K.1.1 K.1.2.1 dJ3_checkIndex_8e157_4 rfl (lv_at hl 0 rfl) ?_
    refine lv_iload_n K.1.1 K.1.2.1 dJ3_checkIndex_8e157_5 rfl (lv_at hl 1 rfl) ?_
    refine lv_icmp_lt (tgt := 16) K.1.1 K.1.2.1 dJ3_checkIndex_8e157_6 (by decide) (fun c_6 => ?_) (fun c_6 => ?_)
    · refine lv_iload_n K.1.1 K.1.2.1 dJ3_checkIndex_8e157_16 rfl (lv_at hl 0 rfl) ?_
      exact m_iret K hr hlocks hP hS dJ3_checkIndex_8e157_17 (by rfl) rfl
    · exact absurd c_6 (not_not_intro h2)

set_option maxHeartbeats 4000000 in
set_option maxRecDepth 100000 in
theorem MJ0_checkIndex_df160 (l : Launch) (G : GG) (B : Nat) (μ : Mm) (x : Int32) (n : Int32) (h1 : ¬ x < 0) (h2 : x < n) : CM l yJ0_checkIndex_df160 (.code yJ0_checkIndex_df160 cJ0_checkIndex_df160 2 Option.none) 1 22 G B [.int x, .int n] μ none μ := by
  refine CM.of (by decide) (Nat.le_of_ble_eq_true rfl) ?_
  intro p e s m below meth c ls K hr hlocks hP hl
  have hS : va_S (AA B) s.heap s.heap [] := va_S.rf
  have hl : lv_has ls 2 [(0, .int x), (1, .int n)] := hl
  refine lv_iload_n K.1.1 K.1.2.1 dJ0_checkIndex_df160_0 rfl (lv_at hl 0 rfl) ?_
  refine lv_iload_n K.1.1 K.1.2.1 dJ0_checkIndex_df160_1 rfl (lv_at hl 1 rfl) ?_
  rcases K.2.2.2.2.2.2.2.2.2.1 with hz | ⟨t, hz⟩
  · refine va_gets K.1.1 K.1.2.1 hz hS K.1.2.2.2.1 (K.w q_481) (fun _ h => h) dJ0_checkIndex_df160_2 ?_
    refine m_cSX (n := 3) (As := [.int x, .int n, .null]) (rest := []) K hP hS (MJ3_ckN l G B _ x n h1 h2) q_483 q_484 q_103 q_485 hv_J3_checkIndex_8e157.2 ⟨Nat.le_of_ble_eq_true rfl, Nat.le_of_ble_eq_true rfl⟩ rfl hl.1 rfl (Nat.le_of_ble_eq_true rfl) dJ0_checkIndex_df160_5 ⟨Nat.zero_le _, Nat.zero_le _⟩ (fun H locs hP hS => ?_)
    refine lv_topi (fun r_1 er_1 => ?_)
    refine lv_pop K.1.1 K.1.2.1 dJ0_checkIndex_df160_8 rfl ?_
    exact m_vret K hr hlocks hP hS dJ0_checkIndex_df160_9 rfl rfl
  · refine va_gets K.1.1 K.1.2.1 hz hS K.1.2.2.2.1 (K.w q_481) (fun _ h => h) dJ0_checkIndex_df160_2 ?_
    refine m_cSX (n := 3) (As := [.int x, .int n, .ref t]) (rest := []) K hP hS (MJ3_ckR l G B _ t x n h1 h2) q_483 q_484 q_103 q_485 hv_J3_checkIndex_8e157.2 ⟨Nat.le_of_ble_eq_true rfl, Nat.le_of_ble_eq_true rfl⟩ rfl hl.1 rfl (Nat.le_of_ble_eq_true rfl) dJ0_checkIndex_df160_5 ⟨Nat.zero_le _, Nat.zero_le _⟩ (fun H locs hP hS => ?_)
    refine lv_topi (fun r_2 er_2 => ?_)
    refine lv_pop K.1.1 K.1.2.1 dJ0_checkIndex_df160_8 rfl ?_
    exact m_vret K hr hlocks hP hS dJ0_checkIndex_df160_9 rfl rfl

set_option maxHeartbeats 4000000 in
set_option maxRecDepth 100000 in
theorem MJ1_charAt_3b067 (l : Launch) (G : GG) (B : Nat) (μ : Mm) (i : Nat) (hi : i < 8) (k : Int32) (hk : vp_in k (wdL.getD i 0)) : CM l yJ1_charAt_3b067 (.code yJ1_charAt_3b067 cJ1_charAt_3b067 2 (Option.some FieldType.char)) 2 43 G B [.ref (G.2.2.2 (16 + i)), .int k] μ (some (.int (W_byte i (cn k)))) μ := by
  refine CM.of (by decide) (Nat.le_of_ble_eq_true rfl) ?_
  intro p e s m below meth c ls K hr hlocks hP hl
  have hS : va_S (AA B) s.heap s.heap [] := va_S.rf
  have hl : lv_has ls 2 [(0, .ref (G.2.2.2 (16 + i))), (1, .int k)] := hl
  refine lv_iload_n K.1.1 K.1.2.1 dJ1_charAt_3b067_0 rfl (lv_at hl 1 rfl) ?_
  refine lv_aload_n K.1.1 K.1.2.1 dJ1_charAt_3b067_1 rfl (lv_at hl 0 rfl) ?_
  refine va_tlen K.1.1 K.1.2.1 (K.2.2.2.2.2.2.2.1.1.1 i hi).2.2.2 hS (v := nI (wdL.getD i 0)) rfl dJ1_charAt_3b067_2 ?_
  refine m_cSX (n := 2) (As := [.int k, .int (nI (wdL.getD i 0))]) (rest := []) K hP hS (MJ0_checkIndex_df160 l G B _ k (nI (wdL.getD i 0)) (fun h => hk (Or.inl h)) (ck_lt (W_len i hi).1 hk)) q_478 q_479 q_101 q_480 hv_J0_checkIndex_df160.2 ⟨Nat.le_of_ble_eq_true rfl, Nat.le_of_ble_eq_true rfl⟩ rfl hl.1 rfl (Nat.le_of_ble_eq_true rfl) dJ1_charAt_3b067_3 ⟨Nat.zero_le _, Nat.zero_le _⟩ (fun H locs hP hS => ?_)
  refine W.eq (g2 := F0 m 6 ls []) rfl ?_
  refine lv_aload_n K.1.1 K.1.2.1 dJ1_charAt_3b067_6 rfl (lv_at hl 0 rfl) ?_
  refine lv_iload_n K.1.1 K.1.2.1 dJ1_charAt_3b067_7 rfl (lv_at hl 1 rfl) ?_
  refine va_tb K.1.1 K.1.2.1 (K.2.2.2.2.2.2.2.1.1.1 i hi).2.2.2 hS hk (v := .int (W_byte i (cn k))) rfl dJ1_charAt_3b067_8 ?_
  refine lv_sipush (v := 255) K.1.1 K.1.2.1 dJ1_charAt_3b067_9 (by decide) ?_
  refine lv_iand K.1.1 K.1.2.1 dJ1_charAt_3b067_12 ?_
  refine lv_i2c K.1.1 K.1.2.1 dJ1_charAt_3b067_13 rfl ?_
  exact m_nret K hr hlocks hP hS dJ1_charAt_3b067_14 (by rw [W_ch i (cn k) hi (vp_cn hk)]; exact W_nar i (cn k) hi (vp_cn hk)) (by rw [W_ch i (cn k) hi (vp_cn hk)]) rfl

set_option maxHeartbeats 4000000 in
set_option maxRecDepth 100000 in
theorem MJ0_charAt_5068e (l : Launch) (G : GG) (B : Nat) (μ : Mm) (i : Nat) (hi : i < 8) (k : Int32) (hk : vp_in k (wdL.getD i 0)) : CM l yJ0_charAt_5068e (.code yJ0_charAt_5068e cJ0_charAt_5068e 2 (Option.some FieldType.char)) 3 64 G B [.ref (G.2.2.2 (8 + i)), .int k] μ (some (.int (W_byte i (cn k)))) μ := by
  refine CM.of (by decide) (Nat.le_of_ble_eq_true rfl) ?_
  intro p e s m below meth c ls K hr hlocks hP hl
  have hS : va_S (AA B) s.heap s.heap [] := va_S.rf
  have hl : lv_has ls 2 [(0, .ref (G.2.2.2 (8 + i))), (1, .int k)] := hl
  refine lv_aload_n K.1.1 K.1.2.1 dJ0_charAt_5068e_0 rfl (lv_at hl 0 rfl) ?_
  refine m_cVR (n := 0) (As := []) (rest := []) K hP hS (MJ0_isLatin1_aae02 l G B _ i hi ) (vk_recv (i := i) (adK := fun j => G.2.2.2 (8 + j)) K.2.2.2.2.2.2.2.1.1 hi hS) q_471 q_472 q_473 q_101 q_474 hv_J0_isLatin1_aae02 ⟨Nat.le_of_ble_eq_true rfl, Nat.le_of_ble_eq_true rfl⟩ rfl hl.1 rfl (Nat.le_of_ble_eq_true rfl) dJ0_charAt_5068e_1 ⟨Nat.zero_le _, Nat.zero_le _⟩ (fun H locs hP hS => ?_)
  refine lv_topi (fun r_1 er_1 => ?_)
  refine lv_if_eq (tgt := 16) K.1.1 K.1.2.1 dJ0_charAt_5068e_4 (by decide) (fun c_4 => ?_) (fun c_4 => ?_)
  · exact absurd c_4 (by subst er_1; decide)
  · refine lv_aload_n K.1.1 K.1.2.1 dJ0_charAt_5068e_7 rfl (lv_at hl 0 rfl) ?_
    refine vk_getf K.1.1 K.1.2.1 (K.2.2.2.2.2.2.2.1.1.1 i hi).2.2.1 hS K.1.2.2.2.1 (K.w q_1552) (fun _ h => h) dJ0_charAt_5068e_8 ?_
    refine lv_iload_n K.1.1 K.1.2.1 dJ0_charAt_5068e_11 rfl (lv_at hl 1 rfl) ?_
    refine m_cSX (n := 2) (As := [.ref (G.2.2.2 (16 + i)), .int k]) (rest := []) K hP hS (MJ1_charAt_3b067 l G B _ i hi k hk) q_475 q_476 q_102 q_477 hv_J1_charAt_3b067.2 ⟨Nat.le_of_ble_eq_true rfl, Nat.le_of_ble_eq_true rfl⟩ rfl hl.1 rfl (Nat.le_of_ble_eq_true rfl) dJ0_charAt_5068e_12 ⟨Nat.zero_le _, Nat.zero_le _⟩ (fun H locs hP hS => ?_)
    refine lv_topi (fun r_2 er_2 => ?_)
    exact m_nret K hr hlocks hP hS dJ0_charAt_5068e_15 (by subst er_1 er_2; exact W_nar i (cn k) hi (vp_cn hk)) (by subst er_1 er_2; rfl) rfl

set_option maxHeartbeats 4000000 in
set_option maxRecDepth 100000 in
theorem MX9_stands (l : Launch) (G : GG) (B : Nat) (μ : Mm) (i : Nat) (hi : i < 8) (q n_q : Nat) (hq : isR q n_q) (st : Int32) (ln : Int32) : CM l yX9_stands (.code yX9_stands cX9_stands 5 (Option.some FieldType.boolean)) 4 85 G B [.ref (G.2.2.2 i), .ref (B + q), .int st, .int ln] μ (some (.int (W_stands μ q n_q i st ln))) μ := by
  refine CM.of (by decide) (Nat.le_of_ble_eq_true rfl) ?_
  intro p e s m below meth c ls K hr hlocks hP hl
  have hS : va_S (AA B) s.heap s.heap [] := va_S.rf
  have hl : lv_has ls 5 [(0, .ref (G.2.2.2 i)), (1, .ref (B + q)), (2, .int st), (3, .int ln)] := hl
  refine lv_iload_n K.1.1 K.1.2.1 dX9_stands_0 rfl (lv_at hl 3 rfl) ?_
  refine lv_aload_n K.1.1 K.1.2.1 dX9_stands_1 rfl (lv_at hl 0 rfl) ?_
  refine vk_getf K.1.1 K.1.2.1 (K.2.2.2.2.2.2.2.1.2 i hi) hS K.1.2.2.2.1 (K.w q_1551) (fun _ h => h) dX9_stands_2 ?_
  refine m_cVR (n := 0) (As := []) (rest := [.int ln]) K hP hS (MJ0_length_8abf5 l G B _ i hi ) (vk_recv (i := i) (adK := fun j => G.2.2.2 (8 + j)) K.2.2.2.2.2.2.2.1.1 hi hS) q_456 q_457 q_458 q_101 q_459 hv_J0_length_8abf5 ⟨Nat.le_of_ble_eq_true rfl, Nat.le_of_ble_eq_true rfl⟩ rfl hl.1 rfl (Nat.le_of_ble_eq_true rfl) dX9_stands_5 ⟨Nat.zero_le _, Nat.zero_le _⟩ (fun H locs hP hS => ?_)
  refine lv_topi (fun r_1 er_1 => ?_)
  refine lv_icmp_eq (tgt := 13) K.1.1 K.1.2.1 dX9_stands_8 (by decide) (fun c_8 => ?_) (fun c_8 => ?_)
  · refine lv_iconst (v := 0) K.1.1 K.1.2.1 dX9_stands_13 (by decide) ?_
    refine lv_istore (lv' := [(4, .int 0), (0, .ref (G.2.2.2 i)), (1, .ref (B + q)), (2, .int st), (3, .int ln)]) K.1.1 K.1.2.1 dX9_stands_14 hl (by decide) rfl (fun ls hl => ?_)
    refine up_to (N := wdL.getD i 0) (P := fun k : Nat => ∀ (v4_16 : Int32) (H : Heap) (locs : List Loc) (ls : Array Slot), (v4_16 = nI k) → (∀ j : Nat, j < k → R_get μ q n_q (st + nI j) = W_byte i j) → MP G B μ H → va_S (AA B) s.heap H locs → lv_has ls 5 [(4, .int v4_16), (0, .ref (G.2.2.2 i)), (1, .ref (B + q)), (2, .int st), (3, .int ln)] → W p l e ({ frames := 4, cells := 0, slots := 0, locals := 85 } : Room) s m ([.ref (G.2.2.2 i), .ref (B + q), .int st, .int ln] : List Value).toArray below meth c H locs 0 0 (MF below G B (some (.int (W_stands μ q n_q i st ln))) μ ([.ref (G.2.2.2 i), .ref (B + q), .int st, .int ln] : List Value).toArray s) (F0 m 16 ls [])) ?_ ?_ _ _ _ _ (by first | rfl | (subst er_1; rfl)) (by intro j hj; exact absurd hj (Nat.not_lt_zero _)) hP hS (lv_sub hl [0, 1, 2, 3, 4] rfl)
    · intro v4_16 H locs ls ev4_16 inv_16 hP hS hl
      refine lv_iload K.1.1 K.1.2.1 dX9_stands_16 (lv_at hl 0 rfl) ?_
      refine lv_aload_n K.1.1 K.1.2.1 dX9_stands_18 rfl (lv_at hl 1 rfl) ?_
      refine vk_getf K.1.1 K.1.2.1 (K.2.2.2.2.2.2.2.1.2 i hi) hS K.1.2.2.2.1 (K.w q_1551) (fun _ h => h) dX9_stands_19 ?_
      refine m_cVR (n := 0) (As := []) (rest := [.int v4_16]) K hP hS (MJ0_length_8abf5 l G B _ i hi ) (vk_recv (i := i) (adK := fun j => G.2.2.2 (8 + j)) K.2.2.2.2.2.2.2.1.1 hi hS) q_456 q_457 q_458 q_101 q_459 hv_J0_length_8abf5 ⟨Nat.le_of_ble_eq_true rfl, Nat.le_of_ble_eq_true rfl⟩ rfl hl.1 rfl (Nat.le_of_ble_eq_true rfl) dX9_stands_22 ⟨Nat.zero_le _, Nat.zero_le _⟩ (fun H locs hP hS => ?_)
      refine lv_topi (fun r_2 er_2 => ?_)
      refine lv_icmp_ge (tgt := 56) K.1.1 K.1.2.1 dX9_stands_25 (by decide) (fun c_25 => ?_) (fun c_25 => ?_)
      · refine lv_iconst (v := 1) K.1.1 K.1.2.1 dX9_stands_56 (by decide) ?_
        exact m_zret K hr hlocks hP hS dX9_stands_57 (by first | rfl | (subst er_1 ev4_16 er_2; rfl)) (by subst er_1 ev4_16 er_2; rw [W_stands, if_pos c_8, if_pos inv_16]) rfl
      · exact absurd c_25 (not_not_intro (by subst er_1 ev4_16 er_2; exact Int32.le_refl _))
    · intro k hk ih_16 v4_16 H locs ls ev4_16 inv_16 hP hS hl
      have hk31 : k < 2 ^ 31 := Nat.lt_trans hk (W_len i hi).1
      refine lv_iload K.1.1 K.1.2.1 dX9_stands_16 (lv_at hl 0 rfl) ?_
      refine lv_aload_n K.1.1 K.1.2.1 dX9_stands_18 rfl (lv_at hl 1 rfl) ?_
      refine vk_getf K.1.1 K.1.2.1 (K.2.2.2.2.2.2.2.1.2 i hi) hS K.1.2.2.2.1 (K.w q_1551) (fun _ h => h) dX9_stands_19 ?_
      refine m_cVR (n := 0) (As := []) (rest := [.int v4_16]) K hP hS (MJ0_length_8abf5 l G B _ i hi ) (vk_recv (i := i) (adK := fun j => G.2.2.2 (8 + j)) K.2.2.2.2.2.2.2.1.1 hi hS) q_456 q_457 q_458 q_101 q_459 hv_J0_length_8abf5 ⟨Nat.le_of_ble_eq_true rfl, Nat.le_of_ble_eq_true rfl⟩ rfl hl.1 rfl (Nat.le_of_ble_eq_true rfl) dX9_stands_22 ⟨Nat.zero_le _, Nat.zero_le _⟩ (fun H locs hP hS => ?_)
      refine lv_topi (fun r_3 er_3 => ?_)
      refine lv_icmp_ge (tgt := 56) K.1.1 K.1.2.1 dX9_stands_25 (by decide) (fun c_25 => ?_) (fun c_25 => ?_)
      · exact absurd c_25 (by subst er_1 ev4_16 er_3; exact nI_ge hk (W_len i hi).1)
      · refine lv_aload_n K.1.1 K.1.2.1 dX9_stands_28 rfl (lv_at hl 2 rfl) ?_
        refine lv_iload_n K.1.1 K.1.2.1 dX9_stands_29 rfl (lv_at hl 3 rfl) ?_
        refine lv_iload K.1.1 K.1.2.1 dX9_stands_30 (lv_at hl 0 rfl) ?_
        refine lv_iadd K.1.1 K.1.2.1 dX9_stands_32 ?_
        refine m_cV (n := 1) (As := [.int (st + v4_16)]) (rest := []) K hP hS (MX5_get l G B _ q n_q hq (st + v4_16) ) (Nat.lt_of_succ_lt hq.1) hq.2.1 rfl q_466 q_436 q_437 q_85 q_438 hv_X5_get ⟨Nat.le_of_ble_eq_true rfl, Nat.le_of_ble_eq_true rfl⟩ rfl hl.1 rfl (Nat.le_of_ble_eq_true rfl) dX9_stands_33 ⟨Nat.zero_le _, Nat.zero_le _⟩ (fun H locs hP hS => ?_)
        refine lv_topi (fun r_4 er_4 => ?_)
        refine lv_aload_n K.1.1 K.1.2.1 dX9_stands_36 rfl (lv_at hl 1 rfl) ?_
        refine vk_getf K.1.1 K.1.2.1 (K.2.2.2.2.2.2.2.1.2 i hi) hS K.1.2.2.2.1 (K.w q_1551) (fun _ h => h) dX9_stands_37 ?_
        refine lv_iload K.1.1 K.1.2.1 dX9_stands_40 (lv_at hl 0 rfl) ?_
        refine m_cVR (n := 1) (As := [.int v4_16]) (rest := [.int r_4]) K hP hS (MJ0_charAt_5068e l G B _ i hi v4_16 (by subst er_1 ev4_16 er_3 er_4; exact vp_ofN (by have := W_len i hi; omega) hk)) (vk_recv (i := i) (adK := fun j => G.2.2.2 (8 + j)) K.2.2.2.2.2.2.2.1.1 hi hS) q_467 q_468 q_469 q_101 q_470 hv_J0_charAt_5068e ⟨Nat.le_of_ble_eq_true rfl, Nat.le_of_ble_eq_true rfl⟩ rfl hl.1 rfl (Nat.le_of_ble_eq_true rfl) dX9_stands_42 ⟨Nat.zero_le _, Nat.zero_le _⟩ (fun H locs hP hS => ?_)
        refine lv_topi (fun r_5 er_5 => ?_)
        refine lv_icmp_eq (tgt := 50) K.1.1 K.1.2.1 dX9_stands_45 (by decide) (fun c_45 => ?_) (fun c_45 => ?_)
        · obtain ⟨x_6, ex_6⟩ : ∃ y : Int32, y = v4_16 + (1) := ⟨_, rfl⟩
          refine lv_iinc (v := x_6) (lv' := [(4, .int x_6), (0, .ref (G.2.2.2 i)), (1, .ref (B + q)), (2, .int st), (3, .int ln)]) K.1.1 K.1.2.1 dX9_stands_50 hl (k := 0) rfl (by rw [ex_6]; rfl) (by decide) rfl (fun ls hl => ?_)
          refine lv_goto (tgt := 16) K.1.1 K.1.2.1 dX9_stands_53 (by decide) ?_
          exact ih_16 _ _ _ _ (by subst er_1 ev4_16 er_3 er_4 er_5 ex_6; exact nI_1 _) (by subst er_1 ev4_16 er_3 er_4 er_5 ex_6; exact lt_s inv_16 (c_45.trans (by rw [cn_nI hk31]))) hP hS (lv_sub hl [0, 1, 2, 3, 4] rfl)
        · refine lv_iconst (v := 0) K.1.1 K.1.2.1 dX9_stands_48 (by decide) ?_
          exact m_zret K hr hlocks hP hS dX9_stands_49 (by first | rfl | (subst er_1 ev4_16 er_3 er_4 er_5; rfl)) (by subst er_1 ev4_16 er_3 er_4 er_5; rw [W_stands, if_pos c_8, if_neg (fun h => c_45 (by rw [cn_nI hk31]; exact h k hk))]) rfl
  · refine lv_iconst (v := 0) K.1.1 K.1.2.1 dX9_stands_11 (by decide) ?_
    exact m_zret K hr hlocks hP hS dX9_stands_12 (by first | rfl | (subst er_1; rfl)) (by subst er_1; rw [W_stands, if_neg c_8]) rfl

set_option maxHeartbeats 4000000 in
set_option maxRecDepth 100000 in
theorem MX9_of (l : Launch) (G : GG) (B : Nat) (μ : Mm) (q n_q : Nat) (hq : isR q n_q) (st : Int32) (ln : Int32) : CM l yX9_of (.code yX9_of cX9_of 5 (Option.some (FieldType.object RX9))) 5 109 G B [.ref (B + q), .int st, .int ln] μ (some (wv G (W_of μ q n_q st ln))) μ := by
  refine CM.of (by decide) (Nat.le_of_ble_eq_true rfl) ?_
  intro p e s m below meth c ls K hr hlocks hP hl
  have hS : va_S (AA B) s.heap s.heap [] := va_S.rf
  have hl : lv_has ls 5 [(0, .ref (B + q)), (1, .int st), (2, .int ln)] := hl
  obtain ⟨t0, hZ0, hT0⟩ := K.2.2.2.1
  refine lv_iconst (v := 0) K.1.1 K.1.2.1 dX9_of_0 (by decide) ?_
  refine lv_istore_n (lv' := [(3, .int 0), (0, .ref (B + q)), (1, .int st), (2, .int ln)]) K.1.1 K.1.2.1 dX9_of_1 rfl hl (by decide) rfl (fun ls hl => ?_)
  refine up_to (N := 8) (P := fun k : Nat => ∀ (v3_2 : Int32) (H : Heap) (locs : List Loc) (ls : Array Slot), (v3_2 = nI k) → (∀ j : Nat, j < k → decide (¬ W_stands μ q n_q j st ln = 0) = false) → MP G B μ H → va_S (AA B) s.heap H locs → lv_has ls 5 [(3, .int v3_2), (0, .ref (B + q)), (1, .int st), (2, .int ln)] → W p l e ({ frames := 5, cells := 0, slots := 0, locals := 109 } : Room) s m ([.ref (B + q), .int st, .int ln] : List Value).toArray below meth c H locs 0 0 (MF below G B (some (wv G (W_of μ q n_q st ln))) μ ([.ref (B + q), .int st, .int ln] : List Value).toArray s) (F0 m 2 ls [])) ?_ ?_ _ _ _ _ (by first | rfl | (skip; rfl)) (by intro j hj; exact absurd hj (Nat.not_lt_zero _)) hP hS (lv_sub hl [0, 1, 2, 3] rfl)
  · intro v3_2 H locs ls ev3_2 inv_2 hP hS hl
    refine lv_iload_n K.1.1 K.1.2.1 dX9_of_2 rfl (lv_at hl 0 rfl) ?_
    refine va_gets K.1.1 K.1.2.1 hZ0 hS K.1.2.2.2.1 (K.w q_449) (fun _ h => h) dX9_of_3 ?_
    refine va_tlen K.1.1 K.1.2.1 hT0 hS (v := nI 8) rfl dX9_of_6 ?_
    refine lv_icmp_ge (tgt := 42) K.1.1 K.1.2.1 dX9_of_7 (by decide) (fun c_7 => ?_) (fun c_7 => ?_)
    · refine lv_null K.1.1 K.1.2.1 dX9_of_42 ?_
      exact m_aret K hr hlocks hP hS (Or.inl rfl) dX9_of_43 (by subst ev3_2; rw [show W_of μ q n_q st ln = -1 from fstI_none inv_2]; rfl) rfl
    · exact absurd c_7 (not_not_intro (by subst ev3_2; exact Int32.le_refl _))
  · intro k hk ih_2 v3_2 H locs ls ev3_2 inv_2 hP hS hl
    refine lv_iload_n K.1.1 K.1.2.1 dX9_of_2 rfl (lv_at hl 0 rfl) ?_
    refine va_gets K.1.1 K.1.2.1 hZ0 hS K.1.2.2.2.1 (K.w q_449) (fun _ h => h) dX9_of_3 ?_
    refine va_tlen K.1.1 K.1.2.1 hT0 hS (v := nI 8) rfl dX9_of_6 ?_
    refine lv_icmp_ge (tgt := 42) K.1.1 K.1.2.1 dX9_of_7 (by decide) (fun c_7 => ?_) (fun c_7 => ?_)
    · exact absurd c_7 (by subst ev3_2; exact nI_ge hk (by decide))
    · refine va_gets K.1.1 K.1.2.1 hZ0 hS K.1.2.2.2.1 (K.w q_449) (fun _ h => h) dX9_of_10 ?_
      refine lv_iload_n K.1.1 K.1.2.1 dX9_of_13 rfl (lv_at hl 0 rfl) ?_
      refine vb_tq K.1.1 K.1.2.1 hT0 hS (i := v3_2) (by subst ev3_2; exact vp_ofN (by omega) hk) (v := .ref (G.2.2.2 k)) (by subst ev3_2; rw [nI_clamp (by omega)]) dX9_of_14 ?_
      refine lv_astore (lv' := [(4, .ref (G.2.2.2 k)), (3, .int v3_2), (0, .ref (B + q)), (1, .int st), (2, .int ln)]) K.1.1 K.1.2.1 dX9_of_15 hl (by decide) rfl (fun ls hl => ?_)
      refine lv_aload K.1.1 K.1.2.1 dX9_of_17 (lv_at hl 0 rfl) ?_
      refine lv_ifnull K.1.1 K.1.2.1 dX9_of_19 ?_
      refine lv_aload K.1.1 K.1.2.1 dX9_of_22 (lv_at hl 0 rfl) ?_
      refine lv_aload_n K.1.1 K.1.2.1 dX9_of_24 rfl (lv_at hl 2 rfl) ?_
      refine lv_iload_n K.1.1 K.1.2.1 dX9_of_25 rfl (lv_at hl 3 rfl) ?_
      refine lv_iload_n K.1.1 K.1.2.1 dX9_of_26 rfl (lv_at hl 4 rfl) ?_
      refine m_cVR (n := 3) (As := [.ref (B + q), .int st, .int ln]) (rest := []) K hP hS (MX9_stands l G B _ k hk q n_q hq st ln ) (w_recv (K.2.2.2.2.2.1 k hk).1 hS) q_451 q_453 q_3 q_100 q_455 hv_X9_stands ⟨Nat.le_of_ble_eq_true rfl, Nat.le_of_ble_eq_true rfl⟩ rfl hl.1 rfl (Nat.le_of_ble_eq_true rfl) dX9_of_27 ⟨Nat.zero_le _, Nat.zero_le _⟩ (fun H locs hP hS => ?_)
      refine lv_topi (fun r_1 er_1 => ?_)
      refine lv_if_eq (tgt := 36) K.1.1 K.1.2.1 dX9_of_30 (by decide) (fun c_30 => ?_) (fun c_30 => ?_)
      · obtain ⟨x_2, ex_2⟩ : ∃ y : Int32, y = v3_2 + (1) := ⟨_, rfl⟩
        refine lv_iinc (v := x_2) (lv' := [(3, .int x_2), (4, .ref (G.2.2.2 k)), (0, .ref (B + q)), (1, .int st), (2, .int ln)]) K.1.1 K.1.2.1 dX9_of_36 hl (k := 1) rfl (by rw [ex_2]; rfl) (by decide) rfl (fun ls hl => ?_)
        refine lv_goto (tgt := 2) K.1.1 K.1.2.1 dX9_of_39 (by decide) ?_
        exact ih_2 _ _ _ _ (by subst ev3_2 er_1 ex_2; exact nI_1 _) (by subst ev3_2 er_1 ex_2; exact lt_s inv_2 (decide_eq_false (not_not_intro c_30))) hP hS (lv_sub hl [0, 2, 3, 4] rfl)
      · refine lv_aload K.1.1 K.1.2.1 dX9_of_33 (lv_at hl 0 rfl) ?_
        exact m_aret K hr hlocks hP hS (Or.inr ⟨_, rfl⟩) dX9_of_35 (by subst ev3_2 er_1; rw [show W_of μ q n_q st ln = nI k from fstI_some hk inv_2 (decide_eq_true c_30)]; exact congrArg some (wv_nI hk)) rfl

set_option maxHeartbeats 4000000 in
set_option maxRecDepth 100000 in
theorem MX3_faultOfByte (l : Launch) (G : GG) (B : Nat) (μ : Mm) (v : Int32) : CM l yX3_faultOfByte (.code yX3_faultOfByte cX3_faultOfByte 2 (Option.some FieldType.int)) 1 22 G B [.ref (B + 254), .int v] μ (some (.int (D_faultOfByte μ v))) μ := by
  refine CM.of (by decide) (Nat.le_of_ble_eq_true rfl) ?_
  intro p e s m below meth c ls K hr hlocks hP hl
  have hS : va_S (AA B) s.heap s.heap [] := va_S.rf
  have hl : lv_has ls 2 [(0, .ref (B + 254)), (1, .int v)] := hl
  refine lv_iload_n K.1.1 K.1.2.1 dX3_faultOfByte_0 rfl (lv_at hl 1 rfl) ?_
  refine lv_iconst (v := 0) K.1.1 K.1.2.1 dX3_faultOfByte_1 (by decide) ?_
  refine lv_bipush (v := 127) K.1.1 K.1.2.1 dX3_faultOfByte_2 (by decide) ?_
  refine m_cSN (n := 3) (As := [.int v, .int 0, .int 127]) (rest := []) K hP hS (MX10_isWithin l G B _ v 0 127 ) K.2.2.1.1 q_444 q_82 q_445 hn_X10_isWithin ⟨Nat.le_of_ble_eq_true rfl, Nat.le_of_ble_eq_true rfl⟩ rfl hl.1 rfl (Nat.le_of_ble_eq_true rfl) dX3_faultOfByte_4 ⟨Nat.zero_le _, Nat.zero_le _⟩ (fun H locs hP hS => ?_)
  refine lv_topi (fun r_1 er_1 => ?_)
  refine lv_if_ne (tgt := 12) K.1.1 K.1.2.1 dX3_faultOfByte_7 (by decide) (fun c_7 => ?_) (fun c_7 => ?_)
  · refine lv_aload_n K.1.1 K.1.2.1 dX3_faultOfByte_12 rfl (lv_at hl 0 rfl) ?_
    refine m_geti K hP (by decide) sh_254 rfl tuX3 0 (by decide) rfl q_365 dX3_faultOfByte_13 ?_
    refine lv_topi (fun g_2 eg_2 => ?_)
    refine lv_sipush (v := 150) K.1.1 K.1.2.1 dX3_faultOfByte_16 (by decide) ?_
    refine lv_icmp_lt (tgt := 26) K.1.1 K.1.2.1 dX3_faultOfByte_19 (by decide) (fun c_19 => ?_) (fun c_19 => ?_)
    · refine lv_iconst (v := 0) K.1.1 K.1.2.1 dX3_faultOfByte_26 (by decide) ?_
      exact m_iret K hr hlocks hP hS dX3_faultOfByte_27 (by subst er_1 eg_2; first | (simp only [D_faultOfByte, c_7, c_19, Int32.not_le.mpr c_19, if_true, if_false, ite_true, ite_false, reduceIte, not_true, not_false_iff]; done) | simp [D_faultOfByte, c_7, c_19, Int32.not_le.mpr c_19]) rfl
    · refine lv_iconst (v := 3) K.1.1 K.1.2.1 dX3_faultOfByte_22 (by decide) ?_
      refine lv_goto (tgt := 27) K.1.1 K.1.2.1 dX3_faultOfByte_23 (by decide) ?_
      exact m_iret K hr hlocks hP hS dX3_faultOfByte_27 (by subst er_1 eg_2; first | (simp only [D_faultOfByte, c_7, c_19, Int32.not_lt.mp c_19, if_true, if_false, ite_true, ite_false, reduceIte, not_true, not_false_iff]; done) | simp [D_faultOfByte, c_7, c_19, Int32.not_lt.mp c_19]) rfl
  · refine lv_iconst (v := 2) K.1.1 K.1.2.1 dX3_faultOfByte_10 (by decide) ?_
    exact m_iret K hr hlocks hP hS dX3_faultOfByte_11 (by subst er_1; first | (simp only [D_faultOfByte, c_7, if_true, if_false, ite_true, ite_false, reduceIte, not_true, not_false_iff]; done) | simp [D_faultOfByte, c_7]) rfl

set_option maxHeartbeats 4000000 in
set_option maxRecDepth 100000 in
theorem MX3_append (l : Launch) (G : GG) (B : Nat) (μ : Mm) (v : Int32) : CM l yX3_append (.code yX3_append cX3_append 2 (Option.some FieldType.int)) 1 22 G B [.ref (B + 254), .int v] μ (some (.int (D_appendM μ v 254 0))) (D_appendM μ v) := by
  refine CM.of (by decide) (Nat.le_of_ble_eq_true rfl) ?_
  intro p e s m below meth c ls K hr hlocks hP hl
  have hS : va_S (AA B) s.heap s.heap [] := va_S.rf
  have hl : lv_has ls 2 [(0, .ref (B + 254)), (1, .int v)] := hl
  refine lv_aload_n K.1.1 K.1.2.1 dX3_append_0 rfl (lv_at hl 0 rfl) ?_
  refine m_getr K hP (by decide) sh_254 rfl tuX3 3 (by decide) rfl q_371 dX3_append_1 ?_
  refine lv_aload_n K.1.1 K.1.2.1 dX3_append_4 rfl (lv_at hl 0 rfl) ?_
  refine m_geti K hP (by decide) sh_254 rfl tuX3 0 (by decide) rfl q_365 dX3_append_5 ?_
  refine lv_topi (fun g_1 eg_1 => ?_)
  refine lv_iload_n K.1.1 K.1.2.1 dX3_append_8 rfl (lv_at hl 1 rfl) ?_
  refine m_cV (n := 2) (As := [.int g_1, .int v]) (rest := []) K hP hS (MX5_put l G B _ 257 150 isR_257 g_1 v ) (Nat.lt_of_succ_lt isR_257.1) isR_257.2.1 rfl q_513 q_514 q_515 q_85 q_516 hv_X5_put ⟨Nat.le_of_ble_eq_true rfl, Nat.le_of_ble_eq_true rfl⟩ rfl hl.1 rfl (Nat.le_of_ble_eq_true rfl) dX3_append_9 ⟨Nat.zero_le _, Nat.zero_le _⟩ (fun H locs hP hS => ?_)
  refine W.eq (g2 := F0 m 12 ls []) rfl ?_
  refine lv_aload_n K.1.1 K.1.2.1 dX3_append_12 rfl (lv_at hl 0 rfl) ?_
  refine lv_dup K.1.1 K.1.2.1 dX3_append_13 rfl ?_
  refine m_geti K hP (by decide) sh_254 rfl tuX3 0 (by decide) rfl q_365 dX3_append_14 ?_
  refine lv_topi (fun g_2 eg_2 => ?_)
  refine lv_iconst (v := 1) K.1.1 K.1.2.1 dX3_append_17 (by decide) ?_
  refine lv_iadd K.1.1 K.1.2.1 dX3_append_18 ?_
  refine m_puti K hP hS (by decide) sh_254 rfl tuX3 tyX3 tyX3_ok nmX3 0 (by decide) rfl rfl (by decide +kernel) q_365 dX3_append_19 (fun H locs hP hS => ?_)
  refine lv_aload_n K.1.1 K.1.2.1 dX3_append_22 rfl (lv_at hl 0 rfl) ?_
  refine m_geti K hP (by decide) sh_254 rfl tuX3 0 (by decide) rfl q_365 dX3_append_23 ?_
  refine lv_topi (fun g_3 eg_3 => ?_)
  exact m_iret K hr hlocks hP hS dX3_append_26 (by subst eg_1 eg_2 eg_3; rfl) (by subst eg_1 eg_2 eg_3; rfl)

set_option maxHeartbeats 4000000 in
set_option maxRecDepth 100000 in
theorem MX3_empty (l : Launch) (G : GG) (B : Nat) (μ : Mm) : CM l yX3_empty (.code yX3_empty cX3_empty 2 (Option.some FieldType.int)) 0 0 G B [.ref (B + 254)] μ (some (.int (μ 254 0))) (up2 μ 254 0 0) := by
  refine CM.of (by decide) (Nat.le_of_ble_eq_true rfl) ?_
  intro p e s m below meth c ls K hr hlocks hP hl
  have hS : va_S (AA B) s.heap s.heap [] := va_S.rf
  have hl : lv_has ls 2 [(0, .ref (B + 254))] := hl
  refine lv_aload_n K.1.1 K.1.2.1 dX3_empty_0 rfl (lv_at hl 0 rfl) ?_
  refine m_geti K hP (by decide) sh_254 rfl tuX3 0 (by decide) rfl q_365 dX3_empty_1 ?_
  refine lv_topi (fun g_1 eg_1 => ?_)
  refine lv_istore_n (lv' := [(1, .int g_1), (0, .ref (B + 254))]) K.1.1 K.1.2.1 dX3_empty_4 rfl hl (by decide) rfl (fun ls hl => ?_)
  refine lv_aload_n K.1.1 K.1.2.1 dX3_empty_5 rfl (lv_at hl 1 rfl) ?_
  refine lv_iconst (v := 0) K.1.1 K.1.2.1 dX3_empty_6 (by decide) ?_
  refine m_puti K hP hS (by decide) sh_254 rfl tuX3 tyX3 tyX3_ok nmX3 0 (by decide) rfl rfl (by decide +kernel) q_365 dX3_empty_7 (fun H locs hP hS => ?_)
  refine lv_iload_n K.1.1 K.1.2.1 dX3_empty_10 rfl (lv_at hl 0 rfl) ?_
  exact m_iret K hr hlocks hP hS dX3_empty_11 (by subst eg_1; rfl) (by subst eg_1; rfl)

set_option maxHeartbeats 4000000 in
set_option maxRecDepth 100000 in
theorem MX3_rewind (l : Launch) (G : GG) (B : Nat) (μ : Mm) : CM l yX3_rewind (.code yX3_rewind cX3_rewind 1 Option.none) 0 0 G B [.ref (B + 254)] μ none (D_rewind μ) := by
  refine CM.of (by decide) (Nat.le_of_ble_eq_true rfl) ?_
  intro p e s m below meth c ls K hr hlocks hP hl
  have hS : va_S (AA B) s.heap s.heap [] := va_S.rf
  have hl : lv_has ls 1 [(0, .ref (B + 254))] := hl
  refine lv_aload_n K.1.1 K.1.2.1 dX3_rewind_0 rfl (lv_at hl 0 rfl) ?_
  refine lv_iconst (v := 0) K.1.1 K.1.2.1 dX3_rewind_1 (by decide) ?_
  refine m_puti K hP hS (by decide) sh_254 rfl tuX3 tyX3 tyX3_ok nmX3 4 (by decide) rfl rfl (by decide +kernel) q_372 dX3_rewind_2 (fun H locs hP hS => ?_)
  refine lv_aload_n K.1.1 K.1.2.1 dX3_rewind_5 rfl (lv_at hl 0 rfl) ?_
  refine lv_iconst (v := (-1)) K.1.1 K.1.2.1 dX3_rewind_6 (by decide) ?_
  refine m_puti K hP hS (by decide) sh_254 rfl tuX3 tyX3 tyX3_ok nmX3 5 (by decide) rfl rfl (by decide +kernel) q_373 dX3_rewind_7 (fun H locs hP hS => ?_)
  exact m_vret K hr hlocks hP hS dX3_rewind_10 rfl (by skip; rfl)

set_option maxHeartbeats 4000000 in
set_option maxRecDepth 100000 in
theorem MX3_byteAt (l : Launch) (G : GG) (B : Nat) (μ : Mm) (i : Int32) : CM l yX3_byteAt (.code yX3_byteAt cX3_byteAt 2 (Option.some FieldType.int)) 1 21 G B [.ref (B + 254), .int i] μ (some (.int (D_byteAt μ i))) μ := by
  refine CM.of (by decide) (Nat.le_of_ble_eq_true rfl) ?_
  intro p e s m below meth c ls K hr hlocks hP hl
  have hS : va_S (AA B) s.heap s.heap [] := va_S.rf
  have hl : lv_has ls 2 [(0, .ref (B + 254)), (1, .int i)] := hl
  refine lv_iload_n K.1.1 K.1.2.1 dX3_byteAt_0 rfl (lv_at hl 1 rfl) ?_
  refine lv_aload_n K.1.1 K.1.2.1 dX3_byteAt_1 rfl (lv_at hl 0 rfl) ?_
  refine m_geti K hP (by decide) sh_254 rfl tuX3 0 (by decide) rfl q_365 dX3_byteAt_2 ?_
  refine lv_topi (fun g_1 eg_1 => ?_)
  refine lv_icmp_ge (tgt := 19) K.1.1 K.1.2.1 dX3_byteAt_5 (by decide) (fun c_5 => ?_) (fun c_5 => ?_)
  · refine lv_iconst (v := (-1)) K.1.1 K.1.2.1 dX3_byteAt_19 (by decide) ?_
    exact m_iret K hr hlocks hP hS dX3_byteAt_20 (by subst eg_1; first | (simp only [D_byteAt, c_5, Int32.not_lt.mpr c_5, if_true, if_false, ite_true, ite_false, reduceIte, not_true, not_false_iff]; done) | simp [D_byteAt, c_5, Int32.not_lt.mpr c_5]) rfl
  · refine lv_aload_n K.1.1 K.1.2.1 dX3_byteAt_8 rfl (lv_at hl 0 rfl) ?_
    refine m_getr K hP (by decide) sh_254 rfl tuX3 3 (by decide) rfl q_371 dX3_byteAt_9 ?_
    refine lv_iload_n K.1.1 K.1.2.1 dX3_byteAt_12 rfl (lv_at hl 1 rfl) ?_
    refine m_cV (n := 1) (As := [.int i]) (rest := []) K hP hS (MX5_get l G B _ 257 150 isR_257 i ) (Nat.lt_of_succ_lt isR_257.1) isR_257.2.1 rfl q_435 q_436 q_437 q_85 q_438 hv_X5_get ⟨Nat.le_of_ble_eq_true rfl, Nat.le_of_ble_eq_true rfl⟩ rfl hl.1 rfl (Nat.le_of_ble_eq_true rfl) dX3_byteAt_13 ⟨Nat.zero_le _, Nat.zero_le _⟩ (fun H locs hP hS => ?_)
    refine lv_topi (fun r_2 er_2 => ?_)
    refine lv_goto (tgt := 20) K.1.1 K.1.2.1 dX3_byteAt_16 (by decide) ?_
    exact m_iret K hr hlocks hP hS dX3_byteAt_20 (by subst eg_1 er_2; first | (simp only [D_byteAt, c_5, Int32.not_le.mp c_5, if_true, if_false, ite_true, ite_false, reduceIte, not_true, not_false_iff]; done) | simp [D_byteAt, c_5, Int32.not_le.mp c_5]) rfl

set_option maxHeartbeats 4000000 in
set_option maxRecDepth 100000 in
theorem MX3_skipSpaces (l : Launch) (G : GG) (B : Nat) (μ : Mm) : CM l yX3_skipSpaces (.code yX3_skipSpaces cX3_skipSpaces 1 Option.none) 2 42 G B [.ref (B + 254)] μ none (D_skipSpaces μ) := by
  refine CM.of (by decide) (Nat.le_of_ble_eq_true rfl) ?_
  intro p e s m below meth c ls K hr hlocks hP hl
  have hS : va_S (AA B) s.heap s.heap [] := va_S.rf
  have hl : lv_has ls 1 [(0, .ref (B + 254))] := hl
  have lp_0 : ∀ n : Nat, ∀ (μ_0 : Mm) (H : Heap) (locs : List Loc) (ls : Array Slot), (cn (μ_0 254 0) ≤ cn (μ_0 254 4) + n) → (D_skip (cn (μ 254 0)) μ = D_skip n μ_0) → MP G B μ_0 H → va_S (AA B) s.heap H locs → lv_has ls 1 [(0, .ref (B + 254))] → W p l e ({ frames := 2, cells := 0, slots := 0, locals := 42 } : Room) s m ([.ref (B + 254)] : List Value).toArray below meth c H locs 0 0 (MF below G B none (D_skipSpaces μ) ([.ref (B + 254)] : List Value).toArray s) (F0 m 0 ls []) := by
    intro n
    induction n with
    | zero =>
      intro μ_0 H locs ls inv0_0 fin0_0 hP hS hl
      refine lv_aload_n K.1.1 K.1.2.1 dX3_skipSpaces_0 rfl (lv_at hl 0 rfl) ?_
      refine m_geti K hP (by decide) sh_254 rfl tuX3 4 (by decide) rfl q_372 dX3_skipSpaces_1 ?_
      refine lv_topi (fun g_1 eg_1 => ?_)
      refine lv_aload_n K.1.1 K.1.2.1 dX3_skipSpaces_4 rfl (lv_at hl 0 rfl) ?_
      refine m_geti K hP (by decide) sh_254 rfl tuX3 0 (by decide) rfl q_365 dX3_skipSpaces_5 ?_
      refine lv_topi (fun g_2 eg_2 => ?_)
      refine lv_icmp_ge (tgt := 37) K.1.1 K.1.2.1 dX3_skipSpaces_8 (by decide) (fun c_8 => ?_) (fun c_8 => ?_)
      · exact m_vret K hr hlocks hP hS dX3_skipSpaces_37 rfl (by subst eg_1 eg_2; rw [D_skipSpaces_eq, fin0_0]; first | rfl | rw [D_skip, if_neg (Int32.not_lt.mpr c_8)] | rw [D_skip, if_pos (Int32.not_le.mp c_8), if_neg c_21])
      · refine lv_aload_n K.1.1 K.1.2.1 dX3_skipSpaces_11 rfl (lv_at hl 0 rfl) ?_
        refine lv_aload_n K.1.1 K.1.2.1 dX3_skipSpaces_12 rfl (lv_at hl 0 rfl) ?_
        refine m_geti K hP (by decide) sh_254 rfl tuX3 4 (by decide) rfl q_372 dX3_skipSpaces_13 ?_
        refine lv_topi (fun g_3 eg_3 => ?_)
        refine m_cV (n := 1) (As := [.int g_3]) (rest := []) K hP hS (MX3_byteAt l G B _ g_3 ) (by decide) sh_254 rfl q_431 q_433 q_1 q_90 q_434 hv_X3_byteAt ⟨Nat.le_of_ble_eq_true rfl, Nat.le_of_ble_eq_true rfl⟩ rfl hl.1 rfl (Nat.le_of_ble_eq_true rfl) dX3_skipSpaces_16 ⟨Nat.zero_le _, Nat.zero_le _⟩ (fun H locs hP hS => ?_)
        refine lv_topi (fun r_4 er_4 => ?_)
        refine lv_bipush (v := 32) K.1.1 K.1.2.1 dX3_skipSpaces_19 (by decide) ?_
        refine lv_icmp_ne (tgt := 37) K.1.1 K.1.2.1 dX3_skipSpaces_21 (by decide) (fun c_21 => ?_) (fun c_21 => ?_)
        · exact m_vret K hr hlocks hP hS dX3_skipSpaces_37 rfl (by subst eg_1 eg_2 eg_3 er_4; rw [D_skipSpaces_eq, fin0_0]; first | rfl | rw [D_skip, if_neg (Int32.not_lt.mpr c_8)] | rw [D_skip, if_pos (Int32.not_le.mp c_8), if_neg c_21])
        · exact absurd c_21 (by subst eg_1 eg_2 eg_3 er_4; exact fun h => cur_end inv0_0 (Int32.not_le.mp c_8) (byte_nn (v := 32) h (by decide)))
    | succ n ih_0 =>
      intro μ_0 H locs ls inv0_0 fin0_0 hP hS hl
      refine lv_aload_n K.1.1 K.1.2.1 dX3_skipSpaces_0 rfl (lv_at hl 0 rfl) ?_
      refine m_geti K hP (by decide) sh_254 rfl tuX3 4 (by decide) rfl q_372 dX3_skipSpaces_1 ?_
      refine lv_topi (fun g_5 eg_5 => ?_)
      refine lv_aload_n K.1.1 K.1.2.1 dX3_skipSpaces_4 rfl (lv_at hl 0 rfl) ?_
      refine m_geti K hP (by decide) sh_254 rfl tuX3 0 (by decide) rfl q_365 dX3_skipSpaces_5 ?_
      refine lv_topi (fun g_6 eg_6 => ?_)
      refine lv_icmp_ge (tgt := 37) K.1.1 K.1.2.1 dX3_skipSpaces_8 (by decide) (fun c_8 => ?_) (fun c_8 => ?_)
      · exact m_vret K hr hlocks hP hS dX3_skipSpaces_37 rfl (by subst eg_5 eg_6; rw [D_skipSpaces_eq, fin0_0]; first | rfl | rw [D_skip, if_neg (Int32.not_lt.mpr c_8)] | rw [D_skip, if_pos (Int32.not_le.mp c_8), if_neg c_21])
      · refine lv_aload_n K.1.1 K.1.2.1 dX3_skipSpaces_11 rfl (lv_at hl 0 rfl) ?_
        refine lv_aload_n K.1.1 K.1.2.1 dX3_skipSpaces_12 rfl (lv_at hl 0 rfl) ?_
        refine m_geti K hP (by decide) sh_254 rfl tuX3 4 (by decide) rfl q_372 dX3_skipSpaces_13 ?_
        refine lv_topi (fun g_7 eg_7 => ?_)
        refine m_cV (n := 1) (As := [.int g_7]) (rest := []) K hP hS (MX3_byteAt l G B _ g_7 ) (by decide) sh_254 rfl q_431 q_433 q_1 q_90 q_434 hv_X3_byteAt ⟨Nat.le_of_ble_eq_true rfl, Nat.le_of_ble_eq_true rfl⟩ rfl hl.1 rfl (Nat.le_of_ble_eq_true rfl) dX3_skipSpaces_16 ⟨Nat.zero_le _, Nat.zero_le _⟩ (fun H locs hP hS => ?_)
        refine lv_topi (fun r_8 er_8 => ?_)
        refine lv_bipush (v := 32) K.1.1 K.1.2.1 dX3_skipSpaces_19 (by decide) ?_
        refine lv_icmp_ne (tgt := 37) K.1.1 K.1.2.1 dX3_skipSpaces_21 (by decide) (fun c_21 => ?_) (fun c_21 => ?_)
        · exact m_vret K hr hlocks hP hS dX3_skipSpaces_37 rfl (by subst eg_5 eg_6 eg_7 er_8; rw [D_skipSpaces_eq, fin0_0]; first | rfl | rw [D_skip, if_neg (Int32.not_lt.mpr c_8)] | rw [D_skip, if_pos (Int32.not_le.mp c_8), if_neg c_21])
        · refine lv_aload_n K.1.1 K.1.2.1 dX3_skipSpaces_24 rfl (lv_at hl 0 rfl) ?_
          refine lv_dup K.1.1 K.1.2.1 dX3_skipSpaces_25 rfl ?_
          refine m_geti K hP (by decide) sh_254 rfl tuX3 4 (by decide) rfl q_372 dX3_skipSpaces_26 ?_
          refine lv_topi (fun g_9 eg_9 => ?_)
          refine lv_iconst (v := 1) K.1.1 K.1.2.1 dX3_skipSpaces_29 (by decide) ?_
          refine lv_iadd K.1.1 K.1.2.1 dX3_skipSpaces_30 ?_
          refine m_puti K hP hS (by decide) sh_254 rfl tuX3 tyX3 tyX3_ok nmX3 4 (by decide) rfl rfl (by decide +kernel) q_372 dX3_skipSpaces_31 (fun H locs hP hS => ?_)
          refine lv_goto (tgt := 0) K.1.1 K.1.2.1 dX3_skipSpaces_34 (by decide) ?_
          exact ih_0  _ _ _ _ (by subst eg_5 eg_6 eg_7 er_8 eg_9; show cn (D_next μ_0 254 0) ≤ cn (D_next μ_0 254 4) + n; rw [D_next_0, D_next_4]; exact cur_step inv0_0 (Int32.not_le.mp c_8) (byte_nn (v := 32) c_21 (by decide))) (by subst eg_5 eg_6 eg_7 er_8 eg_9; rw [fin0_0, D_skip, if_pos (Int32.not_le.mp c_8), if_pos c_21]; rfl) hP hS (lv_sub hl [0] rfl)
  exact lp_0 (cn (μ 254 0))  _ _ _ _ (by exact Nat.le_add_left _ _) (by rfl) hP hS (lv_sub hl [0] rfl)

