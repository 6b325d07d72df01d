set_option maxHeartbeats 4000000 in
set_option maxRecDepth 100000 in
theorem MX10_mixTraders (l : Launch) (G : GG) (B : Nat) (μ : Mm) (h : Int64) : CM l yX10_mixTraders (.code yX10_mixTraders cX10_mixTraders 7 (Option.some FieldType.long)) 4 86 G B [.ref (B + 0), .long h] μ (some (.long (X_mixTraders μ h (cn (μ (1 + 1) 0))))) μ := by
  refine CM.of (by decide) (Nat.le_of_ble_eq_true rfl) ?_
  intro p e s m below meth c ls K hr hlocks hP hl
  have hS : va_S (AA B) s.heap s.heap [] := va_S.rf
  have hl : lv_has ls 7 [(0, .ref (B + 0)), (1, .long h)] := hl
  refine lv_lload_n K.1.1 K.1.2.1 dX10_mixTraders_0 rfl (lv_at hl 1 rfl) ?_
  refine lv_lstore_n (lv' := [(3, .long h), (0, .ref (B + 0)), (1, .long h)]) K.1.1 K.1.2.1 dX10_mixTraders_1 rfl hl (by decide) rfl (fun ls hl => ?_)
  refine lv_iconst (v := 0) K.1.1 K.1.2.1 dX10_mixTraders_2 (by decide) ?_
  refine lv_istore (lv' := [(5, .int 0), (3, .long h), (0, .ref (B + 0)), (1, .long h)]) K.1.1 K.1.2.1 dX10_mixTraders_3 hl (by decide) rfl (fun ls hl => ?_)
  refine up_to (N := cn (μ (1 + 1) 0)) (P := fun t : Nat => ∀ (v5_5 : Int32) (v3_5 : Int64) (H : Heap) (locs : List Loc) (ls : Array Slot), (v5_5 = nI t) → (v3_5 = X_mixTraders μ h t) → MP G B μ H → va_S (AA B) s.heap H locs → lv_has ls 7 [(5, .int v5_5), (3, .long v3_5), (0, .ref (B + 0)), (1, .long h)] → W p l e ({ frames := 4, cells := 0, slots := 0, locals := 86 } : Room) s m ([.ref (B + 0), .long h] : List Value).toArray below meth c H locs 0 0 (MF below G B (some (.long (X_mixTraders μ h (cn (μ (1 + 1) 0))))) μ ([.ref (B + 0), .long h] : List Value).toArray s) (F0 m 5 ls [])) ?_ ?_ _ _ _ _ _ (by first | rfl | (skip; rfl)) (by first | rfl | (skip; rfl)) hP hS (lv_sub hl [0, 1, 2, 3] rfl)
  · intro v5_5 v3_5 H locs ls ev5_5 ev3_5 hP hS hl
    refine lv_iload K.1.1 K.1.2.1 dX10_mixTraders_5 (lv_at hl 0 rfl) ?_
    refine lv_aload_n K.1.1 K.1.2.1 dX10_mixTraders_7 rfl (lv_at hl 2 rfl) ?_
    refine m_getr K hP (by decide) sh_0 rfl tuX10 0 (by decide) rfl q_306 dX10_mixTraders_8 ?_
    refine m_getr K hP isA_1.1 isA_1.2.1 rfl tuX1 0 (by decide) rfl q_170 dX10_mixTraders_11 ?_
    refine m_geti K hP isA_1.2.2.1.1 isA_1.2.2.1.2.1 rfl tuX6 0 (by decide) rfl q_64 dX10_mixTraders_14 ?_
    refine lv_topi (fun g_1 eg_1 => ?_)
    refine lv_icmp_ge (tgt := 59) K.1.1 K.1.2.1 dX10_mixTraders_17 (by decide) (fun c_17 => ?_) (fun c_17 => ?_)
    · refine lv_lload_n K.1.1 K.1.2.1 dX10_mixTraders_59 rfl (lv_at hl 1 rfl) ?_
      exact m_lret K hr hlocks hP hS dX10_mixTraders_60 (by subst ev5_5 ev3_5 eg_1; rfl) rfl
    · exact absurd c_17 (not_not_intro (by subst ev5_5 ev3_5 eg_1; exact cn_out _))
  · intro t ht ih_5 v5_5 v3_5 H locs ls ev5_5 ev3_5 hP hS hl
    refine lv_iload K.1.1 K.1.2.1 dX10_mixTraders_5 (lv_at hl 0 rfl) ?_
    refine lv_aload_n K.1.1 K.1.2.1 dX10_mixTraders_7 rfl (lv_at hl 2 rfl) ?_
    refine m_getr K hP (by decide) sh_0 rfl tuX10 0 (by decide) rfl q_306 dX10_mixTraders_8 ?_
    refine m_getr K hP isA_1.1 isA_1.2.1 rfl tuX1 0 (by decide) rfl q_170 dX10_mixTraders_11 ?_
    refine m_geti K hP isA_1.2.2.1.1 isA_1.2.2.1.2.1 rfl tuX6 0 (by decide) rfl q_64 dX10_mixTraders_14 ?_
    refine lv_topi (fun g_2 eg_2 => ?_)
    refine lv_icmp_ge (tgt := 59) K.1.1 K.1.2.1 dX10_mixTraders_17 (by decide) (fun c_17 => ?_) (fun c_17 => ?_)
    · exact absurd c_17 (by subst ev5_5 ev3_5 eg_2; exact cn_in ht)
    · refine lv_iconst (v := 0) K.1.1 K.1.2.1 dX10_mixTraders_20 (by decide) ?_
      refine lv_istore (lv' := [(6, .int 0), (5, .int v5_5), (3, .long v3_5), (0, .ref (B + 0)), (1, .long h)]) K.1.1 K.1.2.1 dX10_mixTraders_21 hl (by decide) rfl (fun ls hl => ?_)
      refine up_to (N := NN 10) (P := fun w : Nat => ∀ (v6_23 : Int32) (v3_23 : Int64) (H : Heap) (locs : List Loc) (ls : Array Slot), (v6_23 = nI w) → (v3_23 = X_mixTr μ t (X_mixTraders μ h t) w) → MP G B μ H → va_S (AA B) s.heap H locs → lv_has ls 7 [(6, .int v6_23), (5, .int v5_5), (3, .long v3_23), (0, .ref (B + 0)), (1, .long h)] → W p l e ({ frames := 4, cells := 0, slots := 0, locals := 86 } : Room) s m ([.ref (B + 0), .long h] : List Value).toArray below meth c H locs 0 0 (MF below G B (some (.long (X_mixTraders μ h (cn (μ (1 + 1) 0))))) μ ([.ref (B + 0), .long h] : List Value).toArray s) (F0 m 23 ls [])) ?_ ?_ _ _ _ _ _ (by first | rfl | (subst ev5_5 ev3_5 eg_2; rfl)) (by first | rfl | (subst ev5_5 ev3_5 eg_2; rfl)) hP hS (lv_sub hl [0, 1, 2, 3, 4] rfl)
      · intro v6_23 v3_23 H locs ls ev6_23 ev3_23 hP hS hl
        refine lv_iload K.1.1 K.1.2.1 dX10_mixTraders_23 (lv_at hl 0 rfl) ?_
        refine lv_bipush (v := 10) K.1.1 K.1.2.1 dX10_mixTraders_25 (by decide) ?_
        refine lv_icmp_ge (tgt := 53) K.1.1 K.1.2.1 dX10_mixTraders_27 (by decide) (fun c_27 => ?_) (fun c_27 => ?_)
        · obtain ⟨x_3, ex_3⟩ : ∃ y : Int32, y = v5_5 + (1) := ⟨_, rfl⟩
          refine lv_iinc (v := x_3) (lv' := [(5, .int x_3), (6, .int v6_23), (3, .long v3_23), (0, .ref (B + 0)), (1, .long h)]) K.1.1 K.1.2.1 dX10_mixTraders_53 hl (k := 1) rfl (by rw [ex_3]; rfl) (by decide) rfl (fun ls hl => ?_)
          refine lv_goto (tgt := 5) K.1.1 K.1.2.1 dX10_mixTraders_56 (by decide) ?_
          exact ih_5 _ _ _ _ _ (by subst ev5_5 ev3_5 eg_2 ev6_23 ev3_23 ex_3; exact nI_1 _) (by subst ev5_5 ev3_5 eg_2 ev6_23 ev3_23 ex_3; rfl) hP hS (lv_sub hl [0, 2, 3, 4] rfl)
        · exact absurd c_27 (not_not_intro (by subst ev5_5 ev3_5 eg_2 ev6_23 ev3_23; rw [NN_eq]; decide))
      · intro w hw ih_23 v6_23 v3_23 H locs ls ev6_23 ev3_23 hP hS hl
        rw [NN_eq] at hw
        refine lv_iload K.1.1 K.1.2.1 dX10_mixTraders_23 (lv_at hl 0 rfl) ?_
        refine lv_bipush (v := 10) K.1.1 K.1.2.1 dX10_mixTraders_25 (by decide) ?_
        refine lv_icmp_ge (tgt := 53) K.1.1 K.1.2.1 dX10_mixTraders_27 (by decide) (fun c_27 => ?_) (fun c_27 => ?_)
        · exact absurd c_27 (by subst ev5_5 ev3_5 eg_2 ev6_23 ev3_23; exact nI_ge (a := w) (b := 10) hw (by decide))
        · refine lv_lload_n K.1.1 K.1.2.1 dX10_mixTraders_30 rfl (lv_at hl 2 rfl) ?_
          refine lv_aload_n K.1.1 K.1.2.1 dX10_mixTraders_31 rfl (lv_at hl 3 rfl) ?_
          refine m_getr K hP (by decide) sh_0 rfl tuX10 0 (by decide) rfl q_306 dX10_mixTraders_32 ?_
          refine lv_iload K.1.1 K.1.2.1 dX10_mixTraders_35 (lv_at hl 1 rfl) ?_
          refine lv_iload K.1.1 K.1.2.1 dX10_mixTraders_37 (lv_at hl 0 rfl) ?_
          refine m_cV (n := 2) (As := [.int v5_5, .int v6_23]) (rest := [.long v3_23]) K hP hS (MX1_traderValue l G B _ 1 isA_1 v5_5 v6_23 ) isA_1.1 isA_1.2.1 rfl q_523 q_524 q_525 q_16 q_526 hv_X1_traderValue ⟨Nat.le_of_ble_eq_true rfl, Nat.le_of_ble_eq_true rfl⟩ rfl hl.1 rfl (Nat.le_of_ble_eq_true rfl) dX10_mixTraders_39 ⟨Nat.zero_le _, Nat.zero_le _⟩ (fun H locs hP hS => ?_)
          refine lv_topi (fun r_4 er_4 => ?_)
          refine lv_i2l K.1.1 K.1.2.1 dX10_mixTraders_42 rfl ?_
          refine m_cS (n := 2) (As := [.long v3_23, .long (r_4.toInt64)]) (rest := []) K hP hS (MX10_mix l G B _ v3_23 (r_4.toInt64) ) q_448 q_449 q_15 q_450 hv_X10_mix ⟨Nat.le_of_ble_eq_true rfl, Nat.le_of_ble_eq_true rfl⟩ rfl hl.1 rfl (Nat.le_of_ble_eq_true rfl) dX10_mixTraders_43 ⟨Nat.zero_le _, Nat.zero_le _⟩ (fun H locs hP hS => ?_)
          refine lv_topl (fun r_5 er_5 => ?_)
          refine lv_lstore_n (lv' := [(3, .long r_5), (6, .int v6_23), (5, .int v5_5), (0, .ref (B + 0)), (1, .long h)]) K.1.1 K.1.2.1 dX10_mixTraders_46 rfl hl (by decide) rfl (fun ls hl => ?_)
          obtain ⟨x_6, ex_6⟩ : ∃ y : Int32, y = v6_23 + (1) := ⟨_, rfl⟩
          refine lv_iinc (v := x_6) (lv' := [(6, .int x_6), (3, .long r_5), (5, .int v5_5), (0, .ref (B + 0)), (1, .long h)]) K.1.1 K.1.2.1 dX10_mixTraders_47 hl (k := 1) rfl (by rw [ex_6]; rfl) (by decide) rfl (fun ls hl => ?_)
          refine lv_goto (tgt := 23) K.1.1 K.1.2.1 dX10_mixTraders_50 (by decide) ?_
          exact ih_23 _ _ _ _ _ (by subst ev5_5 ev3_5 eg_2 ev6_23 ev3_23 er_4 er_5 ex_6; exact nI_1 _) (by subst ev5_5 ev3_5 eg_2 ev6_23 ev3_23 er_4 er_5 ex_6; rfl) hP hS (lv_sub hl [0, 2, 1, 3, 4] rfl)

set_option maxHeartbeats 4000000 in
set_option maxRecDepth 100000 in
theorem MX10_mixOrders (l : Launch) (G : GG) (B : Nat) (μ : Mm) (h : Int64) : CM l yX10_mixOrders (.code yX10_mixOrders cX10_mixOrders 7 (Option.some FieldType.long)) 4 89 G B [.ref (B + 0), .long h] μ (some (.long (X_mixOrders μ h (cn (μ (1 + 16) 0))))) μ := by
  refine CM.of (by decide) (Nat.le_of_ble_eq_true rfl) ?_
  intro p e s m below meth c ls K hr hlocks hP hl
  have hS : va_S (AA B) s.heap s.heap [] := va_S.rf
  have hl : lv_has ls 7 [(0, .ref (B + 0)), (1, .long h)] := hl
  refine lv_lload_n K.1.1 K.1.2.1 dX10_mixOrders_0 rfl (lv_at hl 1 rfl) ?_
  refine lv_lstore_n (lv' := [(3, .long h), (0, .ref (B + 0)), (1, .long h)]) K.1.1 K.1.2.1 dX10_mixOrders_1 rfl hl (by decide) rfl (fun ls hl => ?_)
  refine lv_iconst (v := 0) K.1.1 K.1.2.1 dX10_mixOrders_2 (by decide) ?_
  refine lv_istore (lv' := [(5, .int 0), (3, .long h), (0, .ref (B + 0)), (1, .long h)]) K.1.1 K.1.2.1 dX10_mixOrders_3 hl (by decide) rfl (fun ls hl => ?_)
  refine up_to (N := cn (μ (1 + 16) 0)) (P := fun t : Nat => ∀ (v5_5 : Int32) (v3_5 : Int64) (H : Heap) (locs : List Loc) (ls : Array Slot), (v5_5 = nI t) → (v3_5 = X_mixOrders μ h t) → MP G B μ H → va_S (AA B) s.heap H locs → lv_has ls 7 [(5, .int v5_5), (3, .long v3_5), (0, .ref (B + 0)), (1, .long h)] → W p l e ({ frames := 4, cells := 0, slots := 0, locals := 89 } : Room) s m ([.ref (B + 0), .long h] : List Value).toArray below meth c H locs 0 0 (MF below G B (some (.long (X_mixOrders μ h (cn (μ (1 + 16) 0))))) μ ([.ref (B + 0), .long h] : List Value).toArray s) (F0 m 5 ls [])) ?_ ?_ _ _ _ _ _ (by first | rfl | (skip; rfl)) (by first | rfl | (skip; rfl)) hP hS (lv_sub hl [0, 1, 2, 3] rfl)
  · intro v5_5 v3_5 H locs ls ev5_5 ev3_5 hP hS hl
    refine lv_iload K.1.1 K.1.2.1 dX10_mixOrders_5 (lv_at hl 0 rfl) ?_
    refine lv_aload_n K.1.1 K.1.2.1 dX10_mixOrders_7 rfl (lv_at hl 2 rfl) ?_
    refine m_getr K hP (by decide) sh_0 rfl tuX10 0 (by decide) rfl q_306 dX10_mixOrders_8 ?_
    refine m_getr K hP isA_1.1 isA_1.2.1 rfl tuX1 1 (by decide) rfl q_174 dX10_mixOrders_11 ?_
    refine m_geti K hP isA_1.2.2.2.1.1 isA_1.2.2.2.1.2.1 rfl tuX4 0 (by decide) rfl q_109 dX10_mixOrders_14 ?_
    refine lv_topi (fun g_1 eg_1 => ?_)
    refine lv_icmp_ge (tgt := 100) K.1.1 K.1.2.1 dX10_mixOrders_17 (by decide) (fun c_17 => ?_) (fun c_17 => ?_)
    · refine lv_lload_n K.1.1 K.1.2.1 dX10_mixOrders_100 rfl (lv_at hl 1 rfl) ?_
      exact m_lret K hr hlocks hP hS dX10_mixOrders_101 (by subst ev5_5 ev3_5 eg_1; rfl) rfl
    · exact absurd c_17 (not_not_intro (by subst ev5_5 ev3_5 eg_1; exact cn_out _))
  · intro t ht ih_5 v5_5 v3_5 H locs ls ev5_5 ev3_5 hP hS hl
    refine lv_iload K.1.1 K.1.2.1 dX10_mixOrders_5 (lv_at hl 0 rfl) ?_
    refine lv_aload_n K.1.1 K.1.2.1 dX10_mixOrders_7 rfl (lv_at hl 2 rfl) ?_
    refine m_getr K hP (by decide) sh_0 rfl tuX10 0 (by decide) rfl q_306 dX10_mixOrders_8 ?_
    refine m_getr K hP isA_1.1 isA_1.2.1 rfl tuX1 1 (by decide) rfl q_174 dX10_mixOrders_11 ?_
    refine m_geti K hP isA_1.2.2.2.1.1 isA_1.2.2.2.1.2.1 rfl tuX4 0 (by decide) rfl q_109 dX10_mixOrders_14 ?_
    refine lv_topi (fun g_2 eg_2 => ?_)
    refine lv_icmp_ge (tgt := 100) K.1.1 K.1.2.1 dX10_mixOrders_17 (by decide) (fun c_17 => ?_) (fun c_17 => ?_)
    · exact absurd c_17 (by subst ev5_5 ev3_5 eg_2; exact cn_in ht)
    · refine lv_lload_n K.1.1 K.1.2.1 dX10_mixOrders_20 rfl (lv_at hl 1 rfl) ?_
      refine lv_aload_n K.1.1 K.1.2.1 dX10_mixOrders_21 rfl (lv_at hl 2 rfl) ?_
      refine m_getr K hP (by decide) sh_0 rfl tuX10 0 (by decide) rfl q_306 dX10_mixOrders_22 ?_
      refine m_getr K hP isA_1.1 isA_1.2.1 rfl tuX1 1 (by decide) rfl q_174 dX10_mixOrders_25 ?_
      refine m_getr K hP isA_1.2.2.2.1.1 isA_1.2.2.2.1.2.1 rfl tuX4 1 (by decide) rfl q_112 dX10_mixOrders_28 ?_
      refine lv_iload K.1.1 K.1.2.1 dX10_mixOrders_31 (lv_at hl 0 rfl) ?_
      refine m_cV (n := 1) (As := [.int v5_5]) (rest := [.long v3_5]) K hP hS (MX5_get l G B _ (1 + 16 + 1) 20 isA_1.2.2.2.1.2.2.1 v5_5 ) (Nat.lt_of_succ_lt isA_1.2.2.2.1.2.2.1.1) isA_1.2.2.2.1.2.2.1.2.1 rfl q_557 q_460 q_461 q_18 q_462 hv_X5_get ⟨Nat.le_of_ble_eq_true rfl, Nat.le_of_ble_eq_true rfl⟩ rfl hl.1 rfl (Nat.le_of_ble_eq_true rfl) dX10_mixOrders_33 ⟨Nat.zero_le _, Nat.zero_le _⟩ (fun H locs hP hS => ?_)
      refine lv_topi (fun r_3 er_3 => ?_)
      refine lv_i2l K.1.1 K.1.2.1 dX10_mixOrders_36 rfl ?_
      refine m_cS (n := 2) (As := [.long v3_5, .long (r_3.toInt64)]) (rest := []) K hP hS (MX10_mix l G B _ v3_5 (r_3.toInt64) ) q_448 q_449 q_15 q_450 hv_X10_mix ⟨Nat.le_of_ble_eq_true rfl, Nat.le_of_ble_eq_true rfl⟩ rfl hl.1 rfl (Nat.le_of_ble_eq_true rfl) dX10_mixOrders_37 ⟨Nat.zero_le _, Nat.zero_le _⟩ (fun H locs hP hS => ?_)
      refine lv_topl (fun r_4 er_4 => ?_)
      refine lv_lstore_n (lv' := [(3, .long r_4), (5, .int v5_5), (0, .ref (B + 0)), (1, .long h)]) K.1.1 K.1.2.1 dX10_mixOrders_40 rfl hl (by decide) rfl (fun ls hl => ?_)
      refine lv_iconst (v := 0) K.1.1 K.1.2.1 dX10_mixOrders_41 (by decide) ?_
      refine lv_istore (lv' := [(6, .int 0), (3, .long r_4), (5, .int v5_5), (0, .ref (B + 0)), (1, .long h)]) K.1.1 K.1.2.1 dX10_mixOrders_42 hl (by decide) rfl (fun ls hl => ?_)
      refine up_to (N := NN 5) (P := fun w : Nat => ∀ (v6_44 : Int32) (v3_44 : Int64) (H : Heap) (locs : List Loc) (ls : Array Slot), (v6_44 = nI w) → (v3_44 = X_mixOr μ t (X_mix (X_mixOrders μ h t) (R_get μ (1 + 16 + 1) 20 (nI t)).toInt64) w) → MP G B μ H → va_S (AA B) s.heap H locs → lv_has ls 7 [(6, .int v6_44), (3, .long v3_44), (5, .int v5_5), (0, .ref (B + 0)), (1, .long h)] → W p l e ({ frames := 4, cells := 0, slots := 0, locals := 89 } : Room) s m ([.ref (B + 0), .long h] : List Value).toArray below meth c H locs 0 0 (MF below G B (some (.long (X_mixOrders μ h (cn (μ (1 + 16) 0))))) μ ([.ref (B + 0), .long h] : List Value).toArray s) (F0 m 44 ls [])) ?_ ?_ _ _ _ _ _ (by first | rfl | (subst ev5_5 ev3_5 eg_2 er_3 er_4; rfl)) (by first | rfl | (subst ev5_5 ev3_5 eg_2 er_3 er_4; rfl)) hP hS (lv_sub hl [0, 1, 2, 3, 4] rfl)
      · intro v6_44 v3_44 H locs ls ev6_44 ev3_44 hP hS hl
        refine lv_iload K.1.1 K.1.2.1 dX10_mixOrders_44 (lv_at hl 0 rfl) ?_
        refine lv_iconst (v := 5) K.1.1 K.1.2.1 dX10_mixOrders_46 (by decide) ?_
        refine lv_icmp_ge (tgt := 76) K.1.1 K.1.2.1 dX10_mixOrders_47 (by decide) (fun c_47 => ?_) (fun c_47 => ?_)
        · refine lv_lload_n K.1.1 K.1.2.1 dX10_mixOrders_76 rfl (lv_at hl 1 rfl) ?_
          refine lv_aload_n K.1.1 K.1.2.1 dX10_mixOrders_77 rfl (lv_at hl 3 rfl) ?_
          refine m_getr K hP (by decide) sh_0 rfl tuX10 2 (by decide) rfl q_308 dX10_mixOrders_78 ?_
          refine m_getr K hP (by decide) sh_81 rfl tuX2 5 (by decide) rfl q_229 dX10_mixOrders_81 ?_
          refine lv_iload K.1.1 K.1.2.1 dX10_mixOrders_84 (lv_at hl 2 rfl) ?_
          refine m_cV (n := 1) (As := [.int v5_5]) (rest := [.long v3_44]) K hP hS (MX5_get l G B _ 82 20 isR_82 v5_5 ) (Nat.lt_of_succ_lt isR_82.1) isR_82.2.1 rfl q_557 q_460 q_461 q_18 q_462 hv_X5_get ⟨Nat.le_of_ble_eq_true rfl, Nat.le_of_ble_eq_true rfl⟩ rfl hl.1 rfl (Nat.le_of_ble_eq_true rfl) dX10_mixOrders_86 ⟨Nat.zero_le _, Nat.zero_le _⟩ (fun H locs hP hS => ?_)
          refine lv_topi (fun r_5 er_5 => ?_)
          refine lv_i2l K.1.1 K.1.2.1 dX10_mixOrders_89 rfl ?_
          refine m_cS (n := 2) (As := [.long v3_44, .long (r_5.toInt64)]) (rest := []) K hP hS (MX10_mix l G B _ v3_44 (r_5.toInt64) ) q_448 q_449 q_15 q_450 hv_X10_mix ⟨Nat.le_of_ble_eq_true rfl, Nat.le_of_ble_eq_true rfl⟩ rfl hl.1 rfl (Nat.le_of_ble_eq_true rfl) dX10_mixOrders_90 ⟨Nat.zero_le _, Nat.zero_le _⟩ (fun H locs hP hS => ?_)
          refine lv_topl (fun r_6 er_6 => ?_)
          refine lv_lstore_n (lv' := [(3, .long r_6), (6, .int v6_44), (5, .int v5_5), (0, .ref (B + 0)), (1, .long h)]) K.1.1 K.1.2.1 dX10_mixOrders_93 rfl hl (by decide) rfl (fun ls hl => ?_)
          obtain ⟨x_7, ex_7⟩ : ∃ y : Int32, y = v5_5 + (1) := ⟨_, rfl⟩
          refine lv_iinc (v := x_7) (lv' := [(5, .int x_7), (3, .long r_6), (6, .int v6_44), (0, .ref (B + 0)), (1, .long h)]) K.1.1 K.1.2.1 dX10_mixOrders_94 hl (k := 2) rfl (by rw [ex_7]; rfl) (by decide) rfl (fun ls hl => ?_)
          refine lv_goto (tgt := 5) K.1.1 K.1.2.1 dX10_mixOrders_97 (by decide) ?_
          exact ih_5 _ _ _ _ _ (by subst ev5_5 ev3_5 eg_2 er_3 er_4 ev6_44 ev3_44 er_5 er_6 ex_7; exact nI_1 _) (by subst ev5_5 ev3_5 eg_2 er_3 er_4 ev6_44 ev3_44 er_5 er_6 ex_7; rfl) hP hS (lv_sub hl [0, 1, 3, 4] rfl)
        · exact absurd c_47 (not_not_intro (by subst ev5_5 ev3_5 eg_2 er_3 er_4 ev6_44 ev3_44; rw [NN_eq]; decide))
      · intro w hw ih_44 v6_44 v3_44 H locs ls ev6_44 ev3_44 hP hS hl
        rw [NN_eq] at hw
        refine lv_iload K.1.1 K.1.2.1 dX10_mixOrders_44 (lv_at hl 0 rfl) ?_
        refine lv_iconst (v := 5) K.1.1 K.1.2.1 dX10_mixOrders_46 (by decide) ?_
        refine lv_icmp_ge (tgt := 76) K.1.1 K.1.2.1 dX10_mixOrders_47 (by decide) (fun c_47 => ?_) (fun c_47 => ?_)
        · exact absurd c_47 (by subst ev5_5 ev3_5 eg_2 er_3 er_4 ev6_44 ev3_44; exact nI_ge (a := w) (b := 5) hw (by decide))
        · refine lv_lload_n K.1.1 K.1.2.1 dX10_mixOrders_50 rfl (lv_at hl 1 rfl) ?_
          refine lv_aload_n K.1.1 K.1.2.1 dX10_mixOrders_51 rfl (lv_at hl 3 rfl) ?_
          refine m_getr K hP (by decide) sh_0 rfl tuX10 0 (by decide) rfl q_306 dX10_mixOrders_52 ?_
          refine m_getr K hP isA_1.1 isA_1.2.1 rfl tuX1 1 (by decide) rfl q_174 dX10_mixOrders_55 ?_
          refine lv_iload K.1.1 K.1.2.1 dX10_mixOrders_58 (lv_at hl 2 rfl) ?_
          refine lv_iload K.1.1 K.1.2.1 dX10_mixOrders_60 (lv_at hl 0 rfl) ?_
          refine m_cV (n := 2) (As := [.int v5_5, .int v6_44]) (rest := [.long v3_44]) K hP hS (MX4_valueOf l G B _ (1 + 16) isA_1.2.2.2.1 v5_5 v6_44 ) isA_1.2.2.2.1.1 isA_1.2.2.2.1.2.1 rfl q_558 q_559 q_560 q_19 q_561 hv_X4_valueOf ⟨Nat.le_of_ble_eq_true rfl, Nat.le_of_ble_eq_true rfl⟩ rfl hl.1 rfl (Nat.le_of_ble_eq_true rfl) dX10_mixOrders_62 ⟨Nat.zero_le _, Nat.zero_le _⟩ (fun H locs hP hS => ?_)
          refine lv_topi (fun r_8 er_8 => ?_)
          refine lv_i2l K.1.1 K.1.2.1 dX10_mixOrders_65 rfl ?_
          refine m_cS (n := 2) (As := [.long v3_44, .long (r_8.toInt64)]) (rest := []) K hP hS (MX10_mix l G B _ v3_44 (r_8.toInt64) ) q_448 q_449 q_15 q_450 hv_X10_mix ⟨Nat.le_of_ble_eq_true rfl, Nat.le_of_ble_eq_true rfl⟩ rfl hl.1 rfl (Nat.le_of_ble_eq_true rfl) dX10_mixOrders_66 ⟨Nat.zero_le _, Nat.zero_le _⟩ (fun H locs hP hS => ?_)
          refine lv_topl (fun r_9 er_9 => ?_)
          refine lv_lstore_n (lv' := [(3, .long r_9), (6, .int v6_44), (5, .int v5_5), (0, .ref (B + 0)), (1, .long h)]) K.1.1 K.1.2.1 dX10_mixOrders_69 rfl hl (by decide) rfl (fun ls hl => ?_)
          obtain ⟨x_10, ex_10⟩ : ∃ y : Int32, y = v6_44 + (1) := ⟨_, rfl⟩
          refine lv_iinc (v := x_10) (lv' := [(6, .int x_10), (3, .long r_9), (5, .int v5_5), (0, .ref (B + 0)), (1, .long h)]) K.1.1 K.1.2.1 dX10_mixOrders_70 hl (k := 1) rfl (by rw [ex_10]; rfl) (by decide) rfl (fun ls hl => ?_)
          refine lv_goto (tgt := 44) K.1.1 K.1.2.1 dX10_mixOrders_73 (by decide) ?_
          exact ih_44 _ _ _ _ _ (by subst ev5_5 ev3_5 eg_2 er_3 er_4 ev6_44 ev3_44 er_8 er_9 ex_10; exact nI_1 _) (by subst ev5_5 ev3_5 eg_2 er_3 er_4 ev6_44 ev3_44 er_8 er_9 ex_10; rfl) hP hS (lv_sub hl [0, 1, 2, 3, 4] rfl)

set_option maxHeartbeats 4000000 in
set_option maxRecDepth 100000 in
theorem MX10_mixTrades (l : Launch) (G : GG) (B : Nat) (μ : Mm) (h : Int64) : CM l yX10_mixTrades (.code yX10_mixTrades cX10_mixTrades 7 (Option.some FieldType.long)) 2 43 G B [.ref (B + 0), .long h] μ (some (.long (X_mixTrades μ h (cn (μ (1 + 29) 0))))) μ := by
  refine CM.of (by decide) (Nat.le_of_ble_eq_true rfl) ?_
  intro p e s m below meth c ls K hr hlocks hP hl
  have hS : va_S (AA B) s.heap s.heap [] := va_S.rf
  have hl : lv_has ls 7 [(0, .ref (B + 0)), (1, .long h)] := hl
  refine lv_lload_n K.1.1 K.1.2.1 dX10_mixTrades_0 rfl (lv_at hl 1 rfl) ?_
  refine lv_lstore_n (lv' := [(3, .long h), (0, .ref (B + 0)), (1, .long h)]) K.1.1 K.1.2.1 dX10_mixTrades_1 rfl hl (by decide) rfl (fun ls hl => ?_)
  refine lv_iconst (v := 0) K.1.1 K.1.2.1 dX10_mixTrades_2 (by decide) ?_
  refine lv_istore (lv' := [(5, .int 0), (3, .long h), (0, .ref (B + 0)), (1, .long h)]) K.1.1 K.1.2.1 dX10_mixTrades_3 hl (by decide) rfl (fun ls hl => ?_)
  refine up_to (N := cn (μ (1 + 29) 0)) (P := fun t : Nat => ∀ (v5_5 : Int32) (v3_5 : Int64) (H : Heap) (locs : List Loc) (ls : Array Slot), (v5_5 = nI t) → (v3_5 = X_mixTrades μ h t) → MP G B μ H → va_S (AA B) s.heap H locs → lv_has ls 7 [(5, .int v5_5), (3, .long v3_5), (0, .ref (B + 0)), (1, .long h)] → W p l e ({ frames := 2, cells := 0, slots := 0, locals := 43 } : Room) s m ([.ref (B + 0), .long h] : List Value).toArray below meth c H locs 0 0 (MF below G B (some (.long (X_mixTrades μ h (cn (μ (1 + 29) 0))))) μ ([.ref (B + 0), .long h] : List Value).toArray s) (F0 m 5 ls [])) ?_ ?_ _ _ _ _ _ (by first | rfl | (skip; rfl)) (by first | rfl | (skip; rfl)) hP hS (lv_sub hl [0, 1, 2, 3] rfl)
  · intro v5_5 v3_5 H locs ls ev5_5 ev3_5 hP hS hl
    refine lv_iload K.1.1 K.1.2.1 dX10_mixTrades_5 (lv_at hl 0 rfl) ?_
    refine lv_aload_n K.1.1 K.1.2.1 dX10_mixTrades_7 rfl (lv_at hl 2 rfl) ?_
    refine m_getr K hP (by decide) sh_0 rfl tuX10 0 (by decide) rfl q_306 dX10_mixTrades_8 ?_
    refine m_getr K hP isA_1.1 isA_1.2.1 rfl tuX1 2 (by decide) rfl q_176 dX10_mixTrades_11 ?_
    refine m_geti K hP isA_1.2.2.2.2.1 isA_1.2.2.2.2.2.1 rfl tuX7 0 (by decide) rfl q_150 dX10_mixTrades_14 ?_
    refine lv_topi (fun g_1 eg_1 => ?_)
    refine lv_icmp_ge (tgt := 61) K.1.1 K.1.2.1 dX10_mixTrades_17 (by decide) (fun c_17 => ?_) (fun c_17 => ?_)
    · refine lv_lload_n K.1.1 K.1.2.1 dX10_mixTrades_61 rfl (lv_at hl 1 rfl) ?_
      exact m_lret K hr hlocks hP hS dX10_mixTrades_62 (by subst ev5_5 ev3_5 eg_1; rfl) rfl
    · exact absurd c_17 (not_not_intro (by subst ev5_5 ev3_5 eg_1; exact cn_out _))
  · intro t ht ih_5 v5_5 v3_5 H locs ls ev5_5 ev3_5 hP hS hl
    refine lv_iload K.1.1 K.1.2.1 dX10_mixTrades_5 (lv_at hl 0 rfl) ?_
    refine lv_aload_n K.1.1 K.1.2.1 dX10_mixTrades_7 rfl (lv_at hl 2 rfl) ?_
    refine m_getr K hP (by decide) sh_0 rfl tuX10 0 (by decide) rfl q_306 dX10_mixTrades_8 ?_
    refine m_getr K hP isA_1.1 isA_1.2.1 rfl tuX1 2 (by decide) rfl q_176 dX10_mixTrades_11 ?_
    refine m_geti K hP isA_1.2.2.2.2.1 isA_1.2.2.2.2.2.1 rfl tuX7 0 (by decide) rfl q_150 dX10_mixTrades_14 ?_
    refine lv_topi (fun g_2 eg_2 => ?_)
    refine lv_icmp_ge (tgt := 61) K.1.1 K.1.2.1 dX10_mixTrades_17 (by decide) (fun c_17 => ?_) (fun c_17 => ?_)
    · exact absurd c_17 (by subst ev5_5 ev3_5 eg_2; exact cn_in ht)
    · refine lv_iconst (v := 0) K.1.1 K.1.2.1 dX10_mixTrades_20 (by decide) ?_
      refine lv_istore (lv' := [(6, .int 0), (5, .int v5_5), (3, .long v3_5), (0, .ref (B + 0)), (1, .long h)]) K.1.1 K.1.2.1 dX10_mixTrades_21 hl (by decide) rfl (fun ls hl => ?_)
      refine up_to (N := NN 5) (P := fun w : Nat => ∀ (v6_23 : Int32) (v3_23 : Int64) (H : Heap) (locs : List Loc) (ls : Array Slot), (v6_23 = nI w) → (v3_23 = X_mixTd μ t (X_mixTrades μ h t) w) → MP G B μ H → va_S (AA B) s.heap H locs → lv_has ls 7 [(6, .int v6_23), (5, .int v5_5), (3, .long v3_23), (0, .ref (B + 0)), (1, .long h)] → W p l e ({ frames := 2, cells := 0, slots := 0, locals := 43 } : Room) s m ([.ref (B + 0), .long h] : List Value).toArray below meth c H locs 0 0 (MF below G B (some (.long (X_mixTrades μ h (cn (μ (1 + 29) 0))))) μ ([.ref (B + 0), .long h] : List Value).toArray s) (F0 m 23 ls [])) ?_ ?_ _ _ _ _ _ (by first | rfl | (subst ev5_5 ev3_5 eg_2; rfl)) (by first | rfl | (subst ev5_5 ev3_5 eg_2; rfl)) hP hS (lv_sub hl [0, 1, 2, 3, 4] rfl)
      · intro v6_23 v3_23 H locs ls ev6_23 ev3_23 hP hS hl
        refine lv_iload K.1.1 K.1.2.1 dX10_mixTrades_23 (lv_at hl 0 rfl) ?_
        refine lv_iconst (v := 5) K.1.1 K.1.2.1 dX10_mixTrades_25 (by decide) ?_
        refine lv_icmp_ge (tgt := 55) K.1.1 K.1.2.1 dX10_mixTrades_26 (by decide) (fun c_26 => ?_) (fun c_26 => ?_)
        · obtain ⟨x_3, ex_3⟩ : ∃ y : Int32, y = v5_5 + (1) := ⟨_, rfl⟩
          refine lv_iinc (v := x_3) (lv' := [(5, .int x_3), (6, .int v6_23), (3, .long v3_23), (0, .ref (B + 0)), (1, .long h)]) K.1.1 K.1.2.1 dX10_mixTrades_55 hl (k := 1) rfl (by rw [ex_3]; rfl) (by decide) rfl (fun ls hl => ?_)
          refine lv_goto (tgt := 5) K.1.1 K.1.2.1 dX10_mixTrades_58 (by decide) ?_
          exact ih_5 _ _ _ _ _ (by subst ev5_5 ev3_5 eg_2 ev6_23 ev3_23 ex_3; exact nI_1 _) (by subst ev5_5 ev3_5 eg_2 ev6_23 ev3_23 ex_3; rfl) hP hS (lv_sub hl [0, 2, 3, 4] rfl)
        · exact absurd c_26 (not_not_intro (by subst ev5_5 ev3_5 eg_2 ev6_23 ev3_23; rw [NN_eq]; decide))
      · intro w hw ih_23 v6_23 v3_23 H locs ls ev6_23 ev3_23 hP hS hl
        rw [NN_eq] at hw
        refine lv_iload K.1.1 K.1.2.1 dX10_mixTrades_23 (lv_at hl 0 rfl) ?_
        refine lv_iconst (v := 5) K.1.1 K.1.2.1 dX10_mixTrades_25 (by decide) ?_
        refine lv_icmp_ge (tgt := 55) K.1.1 K.1.2.1 dX10_mixTrades_26 (by decide) (fun c_26 => ?_) (fun c_26 => ?_)
        · exact absurd c_26 (by subst ev5_5 ev3_5 eg_2 ev6_23 ev3_23; exact nI_ge (a := w) (b := 5) hw (by decide))
        · refine lv_lload_n K.1.1 K.1.2.1 dX10_mixTrades_29 rfl (lv_at hl 2 rfl) ?_
          refine lv_aload_n K.1.1 K.1.2.1 dX10_mixTrades_30 rfl (lv_at hl 3 rfl) ?_
          refine m_getr K hP (by decide) sh_0 rfl tuX10 0 (by decide) rfl q_306 dX10_mixTrades_31 ?_
          refine m_getr K hP isA_1.1 isA_1.2.1 rfl tuX1 2 (by decide) rfl q_176 dX10_mixTrades_34 ?_
          refine lv_iload K.1.1 K.1.2.1 dX10_mixTrades_37 (lv_at hl 1 rfl) ?_
          refine lv_iload K.1.1 K.1.2.1 dX10_mixTrades_39 (lv_at hl 0 rfl) ?_
          refine m_cV (n := 2) (As := [.int v5_5, .int v6_23]) (rest := [.long v3_23]) K hP hS (MX7_valueOf l G B _ (1 + 29) isA_1.2.2.2.2 v5_5 v6_23 ) isA_1.2.2.2.2.1 isA_1.2.2.2.2.2.1 rfl q_571 q_572 q_573 q_20 q_574 hv_X7_valueOf ⟨Nat.le_of_ble_eq_true rfl, Nat.le_of_ble_eq_true rfl⟩ rfl hl.1 rfl (Nat.le_of_ble_eq_true rfl) dX10_mixTrades_41 ⟨Nat.zero_le _, Nat.zero_le _⟩ (fun H locs hP hS => ?_)
          refine lv_topi (fun r_4 er_4 => ?_)
          refine lv_i2l K.1.1 K.1.2.1 dX10_mixTrades_44 rfl ?_
          refine m_cS (n := 2) (As := [.long v3_23, .long (r_4.toInt64)]) (rest := []) K hP hS (MX10_mix l G B _ v3_23 (r_4.toInt64) ) q_448 q_449 q_15 q_450 hv_X10_mix ⟨Nat.le_of_ble_eq_true rfl, Nat.le_of_ble_eq_true rfl⟩ rfl hl.1 rfl (Nat.le_of_ble_eq_true rfl) dX10_mixTrades_45 ⟨Nat.zero_le _, Nat.zero_le _⟩ (fun H locs hP hS => ?_)
          refine lv_topl (fun r_5 er_5 => ?_)
          refine lv_lstore_n (lv' := [(3, .long r_5), (6, .int v6_23), (5, .int v5_5), (0, .ref (B + 0)), (1, .long h)]) K.1.1 K.1.2.1 dX10_mixTrades_48 rfl hl (by decide) rfl (fun ls hl => ?_)
          obtain ⟨x_6, ex_6⟩ : ∃ y : Int32, y = v6_23 + (1) := ⟨_, rfl⟩
          refine lv_iinc (v := x_6) (lv' := [(6, .int x_6), (3, .long r_5), (5, .int v5_5), (0, .ref (B + 0)), (1, .long h)]) K.1.1 K.1.2.1 dX10_mixTrades_49 hl (k := 1) rfl (by rw [ex_6]; rfl) (by decide) rfl (fun ls hl => ?_)
          refine lv_goto (tgt := 23) K.1.1 K.1.2.1 dX10_mixTrades_52 (by decide) ?_
          exact ih_23 _ _ _ _ _ (by subst ev5_5 ev3_5 eg_2 ev6_23 ev3_23 er_4 er_5 ex_6; exact nI_1 _) (by subst ev5_5 ev3_5 eg_2 ev6_23 ev3_23 er_4 er_5 ex_6; rfl) hP hS (lv_sub hl [0, 2, 1, 3, 4] rfl)

set_option maxHeartbeats 4000000 in
set_option maxRecDepth 100000 in
theorem MX10_digest (l : Launch) (G : GG) (B : Nat) (μ : Mm) : CM l yX10_digest (.code yX10_digest cX10_digest 4 (Option.some FieldType.long)) 5 115 G B [.ref (B + 0)] μ (some (.long (X_digest μ))) (X_digestM μ) := by
  refine CM.of (by decide) (Nat.le_of_ble_eq_true rfl) ?_
  intro p e s m below meth c ls K hr hlocks hP hl
  have hS : va_S (AA B) s.heap s.heap [] := va_S.rf
  have hl : lv_has ls 4 [(0, .ref (B + 0))] := hl
  refine lv_ldc2 (own := RX10) (v := 43616) K.1.1 K.1.2.1 K.1.2.2.2.1 (K.w q_447) dX10_digest_0 ?_
  refine lv_aload_n K.1.1 K.1.2.1 dX10_digest_3 rfl (lv_at hl 0 rfl) ?_
  refine m_getr K hP (by decide) sh_0 rfl tuX10 3 (by decide) rfl q_309 dX10_digest_4 ?_
  refine m_geti K hP (by decide) sh_92 rfl tuX8 0 (by decide) rfl q_271 dX10_digest_7 ?_
  refine lv_topi (fun g_1 eg_1 => ?_)
  refine lv_i2l K.1.1 K.1.2.1 dX10_digest_10 rfl ?_
  refine m_cS (n := 2) (As := [.long 43616, .long (g_1.toInt64)]) (rest := []) K hP hS (MX10_mix l G B _ 43616 (g_1.toInt64) ) q_448 q_449 q_15 q_450 hv_X10_mix ⟨Nat.le_of_ble_eq_true rfl, Nat.le_of_ble_eq_true rfl⟩ rfl hl.1 rfl (Nat.le_of_ble_eq_true rfl) dX10_digest_11 ⟨Nat.zero_le _, Nat.zero_le _⟩ (fun H locs hP hS => ?_)
  refine lv_topl (fun r_2 er_2 => ?_)
  refine lv_lstore_n (lv' := [(1, .long r_2), (0, .ref (B + 0))]) K.1.1 K.1.2.1 dX10_digest_14 rfl hl (by decide) rfl (fun ls hl => ?_)
  refine lv_iconst (v := 0) K.1.1 K.1.2.1 dX10_digest_15 (by decide) ?_
  refine lv_istore_n (lv' := [(3, .int 0), (1, .long r_2), (0, .ref (B + 0))]) K.1.1 K.1.2.1 dX10_digest_16 rfl hl (by decide) rfl (fun ls hl => ?_)
  refine up_to (N := NN 12) (P := fun w : Nat => ∀ (v3_17 : Int32) (v1_17 : Int64) (H : Heap) (locs : List Loc) (ls : Array Slot), (v3_17 = nI w) → (v1_17 = X_dg1 μ w) → MP G B μ H → va_S (AA B) s.heap H locs → lv_has ls 4 [(3, .int v3_17), (1, .long v1_17), (0, .ref (B + 0))] → W p l e ({ frames := 5, cells := 0, slots := 0, locals := 115 } : Room) s m ([.ref (B + 0)] : List Value).toArray below meth c H locs 0 0 (MF below G B (some (.long (X_digest μ))) (X_digestM μ) ([.ref (B + 0)] : List Value).toArray s) (F0 m 17 ls [])) ?_ ?_ _ _ _ _ _ (by first | rfl | (subst eg_1 er_2; rfl)) (by first | rfl | (subst eg_1 er_2; rfl)) hP hS (lv_sub hl [0, 1, 2] rfl)
  · intro v3_17 v1_17 H locs ls ev3_17 ev1_17 hP hS hl
    refine lv_iload_n K.1.1 K.1.2.1 dX10_digest_17 rfl (lv_at hl 0 rfl) ?_
    refine lv_bipush (v := 12) K.1.1 K.1.2.1 dX10_digest_18 (by decide) ?_
    refine lv_icmp_ge (tgt := 40) K.1.1 K.1.2.1 dX10_digest_20 (by decide) (fun c_20 => ?_) (fun c_20 => ?_)
    · refine lv_aload_n K.1.1 K.1.2.1 dX10_digest_40 rfl (lv_at hl 2 rfl) ?_
      refine m_getr K hP (by decide) sh_0 rfl tuX10 2 (by decide) rfl q_308 dX10_digest_41 ?_
      refine lv_aload_n K.1.1 K.1.2.1 dX10_digest_44 rfl (lv_at hl 2 rfl) ?_
      refine m_getr K hP (by decide) sh_0 rfl tuX10 0 (by decide) rfl q_306 dX10_digest_45 ?_
      refine m_cV (n := 1) (As := [.ref (B + 1)]) (rest := []) K hP hS (MX2_settle l G B _ 1 isA_1 ) (by decide) sh_81 rfl q_452 q_453 q_454 q_21 q_455 hv_X2_settle ⟨Nat.le_of_ble_eq_true rfl, Nat.le_of_ble_eq_true rfl⟩ rfl hl.1 rfl (Nat.le_of_ble_eq_true rfl) dX10_digest_48 ⟨Nat.zero_le _, Nat.zero_le _⟩ (fun H locs hP hS => ?_)
      refine W.eq (g2 := F0 m 51 ls []) rfl ?_
      refine lv_iconst (v := 0) K.1.1 K.1.2.1 dX10_digest_51 (by decide) ?_
      refine lv_istore_n (lv' := [(3, .int 0), (1, .long v1_17), (0, .ref (B + 0))]) K.1.1 K.1.2.1 dX10_digest_52 rfl hl (by decide) rfl (fun ls hl => ?_)
      refine up_to (N := NN 7) (P := fun w : Nat => ∀ (v3_53 : Int32) (v1_53 : Int64) (μ_53 : Mm) (H : Heap) (locs : List Loc) (ls : Array Slot), (v3_53 = nI w) → (v1_53 = (X_dg2 μ w).2) → (μ_53 = (X_dg2 μ w).1) → MP G B μ_53 H → va_S (AA B) s.heap H locs → lv_has ls 4 [(3, .int v3_53), (1, .long v1_53), (0, .ref (B + 0))] → W p l e ({ frames := 5, cells := 0, slots := 0, locals := 115 } : Room) s m ([.ref (B + 0)] : List Value).toArray below meth c H locs 0 0 (MF below G B (some (.long (X_digest μ))) (X_digestM μ) ([.ref (B + 0)] : List Value).toArray s) (F0 m 53 ls [])) ?_ ?_ _ _ _ _ _ _ (by first | rfl | (subst eg_1 er_2 ev3_17 ev1_17; rfl)) (by first | rfl | (subst eg_1 er_2 ev3_17 ev1_17; rfl)) (by first | rfl | (subst eg_1 er_2 ev3_17 ev1_17; rfl)) hP hS (lv_sub hl [0, 1, 2] rfl)
      · intro v3_53 v1_53 μ_53 H locs ls ev3_53 ev1_53 eμ_53 hP hS hl
        refine lv_iload_n K.1.1 K.1.2.1 dX10_digest_53 rfl (lv_at hl 0 rfl) ?_
        refine lv_bipush (v := 7) K.1.1 K.1.2.1 dX10_digest_54 (by decide) ?_
        refine lv_icmp_ge (tgt := 83) K.1.1 K.1.2.1 dX10_digest_56 (by decide) (fun c_56 => ?_) (fun c_56 => ?_)
        · refine lv_aload_n K.1.1 K.1.2.1 dX10_digest_83 rfl (lv_at hl 2 rfl) ?_
          refine lv_aload_n K.1.1 K.1.2.1 dX10_digest_84 rfl (lv_at hl 2 rfl) ?_
          refine lv_aload_n K.1.1 K.1.2.1 dX10_digest_85 rfl (lv_at hl 2 rfl) ?_
          refine lv_lload_n K.1.1 K.1.2.1 dX10_digest_86 rfl (lv_at hl 1 rfl) ?_
          refine m_cV (n := 1) (As := [.long v1_53]) (rest := [.ref (B + 0), .ref (B + 0)]) K hP hS (MX10_mixTraders l G B _ v1_53 ) (by decide) sh_0 rfl q_519 q_521 q_9 q_15 q_522 hv_X10_mixTraders ⟨Nat.le_of_ble_eq_true rfl, Nat.le_of_ble_eq_true rfl⟩ rfl hl.1 rfl (Nat.le_of_ble_eq_true rfl) dX10_digest_87 ⟨Nat.zero_le _, Nat.zero_le _⟩ (fun H locs hP hS => ?_)
          refine lv_topl (fun r_3 er_3 => ?_)
          refine m_cV (n := 1) (As := [.long r_3]) (rest := [.ref (B + 0)]) K hP hS (MX10_mixOrders l G B _ r_3 ) (by decide) sh_0 rfl q_553 q_555 q_11 q_15 q_556 hv_X10_mixOrders ⟨Nat.le_of_ble_eq_true rfl, Nat.le_of_ble_eq_true rfl⟩ rfl hl.1 rfl (Nat.le_of_ble_eq_true rfl) dX10_digest_90 ⟨Nat.zero_le _, Nat.zero_le _⟩ (fun H locs hP hS => ?_)
          refine lv_topl (fun r_4 er_4 => ?_)
          refine m_cV (n := 1) (As := [.long r_4]) (rest := []) K hP hS (MX10_mixTrades l G B _ r_4 ) (by decide) sh_0 rfl q_567 q_569 q_12 q_15 q_570 hv_X10_mixTrades ⟨Nat.le_of_ble_eq_true rfl, Nat.le_of_ble_eq_true rfl⟩ rfl hl.1 rfl (Nat.le_of_ble_eq_true rfl) dX10_digest_93 ⟨Nat.zero_le _, Nat.zero_le _⟩ (fun H locs hP hS => ?_)
          refine lv_topl (fun r_5 er_5 => ?_)
          exact m_lret K hr hlocks hP hS dX10_digest_96 (by subst eg_1 er_2 ev3_17 ev1_17 ev3_53 ev1_53 eμ_53 er_3 er_4 er_5; rfl) (by subst eg_1 er_2 ev3_17 ev1_17 ev3_53 ev1_53 eμ_53 er_3 er_4 er_5; rfl)
        · exact absurd c_56 (not_not_intro (by subst eg_1 er_2 ev3_17 ev1_17 ev3_53 ev1_53 eμ_53; rw [NN_eq]; decide))
      · intro w hw ih_53 v3_53 v1_53 μ_53 H locs ls ev3_53 ev1_53 eμ_53 hP hS hl
        rw [NN_eq] at hw
        refine lv_iload_n K.1.1 K.1.2.1 dX10_digest_53 rfl (lv_at hl 0 rfl) ?_
        refine lv_bipush (v := 7) K.1.1 K.1.2.1 dX10_digest_54 (by decide) ?_
        refine lv_icmp_ge (tgt := 83) K.1.1 K.1.2.1 dX10_digest_56 (by decide) (fun c_56 => ?_) (fun c_56 => ?_)
        · exact absurd c_56 (by subst eg_1 er_2 ev3_17 ev1_17 ev3_53 ev1_53 eμ_53; exact nI_ge (a := w) (b := 7) hw (by decide))
        · refine lv_lload_n K.1.1 K.1.2.1 dX10_digest_59 rfl (lv_at hl 1 rfl) ?_
          refine lv_aload_n K.1.1 K.1.2.1 dX10_digest_60 rfl (lv_at hl 2 rfl) ?_
          refine m_getr K hP (by decide) sh_0 rfl tuX10 2 (by decide) rfl q_308 dX10_digest_61 ?_
          refine lv_aload_n K.1.1 K.1.2.1 dX10_digest_64 rfl (lv_at hl 2 rfl) ?_
          refine m_getr K hP (by decide) sh_0 rfl tuX10 0 (by decide) rfl q_306 dX10_digest_65 ?_
          refine lv_iload_n K.1.1 K.1.2.1 dX10_digest_68 rfl (lv_at hl 0 rfl) ?_
          refine m_cV (n := 2) (As := [.ref (B + 1), .int v3_53]) (rest := [.long v1_53]) K hP hS (MX2_valueOf l G B _ 1 isA_1 v3_53 ) (by decide) sh_81 rfl q_503 q_504 q_505 q_21 q_506 hv_X2_valueOf ⟨Nat.le_of_ble_eq_true rfl, Nat.le_of_ble_eq_true rfl⟩ rfl hl.1 rfl (Nat.le_of_ble_eq_true rfl) dX10_digest_69 ⟨Nat.zero_le _, Nat.zero_le _⟩ (fun H locs hP hS => ?_)
          refine lv_topi (fun r_6 er_6 => ?_)
          refine lv_i2l K.1.1 K.1.2.1 dX10_digest_72 rfl ?_
          refine m_cS (n := 2) (As := [.long v1_53, .long (r_6.toInt64)]) (rest := []) K hP hS (MX10_mix l G B _ v1_53 (r_6.toInt64) ) q_448 q_449 q_15 q_450 hv_X10_mix ⟨Nat.le_of_ble_eq_true rfl, Nat.le_of_ble_eq_true rfl⟩ rfl hl.1 rfl (Nat.le_of_ble_eq_true rfl) dX10_digest_73 ⟨Nat.zero_le _, Nat.zero_le _⟩ (fun H locs hP hS => ?_)
          refine lv_topl (fun r_7 er_7 => ?_)
          refine lv_lstore_n (lv' := [(1, .long r_7), (3, .int v3_53), (0, .ref (B + 0))]) K.1.1 K.1.2.1 dX10_digest_76 rfl hl (by decide) rfl (fun ls hl => ?_)
          obtain ⟨x_8, ex_8⟩ : ∃ y : Int32, y = v3_53 + (1) := ⟨_, rfl⟩
          refine lv_iinc (v := x_8) (lv' := [(3, .int x_8), (1, .long r_7), (0, .ref (B + 0))]) K.1.1 K.1.2.1 dX10_digest_77 hl (k := 1) rfl (by rw [ex_8]; rfl) (by decide) rfl (fun ls hl => ?_)
          refine lv_goto (tgt := 53) K.1.1 K.1.2.1 dX10_digest_80 (by decide) ?_
          exact ih_53 _ _ _ _ _ _ (by subst eg_1 er_2 ev3_17 ev1_17 ev3_53 ev1_53 eμ_53 er_6 er_7 ex_8; exact nI_1 _) (by subst eg_1 er_2 ev3_17 ev1_17 ev3_53 ev1_53 eμ_53 er_6 er_7 ex_8; rfl) (by subst eg_1 er_2 ev3_17 ev1_17 ev3_53 ev1_53 eμ_53 er_6 er_7 ex_8; rfl) hP hS (lv_sub hl [0, 1, 2] rfl)
    · exact absurd c_20 (not_not_intro (by subst eg_1 er_2 ev3_17 ev1_17; rw [NN_eq]; decide))
  · intro w hw ih_17 v3_17 v1_17 H locs ls ev3_17 ev1_17 hP hS hl
    rw [NN_eq] at hw
    refine lv_iload_n K.1.1 K.1.2.1 dX10_digest_17 rfl (lv_at hl 0 rfl) ?_
    refine lv_bipush (v := 12) K.1.1 K.1.2.1 dX10_digest_18 (by decide) ?_
    refine lv_icmp_ge (tgt := 40) K.1.1 K.1.2.1 dX10_digest_20 (by decide) (fun c_20 => ?_) (fun c_20 => ?_)
    · exact absurd c_20 (by subst eg_1 er_2 ev3_17 ev1_17; exact nI_ge (a := w) (b := 12) hw (by decide))
    · refine lv_lload_n K.1.1 K.1.2.1 dX10_digest_23 rfl (lv_at hl 1 rfl) ?_
      refine lv_aload_n K.1.1 K.1.2.1 dX10_digest_24 rfl (lv_at hl 2 rfl) ?_
      refine lv_iload_n K.1.1 K.1.2.1 dX10_digest_25 rfl (lv_at hl 0 rfl) ?_
      refine m_cV (n := 1) (As := [.int v3_17]) (rest := [.long v1_17]) K hP hS (MX10_wholeValue l G B _ v3_17 ) (by decide) sh_0 rfl q_435 q_437 q_1 q_15 q_438 hv_X10_wholeValue ⟨Nat.le_of_ble_eq_true rfl, Nat.le_of_ble_eq_true rfl⟩ rfl hl.1 rfl (Nat.le_of_ble_eq_true rfl) dX10_digest_26 ⟨Nat.zero_le _, Nat.zero_le _⟩ (fun H locs hP hS => ?_)
      refine lv_topi (fun r_9 er_9 => ?_)
      refine lv_i2l K.1.1 K.1.2.1 dX10_digest_29 rfl ?_
      refine m_cS (n := 2) (As := [.long v1_17, .long (r_9.toInt64)]) (rest := []) K hP hS (MX10_mix l G B _ v1_17 (r_9.toInt64) ) q_448 q_449 q_15 q_450 hv_X10_mix ⟨Nat.le_of_ble_eq_true rfl, Nat.le_of_ble_eq_true rfl⟩ rfl hl.1 rfl (Nat.le_of_ble_eq_true rfl) dX10_digest_30 ⟨Nat.zero_le _, Nat.zero_le _⟩ (fun H locs hP hS => ?_)
      refine lv_topl (fun r_10 er_10 => ?_)
      refine lv_lstore_n (lv' := [(1, .long r_10), (3, .int v3_17), (0, .ref (B + 0))]) K.1.1 K.1.2.1 dX10_digest_33 rfl hl (by decide) rfl (fun ls hl => ?_)
      obtain ⟨x_11, ex_11⟩ : ∃ y : Int32, y = v3_17 + (1) := ⟨_, rfl⟩
      refine lv_iinc (v := x_11) (lv' := [(3, .int x_11), (1, .long r_10), (0, .ref (B + 0))]) K.1.1 K.1.2.1 dX10_digest_34 hl (k := 1) rfl (by rw [ex_11]; rfl) (by decide) rfl (fun ls hl => ?_)
      refine lv_goto (tgt := 17) K.1.1 K.1.2.1 dX10_digest_37 (by decide) ?_
      exact ih_17 _ _ _ _ _ (by subst eg_1 er_2 ev3_17 ev1_17 er_9 er_10 ex_11; exact nI_1 _) (by subst eg_1 er_2 ev3_17 ev1_17 er_9 er_10 ex_11; rfl) hP hS (lv_sub hl [0, 1, 2] rfl)

