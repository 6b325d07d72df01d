set_option maxHeartbeats 4000000 in
set_option maxRecDepth 100000 in
theorem MX10_trade (l : Launch) (G : GG) (B : Nat) (μ : Mm) (i : Int32) (w : Int32) (h1 : ¬ i < 0) (h2 : X_what w 5 = 0) : CM l yX10_trade (.code yX10_trade cX10_trade 3 (Option.some FieldType.int)) 2 43 G B [.ref (B + 0), .int i, .int w] μ (some (.int (S_valueOf μ (1 + 29) i w))) μ := by
  refine CM.of (by decide) (Nat.le_of_ble_eq_true rfl) ?_
  intro p e s m below meth c ls K hr hlocks hP hl
  have hS : va_S (AA B) s.heap s.heap [] := va_S.rf
  have hl : lv_has ls 3 [(0, .ref (B + 0)), (1, .int i), (2, .int w)] := hl
  refine lv_iload_n K.1.1 K.1.2.1 dX10_trade_0 rfl (lv_at hl 1 rfl) ?_
  refine lv_if_ge (tgt := 8) K.1.1 K.1.2.1 dX10_trade_1 (by decide) (fun c_1 => ?_) (fun c_1 => ?_)
  · refine lv_iload_n K.1.1 K.1.2.1 dX10_trade_8 rfl (lv_at hl 2 rfl) ?_
    refine lv_iconst (v := 5) K.1.1 K.1.2.1 dX10_trade_9 (by decide) ?_
    refine m_cS (n := 2) (As := [.int w, .int 5]) (rest := []) K hP hS (MX10_faultOfWhat l G B _ w 5 ) q_326 q_327 q_15 q_328 hv_X10_faultOfWhat ⟨Nat.le_of_ble_eq_true rfl, Nat.le_of_ble_eq_true rfl⟩ rfl hl.1 rfl (Nat.le_of_ble_eq_true rfl) dX10_trade_10 ⟨Nat.zero_le _, Nat.zero_le _⟩ (fun H locs hP hS => ?_)
    refine lv_topi (fun r_1 er_1 => ?_)
    have hz_13 : r_1 = 0 := (by subst er_1; exact h2)
    subst hz_13
    refine m_cS (n := 1) (As := [.int 0]) (rest := []) K hP hS (MX10_refuse l G B _  ) q_332 q_333 q_15 q_334 hv_X10_refuse ⟨Nat.le_of_ble_eq_true rfl, Nat.le_of_ble_eq_true rfl⟩ rfl hl.1 rfl (Nat.le_of_ble_eq_true rfl) dX10_trade_13 ⟨Nat.zero_le _, Nat.zero_le _⟩ (fun H locs hP hS => ?_)
    refine W.eq (g2 := F0 m 16 ls []) rfl ?_
    refine lv_aload_n K.1.1 K.1.2.1 dX10_trade_16 rfl (lv_at hl 0 rfl) ?_
    refine m_getr K hP (by decide) sh_0 rfl tuX10 0 (by decide) rfl q_306 dX10_trade_17 ?_
    refine m_getr K hP isA_1.1 isA_1.2.1 rfl tuX1 2 (by decide) rfl q_176 dX10_trade_20 ?_
    refine lv_iload_n K.1.1 K.1.2.1 dX10_trade_23 rfl (lv_at hl 1 rfl) ?_
    refine lv_iload_n K.1.1 K.1.2.1 dX10_trade_24 rfl (lv_at hl 2 rfl) ?_
    refine m_cV (n := 2) (As := [.int i, .int w]) (rest := []) K hP hS (MX7_valueOf l G B _ (1 + 29) isA_1.2.2.2.2 i w ) isA_1.2.2.2.2.1 isA_1.2.2.2.2.2.1 rfl q_571 q_572 q_573 q_20 q_574 hv_X7_valueOf ⟨Nat.le_of_ble_eq_true rfl, Nat.le_of_ble_eq_true rfl⟩ rfl hl.1 rfl (Nat.le_of_ble_eq_true rfl) dX10_trade_25 ⟨Nat.zero_le _, Nat.zero_le _⟩ (fun H locs hP hS => ?_)
    refine lv_topi (fun r_2 er_2 => ?_)
    exact m_iret K hr hlocks hP hS dX10_trade_28 (by subst er_2; rfl) rfl
  · exact absurd c_1 (not_not_intro (Int32.not_lt.mp h1))

set_option maxHeartbeats 4000000 in
set_option maxRecDepth 100000 in
theorem MX10_now (l : Launch) (G : GG) (B : Nat) (μ : Mm) (w : Int32) (h1 : X_what w 7 = 0) : CM l yX10_now (.code yX10_now cX10_now 2 (Option.some FieldType.int)) 4 93 G B [.ref (B + 0), .int w] μ (some (.int (C_valueOf (C_settle μ 1) 1 w))) (C_valueM (C_settle μ 1) 1 w) := by
  refine CM.of (by decide) (Nat.le_of_ble_eq_true rfl) ?_
  intro p e s m below meth c ls K hr hlocks hP hl
  have hS : va_S (AA B) s.heap s.heap [] := va_S.rf
  have hl : lv_has ls 2 [(0, .ref (B + 0)), (1, .int w)] := hl
  refine lv_iload_n K.1.1 K.1.2.1 dX10_now_0 rfl (lv_at hl 1 rfl) ?_
  refine lv_bipush (v := 7) K.1.1 K.1.2.1 dX10_now_1 (by decide) ?_
  refine m_cS (n := 2) (As := [.int w, .int 7]) (rest := []) K hP hS (MX10_faultOfWhat l G B _ w 7 ) q_326 q_327 q_15 q_328 hv_X10_faultOfWhat ⟨Nat.le_of_ble_eq_true rfl, Nat.le_of_ble_eq_true rfl⟩ rfl hl.1 rfl (Nat.le_of_ble_eq_true rfl) dX10_now_3 ⟨Nat.zero_le _, Nat.zero_le _⟩ (fun H locs hP hS => ?_)
  refine lv_topi (fun r_1 er_1 => ?_)
  have hz_6 : r_1 = 0 := (by subst er_1; exact h1)
  subst hz_6
  refine m_cS (n := 1) (As := [.int 0]) (rest := []) K hP hS (MX10_refuse l G B _  ) q_332 q_333 q_15 q_334 hv_X10_refuse ⟨Nat.le_of_ble_eq_true rfl, Nat.le_of_ble_eq_true rfl⟩ rfl hl.1 rfl (Nat.le_of_ble_eq_true rfl) dX10_now_6 ⟨Nat.zero_le _, Nat.zero_le _⟩ (fun H locs hP hS => ?_)
  refine W.eq (g2 := F0 m 9 ls []) rfl ?_
  refine lv_aload_n K.1.1 K.1.2.1 dX10_now_9 rfl (lv_at hl 0 rfl) ?_
  refine m_getr K hP (by decide) sh_0 rfl tuX10 2 (by decide) rfl q_308 dX10_now_10 ?_
  refine lv_aload_n K.1.1 K.1.2.1 dX10_now_13 rfl (lv_at hl 0 rfl) ?_
  refine m_getr K hP (by decide) sh_0 rfl tuX10 0 (by decide) rfl q_306 dX10_now_14 ?_
  refine m_cV (n := 1) (As := [.ref (B + 1)]) (rest := []) K hP hS (MX2_settle l G B _ 1 isA_1 ) (by decide) sh_81 rfl q_452 q_453 q_454 q_21 q_455 hv_X2_settle ⟨Nat.le_of_ble_eq_true rfl, Nat.le_of_ble_eq_true rfl⟩ rfl hl.1 rfl (Nat.le_of_ble_eq_true rfl) dX10_now_17 ⟨Nat.zero_le _, Nat.zero_le _⟩ (fun H locs hP hS => ?_)
  refine W.eq (g2 := F0 m 20 ls []) rfl ?_
  refine lv_aload_n K.1.1 K.1.2.1 dX10_now_20 rfl (lv_at hl 0 rfl) ?_
  refine m_getr K hP (by decide) sh_0 rfl tuX10 2 (by decide) rfl q_308 dX10_now_21 ?_
  refine lv_aload_n K.1.1 K.1.2.1 dX10_now_24 rfl (lv_at hl 0 rfl) ?_
  refine m_getr K hP (by decide) sh_0 rfl tuX10 0 (by decide) rfl q_306 dX10_now_25 ?_
  refine lv_iload_n K.1.1 K.1.2.1 dX10_now_28 rfl (lv_at hl 1 rfl) ?_
  refine m_cV (n := 2) (As := [.ref (B + 1), .int w]) (rest := []) K hP hS (MX2_valueOf l G B _ 1 isA_1 w ) (by decide) sh_81 rfl q_503 q_504 q_505 q_21 q_506 hv_X2_valueOf ⟨Nat.le_of_ble_eq_true rfl, Nat.le_of_ble_eq_true rfl⟩ rfl hl.1 rfl (Nat.le_of_ble_eq_true rfl) dX10_now_29 ⟨Nat.zero_le _, Nat.zero_le _⟩ (fun H locs hP hS => ?_)
  refine lv_topi (fun r_2 er_2 => ?_)
  exact m_iret K hr hlocks hP hS dX10_now_32 (by subst er_2; rfl) (by subst er_2; rfl)

set_option maxHeartbeats 4000000 in
set_option maxRecDepth 100000 in
theorem MX10_whole (l : Launch) (G : GG) (B : Nat) (μ : Mm) (w : Int32) (h1 : X_what w 12 = 0) : CM l yX10_whole (.code yX10_whole cX10_whole 2 (Option.some FieldType.int)) 2 43 G B [.ref (B + 0), .int w] μ (some (.int (X_whole μ w))) μ := by
  refine CM.of (by decide) (Nat.le_of_ble_eq_true rfl) ?_
  intro p e s m below meth c ls K hr hlocks hP hl
  have hS : va_S (AA B) s.heap s.heap [] := va_S.rf
  have hl : lv_has ls 2 [(0, .ref (B + 0)), (1, .int w)] := hl
  refine lv_iload_n K.1.1 K.1.2.1 dX10_whole_0 rfl (lv_at hl 1 rfl) ?_
  refine lv_bipush (v := 12) K.1.1 K.1.2.1 dX10_whole_1 (by decide) ?_
  refine m_cS (n := 2) (As := [.int w, .int 12]) (rest := []) K hP hS (MX10_faultOfWhat l G B _ w 12 ) q_326 q_327 q_15 q_328 hv_X10_faultOfWhat ⟨Nat.le_of_ble_eq_true rfl, Nat.le_of_ble_eq_true rfl⟩ rfl hl.1 rfl (Nat.le_of_ble_eq_true rfl) dX10_whole_3 ⟨Nat.zero_le _, Nat.zero_le _⟩ (fun H locs hP hS => ?_)
  refine lv_topi (fun r_1 er_1 => ?_)
  have hz_6 : r_1 = 0 := (by subst er_1; exact h1)
  subst hz_6
  refine m_cS (n := 1) (As := [.int 0]) (rest := []) K hP hS (MX10_refuse l G B _  ) q_332 q_333 q_15 q_334 hv_X10_refuse ⟨Nat.le_of_ble_eq_true rfl, Nat.le_of_ble_eq_true rfl⟩ rfl hl.1 rfl (Nat.le_of_ble_eq_true rfl) dX10_whole_6 ⟨Nat.zero_le _, Nat.zero_le _⟩ (fun H locs hP hS => ?_)
  refine W.eq (g2 := F0 m 9 ls []) rfl ?_
  refine lv_aload_n K.1.1 K.1.2.1 dX10_whole_9 rfl (lv_at hl 0 rfl) ?_
  refine lv_iload_n K.1.1 K.1.2.1 dX10_whole_10 rfl (lv_at hl 1 rfl) ?_
  refine m_cV (n := 1) (As := [.int w]) (rest := []) K hP hS (MX10_wholeValue l G B _ w ) (by decide) sh_0 rfl q_435 q_437 q_1 q_15 q_438 hv_X10_wholeValue ⟨Nat.le_of_ble_eq_true rfl, Nat.le_of_ble_eq_true rfl⟩ rfl hl.1 rfl (Nat.le_of_ble_eq_true rfl) dX10_whole_11 ⟨Nat.zero_le _, Nat.zero_le _⟩ (fun H locs hP hS => ?_)
  refine lv_topi (fun r_2 er_2 => ?_)
  exact m_iret K hr hlocks hP hS dX10_whole_14 (by subst er_2; rfl) rfl

set_option maxHeartbeats 4000000 in
set_option maxRecDepth 100000 in
theorem MX10_reason (l : Launch) (G : GG) (B : Nat) (μ : Mm) (n : Int32) (h1 : O_faultOfNumber μ (1 + 16) n = 0) : CM l yX10_reason (.code yX10_reason cX10_reason 2 (Option.some FieldType.int)) 4 91 G B [.ref (B + 0), .int n] μ (some (.int (C_reasonOf (C_settle μ 1) (1 + 16) (O_indexOf (C_settle μ 1) (1 + 16) n)))) (C_settle μ 1) := by
  refine CM.of (by decide) (Nat.le_of_ble_eq_true rfl) ?_
  intro p e s m below meth c ls K hr hlocks hP hl
  have hS : va_S (AA B) s.heap s.heap [] := va_S.rf
  have hl : lv_has ls 2 [(0, .ref (B + 0)), (1, .int n)] := hl
  refine lv_aload_n K.1.1 K.1.2.1 dX10_reason_0 rfl (lv_at hl 0 rfl) ?_
  refine m_getr K hP (by decide) sh_0 rfl tuX10 0 (by decide) rfl q_306 dX10_reason_1 ?_
  refine m_getr K hP isA_1.1 isA_1.2.1 rfl tuX1 1 (by decide) rfl q_174 dX10_reason_4 ?_
  refine lv_iload_n K.1.1 K.1.2.1 dX10_reason_7 rfl (lv_at hl 1 rfl) ?_
  refine m_cV (n := 1) (As := [.int n]) (rest := []) K hP hS (MX4_faultOfNumber l G B _ (1 + 16) isA_1.2.2.2.1 n ) isA_1.2.2.2.1.1 isA_1.2.2.2.1.2.1 rfl q_610 q_611 q_612 q_19 q_613 hv_X4_faultOfNumber ⟨Nat.le_of_ble_eq_true rfl, Nat.le_of_ble_eq_true rfl⟩ rfl hl.1 rfl (Nat.le_of_ble_eq_true rfl) dX10_reason_8 ⟨Nat.zero_le _, Nat.zero_le _⟩ (fun H locs hP hS => ?_)
  refine lv_topi (fun r_1 er_1 => ?_)
  have hz_11 : r_1 = 0 := (by subst er_1; exact h1)
  subst hz_11
  refine m_cS (n := 1) (As := [.int 0]) (rest := []) K hP hS (MX10_refuse l G B _  ) q_332 q_333 q_15 q_334 hv_X10_refuse ⟨Nat.le_of_ble_eq_true rfl, Nat.le_of_ble_eq_true rfl⟩ rfl hl.1 rfl (Nat.le_of_ble_eq_true rfl) dX10_reason_11 ⟨Nat.zero_le _, Nat.zero_le _⟩ (fun H locs hP hS => ?_)
  refine W.eq (g2 := F0 m 14 ls []) rfl ?_
  refine lv_aload_n K.1.1 K.1.2.1 dX10_reason_14 rfl (lv_at hl 0 rfl) ?_
  refine m_getr K hP (by decide) sh_0 rfl tuX10 2 (by decide) rfl q_308 dX10_reason_15 ?_
  refine lv_aload_n K.1.1 K.1.2.1 dX10_reason_18 rfl (lv_at hl 0 rfl) ?_
  refine m_getr K hP (by decide) sh_0 rfl tuX10 0 (by decide) rfl q_306 dX10_reason_19 ?_
  refine m_cV (n := 1) (As := [.ref (B + 1)]) (rest := []) K hP hS (MX2_settle l G B _ 1 isA_1 ) (by decide) sh_81 rfl q_452 q_453 q_454 q_21 q_455 hv_X2_settle ⟨Nat.le_of_ble_eq_true rfl, Nat.le_of_ble_eq_true rfl⟩ rfl hl.1 rfl (Nat.le_of_ble_eq_true rfl) dX10_reason_22 ⟨Nat.zero_le _, Nat.zero_le _⟩ (fun H locs hP hS => ?_)
  refine W.eq (g2 := F0 m 25 ls []) rfl ?_
  refine lv_aload_n K.1.1 K.1.2.1 dX10_reason_25 rfl (lv_at hl 0 rfl) ?_
  refine m_getr K hP (by decide) sh_0 rfl tuX10 2 (by decide) rfl q_308 dX10_reason_26 ?_
  refine lv_aload_n K.1.1 K.1.2.1 dX10_reason_29 rfl (lv_at hl 0 rfl) ?_
  refine m_getr K hP (by decide) sh_0 rfl tuX10 0 (by decide) rfl q_306 dX10_reason_30 ?_
  refine m_getr K hP isA_1.1 isA_1.2.1 rfl tuX1 1 (by decide) rfl q_174 dX10_reason_33 ?_
  refine lv_aload_n K.1.1 K.1.2.1 dX10_reason_36 rfl (lv_at hl 0 rfl) ?_
  refine m_getr K hP (by decide) sh_0 rfl tuX10 0 (by decide) rfl q_306 dX10_reason_37 ?_
  refine m_getr K hP isA_1.1 isA_1.2.1 rfl tuX1 1 (by decide) rfl q_174 dX10_reason_40 ?_
  refine lv_iload_n K.1.1 K.1.2.1 dX10_reason_43 rfl (lv_at hl 1 rfl) ?_
  refine m_cV (n := 1) (As := [.int n]) (rest := [.ref (B + (1 + 16)), .ref (B + 81)]) K hP hS (MX4_indexOf l G B _ (1 + 16) isA_1.2.2.2.1 n ) isA_1.2.2.2.1.1 isA_1.2.2.2.1.2.1 rfl q_618 q_615 q_616 q_19 q_617 hv_X4_indexOf ⟨Nat.le_of_ble_eq_true rfl, Nat.le_of_ble_eq_true rfl⟩ rfl hl.1 rfl (Nat.le_of_ble_eq_true rfl) dX10_reason_44 ⟨Nat.zero_le _, Nat.zero_le _⟩ (fun H locs hP hS => ?_)
  refine lv_topi (fun r_2 er_2 => ?_)
  refine m_cV (n := 2) (As := [.ref (B + (1 + 16)), .int r_2]) (rest := []) K hP hS (MX2_reasonOf l G B _ (1 + 16) isA_1.2.2.2.1 r_2 ) (by decide) sh_81 rfl q_846 q_847 q_848 q_21 q_849 hv_X2_reasonOf ⟨Nat.le_of_ble_eq_true rfl, Nat.le_of_ble_eq_true rfl⟩ rfl hl.1 rfl (Nat.le_of_ble_eq_true rfl) dX10_reason_47 ⟨Nat.zero_le _, Nat.zero_le _⟩ (fun H locs hP hS => ?_)
  refine lv_topi (fun r_3 er_3 => ?_)
  exact m_iret K hr hlocks hP hS dX10_reason_50 (by subst er_2 er_3; rfl) (by subst er_2 er_3; rfl)

set_option maxHeartbeats 4000000 in
set_option maxRecDepth 100000 in
theorem MX10_gainWith (l : Launch) (G : GG) (B : Nat) (μ : Mm) (t : Int32) (pr : Int32) (h1 : T_faultOfNumber μ (1 + 1) t = 0) (h2 : X_price pr = 0) : CM l yX10_gainWith (.code yX10_gainWith cX10_gainWith 3 (Option.some FieldType.int)) 4 91 G B [.ref (B + 0), .int t, .int pr] μ (some (.int (X_gainWith μ t pr))) (X_gainWithM μ t pr) := by
  refine CM.of (by decide) (Nat.le_of_ble_eq_true rfl) ?_
  intro p e s m below meth c ls K hr hlocks hP hl
  have hS : va_S (AA B) s.heap s.heap [] := va_S.rf
  have hl : lv_has ls 3 [(0, .ref (B + 0)), (1, .int t), (2, .int pr)] := hl
  refine lv_aload_n K.1.1 K.1.2.1 dX10_gainWith_0 rfl (lv_at hl 0 rfl) ?_
  refine m_getr K hP (by decide) sh_0 rfl tuX10 0 (by decide) rfl q_306 dX10_gainWith_1 ?_
  refine m_getr K hP isA_1.1 isA_1.2.1 rfl tuX1 0 (by decide) rfl q_170 dX10_gainWith_4 ?_
  refine lv_iload_n K.1.1 K.1.2.1 dX10_gainWith_7 rfl (lv_at hl 1 rfl) ?_
  refine m_cV (n := 1) (As := [.int t]) (rest := []) K hP hS (MX6_faultOfNumber l G B _ (1 + 1) isA_1.2.2.1 t ) isA_1.2.2.1.1 isA_1.2.2.1.2.1 rfl q_593 q_594 q_595 q_17 q_596 hv_X6_faultOfNumber ⟨Nat.le_of_ble_eq_true rfl, Nat.le_of_ble_eq_true rfl⟩ rfl hl.1 rfl (Nat.le_of_ble_eq_true rfl) dX10_gainWith_8 ⟨Nat.zero_le _, Nat.zero_le _⟩ (fun H locs hP hS => ?_)
  refine lv_topi (fun r_1 er_1 => ?_)
  have hz_11 : r_1 = 0 := (by subst er_1; exact h1)
  subst hz_11
  refine m_cS (n := 1) (As := [.int 0]) (rest := []) K hP hS (MX10_refuse l G B _  ) q_332 q_333 q_15 q_334 hv_X10_refuse ⟨Nat.le_of_ble_eq_true rfl, Nat.le_of_ble_eq_true rfl⟩ rfl hl.1 rfl (Nat.le_of_ble_eq_true rfl) dX10_gainWith_11 ⟨Nat.zero_le _, Nat.zero_le _⟩ (fun H locs hP hS => ?_)
  refine W.eq (g2 := F0 m 14 ls []) rfl ?_
  refine lv_iload_n K.1.1 K.1.2.1 dX10_gainWith_14 rfl (lv_at hl 2 rfl) ?_
  refine m_cS (n := 1) (As := [.int pr]) (rest := []) K hP hS (MX10_faultOfPrice l G B _ pr ) q_819 q_820 q_15 q_821 hv_X10_faultOfPrice ⟨Nat.le_of_ble_eq_true rfl, Nat.le_of_ble_eq_true rfl⟩ rfl hl.1 rfl (Nat.le_of_ble_eq_true rfl) dX10_gainWith_15 ⟨Nat.zero_le _, Nat.zero_le _⟩ (fun H locs hP hS => ?_)
  refine lv_topi (fun r_2 er_2 => ?_)
  have hz_18 : r_2 = 0 := (by subst er_2; exact h2)
  subst hz_18
  refine m_cS (n := 1) (As := [.int 0]) (rest := []) K hP hS (MX10_refuse l G B _  ) q_332 q_333 q_15 q_334 hv_X10_refuse ⟨Nat.le_of_ble_eq_true rfl, Nat.le_of_ble_eq_true rfl⟩ rfl hl.1 rfl (Nat.le_of_ble_eq_true rfl) dX10_gainWith_18 ⟨Nat.zero_le _, Nat.zero_le _⟩ (fun H locs hP hS => ?_)
  refine W.eq (g2 := F0 m 21 ls []) rfl ?_
  refine lv_aload_n K.1.1 K.1.2.1 dX10_gainWith_21 rfl (lv_at hl 0 rfl) ?_
  refine m_getr K hP (by decide) sh_0 rfl tuX10 0 (by decide) rfl q_306 dX10_gainWith_22 ?_
  refine m_getr K hP isA_1.1 isA_1.2.1 rfl tuX1 1 (by decide) rfl q_174 dX10_gainWith_25 ?_
  refine m_cV (n := 0) (As := []) (rest := []) K hP hS (MX4_isFull l G B _ (1 + 16) isA_1.2.2.2.1 ) isA_1.2.2.2.1.1 isA_1.2.2.2.1.2.1 rfl q_822 q_734 q_735 q_19 q_736 hv_X4_isFull ⟨Nat.le_of_ble_eq_true rfl, Nat.le_of_ble_eq_true rfl⟩ rfl hl.1 rfl (Nat.le_of_ble_eq_true rfl) dX10_gainWith_28 ⟨Nat.zero_le _, Nat.zero_le _⟩ (fun H locs hP hS => ?_)
  refine lv_topi (fun r_3 er_3 => ?_)
  refine lv_if_eq (tgt := 38) K.1.1 K.1.2.1 dX10_gainWith_31 (by decide) (fun c_31 => ?_) (fun c_31 => ?_)
  · refine lv_aload_n K.1.1 K.1.2.1 dX10_gainWith_38 rfl (lv_at hl 0 rfl) ?_
    refine m_getr K hP (by decide) sh_0 rfl tuX10 1 (by decide) rfl q_307 dX10_gainWith_39 ?_
    refine lv_aload_n K.1.1 K.1.2.1 dX10_gainWith_42 rfl (lv_at hl 0 rfl) ?_
    refine m_getr K hP (by decide) sh_0 rfl tuX10 0 (by decide) rfl q_306 dX10_gainWith_43 ?_
    refine m_cV (n := 1) (As := [.ref (B + 1)]) (rest := []) K hP hS (MX1_copyFrom l G B _ 41 isA_41 1 isA_1 ) isA_41.1 isA_41.2.1 rfl q_823 q_658 q_659 q_16 q_660 hv_X1_copyFrom ⟨Nat.le_of_ble_eq_true rfl, Nat.le_of_ble_eq_true rfl⟩ rfl hl.1 rfl (Nat.le_of_ble_eq_true rfl) dX10_gainWith_46 ⟨Nat.zero_le _, Nat.zero_le _⟩ (fun H locs hP hS => ?_)
    refine W.eq (g2 := F0 m 49 ls []) rfl ?_
    refine lv_aload_n K.1.1 K.1.2.1 dX10_gainWith_49 rfl (lv_at hl 0 rfl) ?_
    refine m_getr K hP (by decide) sh_0 rfl tuX10 1 (by decide) rfl q_307 dX10_gainWith_50 ?_
    refine lv_iload_n K.1.1 K.1.2.1 dX10_gainWith_53 rfl (lv_at hl 1 rfl) ?_
    refine lv_iload_n K.1.1 K.1.2.1 dX10_gainWith_54 rfl (lv_at hl 2 rfl) ?_
    refine lv_iconst (v := 1) K.1.1 K.1.2.1 dX10_gainWith_55 (by decide) ?_
    refine m_cV (n := 3) (As := [.int t, .int pr, .int 1]) (rest := []) K hP hS (MX1_place l G B _ 41 isA_41 t pr 1 ) isA_41.1 isA_41.2.1 rfl q_737 q_738 q_739 q_16 q_740 hv_X1_place ⟨Nat.le_of_ble_eq_true rfl, Nat.le_of_ble_eq_true rfl⟩ rfl hl.1 rfl (Nat.le_of_ble_eq_true rfl) dX10_gainWith_56 ⟨Nat.zero_le _, Nat.zero_le _⟩ (fun H locs hP hS => ?_)
    refine lv_topi (fun r_4 er_4 => ?_)
    refine lv_pop K.1.1 K.1.2.1 dX10_gainWith_59 rfl ?_
    refine lv_aload_n K.1.1 K.1.2.1 dX10_gainWith_60 rfl (lv_at hl 0 rfl) ?_
    refine m_getr K hP (by decide) sh_0 rfl tuX10 2 (by decide) rfl q_308 dX10_gainWith_61 ?_
    refine lv_aload_n K.1.1 K.1.2.1 dX10_gainWith_64 rfl (lv_at hl 0 rfl) ?_
    refine m_getr K hP (by decide) sh_0 rfl tuX10 1 (by decide) rfl q_307 dX10_gainWith_65 ?_
    refine m_cV (n := 1) (As := [.ref (B + 41)]) (rest := []) K hP hS (MX2_settle l G B _ 41 isA_41 ) (by decide) sh_81 rfl q_452 q_453 q_454 q_21 q_455 hv_X2_settle ⟨Nat.le_of_ble_eq_true rfl, Nat.le_of_ble_eq_true rfl⟩ rfl hl.1 rfl (Nat.le_of_ble_eq_true rfl) dX10_gainWith_68 ⟨Nat.zero_le _, Nat.zero_le _⟩ (fun H locs hP hS => ?_)
    refine W.eq (g2 := F0 m 71 ls []) rfl ?_
    refine lv_aload_n K.1.1 K.1.2.1 dX10_gainWith_71 rfl (lv_at hl 0 rfl) ?_
    refine m_getr K hP (by decide) sh_0 rfl tuX10 2 (by decide) rfl q_308 dX10_gainWith_72 ?_
    refine lv_aload_n K.1.1 K.1.2.1 dX10_gainWith_75 rfl (lv_at hl 0 rfl) ?_
    refine m_getr K hP (by decide) sh_0 rfl tuX10 1 (by decide) rfl q_307 dX10_gainWith_76 ?_
    refine lv_iload_n K.1.1 K.1.2.1 dX10_gainWith_79 rfl (lv_at hl 1 rfl) ?_
    refine lv_aload_n K.1.1 K.1.2.1 dX10_gainWith_80 rfl (lv_at hl 0 rfl) ?_
    refine m_getr K hP (by decide) sh_0 rfl tuX10 2 (by decide) rfl q_308 dX10_gainWith_81 ?_
    refine m_geti K hP (by decide) sh_81 rfl tuX2 2 (by decide) rfl q_221 dX10_gainWith_84 ?_
    refine lv_topi (fun g_5 eg_5 => ?_)
    refine m_cV (n := 3) (As := [.ref (B + 41), .int t, .int g_5]) (rest := []) K hP hS (MX2_gainOf l G B _ 41 isA_41 t g_5 ) (by decide) sh_81 rfl q_824 q_825 q_826 q_21 q_827 hv_X2_gainOf ⟨Nat.le_of_ble_eq_true rfl, Nat.le_of_ble_eq_true rfl⟩ rfl hl.1 rfl (Nat.le_of_ble_eq_true rfl) dX10_gainWith_87 ⟨Nat.zero_le _, Nat.zero_le _⟩ (fun H locs hP hS => ?_)
    refine lv_topi (fun r_6 er_6 => ?_)
    exact m_iret K hr hlocks hP hS dX10_gainWith_90 (by subst er_3 er_4 eg_5 er_6; first | (rw [X_gainWith, if_pos c_31]; done) | (rw [X_gainWith, if_pos c_31]; rfl) | (rw [X_gainWith, if_neg c_31]; done) | (rw [X_gainWith, if_neg c_31]; rfl)) (by subst er_3 er_4 eg_5 er_6; first | (rw [X_gainWithM, if_pos c_31]; done) | (rw [X_gainWithM, if_pos c_31]; rfl) | (rw [X_gainWithM, if_neg c_31]; done) | (rw [X_gainWithM, if_neg c_31]; rfl))
  · refine lv_sipush (v := (-10000)) K.1.1 K.1.2.1 dX10_gainWith_34 (by decide) ?_
    exact m_iret K hr hlocks hP hS dX10_gainWith_37 (by subst er_3; first | (rw [X_gainWith, if_pos c_31]; done) | (rw [X_gainWith, if_pos c_31]; rfl) | (rw [X_gainWith, if_neg c_31]; done) | (rw [X_gainWith, if_neg c_31]; rfl)) (by subst er_3; first | (rw [X_gainWithM, if_pos c_31]; done) | (rw [X_gainWithM, if_pos c_31]; rfl) | (rw [X_gainWithM, if_neg c_31]; done) | (rw [X_gainWithM, if_neg c_31]; rfl))

set_option maxHeartbeats 4000000 in
set_option maxRecDepth 100000 in
theorem MX10_bestSplit (l : Launch) (G : GG) (B : Nat) (μ : Mm) (t : Int32) (h1 : T_faultOfNumber μ (1 + 1) t = 0) : CM l yX10_bestSplit (.code yX10_bestSplit cX10_bestSplit 6 (Option.some FieldType.int)) 4 91 G B [.ref (B + 0), .int t] μ (some (.int (X_bestSplit μ t))) (C_settle μ 1) := by
  refine CM.of (by decide) (Nat.le_of_ble_eq_true rfl) ?_
  intro p e s m below meth c ls K hr hlocks hP hl
  have hS : va_S (AA B) s.heap s.heap [] := va_S.rf
  have hl : lv_has ls 6 [(0, .ref (B + 0)), (1, .int t)] := hl
  refine lv_aload_n K.1.1 K.1.2.1 dX10_bestSplit_0 rfl (lv_at hl 0 rfl) ?_
  refine m_getr K hP (by decide) sh_0 rfl tuX10 0 (by decide) rfl q_306 dX10_bestSplit_1 ?_
  refine m_getr K hP isA_1.1 isA_1.2.1 rfl tuX1 0 (by decide) rfl q_170 dX10_bestSplit_4 ?_
  refine lv_iload_n K.1.1 K.1.2.1 dX10_bestSplit_7 rfl (lv_at hl 1 rfl) ?_
  refine m_cV (n := 1) (As := [.int t]) (rest := []) K hP hS (MX6_faultOfNumber l G B _ (1 + 1) isA_1.2.2.1 t ) isA_1.2.2.1.1 isA_1.2.2.1.2.1 rfl q_593 q_594 q_595 q_17 q_596 hv_X6_faultOfNumber ⟨Nat.le_of_ble_eq_true rfl, Nat.le_of_ble_eq_true rfl⟩ rfl hl.1 rfl (Nat.le_of_ble_eq_true rfl) dX10_bestSplit_8 ⟨Nat.zero_le _, Nat.zero_le _⟩ (fun H locs hP hS => ?_)
  refine lv_topi (fun r_1 er_1 => ?_)
  have hz_11 : r_1 = 0 := (by subst er_1; exact h1)
  subst hz_11
  refine m_cS (n := 1) (As := [.int 0]) (rest := []) K hP hS (MX10_refuse l G B _  ) q_332 q_333 q_15 q_334 hv_X10_refuse ⟨Nat.le_of_ble_eq_true rfl, Nat.le_of_ble_eq_true rfl⟩ rfl hl.1 rfl (Nat.le_of_ble_eq_true rfl) dX10_bestSplit_11 ⟨Nat.zero_le _, Nat.zero_le _⟩ (fun H locs hP hS => ?_)
  refine W.eq (g2 := F0 m 14 ls []) rfl ?_
  refine lv_aload_n K.1.1 K.1.2.1 dX10_bestSplit_14 rfl (lv_at hl 0 rfl) ?_
  refine m_getr K hP (by decide) sh_0 rfl tuX10 2 (by decide) rfl q_308 dX10_bestSplit_15 ?_
  refine lv_aload_n K.1.1 K.1.2.1 dX10_bestSplit_18 rfl (lv_at hl 0 rfl) ?_
  refine m_getr K hP (by decide) sh_0 rfl tuX10 0 (by decide) rfl q_306 dX10_bestSplit_19 ?_
  refine m_cV (n := 1) (As := [.ref (B + 1)]) (rest := []) K hP hS (MX2_settle l G B _ 1 isA_1 ) (by decide) sh_81 rfl q_452 q_453 q_454 q_21 q_455 hv_X2_settle ⟨Nat.le_of_ble_eq_true rfl, Nat.le_of_ble_eq_true rfl⟩ rfl hl.1 rfl (Nat.le_of_ble_eq_true rfl) dX10_bestSplit_22 ⟨Nat.zero_le _, Nat.zero_le _⟩ (fun H locs hP hS => ?_)
  refine W.eq (g2 := F0 m 25 ls []) rfl ?_
  refine lv_aload_n K.1.1 K.1.2.1 dX10_bestSplit_25 rfl (lv_at hl 0 rfl) ?_
  refine m_getr K hP (by decide) sh_0 rfl tuX10 2 (by decide) rfl q_308 dX10_bestSplit_26 ?_
  refine m_geti K hP (by decide) sh_81 rfl tuX2 3 (by decide) rfl q_224 dX10_bestSplit_29 ?_
  refine lv_topi (fun g_2 eg_2 => ?_)
  refine lv_if_ne (tgt := 39) K.1.1 K.1.2.1 dX10_bestSplit_32 (by decide) (fun c_32 => ?_) (fun c_32 => ?_)
  · refine lv_iconst (v := 0) K.1.1 K.1.2.1 dX10_bestSplit_39 (by decide) ?_
    refine lv_istore_n (lv' := [(2, .int 0), (0, .ref (B + 0)), (1, .int t)]) K.1.1 K.1.2.1 dX10_bestSplit_40 rfl hl (by decide) rfl (fun ls hl => ?_)
    refine lv_aload_n K.1.1 K.1.2.1 dX10_bestSplit_41 rfl (lv_at hl 1 rfl) ?_
    refine m_getr K hP (by decide) sh_0 rfl tuX10 2 (by decide) rfl q_308 dX10_bestSplit_42 ?_
    refine lv_aload_n K.1.1 K.1.2.1 dX10_bestSplit_45 rfl (lv_at hl 1 rfl) ?_
    refine m_getr K hP (by decide) sh_0 rfl tuX10 0 (by decide) rfl q_306 dX10_bestSplit_46 ?_
    refine lv_iload_n K.1.1 K.1.2.1 dX10_bestSplit_49 rfl (lv_at hl 2 rfl) ?_
    refine lv_aload_n K.1.1 K.1.2.1 dX10_bestSplit_50 rfl (lv_at hl 1 rfl) ?_
    refine m_getr K hP (by decide) sh_0 rfl tuX10 2 (by decide) rfl q_308 dX10_bestSplit_51 ?_
    refine lv_iconst (v := 0) K.1.1 K.1.2.1 dX10_bestSplit_54 (by decide) ?_
    refine m_cV (n := 1) (As := [.int 0]) (rest := [.int t, .ref (B + 1), .ref (B + 81)]) K hP hS (MX2_priceWith l G B _ 0 ) (by decide) sh_81 rfl q_838 q_492 q_493 q_21 q_494 hv_X2_priceWith ⟨Nat.le_of_ble_eq_true rfl, Nat.le_of_ble_eq_true rfl⟩ rfl hl.1 rfl (Nat.le_of_ble_eq_true rfl) dX10_bestSplit_55 ⟨Nat.zero_le _, Nat.zero_le _⟩ (fun H locs hP hS => ?_)
    refine lv_topi (fun r_3 er_3 => ?_)
    refine m_cV (n := 3) (As := [.ref (B + 1), .int t, .int r_3]) (rest := []) K hP hS (MX2_gainOf l G B _ 1 isA_1 t r_3 ) (by decide) sh_81 rfl q_824 q_825 q_826 q_21 q_827 hv_X2_gainOf ⟨Nat.le_of_ble_eq_true rfl, Nat.le_of_ble_eq_true rfl⟩ rfl hl.1 rfl (Nat.le_of_ble_eq_true rfl) dX10_bestSplit_58 ⟨Nat.zero_le _, Nat.zero_le _⟩ (fun H locs hP hS => ?_)
    refine lv_topi (fun r_4 er_4 => ?_)
    refine lv_istore_n (lv' := [(3, .int r_4), (2, .int 0), (0, .ref (B + 0)), (1, .int t)]) K.1.1 K.1.2.1 dX10_bestSplit_61 rfl hl (by decide) rfl (fun ls hl => ?_)
    refine lv_iconst (v := 1) K.1.1 K.1.2.1 dX10_bestSplit_62 (by decide) ?_
    refine lv_istore (lv' := [(4, .int 1), (3, .int r_4), (2, .int 0), (0, .ref (B + 0)), (1, .int t)]) K.1.1 K.1.2.1 dX10_bestSplit_63 hl (by decide) rfl (fun ls hl => ?_)
    refine up_to (N := NN 10) (P := fun k : Nat => ∀ (v4_65 : Int32) (v3_65 : Int32) (v2_65 : Int32) (μ_65 : Mm) (H : Heap) (locs : List Loc) (ls : Array Slot), (v4_65 = nI (k + 1)) → (v3_65 = (SP_run (C_settle μ 1) t k).2) → (v2_65 = (SP_run (C_settle μ 1) t k).1) → (μ_65 = C_settle μ 1) → MP G B μ_65 H → va_S (AA B) s.heap H locs → lv_has ls 6 [(4, .int v4_65), (3, .int v3_65), (2, .int v2_65), (0, .ref (B + 0)), (1, .int t)] → W p l e ({ frames := 4, cells := 0, slots := 0, locals := 91 } : Room) s m ([.ref (B + 0), .int t] : List Value).toArray below meth c H locs 0 0 (MF below G B (some (.int (X_bestSplit μ t))) (C_settle μ 1) ([.ref (B + 0), .int t] : List Value).toArray s) (F0 m 65 ls [])) ?_ ?_ _ _ _ _ _ _ _ (by first | rfl | (subst eg_2 er_3 er_4; rfl)) (by first | rfl | (subst eg_2 er_3 er_4; rfl)) (by first | rfl | (subst eg_2 er_3 er_4; rfl)) (by first | rfl | (subst eg_2 er_3 er_4; rfl)) hP hS (lv_sub hl [0, 1, 2, 3, 4] rfl)
    · intro v4_65 v3_65 v2_65 μ_65 H locs ls ev4_65 ev3_65 ev2_65 eμ_65 hP hS hl
      refine lv_iload K.1.1 K.1.2.1 dX10_bestSplit_65 (lv_at hl 0 rfl) ?_
      refine lv_bipush (v := 10) K.1.1 K.1.2.1 dX10_bestSplit_67 (by decide) ?_
      refine lv_icmp_gt (tgt := 113) K.1.1 K.1.2.1 dX10_bestSplit_69 (by decide) (fun c_69 => ?_) (fun c_69 => ?_)
      · refine lv_iload_n K.1.1 K.1.2.1 dX10_bestSplit_113 rfl (lv_at hl 2 rfl) ?_
        exact m_iret K hr hlocks hP hS dX10_bestSplit_114 (by subst eg_2 er_3 er_4 ev4_65 ev3_65 ev2_65 eμ_65; first | (rw [X_bestSplit, if_pos c_32]; done) | (rw [X_bestSplit, if_pos c_32]; rfl) | (rw [X_bestSplit, if_neg c_32]; done) | (rw [X_bestSplit, if_neg c_32]; rfl)) (by subst eg_2 er_3 er_4 ev4_65 ev3_65 ev2_65 eμ_65; rfl)
      · exact absurd c_69 (not_not_intro (by subst eg_2 er_3 er_4 ev4_65 ev3_65 ev2_65 eμ_65; rw [NN_eq]; decide))
    · intro k hk ih_65 v4_65 v3_65 v2_65 μ_65 H locs ls ev4_65 ev3_65 ev2_65 eμ_65 hP hS hl
      rw [NN_eq] at hk
      refine lv_iload K.1.1 K.1.2.1 dX10_bestSplit_65 (lv_at hl 0 rfl) ?_
      refine lv_bipush (v := 10) K.1.1 K.1.2.1 dX10_bestSplit_67 (by decide) ?_
      refine lv_icmp_gt (tgt := 113) K.1.1 K.1.2.1 dX10_bestSplit_69 (by decide) (fun c_69 => ?_) (fun c_69 => ?_)
      · exact absurd c_69 (by subst eg_2 er_3 er_4 ev4_65 ev3_65 ev2_65 eμ_65; exact Int32.not_lt.mpr (nI_le (a := k + 1) (b := 10) (by omega) (by decide)))
      · refine lv_aload_n K.1.1 K.1.2.1 dX10_bestSplit_72 rfl (lv_at hl 3 rfl) ?_
        refine m_getr K hP (by decide) sh_0 rfl tuX10 2 (by decide) rfl q_308 dX10_bestSplit_73 ?_
        refine lv_aload_n K.1.1 K.1.2.1 dX10_bestSplit_76 rfl (lv_at hl 3 rfl) ?_
        refine m_getr K hP (by decide) sh_0 rfl tuX10 0 (by decide) rfl q_306 dX10_bestSplit_77 ?_
        refine lv_iload_n K.1.1 K.1.2.1 dX10_bestSplit_80 rfl (lv_at hl 4 rfl) ?_
        refine lv_aload_n K.1.1 K.1.2.1 dX10_bestSplit_81 rfl (lv_at hl 3 rfl) ?_
        refine m_getr K hP (by decide) sh_0 rfl tuX10 2 (by decide) rfl q_308 dX10_bestSplit_82 ?_
        refine lv_iload K.1.1 K.1.2.1 dX10_bestSplit_85 (lv_at hl 0 rfl) ?_
        refine m_cV (n := 1) (As := [.int v4_65]) (rest := [.int t, .ref (B + 1), .ref (B + 81)]) K hP hS (MX2_priceWith l G B _ v4_65 ) (by decide) sh_81 rfl q_838 q_492 q_493 q_21 q_494 hv_X2_priceWith ⟨Nat.le_of_ble_eq_true rfl, Nat.le_of_ble_eq_true rfl⟩ rfl hl.1 rfl (Nat.le_of_ble_eq_true rfl) dX10_bestSplit_87 ⟨Nat.zero_le _, Nat.zero_le _⟩ (fun H locs hP hS => ?_)
        refine lv_topi (fun r_5 er_5 => ?_)
        refine m_cV (n := 3) (As := [.ref (B + 1), .int t, .int r_5]) (rest := []) K hP hS (MX2_gainOf l G B _ 1 isA_1 t r_5 ) (by decide) sh_81 rfl q_824 q_825 q_826 q_21 q_827 hv_X2_gainOf ⟨Nat.le_of_ble_eq_true rfl, Nat.le_of_ble_eq_true rfl⟩ rfl hl.1 rfl (Nat.le_of_ble_eq_true rfl) dX10_bestSplit_90 ⟨Nat.zero_le _, Nat.zero_le _⟩ (fun H locs hP hS => ?_)
        refine lv_topi (fun r_6 er_6 => ?_)
        refine lv_istore (lv' := [(5, .int r_6), (4, .int v4_65), (3, .int v3_65), (2, .int v2_65), (0, .ref (B + 0)), (1, .int t)]) K.1.1 K.1.2.1 dX10_bestSplit_93 hl (by decide) rfl (fun ls hl => ?_)
        refine lv_iload K.1.1 K.1.2.1 dX10_bestSplit_95 (lv_at hl 0 rfl) ?_
        refine lv_iload_n K.1.1 K.1.2.1 dX10_bestSplit_97 rfl (lv_at hl 2 rfl) ?_
        refine lv_icmp_le (tgt := 107) K.1.1 K.1.2.1 dX10_bestSplit_98 (by decide) (fun c_98 => ?_) (fun c_98 => ?_)
        · obtain ⟨x_7, ex_7⟩ : ∃ y : Int32, y = v4_65 + (1) := ⟨_, rfl⟩
          refine lv_iinc (v := x_7) (lv' := [(4, .int x_7), (5, .int r_6), (3, .int v3_65), (2, .int v2_65), (0, .ref (B + 0)), (1, .int t)]) K.1.1 K.1.2.1 dX10_bestSplit_107 hl (k := 1) rfl (by rw [ex_7]; rfl) (by decide) rfl (fun ls hl => ?_)
          refine lv_goto (tgt := 65) K.1.1 K.1.2.1 dX10_bestSplit_110 (by decide) ?_
          exact ih_65 _ _ _ _ _ _ _ (by subst eg_2 er_3 er_4 ev4_65 ev3_65 ev2_65 eμ_65 er_5 er_6 ex_7; exact nI_1 _) (by subst eg_2 er_3 er_4 ev4_65 ev3_65 ev2_65 eμ_65 er_5 er_6 ex_7; rw [SP_run_s]; first | (rw [if_pos (show (SP_run (C_settle μ 1) t k).2 < SP_gain (C_settle μ 1) t (k + 1) from Int32.not_le.mp c_98)]; first | done | rfl) | (rw [if_neg (show ¬ (SP_run (C_settle μ 1) t k).2 < SP_gain (C_settle μ 1) t (k + 1) from Int32.not_lt.mpr c_98)]; first | done | rfl)) (by subst eg_2 er_3 er_4 ev4_65 ev3_65 ev2_65 eμ_65 er_5 er_6 ex_7; rw [SP_run_s]; first | (rw [if_pos (show (SP_run (C_settle μ 1) t k).2 < SP_gain (C_settle μ 1) t (k + 1) from Int32.not_le.mp c_98)]; first | done | rfl) | (rw [if_neg (show ¬ (SP_run (C_settle μ 1) t k).2 < SP_gain (C_settle μ 1) t (k + 1) from Int32.not_lt.mpr c_98)]; first | done | rfl)) (by subst eg_2 er_3 er_4 ev4_65 ev3_65 ev2_65 eμ_65 er_5 er_6 ex_7; rfl) hP hS (lv_sub hl [0, 2, 3, 4, 5] rfl)
        · refine lv_iload K.1.1 K.1.2.1 dX10_bestSplit_101 (lv_at hl 0 rfl) ?_
          refine lv_istore_n (lv' := [(3, .int r_6), (5, .int r_6), (4, .int v4_65), (2, .int v2_65), (0, .ref (B + 0)), (1, .int t)]) K.1.1 K.1.2.1 dX10_bestSplit_103 rfl hl (by decide) rfl (fun ls hl => ?_)
          refine lv_iload K.1.1 K.1.2.1 dX10_bestSplit_104 (lv_at hl 2 rfl) ?_
          refine lv_istore_n (lv' := [(2, .int v4_65), (3, .int r_6), (5, .int r_6), (4, .int v4_65), (0, .ref (B + 0)), (1, .int t)]) K.1.1 K.1.2.1 dX10_bestSplit_106 rfl hl (by decide) rfl (fun ls hl => ?_)
          obtain ⟨x_8, ex_8⟩ : ∃ y : Int32, y = v4_65 + (1) := ⟨_, rfl⟩
          refine lv_iinc (v := x_8) (lv' := [(4, .int x_8), (2, .int v4_65), (3, .int r_6), (5, .int r_6), (0, .ref (B + 0)), (1, .int t)]) K.1.1 K.1.2.1 dX10_bestSplit_107 hl (k := 3) rfl (by rw [ex_8]; rfl) (by decide) rfl (fun ls hl => ?_)
          refine lv_goto (tgt := 65) K.1.1 K.1.2.1 dX10_bestSplit_110 (by decide) ?_
          exact ih_65 _ _ _ _ _ _ _ (by subst eg_2 er_3 er_4 ev4_65 ev3_65 ev2_65 eμ_65 er_5 er_6 ex_8; exact nI_1 _) (by subst eg_2 er_3 er_4 ev4_65 ev3_65 ev2_65 eμ_65 er_5 er_6 ex_8; rw [SP_run_s]; first | (rw [if_pos (show (SP_run (C_settle μ 1) t k).2 < SP_gain (C_settle μ 1) t (k + 1) from Int32.not_le.mp c_98)]; first | done | rfl) | (rw [if_neg (show ¬ (SP_run (C_settle μ 1) t k).2 < SP_gain (C_settle μ 1) t (k + 1) from Int32.not_lt.mpr c_98)]; first | done | rfl)) (by subst eg_2 er_3 er_4 ev4_65 ev3_65 ev2_65 eμ_65 er_5 er_6 ex_8; rw [SP_run_s]; first | (rw [if_pos (show (SP_run (C_settle μ 1) t k).2 < SP_gain (C_settle μ 1) t (k + 1) from Int32.not_le.mp c_98)]; first | done | rfl) | (rw [if_neg (show ¬ (SP_run (C_settle μ 1) t k).2 < SP_gain (C_settle μ 1) t (k + 1) from Int32.not_lt.mpr c_98)]; first | done | rfl)) (by subst eg_2 er_3 er_4 ev4_65 ev3_65 ev2_65 eμ_65 er_5 er_6 ex_8; rfl) hP hS (lv_sub hl [0, 2, 1, 4, 5] rfl)
  · refine lv_sipush (v := (-10000)) K.1.1 K.1.2.1 dX10_bestSplit_35 (by decide) ?_
    exact m_iret K hr hlocks hP hS dX10_bestSplit_38 (by subst eg_2; first | (rw [X_bestSplit, if_pos c_32]; done) | (rw [X_bestSplit, if_pos c_32]; rfl) | (rw [X_bestSplit, if_neg c_32]; done) | (rw [X_bestSplit, if_neg c_32]; rfl)) (by subst eg_2; rfl)

set_option maxHeartbeats 4000000 in
set_option maxRecDepth 100000 in
theorem MX10_goneIn (l : Launch) (G : GG) (B : Nat) (μ : Mm) (n : Int32) (h1 : O_faultOfNumber μ (1 + 16) n = 0) (hc : ¬ A_copy μ 41 1 (41 + 16) 0 < 0) : CM l yX10_goneIn (.code yX10_goneIn cX10_goneIn 3 (Option.some FieldType.int)) 5 114 G B [.ref (B + 0), .int n] μ (some (.int ((X_goneIn μ n).2))) ((X_goneIn μ n).1) := by
  refine CM.of (by decide) (Nat.le_of_ble_eq_true rfl) ?_
  intro p e s m below meth c ls K hr hlocks hP hl
  have hS : va_S (AA B) s.heap s.heap [] := va_S.rf
  have hl : lv_has ls 3 [(0, .ref (B + 0)), (1, .int n)] := hl
  refine lv_aload_n K.1.1 K.1.2.1 dX10_goneIn_0 rfl (lv_at hl 0 rfl) ?_
  refine m_getr K hP (by decide) sh_0 rfl tuX10 0 (by decide) rfl q_306 dX10_goneIn_1 ?_
  refine m_getr K hP isA_1.1 isA_1.2.1 rfl tuX1 1 (by decide) rfl q_174 dX10_goneIn_4 ?_
  refine lv_iload_n K.1.1 K.1.2.1 dX10_goneIn_7 rfl (lv_at hl 1 rfl) ?_
  refine m_cV (n := 1) (As := [.int n]) (rest := []) K hP hS (MX4_faultOfNumber l G B _ (1 + 16) isA_1.2.2.2.1 n ) isA_1.2.2.2.1.1 isA_1.2.2.2.1.2.1 rfl q_610 q_611 q_612 q_19 q_613 hv_X4_faultOfNumber ⟨Nat.le_of_ble_eq_true rfl, Nat.le_of_ble_eq_true rfl⟩ rfl hl.1 rfl (Nat.le_of_ble_eq_true rfl) dX10_goneIn_8 ⟨Nat.zero_le _, Nat.zero_le _⟩ (fun H locs hP hS => ?_)
  refine lv_topi (fun r_1 er_1 => ?_)
  have hz_11 : r_1 = 0 := (by subst er_1; exact h1)
  subst hz_11
  refine m_cS (n := 1) (As := [.int 0]) (rest := []) K hP hS (MX10_refuse l G B _  ) q_332 q_333 q_15 q_334 hv_X10_refuse ⟨Nat.le_of_ble_eq_true rfl, Nat.le_of_ble_eq_true rfl⟩ rfl hl.1 rfl (Nat.le_of_ble_eq_true rfl) dX10_goneIn_11 ⟨Nat.zero_le _, Nat.zero_le _⟩ (fun H locs hP hS => ?_)
  refine W.eq (g2 := F0 m 14 ls []) rfl ?_
  refine lv_aload_n K.1.1 K.1.2.1 dX10_goneIn_14 rfl (lv_at hl 0 rfl) ?_
  refine m_getr K hP (by decide) sh_0 rfl tuX10 1 (by decide) rfl q_307 dX10_goneIn_15 ?_
  refine lv_aload_n K.1.1 K.1.2.1 dX10_goneIn_18 rfl (lv_at hl 0 rfl) ?_
  refine m_getr K hP (by decide) sh_0 rfl tuX10 0 (by decide) rfl q_306 dX10_goneIn_19 ?_
  refine m_cV (n := 1) (As := [.ref (B + 1)]) (rest := []) K hP hS (MX1_copyFrom l G B _ 41 isA_41 1 isA_1 ) isA_41.1 isA_41.2.1 rfl q_823 q_658 q_659 q_16 q_660 hv_X1_copyFrom ⟨Nat.le_of_ble_eq_true rfl, Nat.le_of_ble_eq_true rfl⟩ rfl hl.1 rfl (Nat.le_of_ble_eq_true rfl) dX10_goneIn_22 ⟨Nat.zero_le _, Nat.zero_le _⟩ (fun H locs hP hS => ?_)
  refine W.eq (g2 := F0 m 25 ls []) rfl ?_
  refine lv_iconst (v := 1) K.1.1 K.1.2.1 dX10_goneIn_25 (by decide) ?_
  refine lv_istore_n (lv' := [(2, .int 1), (0, .ref (B + 0)), (1, .int n)]) K.1.1 K.1.2.1 dX10_goneIn_26 rfl hl (by decide) rfl (fun ls hl => ?_)
  have lp_27 : ∀ f : Nat, ∀ (v2_27 : Int32) (μ_27 : Mm) (H : Heap) (locs : List Loc) (ls : Array Slot), (f ≤ 8) → (¬ μ_27 (41 + 16) 0 < 0) → (v2_27 = nI (9 - f)) → (GI n (NN 8) (A_copy μ 41 1) 1 = GI n f μ_27 v2_27) → MP G B μ_27 H → va_S (AA B) s.heap H locs → lv_has ls 3 [(2, .int v2_27), (0, .ref (B + 0)), (1, .int n)] → W p l e ({ frames := 5, cells := 0, slots := 0, locals := 114 } : Room) s m ([.ref (B + 0), .int n] : List Value).toArray below meth c H locs 0 0 (MF below G B (some (.int ((X_goneIn μ n).2))) ((X_goneIn μ n).1) ([.ref (B + 0), .int n] : List Value).toArray s) (F0 m 27 ls []) := by
    intro f
    induction f with
    | zero =>
      intro v2_27 μ_27 H locs ls inv0_27 inv1_27 inv2_27 fin0_27 hP hS hl
      refine lv_iload_n K.1.1 K.1.2.1 dX10_goneIn_27 rfl (lv_at hl 0 rfl) ?_
      refine lv_bipush (v := 9) K.1.1 K.1.2.1 dX10_goneIn_28 (by decide) ?_
      refine lv_icmp_ge (tgt := 67) K.1.1 K.1.2.1 dX10_goneIn_30 (by decide) (fun c_30 => ?_) (fun c_30 => ?_)
      · refine lv_bipush (v := 9) K.1.1 K.1.2.1 dX10_goneIn_67 (by decide) ?_
        exact m_iret K hr hlocks hP hS dX10_goneIn_69 (by subst inv2_27; rw [X_goneIn, fin0_27]; first | rfl | (rw [GI, if_pos (Int32.not_le.mp c_56)])) (by subst inv2_27; rw [X_goneIn, fin0_27]; first | rfl | (rw [GI, if_pos (Int32.not_le.mp c_56)]))
      · exact absurd c_30 (not_not_intro (by subst inv2_27; decide))
    | succ f ih_27 =>
      intro v2_27 μ_27 H locs ls inv0_27 inv1_27 inv2_27 fin0_27 hP hS hl
      refine lv_iload_n K.1.1 K.1.2.1 dX10_goneIn_27 rfl (lv_at hl 0 rfl) ?_
      refine lv_bipush (v := 9) K.1.1 K.1.2.1 dX10_goneIn_28 (by decide) ?_
      refine lv_icmp_ge (tgt := 67) K.1.1 K.1.2.1 dX10_goneIn_30 (by decide) (fun c_30 => ?_) (fun c_30 => ?_)
      · exact absurd c_30 (by subst inv2_27; exact nI_ge (a := 9 - (f + 1)) (b := 9) (by omega) (by decide))
      · refine lv_aload_n K.1.1 K.1.2.1 dX10_goneIn_33 rfl (lv_at hl 1 rfl) ?_
        refine m_getr K hP (by decide) sh_0 rfl tuX10 1 (by decide) rfl q_307 dX10_goneIn_34 ?_
        refine lv_aload_n K.1.1 K.1.2.1 dX10_goneIn_37 rfl (lv_at hl 1 rfl) ?_
        refine m_getr K hP (by decide) sh_0 rfl tuX10 2 (by decide) rfl q_308 dX10_goneIn_38 ?_
        refine m_cV (n := 1) (As := [.ref (B + 81)]) (rest := []) K hP hS (MX1_endRound l G B _ 41 isA_41 inv1_27) isA_41.1 isA_41.2.1 rfl q_775 q_776 q_777 q_16 q_778 hv_X1_endRound ⟨Nat.le_of_ble_eq_true rfl, Nat.le_of_ble_eq_true rfl⟩ rfl hl.1 rfl (Nat.le_of_ble_eq_true rfl) dX10_goneIn_41 ⟨Nat.zero_le _, Nat.zero_le _⟩ (fun H locs hP hS => ?_)
        refine lv_topi (fun r_2 er_2 => ?_)
        refine lv_pop K.1.1 K.1.2.1 dX10_goneIn_44 rfl ?_
        refine lv_aload_n K.1.1 K.1.2.1 dX10_goneIn_45 rfl (lv_at hl 1 rfl) ?_
        refine m_getr K hP (by decide) sh_0 rfl tuX10 1 (by decide) rfl q_307 dX10_goneIn_46 ?_
        refine m_getr K hP isA_41.1 isA_41.2.1 rfl tuX1 1 (by decide) rfl q_174 dX10_goneIn_49 ?_
        refine lv_iload_n K.1.1 K.1.2.1 dX10_goneIn_52 rfl (lv_at hl 2 rfl) ?_
        refine m_cV (n := 1) (As := [.int n]) (rest := []) K hP hS (MX4_indexOf l G B _ (41 + 16) isA_41.2.2.2.1 n ) isA_41.2.2.2.1.1 isA_41.2.2.2.1.2.1 rfl q_618 q_615 q_616 q_19 q_617 hv_X4_indexOf ⟨Nat.le_of_ble_eq_true rfl, Nat.le_of_ble_eq_true rfl⟩ rfl hl.1 rfl (Nat.le_of_ble_eq_true rfl) dX10_goneIn_53 ⟨Nat.zero_le _, Nat.zero_le _⟩ (fun H locs hP hS => ?_)
        refine lv_topi (fun r_3 er_3 => ?_)
        refine lv_if_ge (tgt := 61) K.1.1 K.1.2.1 dX10_goneIn_56 (by decide) (fun c_56 => ?_) (fun c_56 => ?_)
        · obtain ⟨x_4, ex_4⟩ : ∃ y : Int32, y = v2_27 + (1) := ⟨_, rfl⟩
          refine lv_iinc (v := x_4) (lv' := [(2, .int x_4), (0, .ref (B + 0)), (1, .int n)]) K.1.1 K.1.2.1 dX10_goneIn_61 hl (k := 0) rfl (by rw [ex_4]; rfl) (by decide) rfl (fun ls hl => ?_)
          refine lv_goto (tgt := 27) K.1.1 K.1.2.1 dX10_goneIn_64 (by decide) ?_
          exact ih_27 _ _ _ _ _ (by omega) (by subst inv2_27 er_2 er_3 ex_4; exact A_endM_nn isA_41.2.2.2.1 inv1_27) (by subst inv2_27 er_2 er_3 ex_4; rw [nI_1, show 9 - (f + 1) + 1 = 9 - f by omega]) (by subst inv2_27 er_2 er_3 ex_4; rw [fin0_27, GI, if_neg (Int32.not_lt.mpr c_56)]) hP hS (lv_sub hl [0, 1, 2] rfl)
        · refine lv_iload_n K.1.1 K.1.2.1 dX10_goneIn_59 rfl (lv_at hl 0 rfl) ?_
          exact m_iret K hr hlocks hP hS dX10_goneIn_60 (by subst inv2_27 er_2 er_3; rw [X_goneIn, fin0_27]; first | rfl | (rw [GI, if_pos (Int32.not_le.mp c_56)])) (by subst inv2_27 er_2 er_3; rw [X_goneIn, fin0_27]; first | rfl | (rw [GI, if_pos (Int32.not_le.mp c_56)]))
  exact lp_27 (NN 8) _ _ _ _ _ (by rw [NN_eq]; exact Nat.le_refl _) (by exact hc) (by rw [NN_eq]; rfl) (by rfl) hP hS (lv_sub hl [0, 1, 2] rfl)

set_option maxHeartbeats 4000000 in
set_option maxRecDepth 100000 in
theorem MX10_undo (l : Launch) (G : GG) (B : Nat) (μ : Mm) (h1 : ¬ μ 92 0 = 0) : CM l yX10_undo (.code yX10_undo cX10_undo 1 (Option.some FieldType.int)) 5 107 G B [.ref (B + 0)] μ (some (.int (U_pop μ 1 92 0))) (U_pop μ 1) := by
  refine CM.of (by decide) (Nat.le_of_ble_eq_true rfl) ?_
  intro p e s m below meth c ls K hr hlocks hP hl
  have hS : va_S (AA B) s.heap s.heap [] := va_S.rf
  have hl : lv_has ls 1 [(0, .ref (B + 0))] := hl
  refine lv_aload_n K.1.1 K.1.2.1 dX10_undo_0 rfl (lv_at hl 0 rfl) ?_
  refine m_getr K hP (by decide) sh_0 rfl tuX10 3 (by decide) rfl q_309 dX10_undo_1 ?_
  refine m_geti K hP (by decide) sh_92 rfl tuX8 0 (by decide) rfl q_271 dX10_undo_4 ?_
  refine lv_topi (fun g_1 eg_1 => ?_)
  refine lv_if_ne (tgt := 14) K.1.1 K.1.2.1 dX10_undo_7 (by decide) (fun c_7 => ?_) (fun c_7 => ?_)
  · refine lv_iconst (v := 0) K.1.1 K.1.2.1 dX10_undo_14 (by decide) ?_
    refine m_cS (n := 1) (As := [.int 0]) (rest := []) K hP hS (MX10_refuse l G B _  ) q_332 q_333 q_15 q_334 hv_X10_refuse ⟨Nat.le_of_ble_eq_true rfl, Nat.le_of_ble_eq_true rfl⟩ rfl hl.1 rfl (Nat.le_of_ble_eq_true rfl) dX10_undo_15 ⟨Nat.zero_le _, Nat.zero_le _⟩ (fun H locs hP hS => ?_)
    refine W.eq (g2 := F0 m 18 ls []) rfl ?_
    refine lv_aload_n K.1.1 K.1.2.1 dX10_undo_18 rfl (lv_at hl 0 rfl) ?_
    refine m_getr K hP (by decide) sh_0 rfl tuX10 3 (by decide) rfl q_309 dX10_undo_19 ?_
    refine lv_aload_n K.1.1 K.1.2.1 dX10_undo_22 rfl (lv_at hl 0 rfl) ?_
    refine m_getr K hP (by decide) sh_0 rfl tuX10 0 (by decide) rfl q_306 dX10_undo_23 ?_
    refine m_cV (n := 1) (As := [.ref (B + 1)]) (rest := []) K hP hS (MX8_pop l G B _ 1 isA_1 ) (by decide) sh_92 rfl q_865 q_866 q_867 q_22 q_868 hv_X8_pop ⟨Nat.le_of_ble_eq_true rfl, Nat.le_of_ble_eq_true rfl⟩ rfl hl.1 rfl (Nat.le_of_ble_eq_true rfl) dX10_undo_26 ⟨Nat.zero_le _, Nat.zero_le _⟩ (fun H locs hP hS => ?_)
    refine W.eq (g2 := F0 m 29 ls []) rfl ?_
    refine lv_aload_n K.1.1 K.1.2.1 dX10_undo_29 rfl (lv_at hl 0 rfl) ?_
    refine m_getr K hP (by decide) sh_0 rfl tuX10 3 (by decide) rfl q_309 dX10_undo_30 ?_
    refine m_geti K hP (by decide) sh_92 rfl tuX8 0 (by decide) rfl q_271 dX10_undo_33 ?_
    refine lv_topi (fun g_2 eg_2 => ?_)
    exact m_iret K hr hlocks hP hS dX10_undo_36 (by subst eg_1 eg_2; rfl) (by subst eg_1 eg_2; rfl)
  · exact absurd c_7 (by subst eg_1; exact h1)

