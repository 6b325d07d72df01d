set_option maxHeartbeats 4000000 in
set_option maxRecDepth 100000 in
theorem MX10_orderOf (l : Launch) (G : GG) (B : Nat) (μ : Mm) (n : Int32) (w : Int32) (h1 : O_faultOfNumber μ (1 + 16) n = 0) (h2 : X_what w 5 = 0) : CM l yX10_orderOf (.code yX10_orderOf cX10_orderOf 3 (Option.some FieldType.int)) 4 89 G B [.ref (B + 0), .int n, .int w] μ (some (.int (O_valueOf μ (1 + 16) (O_indexOf μ (1 + 16) n) w))) μ := by
  refine CM.of (by decide) (Nat.le_of_ble_eq_true rfl) ?_
  intro p e s m below meth c ls K hr hlocks hP hl
  have hS : va_S (AA B) s.heap s.heap [] := va_S.rf
  have hl : lv_has ls 3 [(0, .ref (B + 0)), (1, .int n), (2, .int w)] := hl
  refine lv_aload_n K.1.1 K.1.2.1 dX10_orderOf_0 rfl (lv_at hl 0 rfl) ?_
  refine m_getr K hP (by decide) sh_0 rfl tuX10 0 (by decide) rfl q_387 dX10_orderOf_1 ?_
  refine m_getr K hP isA_1.1 isA_1.2.1 rfl tuX1 1 (by decide) rfl q_250 dX10_orderOf_4 ?_
  refine lv_iload_n K.1.1 K.1.2.1 dX10_orderOf_7 rfl (lv_at hl 1 rfl) ?_
  refine m_cV (n := 1) (As := [.int n]) (rest := []) K hP hS (MX4_faultOfNumber l G B _ (1 + 16) isA_1.2.2.2.1 n ) isA_1.2.2.2.1.1 isA_1.2.2.2.1.2.1 rfl q_592 q_593 q_594 q_86 q_595 hv_X4_faultOfNumber ⟨Nat.le_of_ble_eq_true rfl, Nat.le_of_ble_eq_true rfl⟩ rfl hl.1 rfl (Nat.le_of_ble_eq_true rfl) dX10_orderOf_8 ⟨Nat.zero_le _, Nat.zero_le _⟩ (fun H locs hP hS => ?_)
  refine lv_topi (fun r_1 er_1 => ?_)
  have hz_11 : r_1 = 0 := (by subst er_1; exact h1)
  subst hz_11
  refine m_cS (n := 1) (As := [.int 0]) (rest := []) K hP hS (MX10_refuse l G B _  ) q_831 q_832 q_82 q_833 hv_X10_refuse ⟨Nat.le_of_ble_eq_true rfl, Nat.le_of_ble_eq_true rfl⟩ rfl hl.1 rfl (Nat.le_of_ble_eq_true rfl) dX10_orderOf_11 ⟨Nat.zero_le _, Nat.zero_le _⟩ (fun H locs hP hS => ?_)
  refine W.eq (g2 := F0 m 14 ls []) rfl ?_
  refine lv_iload_n K.1.1 K.1.2.1 dX10_orderOf_14 rfl (lv_at hl 2 rfl) ?_
  refine lv_iconst (v := 5) K.1.1 K.1.2.1 dX10_orderOf_15 (by decide) ?_
  refine m_cS (n := 2) (As := [.int w, .int 5]) (rest := []) K hP hS (MX10_faultOfWhat l G B _ w 5 ) q_1001 q_1002 q_82 q_1003 hv_X10_faultOfWhat ⟨Nat.le_of_ble_eq_true rfl, Nat.le_of_ble_eq_true rfl⟩ rfl hl.1 rfl (Nat.le_of_ble_eq_true rfl) dX10_orderOf_16 ⟨Nat.zero_le _, Nat.zero_le _⟩ (fun H locs hP hS => ?_)
  refine lv_topi (fun r_2 er_2 => ?_)
  have hz_19 : r_2 = 0 := (by subst er_2; exact h2)
  subst hz_19
  refine m_cS (n := 1) (As := [.int 0]) (rest := []) K hP hS (MX10_refuse l G B _  ) q_831 q_832 q_82 q_833 hv_X10_refuse ⟨Nat.le_of_ble_eq_true rfl, Nat.le_of_ble_eq_true rfl⟩ rfl hl.1 rfl (Nat.le_of_ble_eq_true rfl) dX10_orderOf_19 ⟨Nat.zero_le _, Nat.zero_le _⟩ (fun H locs hP hS => ?_)
  refine W.eq (g2 := F0 m 22 ls []) rfl ?_
  refine lv_aload_n K.1.1 K.1.2.1 dX10_orderOf_22 rfl (lv_at hl 0 rfl) ?_
  refine m_getr K hP (by decide) sh_0 rfl tuX10 0 (by decide) rfl q_387 dX10_orderOf_23 ?_
  refine m_getr K hP isA_1.1 isA_1.2.1 rfl tuX1 1 (by decide) rfl q_250 dX10_orderOf_26 ?_
  refine lv_aload_n K.1.1 K.1.2.1 dX10_orderOf_29 rfl (lv_at hl 0 rfl) ?_
  refine m_getr K hP (by decide) sh_0 rfl tuX10 0 (by decide) rfl q_387 dX10_orderOf_30 ?_
  refine m_getr K hP isA_1.1 isA_1.2.1 rfl tuX1 1 (by decide) rfl q_250 dX10_orderOf_33 ?_
  refine lv_iload_n K.1.1 K.1.2.1 dX10_orderOf_36 rfl (lv_at hl 1 rfl) ?_
  refine m_cV (n := 1) (As := [.int n]) (rest := [.ref (B + (1 + 16))]) K hP hS (MX4_indexOf l G B _ (1 + 16) isA_1.2.2.2.1 n ) isA_1.2.2.2.1.1 isA_1.2.2.2.1.2.1 rfl q_1012 q_597 q_598 q_86 q_599 hv_X4_indexOf ⟨Nat.le_of_ble_eq_true rfl, Nat.le_of_ble_eq_true rfl⟩ rfl hl.1 rfl (Nat.le_of_ble_eq_true rfl) dX10_orderOf_37 ⟨Nat.zero_le _, Nat.zero_le _⟩ (fun H locs hP hS => ?_)
  refine lv_topi (fun r_3 er_3 => ?_)
  refine lv_iload_n K.1.1 K.1.2.1 dX10_orderOf_40 rfl (lv_at hl 2 rfl) ?_
  refine m_cV (n := 2) (As := [.int r_3, .int w]) (rest := []) K hP hS (MX4_valueOf l G B _ (1 + 16) isA_1.2.2.2.1 r_3 w ) isA_1.2.2.2.1.1 isA_1.2.2.2.1.2.1 rfl q_805 q_806 q_807 q_86 q_808 hv_X4_valueOf ⟨Nat.le_of_ble_eq_true rfl, Nat.le_of_ble_eq_true rfl⟩ rfl hl.1 rfl (Nat.le_of_ble_eq_true rfl) dX10_orderOf_41 ⟨Nat.zero_le _, Nat.zero_le _⟩ (fun H locs hP hS => ?_)
  refine lv_topi (fun r_4 er_4 => ?_)
  exact m_iret K hr hlocks hP hS dX10_orderOf_44 (by subst er_3 er_4; rfl) rfl

set_option maxHeartbeats 4000000 in
set_option maxRecDepth 100000 in
theorem MX10_trade (l : Launch) (G : GG) (B : Nat) (μ : Mm) (i : Int32) (w : Int32) (h1 : ¬ i < 0) (h2 : X_what w 5 = 0) : CM l yX10_trade (.code yX10_trade cX10_trade 3 (Option.some FieldType.int)) 2 43 G B [.ref (B + 0), .int i, .int w] μ (some (.int (S_valueOf μ (1 + 29) i w))) μ := by
  refine CM.of (by decide) (Nat.le_of_ble_eq_true rfl) ?_
  intro p e s m below meth c ls K hr hlocks hP hl
  have hS : va_S (AA B) s.heap s.heap [] := va_S.rf
  have hl : lv_has ls 3 [(0, .ref (B + 0)), (1, .int i), (2, .int w)] := hl
  refine lv_iload_n K.1.1 K.1.2.1 dX10_trade_0 rfl (lv_at hl 1 rfl) ?_
  refine lv_if_ge (tgt := 8) K.1.1 K.1.2.1 dX10_trade_1 (by decide) (fun c_1 => ?_) (fun c_1 => ?_)
  · refine lv_iload_n K.1.1 K.1.2.1 dX10_trade_8 rfl (lv_at hl 2 rfl) ?_
    refine lv_iconst (v := 5) K.1.1 K.1.2.1 dX10_trade_9 (by decide) ?_
    refine m_cS (n := 2) (As := [.int w, .int 5]) (rest := []) K hP hS (MX10_faultOfWhat l G B _ w 5 ) q_1001 q_1002 q_82 q_1003 hv_X10_faultOfWhat ⟨Nat.le_of_ble_eq_true rfl, Nat.le_of_ble_eq_true rfl⟩ rfl hl.1 rfl (Nat.le_of_ble_eq_true rfl) dX10_trade_10 ⟨Nat.zero_le _, Nat.zero_le _⟩ (fun H locs hP hS => ?_)
    refine lv_topi (fun r_1 er_1 => ?_)
    have hz_13 : r_1 = 0 := (by subst er_1; exact h2)
    subst hz_13
    refine m_cS (n := 1) (As := [.int 0]) (rest := []) K hP hS (MX10_refuse l G B _  ) q_831 q_832 q_82 q_833 hv_X10_refuse ⟨Nat.le_of_ble_eq_true rfl, Nat.le_of_ble_eq_true rfl⟩ rfl hl.1 rfl (Nat.le_of_ble_eq_true rfl) dX10_trade_13 ⟨Nat.zero_le _, Nat.zero_le _⟩ (fun H locs hP hS => ?_)
    refine W.eq (g2 := F0 m 16 ls []) rfl ?_
    refine lv_aload_n K.1.1 K.1.2.1 dX10_trade_16 rfl (lv_at hl 0 rfl) ?_
    refine m_getr K hP (by decide) sh_0 rfl tuX10 0 (by decide) rfl q_387 dX10_trade_17 ?_
    refine m_getr K hP isA_1.1 isA_1.2.1 rfl tuX1 2 (by decide) rfl q_252 dX10_trade_20 ?_
    refine lv_iload_n K.1.1 K.1.2.1 dX10_trade_23 rfl (lv_at hl 1 rfl) ?_
    refine lv_iload_n K.1.1 K.1.2.1 dX10_trade_24 rfl (lv_at hl 2 rfl) ?_
    refine m_cV (n := 2) (As := [.int i, .int w]) (rest := []) K hP hS (MX7_valueOf l G B _ (1 + 29) isA_1.2.2.2.2 i w ) isA_1.2.2.2.2.1 isA_1.2.2.2.2.2.1 rfl q_818 q_819 q_820 q_87 q_821 hv_X7_valueOf ⟨Nat.le_of_ble_eq_true rfl, Nat.le_of_ble_eq_true rfl⟩ rfl hl.1 rfl (Nat.le_of_ble_eq_true rfl) dX10_trade_25 ⟨Nat.zero_le _, Nat.zero_le _⟩ (fun H locs hP hS => ?_)
    refine lv_topi (fun r_2 er_2 => ?_)
    exact m_iret K hr hlocks hP hS dX10_trade_28 (by subst er_2; rfl) rfl
  · exact absurd c_1 (not_not_intro (Int32.not_lt.mp h1))

set_option maxHeartbeats 4000000 in
set_option maxRecDepth 100000 in
theorem MX10_at (l : Launch) (G : GG) (B : Nat) (μ : Mm) (pr : Int32) (w : Int32) (h1 : X_price pr = 0) (h2 : X_what w 3 = 0) : CM l yX10_at (.code yX10_at cX10_at 3 (Option.some FieldType.int)) 4 89 G B [.ref (B + 0), .int pr, .int w] μ (some (.int (O_bookValue μ (1 + 16) pr w))) μ := by
  refine CM.of (by decide) (Nat.le_of_ble_eq_true rfl) ?_
  intro p e s m below meth c ls K hr hlocks hP hl
  have hS : va_S (AA B) s.heap s.heap [] := va_S.rf
  have hl : lv_has ls 3 [(0, .ref (B + 0)), (1, .int pr), (2, .int w)] := hl
  refine lv_iload_n K.1.1 K.1.2.1 dX10_at_0 rfl (lv_at hl 1 rfl) ?_
  refine m_cS (n := 1) (As := [.int pr]) (rest := []) K hP hS (MX10_faultOfPrice l G B _ pr ) q_1027 q_1028 q_82 q_1029 hv_X10_faultOfPrice ⟨Nat.le_of_ble_eq_true rfl, Nat.le_of_ble_eq_true rfl⟩ rfl hl.1 rfl (Nat.le_of_ble_eq_true rfl) dX10_at_1 ⟨Nat.zero_le _, Nat.zero_le _⟩ (fun H locs hP hS => ?_)
  refine lv_topi (fun r_1 er_1 => ?_)
  have hz_4 : r_1 = 0 := (by subst er_1; exact h1)
  subst hz_4
  refine m_cS (n := 1) (As := [.int 0]) (rest := []) K hP hS (MX10_refuse l G B _  ) q_831 q_832 q_82 q_833 hv_X10_refuse ⟨Nat.le_of_ble_eq_true rfl, Nat.le_of_ble_eq_true rfl⟩ rfl hl.1 rfl (Nat.le_of_ble_eq_true rfl) dX10_at_4 ⟨Nat.zero_le _, Nat.zero_le _⟩ (fun H locs hP hS => ?_)
  refine W.eq (g2 := F0 m 7 ls []) rfl ?_
  refine lv_iload_n K.1.1 K.1.2.1 dX10_at_7 rfl (lv_at hl 2 rfl) ?_
  refine lv_iconst (v := 3) K.1.1 K.1.2.1 dX10_at_8 (by decide) ?_
  refine m_cS (n := 2) (As := [.int w, .int 3]) (rest := []) K hP hS (MX10_faultOfWhat l G B _ w 3 ) q_1001 q_1002 q_82 q_1003 hv_X10_faultOfWhat ⟨Nat.le_of_ble_eq_true rfl, Nat.le_of_ble_eq_true rfl⟩ rfl hl.1 rfl (Nat.le_of_ble_eq_true rfl) dX10_at_9 ⟨Nat.zero_le _, Nat.zero_le _⟩ (fun H locs hP hS => ?_)
  refine lv_topi (fun r_2 er_2 => ?_)
  have hz_12 : r_2 = 0 := (by subst er_2; exact h2)
  subst hz_12
  refine m_cS (n := 1) (As := [.int 0]) (rest := []) K hP hS (MX10_refuse l G B _  ) q_831 q_832 q_82 q_833 hv_X10_refuse ⟨Nat.le_of_ble_eq_true rfl, Nat.le_of_ble_eq_true rfl⟩ rfl hl.1 rfl (Nat.le_of_ble_eq_true rfl) dX10_at_12 ⟨Nat.zero_le _, Nat.zero_le _⟩ (fun H locs hP hS => ?_)
  refine W.eq (g2 := F0 m 15 ls []) rfl ?_
  refine lv_aload_n K.1.1 K.1.2.1 dX10_at_15 rfl (lv_at hl 0 rfl) ?_
  refine m_getr K hP (by decide) sh_0 rfl tuX10 0 (by decide) rfl q_387 dX10_at_16 ?_
  refine m_getr K hP isA_1.1 isA_1.2.1 rfl tuX1 1 (by decide) rfl q_250 dX10_at_19 ?_
  refine lv_iload_n K.1.1 K.1.2.1 dX10_at_22 rfl (lv_at hl 1 rfl) ?_
  refine lv_iload_n K.1.1 K.1.2.1 dX10_at_23 rfl (lv_at hl 2 rfl) ?_
  refine m_cV (n := 2) (As := [.int pr, .int w]) (rest := []) K hP hS (MX4_bookValue l G B _ (1 + 16) isA_1.2.2.2.1 pr w ) isA_1.2.2.2.1.1 isA_1.2.2.2.1.2.1 rfl q_1030 q_1031 q_1032 q_86 q_1033 hv_X4_bookValue ⟨Nat.le_of_ble_eq_true rfl, Nat.le_of_ble_eq_true rfl⟩ rfl hl.1 rfl (Nat.le_of_ble_eq_true rfl) dX10_at_24 ⟨Nat.zero_le _, Nat.zero_le _⟩ (fun H locs hP hS => ?_)
  refine lv_topi (fun r_3 er_3 => ?_)
  exact m_iret K hr hlocks hP hS dX10_at_27 (by subst er_3; rfl) rfl

set_option maxHeartbeats 4000000 in
set_option maxRecDepth 100000 in
theorem MX10_now (l : Launch) (G : GG) (B : Nat) (μ : Mm) (w : Int32) (h1 : X_what w 7 = 0) : CM l yX10_now (.code yX10_now cX10_now 2 (Option.some FieldType.int)) 4 93 G B [.ref (B + 0), .int w] μ (some (.int (C_valueOf (C_settle μ 1) 1 w))) (C_valueM (C_settle μ 1) 1 w) := by
  refine CM.of (by decide) (Nat.le_of_ble_eq_true rfl) ?_
  intro p e s m below meth c ls K hr hlocks hP hl
  have hS : va_S (AA B) s.heap s.heap [] := va_S.rf
  have hl : lv_has ls 2 [(0, .ref (B + 0)), (1, .int w)] := hl
  refine lv_iload_n K.1.1 K.1.2.1 dX10_now_0 rfl (lv_at hl 1 rfl) ?_
  refine lv_bipush (v := 7) K.1.1 K.1.2.1 dX10_now_1 (by decide) ?_
  refine m_cS (n := 2) (As := [.int w, .int 7]) (rest := []) K hP hS (MX10_faultOfWhat l G B _ w 7 ) q_1001 q_1002 q_82 q_1003 hv_X10_faultOfWhat ⟨Nat.le_of_ble_eq_true rfl, Nat.le_of_ble_eq_true rfl⟩ rfl hl.1 rfl (Nat.le_of_ble_eq_true rfl) dX10_now_3 ⟨Nat.zero_le _, Nat.zero_le _⟩ (fun H locs hP hS => ?_)
  refine lv_topi (fun r_1 er_1 => ?_)
  have hz_6 : r_1 = 0 := (by subst er_1; exact h1)
  subst hz_6
  refine m_cS (n := 1) (As := [.int 0]) (rest := []) K hP hS (MX10_refuse l G B _  ) q_831 q_832 q_82 q_833 hv_X10_refuse ⟨Nat.le_of_ble_eq_true rfl, Nat.le_of_ble_eq_true rfl⟩ rfl hl.1 rfl (Nat.le_of_ble_eq_true rfl) dX10_now_6 ⟨Nat.zero_le _, Nat.zero_le _⟩ (fun H locs hP hS => ?_)
  refine W.eq (g2 := F0 m 9 ls []) rfl ?_
  refine lv_aload_n K.1.1 K.1.2.1 dX10_now_9 rfl (lv_at hl 0 rfl) ?_
  refine m_getr K hP (by decide) sh_0 rfl tuX10 2 (by decide) rfl q_389 dX10_now_10 ?_
  refine lv_aload_n K.1.1 K.1.2.1 dX10_now_13 rfl (lv_at hl 0 rfl) ?_
  refine m_getr K hP (by decide) sh_0 rfl tuX10 0 (by decide) rfl q_387 dX10_now_14 ?_
  refine m_cV (n := 1) (As := [.ref (B + 1)]) (rest := []) K hP hS (MX2_settle l G B _ 1 isA_1 ) (by decide) sh_81 rfl q_771 q_673 q_674 q_88 q_675 hv_X2_settle ⟨Nat.le_of_ble_eq_true rfl, Nat.le_of_ble_eq_true rfl⟩ rfl hl.1 rfl (Nat.le_of_ble_eq_true rfl) dX10_now_17 ⟨Nat.zero_le _, Nat.zero_le _⟩ (fun H locs hP hS => ?_)
  refine W.eq (g2 := F0 m 20 ls []) rfl ?_
  refine lv_aload_n K.1.1 K.1.2.1 dX10_now_20 rfl (lv_at hl 0 rfl) ?_
  refine m_getr K hP (by decide) sh_0 rfl tuX10 2 (by decide) rfl q_389 dX10_now_21 ?_
  refine lv_aload_n K.1.1 K.1.2.1 dX10_now_24 rfl (lv_at hl 0 rfl) ?_
  refine m_getr K hP (by decide) sh_0 rfl tuX10 0 (by decide) rfl q_387 dX10_now_25 ?_
  refine lv_iload_n K.1.1 K.1.2.1 dX10_now_28 rfl (lv_at hl 1 rfl) ?_
  refine m_cV (n := 2) (As := [.ref (B + 1), .int w]) (rest := []) K hP hS (MX2_valueOf l G B _ 1 isA_1 w ) (by decide) sh_81 rfl q_772 q_773 q_774 q_88 q_775 hv_X2_valueOf ⟨Nat.le_of_ble_eq_true rfl, Nat.le_of_ble_eq_true rfl⟩ rfl hl.1 rfl (Nat.le_of_ble_eq_true rfl) dX10_now_29 ⟨Nat.zero_le _, Nat.zero_le _⟩ (fun H locs hP hS => ?_)
  refine lv_topi (fun r_2 er_2 => ?_)
  exact m_iret K hr hlocks hP hS dX10_now_32 (by subst er_2; rfl) (by subst er_2; rfl)

set_option maxHeartbeats 4000000 in
set_option maxRecDepth 100000 in
theorem MX10_whole (l : Launch) (G : GG) (B : Nat) (μ : Mm) (w : Int32) (h1 : X_what w 12 = 0) : CM l yX10_whole (.code yX10_whole cX10_whole 2 (Option.some FieldType.int)) 2 43 G B [.ref (B + 0), .int w] μ (some (.int (X_whole μ w))) μ := by
  refine CM.of (by decide) (Nat.le_of_ble_eq_true rfl) ?_
  intro p e s m below meth c ls K hr hlocks hP hl
  have hS : va_S (AA B) s.heap s.heap [] := va_S.rf
  have hl : lv_has ls 2 [(0, .ref (B + 0)), (1, .int w)] := hl
  refine lv_iload_n K.1.1 K.1.2.1 dX10_whole_0 rfl (lv_at hl 1 rfl) ?_
  refine lv_bipush (v := 12) K.1.1 K.1.2.1 dX10_whole_1 (by decide) ?_
  refine m_cS (n := 2) (As := [.int w, .int 12]) (rest := []) K hP hS (MX10_faultOfWhat l G B _ w 12 ) q_1001 q_1002 q_82 q_1003 hv_X10_faultOfWhat ⟨Nat.le_of_ble_eq_true rfl, Nat.le_of_ble_eq_true rfl⟩ rfl hl.1 rfl (Nat.le_of_ble_eq_true rfl) dX10_whole_3 ⟨Nat.zero_le _, Nat.zero_le _⟩ (fun H locs hP hS => ?_)
  refine lv_topi (fun r_1 er_1 => ?_)
  have hz_6 : r_1 = 0 := (by subst er_1; exact h1)
  subst hz_6
  refine m_cS (n := 1) (As := [.int 0]) (rest := []) K hP hS (MX10_refuse l G B _  ) q_831 q_832 q_82 q_833 hv_X10_refuse ⟨Nat.le_of_ble_eq_true rfl, Nat.le_of_ble_eq_true rfl⟩ rfl hl.1 rfl (Nat.le_of_ble_eq_true rfl) dX10_whole_6 ⟨Nat.zero_le _, Nat.zero_le _⟩ (fun H locs hP hS => ?_)
  refine W.eq (g2 := F0 m 9 ls []) rfl ?_
  refine lv_aload_n K.1.1 K.1.2.1 dX10_whole_9 rfl (lv_at hl 0 rfl) ?_
  refine lv_iload_n K.1.1 K.1.2.1 dX10_whole_10 rfl (lv_at hl 1 rfl) ?_
  refine m_cV (n := 1) (As := [.int w]) (rest := []) K hP hS (MX10_wholeValue l G B _ w ) (by decide) sh_0 rfl q_763 q_765 q_14 q_82 q_766 hv_X10_wholeValue ⟨Nat.le_of_ble_eq_true rfl, Nat.le_of_ble_eq_true rfl⟩ rfl hl.1 rfl (Nat.le_of_ble_eq_true rfl) dX10_whole_11 ⟨Nat.zero_le _, Nat.zero_le _⟩ (fun H locs hP hS => ?_)
  refine lv_topi (fun r_2 er_2 => ?_)
  exact m_iret K hr hlocks hP hS dX10_whole_14 (by subst er_2; rfl) rfl

set_option maxHeartbeats 4000000 in
set_option maxRecDepth 100000 in
theorem MX10_filled (l : Launch) (G : GG) (B : Nat) (μ : Mm) (n : Int32) (h1 : O_faultOfNumber μ (1 + 16) n = 0) : CM l yX10_filled (.code yX10_filled cX10_filled 2 (Option.some FieldType.int)) 4 91 G B [.ref (B + 0), .int n] μ (some (.int (R_get (C_settle μ 1) 82 20 (O_indexOf (C_settle μ 1) (1 + 16) n)))) (C_settle μ 1) := by
  refine CM.of (by decide) (Nat.le_of_ble_eq_true rfl) ?_
  intro p e s m below meth c ls K hr hlocks hP hl
  have hS : va_S (AA B) s.heap s.heap [] := va_S.rf
  have hl : lv_has ls 2 [(0, .ref (B + 0)), (1, .int n)] := hl
  refine lv_aload_n K.1.1 K.1.2.1 dX10_filled_0 rfl (lv_at hl 0 rfl) ?_
  refine m_getr K hP (by decide) sh_0 rfl tuX10 0 (by decide) rfl q_387 dX10_filled_1 ?_
  refine m_getr K hP isA_1.1 isA_1.2.1 rfl tuX1 1 (by decide) rfl q_250 dX10_filled_4 ?_
  refine lv_iload_n K.1.1 K.1.2.1 dX10_filled_7 rfl (lv_at hl 1 rfl) ?_
  refine m_cV (n := 1) (As := [.int n]) (rest := []) K hP hS (MX4_faultOfNumber l G B _ (1 + 16) isA_1.2.2.2.1 n ) isA_1.2.2.2.1.1 isA_1.2.2.2.1.2.1 rfl q_592 q_593 q_594 q_86 q_595 hv_X4_faultOfNumber ⟨Nat.le_of_ble_eq_true rfl, Nat.le_of_ble_eq_true rfl⟩ rfl hl.1 rfl (Nat.le_of_ble_eq_true rfl) dX10_filled_8 ⟨Nat.zero_le _, Nat.zero_le _⟩ (fun H locs hP hS => ?_)
  refine lv_topi (fun r_1 er_1 => ?_)
  have hz_11 : r_1 = 0 := (by subst er_1; exact h1)
  subst hz_11
  refine m_cS (n := 1) (As := [.int 0]) (rest := []) K hP hS (MX10_refuse l G B _  ) q_831 q_832 q_82 q_833 hv_X10_refuse ⟨Nat.le_of_ble_eq_true rfl, Nat.le_of_ble_eq_true rfl⟩ rfl hl.1 rfl (Nat.le_of_ble_eq_true rfl) dX10_filled_11 ⟨Nat.zero_le _, Nat.zero_le _⟩ (fun H locs hP hS => ?_)
  refine W.eq (g2 := F0 m 14 ls []) rfl ?_
  refine lv_aload_n K.1.1 K.1.2.1 dX10_filled_14 rfl (lv_at hl 0 rfl) ?_
  refine m_getr K hP (by decide) sh_0 rfl tuX10 2 (by decide) rfl q_389 dX10_filled_15 ?_
  refine lv_aload_n K.1.1 K.1.2.1 dX10_filled_18 rfl (lv_at hl 0 rfl) ?_
  refine m_getr K hP (by decide) sh_0 rfl tuX10 0 (by decide) rfl q_387 dX10_filled_19 ?_
  refine m_cV (n := 1) (As := [.ref (B + 1)]) (rest := []) K hP hS (MX2_settle l G B _ 1 isA_1 ) (by decide) sh_81 rfl q_771 q_673 q_674 q_88 q_675 hv_X2_settle ⟨Nat.le_of_ble_eq_true rfl, Nat.le_of_ble_eq_true rfl⟩ rfl hl.1 rfl (Nat.le_of_ble_eq_true rfl) dX10_filled_22 ⟨Nat.zero_le _, Nat.zero_le _⟩ (fun H locs hP hS => ?_)
  refine W.eq (g2 := F0 m 25 ls []) rfl ?_
  refine lv_aload_n K.1.1 K.1.2.1 dX10_filled_25 rfl (lv_at hl 0 rfl) ?_
  refine m_getr K hP (by decide) sh_0 rfl tuX10 2 (by decide) rfl q_389 dX10_filled_26 ?_
  refine m_getr K hP (by decide) sh_81 rfl tuX2 5 (by decide) rfl q_305 dX10_filled_29 ?_
  refine lv_aload_n K.1.1 K.1.2.1 dX10_filled_32 rfl (lv_at hl 0 rfl) ?_
  refine m_getr K hP (by decide) sh_0 rfl tuX10 0 (by decide) rfl q_387 dX10_filled_33 ?_
  refine m_getr K hP isA_1.1 isA_1.2.1 rfl tuX1 1 (by decide) rfl q_250 dX10_filled_36 ?_
  refine lv_iload_n K.1.1 K.1.2.1 dX10_filled_39 rfl (lv_at hl 1 rfl) ?_
  refine m_cV (n := 1) (As := [.int n]) (rest := [.ref (B + 82)]) K hP hS (MX4_indexOf l G B _ (1 + 16) isA_1.2.2.2.1 n ) isA_1.2.2.2.1.1 isA_1.2.2.2.1.2.1 rfl q_1012 q_597 q_598 q_86 q_599 hv_X4_indexOf ⟨Nat.le_of_ble_eq_true rfl, Nat.le_of_ble_eq_true rfl⟩ rfl hl.1 rfl (Nat.le_of_ble_eq_true rfl) dX10_filled_40 ⟨Nat.zero_le _, Nat.zero_le _⟩ (fun H locs hP hS => ?_)
  refine lv_topi (fun r_2 er_2 => ?_)
  refine m_cV (n := 1) (As := [.int r_2]) (rest := []) K hP hS (MX5_get l G B _ 82 20 isR_82 r_2 ) (Nat.lt_of_succ_lt isR_82.1) isR_82.2.1 rfl q_557 q_436 q_437 q_85 q_438 hv_X5_get ⟨Nat.le_of_ble_eq_true rfl, Nat.le_of_ble_eq_true rfl⟩ rfl hl.1 rfl (Nat.le_of_ble_eq_true rfl) dX10_filled_43 ⟨Nat.zero_le _, Nat.zero_le _⟩ (fun H locs hP hS => ?_)
  refine lv_topi (fun r_3 er_3 => ?_)
  exact m_iret K hr hlocks hP hS dX10_filled_46 (by subst er_2 er_3; rfl) (by subst er_2 er_3; rfl)

set_option maxHeartbeats 4000000 in
set_option maxRecDepth 100000 in
theorem MX10_reason (l : Launch) (G : GG) (B : Nat) (μ : Mm) (n : Int32) (h1 : O_faultOfNumber μ (1 + 16) n = 0) : CM l yX10_reason (.code yX10_reason cX10_reason 2 (Option.some FieldType.int)) 4 91 G B [.ref (B + 0), .int n] μ (some (.int (C_reasonOf (C_settle μ 1) (1 + 16) (O_indexOf (C_settle μ 1) (1 + 16) n)))) (C_settle μ 1) := by
  refine CM.of (by decide) (Nat.le_of_ble_eq_true rfl) ?_
  intro p e s m below meth c ls K hr hlocks hP hl
  have hS : va_S (AA B) s.heap s.heap [] := va_S.rf
  have hl : lv_has ls 2 [(0, .ref (B + 0)), (1, .int n)] := hl
  refine lv_aload_n K.1.1 K.1.2.1 dX10_reason_0 rfl (lv_at hl 0 rfl) ?_
  refine m_getr K hP (by decide) sh_0 rfl tuX10 0 (by decide) rfl q_387 dX10_reason_1 ?_
  refine m_getr K hP isA_1.1 isA_1.2.1 rfl tuX1 1 (by decide) rfl q_250 dX10_reason_4 ?_
  refine lv_iload_n K.1.1 K.1.2.1 dX10_reason_7 rfl (lv_at hl 1 rfl) ?_
  refine m_cV (n := 1) (As := [.int n]) (rest := []) K hP hS (MX4_faultOfNumber l G B _ (1 + 16) isA_1.2.2.2.1 n ) isA_1.2.2.2.1.1 isA_1.2.2.2.1.2.1 rfl q_592 q_593 q_594 q_86 q_595 hv_X4_faultOfNumber ⟨Nat.le_of_ble_eq_true rfl, Nat.le_of_ble_eq_true rfl⟩ rfl hl.1 rfl (Nat.le_of_ble_eq_true rfl) dX10_reason_8 ⟨Nat.zero_le _, Nat.zero_le _⟩ (fun H locs hP hS => ?_)
  refine lv_topi (fun r_1 er_1 => ?_)
  have hz_11 : r_1 = 0 := (by subst er_1; exact h1)
  subst hz_11
  refine m_cS (n := 1) (As := [.int 0]) (rest := []) K hP hS (MX10_refuse l G B _  ) q_831 q_832 q_82 q_833 hv_X10_refuse ⟨Nat.le_of_ble_eq_true rfl, Nat.le_of_ble_eq_true rfl⟩ rfl hl.1 rfl (Nat.le_of_ble_eq_true rfl) dX10_reason_11 ⟨Nat.zero_le _, Nat.zero_le _⟩ (fun H locs hP hS => ?_)
  refine W.eq (g2 := F0 m 14 ls []) rfl ?_
  refine lv_aload_n K.1.1 K.1.2.1 dX10_reason_14 rfl (lv_at hl 0 rfl) ?_
  refine m_getr K hP (by decide) sh_0 rfl tuX10 2 (by decide) rfl q_389 dX10_reason_15 ?_
  refine lv_aload_n K.1.1 K.1.2.1 dX10_reason_18 rfl (lv_at hl 0 rfl) ?_
  refine m_getr K hP (by decide) sh_0 rfl tuX10 0 (by decide) rfl q_387 dX10_reason_19 ?_
  refine m_cV (n := 1) (As := [.ref (B + 1)]) (rest := []) K hP hS (MX2_settle l G B _ 1 isA_1 ) (by decide) sh_81 rfl q_771 q_673 q_674 q_88 q_675 hv_X2_settle ⟨Nat.le_of_ble_eq_true rfl, Nat.le_of_ble_eq_true rfl⟩ rfl hl.1 rfl (Nat.le_of_ble_eq_true rfl) dX10_reason_22 ⟨Nat.zero_le _, Nat.zero_le _⟩ (fun H locs hP hS => ?_)
  refine W.eq (g2 := F0 m 25 ls []) rfl ?_
  refine lv_aload_n K.1.1 K.1.2.1 dX10_reason_25 rfl (lv_at hl 0 rfl) ?_
  refine m_getr K hP (by decide) sh_0 rfl tuX10 2 (by decide) rfl q_389 dX10_reason_26 ?_
  refine lv_aload_n K.1.1 K.1.2.1 dX10_reason_29 rfl (lv_at hl 0 rfl) ?_
  refine m_getr K hP (by decide) sh_0 rfl tuX10 0 (by decide) rfl q_387 dX10_reason_30 ?_
  refine m_getr K hP isA_1.1 isA_1.2.1 rfl tuX1 1 (by decide) rfl q_250 dX10_reason_33 ?_
  refine lv_aload_n K.1.1 K.1.2.1 dX10_reason_36 rfl (lv_at hl 0 rfl) ?_
  refine m_getr K hP (by decide) sh_0 rfl tuX10 0 (by decide) rfl q_387 dX10_reason_37 ?_
  refine m_getr K hP isA_1.1 isA_1.2.1 rfl tuX1 1 (by decide) rfl q_250 dX10_reason_40 ?_
  refine lv_iload_n K.1.1 K.1.2.1 dX10_reason_43 rfl (lv_at hl 1 rfl) ?_
  refine m_cV (n := 1) (As := [.int n]) (rest := [.ref (B + (1 + 16)), .ref (B + 81)]) K hP hS (MX4_indexOf l G B _ (1 + 16) isA_1.2.2.2.1 n ) isA_1.2.2.2.1.1 isA_1.2.2.2.1.2.1 rfl q_1012 q_597 q_598 q_86 q_599 hv_X4_indexOf ⟨Nat.le_of_ble_eq_true rfl, Nat.le_of_ble_eq_true rfl⟩ rfl hl.1 rfl (Nat.le_of_ble_eq_true rfl) dX10_reason_44 ⟨Nat.zero_le _, Nat.zero_le _⟩ (fun H locs hP hS => ?_)
  refine lv_topi (fun r_2 er_2 => ?_)
  refine m_cV (n := 2) (As := [.ref (B + (1 + 16)), .int r_2]) (rest := []) K hP hS (MX2_reasonOf l G B _ (1 + 16) isA_1.2.2.2.1 r_2 ) (by decide) sh_81 rfl q_1071 q_1072 q_1073 q_88 q_1074 hv_X2_reasonOf ⟨Nat.le_of_ble_eq_true rfl, Nat.le_of_ble_eq_true rfl⟩ rfl hl.1 rfl (Nat.le_of_ble_eq_true rfl) dX10_reason_47 ⟨Nat.zero_le _, Nat.zero_le _⟩ (fun H locs hP hS => ?_)
  refine lv_topi (fun r_3 er_3 => ?_)
  exact m_iret K hr hlocks hP hS dX10_reason_50 (by subst er_2 er_3; rfl) (by subst er_2 er_3; rfl)

set_option maxHeartbeats 4000000 in
set_option maxRecDepth 100000 in
theorem MX10_gainWith (l : Launch) (G : GG) (B : Nat) (μ : Mm) (t : Int32) (pr : Int32) (h1 : T_faultOfNumber μ (1 + 1) t = 0) (h2 : X_price pr = 0) : CM l yX10_gainWith (.code yX10_gainWith cX10_gainWith 3 (Option.some FieldType.int)) 4 91 G B [.ref (B + 0), .int t, .int pr] μ (some (.int (X_gainWith μ t pr))) (X_gainWithM μ t pr) := by
  refine CM.of (by decide) (Nat.le_of_ble_eq_true rfl) ?_
  intro p e s m below meth c ls K hr hlocks hP hl
  have hS : va_S (AA B) s.heap s.heap [] := va_S.rf
  have hl : lv_has ls 3 [(0, .ref (B + 0)), (1, .int t), (2, .int pr)] := hl
  refine lv_aload_n K.1.1 K.1.2.1 dX10_gainWith_0 rfl (lv_at hl 0 rfl) ?_
  refine m_getr K hP (by decide) sh_0 rfl tuX10 0 (by decide) rfl q_387 dX10_gainWith_1 ?_
  refine m_getr K hP isA_1.1 isA_1.2.1 rfl tuX1 0 (by decide) rfl q_246 dX10_gainWith_4 ?_
  refine lv_iload_n K.1.1 K.1.2.1 dX10_gainWith_7 rfl (lv_at hl 1 rfl) ?_
  refine m_cV (n := 1) (As := [.int t]) (rest := []) K hP hS (MX6_faultOfNumber l G B _ (1 + 1) isA_1.2.2.1 t ) isA_1.2.2.1.1 isA_1.2.2.1.2.1 rfl q_996 q_997 q_998 q_84 q_999 hv_X6_faultOfNumber ⟨Nat.le_of_ble_eq_true rfl, Nat.le_of_ble_eq_true rfl⟩ rfl hl.1 rfl (Nat.le_of_ble_eq_true rfl) dX10_gainWith_8 ⟨Nat.zero_le _, Nat.zero_le _⟩ (fun H locs hP hS => ?_)
  refine lv_topi (fun r_1 er_1 => ?_)
  have hz_11 : r_1 = 0 := (by subst er_1; exact h1)
  subst hz_11
  refine m_cS (n := 1) (As := [.int 0]) (rest := []) K hP hS (MX10_refuse l G B _  ) q_831 q_832 q_82 q_833 hv_X10_refuse ⟨Nat.le_of_ble_eq_true rfl, Nat.le_of_ble_eq_true rfl⟩ rfl hl.1 rfl (Nat.le_of_ble_eq_true rfl) dX10_gainWith_11 ⟨Nat.zero_le _, Nat.zero_le _⟩ (fun H locs hP hS => ?_)
  refine W.eq (g2 := F0 m 14 ls []) rfl ?_
  refine lv_iload_n K.1.1 K.1.2.1 dX10_gainWith_14 rfl (lv_at hl 2 rfl) ?_
  refine m_cS (n := 1) (As := [.int pr]) (rest := []) K hP hS (MX10_faultOfPrice l G B _ pr ) q_1027 q_1028 q_82 q_1029 hv_X10_faultOfPrice ⟨Nat.le_of_ble_eq_true rfl, Nat.le_of_ble_eq_true rfl⟩ rfl hl.1 rfl (Nat.le_of_ble_eq_true rfl) dX10_gainWith_15 ⟨Nat.zero_le _, Nat.zero_le _⟩ (fun H locs hP hS => ?_)
  refine lv_topi (fun r_2 er_2 => ?_)
  have hz_18 : r_2 = 0 := (by subst er_2; exact h2)
  subst hz_18
  refine m_cS (n := 1) (As := [.int 0]) (rest := []) K hP hS (MX10_refuse l G B _  ) q_831 q_832 q_82 q_833 hv_X10_refuse ⟨Nat.le_of_ble_eq_true rfl, Nat.le_of_ble_eq_true rfl⟩ rfl hl.1 rfl (Nat.le_of_ble_eq_true rfl) dX10_gainWith_18 ⟨Nat.zero_le _, Nat.zero_le _⟩ (fun H locs hP hS => ?_)
  refine W.eq (g2 := F0 m 21 ls []) rfl ?_
  refine lv_aload_n K.1.1 K.1.2.1 dX10_gainWith_21 rfl (lv_at hl 0 rfl) ?_
  refine m_getr K hP (by decide) sh_0 rfl tuX10 0 (by decide) rfl q_387 dX10_gainWith_22 ?_
  refine m_getr K hP isA_1.1 isA_1.2.1 rfl tuX1 1 (by decide) rfl q_250 dX10_gainWith_25 ?_
  refine m_cV (n := 0) (As := []) (rest := []) K hP hS (MX4_isFull l G B _ (1 + 16) isA_1.2.2.2.1 ) isA_1.2.2.2.1.1 isA_1.2.2.2.1.2.1 rfl q_1083 q_588 q_589 q_86 q_590 hv_X4_isFull ⟨Nat.le_of_ble_eq_true rfl, Nat.le_of_ble_eq_true rfl⟩ rfl hl.1 rfl (Nat.le_of_ble_eq_true rfl) dX10_gainWith_28 ⟨Nat.zero_le _, Nat.zero_le _⟩ (fun H locs hP hS => ?_)
  refine lv_topi (fun r_3 er_3 => ?_)
  refine lv_if_eq (tgt := 38) K.1.1 K.1.2.1 dX10_gainWith_31 (by decide) (fun c_31 => ?_) (fun c_31 => ?_)
  · refine lv_aload_n K.1.1 K.1.2.1 dX10_gainWith_38 rfl (lv_at hl 0 rfl) ?_
    refine m_getr K hP (by decide) sh_0 rfl tuX10 1 (by decide) rfl q_388 dX10_gainWith_39 ?_
    refine lv_aload_n K.1.1 K.1.2.1 dX10_gainWith_42 rfl (lv_at hl 0 rfl) ?_
    refine m_getr K hP (by decide) sh_0 rfl tuX10 0 (by decide) rfl q_387 dX10_gainWith_43 ?_
    refine m_cV (n := 1) (As := [.ref (B + 1)]) (rest := []) K hP hS (MX1_copyFrom l G B _ 41 isA_41 1 isA_1 ) isA_41.1 isA_41.2.1 rfl q_1084 q_529 q_530 q_83 q_531 hv_X1_copyFrom ⟨Nat.le_of_ble_eq_true rfl, Nat.le_of_ble_eq_true rfl⟩ rfl hl.1 rfl (Nat.le_of_ble_eq_true rfl) dX10_gainWith_46 ⟨Nat.zero_le _, Nat.zero_le _⟩ (fun H locs hP hS => ?_)
    refine W.eq (g2 := F0 m 49 ls []) rfl ?_
    refine lv_aload_n K.1.1 K.1.2.1 dX10_gainWith_49 rfl (lv_at hl 0 rfl) ?_
    refine m_getr K hP (by decide) sh_0 rfl tuX10 1 (by decide) rfl q_388 dX10_gainWith_50 ?_
    refine lv_iload_n K.1.1 K.1.2.1 dX10_gainWith_53 rfl (lv_at hl 1 rfl) ?_
    refine lv_iload_n K.1.1 K.1.2.1 dX10_gainWith_54 rfl (lv_at hl 2 rfl) ?_
    refine lv_iconst (v := 1) K.1.1 K.1.2.1 dX10_gainWith_55 (by decide) ?_
    refine m_cV (n := 3) (As := [.int t, .int pr, .int 1]) (rest := []) K hP hS (MX1_place l G B _ 41 isA_41 t pr 1 ) isA_41.1 isA_41.2.1 rfl q_642 q_643 q_644 q_83 q_645 hv_X1_place ⟨Nat.le_of_ble_eq_true rfl, Nat.le_of_ble_eq_true rfl⟩ rfl hl.1 rfl (Nat.le_of_ble_eq_true rfl) dX10_gainWith_56 ⟨Nat.zero_le _, Nat.zero_le _⟩ (fun H locs hP hS => ?_)
    refine lv_topi (fun r_4 er_4 => ?_)
    refine lv_pop K.1.1 K.1.2.1 dX10_gainWith_59 rfl ?_
    refine lv_aload_n K.1.1 K.1.2.1 dX10_gainWith_60 rfl (lv_at hl 0 rfl) ?_
    refine m_getr K hP (by decide) sh_0 rfl tuX10 2 (by decide) rfl q_389 dX10_gainWith_61 ?_
    refine lv_aload_n K.1.1 K.1.2.1 dX10_gainWith_64 rfl (lv_at hl 0 rfl) ?_
    refine m_getr K hP (by decide) sh_0 rfl tuX10 1 (by decide) rfl q_388 dX10_gainWith_65 ?_
    refine m_cV (n := 1) (As := [.ref (B + 41)]) (rest := []) K hP hS (MX2_settle l G B _ 41 isA_41 ) (by decide) sh_81 rfl q_771 q_673 q_674 q_88 q_675 hv_X2_settle ⟨Nat.le_of_ble_eq_true rfl, Nat.le_of_ble_eq_true rfl⟩ rfl hl.1 rfl (Nat.le_of_ble_eq_true rfl) dX10_gainWith_68 ⟨Nat.zero_le _, Nat.zero_le _⟩ (fun H locs hP hS => ?_)
    refine W.eq (g2 := F0 m 71 ls []) rfl ?_
    refine lv_aload_n K.1.1 K.1.2.1 dX10_gainWith_71 rfl (lv_at hl 0 rfl) ?_
    refine m_getr K hP (by decide) sh_0 rfl tuX10 2 (by decide) rfl q_389 dX10_gainWith_72 ?_
    refine lv_aload_n K.1.1 K.1.2.1 dX10_gainWith_75 rfl (lv_at hl 0 rfl) ?_
    refine m_getr K hP (by decide) sh_0 rfl tuX10 1 (by decide) rfl q_388 dX10_gainWith_76 ?_
    refine lv_iload_n K.1.1 K.1.2.1 dX10_gainWith_79 rfl (lv_at hl 1 rfl) ?_
    refine lv_aload_n K.1.1 K.1.2.1 dX10_gainWith_80 rfl (lv_at hl 0 rfl) ?_
    refine m_getr K hP (by decide) sh_0 rfl tuX10 2 (by decide) rfl q_389 dX10_gainWith_81 ?_
    refine m_geti K hP (by decide) sh_81 rfl tuX2 2 (by decide) rfl q_297 dX10_gainWith_84 ?_
    refine lv_topi (fun g_5 eg_5 => ?_)
    refine m_cV (n := 3) (As := [.ref (B + 41), .int t, .int g_5]) (rest := []) K hP hS (MX2_gainOf l G B _ 41 isA_41 t g_5 ) (by decide) sh_81 rfl q_1085 q_1086 q_1087 q_88 q_1088 hv_X2_gainOf ⟨Nat.le_of_ble_eq_true rfl, Nat.le_of_ble_eq_true rfl⟩ rfl hl.1 rfl (Nat.le_of_ble_eq_true rfl) dX10_gainWith_87 ⟨Nat.zero_le _, Nat.zero_le _⟩ (fun H locs hP hS => ?_)
    refine lv_topi (fun r_6 er_6 => ?_)
    exact m_iret K hr hlocks hP hS dX10_gainWith_90 (by subst er_3 er_4 eg_5 er_6; first | (rw [X_gainWith, if_pos c_31]; done) | (rw [X_gainWith, if_pos c_31]; rfl) | (rw [X_gainWith, if_neg c_31]; done) | (rw [X_gainWith, if_neg c_31]; rfl)) (by subst er_3 er_4 eg_5 er_6; first | (rw [X_gainWithM, if_pos c_31]; done) | (rw [X_gainWithM, if_pos c_31]; rfl) | (rw [X_gainWithM, if_neg c_31]; done) | (rw [X_gainWithM, if_neg c_31]; rfl))
  · refine lv_sipush (v := (-10000)) K.1.1 K.1.2.1 dX10_gainWith_34 (by decide) ?_
    exact m_iret K hr hlocks hP hS dX10_gainWith_37 (by subst er_3; first | (rw [X_gainWith, if_pos c_31]; done) | (rw [X_gainWith, if_pos c_31]; rfl) | (rw [X_gainWith, if_neg c_31]; done) | (rw [X_gainWith, if_neg c_31]; rfl)) (by subst er_3; first | (rw [X_gainWithM, if_pos c_31]; done) | (rw [X_gainWithM, if_pos c_31]; rfl) | (rw [X_gainWithM, if_neg c_31]; done) | (rw [X_gainWithM, if_neg c_31]; rfl))

set_option maxHeartbeats 4000000 in
set_option maxRecDepth 100000 in
theorem MX10_bestShadeOfLastOrder (l : Launch) (G : GG) (B : Nat) (μ : Mm) (t : Int32) : CM l yX10_bestShadeOfLastOrder (.code yX10_bestShadeOfLastOrder cX10_bestShadeOfLastOrder 7 (Option.some FieldType.int)) 4 91 G B [.ref (B + 0), .int t] μ (some (.int (X_bestLast μ t))) (X_bestLastM μ t) := by
  refine CM.of (by decide) (Nat.le_of_ble_eq_true rfl) ?_
  intro p e s m below meth c ls K hr hlocks hP hl
  have hS : va_S (AA B) s.heap s.heap [] := va_S.rf
  have hl : lv_has ls 7 [(0, .ref (B + 0)), (1, .int t)] := hl
  refine lv_aload_n K.1.1 K.1.2.1 dX10_bestShadeOfLastOrder_0 rfl (lv_at hl 0 rfl) ?_
  refine m_getr K hP (by decide) sh_0 rfl tuX10 1 (by decide) rfl q_388 dX10_bestShadeOfLastOrder_1 ?_
  refine m_getr K hP isA_41.1 isA_41.2.1 rfl tuX1 1 (by decide) rfl q_250 dX10_bestShadeOfLastOrder_4 ?_
  refine m_geti K hP isA_41.2.2.2.1.1 isA_41.2.2.2.1.2.1 rfl tuX4 0 (by decide) rfl q_184 dX10_bestShadeOfLastOrder_7 ?_
  refine lv_topi (fun g_1 eg_1 => ?_)
  refine lv_iconst (v := 1) K.1.1 K.1.2.1 dX10_bestShadeOfLastOrder_10 (by decide) ?_
  refine lv_isub K.1.1 K.1.2.1 dX10_bestShadeOfLastOrder_11 ?_
  refine lv_topi (fun x_2 ex_2 => ?_)
  refine lv_istore_n (lv' := [(2, .int x_2), (0, .ref (B + 0)), (1, .int t)]) K.1.1 K.1.2.1 dX10_bestShadeOfLastOrder_12 rfl hl (by decide) rfl (fun ls hl => ?_)
  refine lv_iconst (v := 0) K.1.1 K.1.2.1 dX10_bestShadeOfLastOrder_13 (by decide) ?_
  refine lv_istore_n (lv' := [(3, .int 0), (2, .int x_2), (0, .ref (B + 0)), (1, .int t)]) K.1.1 K.1.2.1 dX10_bestShadeOfLastOrder_14 rfl hl (by decide) rfl (fun ls hl => ?_)
  refine lv_iconst (v := 0) K.1.1 K.1.2.1 dX10_bestShadeOfLastOrder_15 (by decide) ?_
  refine lv_istore (lv' := [(4, .int 0), (3, .int 0), (2, .int x_2), (0, .ref (B + 0)), (1, .int t)]) K.1.1 K.1.2.1 dX10_bestShadeOfLastOrder_16 hl (by decide) rfl (fun ls hl => ?_)
  refine lv_iconst (v := 0) K.1.1 K.1.2.1 dX10_bestShadeOfLastOrder_18 (by decide) ?_
  refine lv_istore (lv' := [(5, .int 0), (4, .int 0), (3, .int 0), (2, .int x_2), (0, .ref (B + 0)), (1, .int t)]) K.1.1 K.1.2.1 dX10_bestShadeOfLastOrder_19 hl (by decide) rfl (fun ls hl => ?_)
  refine up_to (N := NN 51) (P := fun k : Nat => ∀ (v5_21 : Int32) (v4_21 : Int32) (v3_21 : Int32) (μ_21 : Mm) (H : Heap) (locs : List Loc) (ls : Array Slot), (v5_21 = nI k) → (v4_21 = (BS_run μ t k).2.2) → (v3_21 = (BS_run μ t k).2.1) → (μ_21 = (BS_run μ t k).1) → MP G B μ_21 H → va_S (AA B) s.heap H locs → lv_has ls 7 [(5, .int v5_21), (4, .int v4_21), (3, .int v3_21), (2, .int x_2), (0, .ref (B + 0)), (1, .int t)] → W p l e ({ frames := 4, cells := 0, slots := 0, locals := 91 } : Room) s m ([.ref (B + 0), .int t] : List Value).toArray below meth c H locs 0 0 (MF below G B (some (.int (X_bestLast μ t))) (X_bestLastM μ t) ([.ref (B + 0), .int t] : List Value).toArray s) (F0 m 21 ls [])) ?_ ?_ _ _ _ _ _ _ _ (by first | rfl | (subst eg_1 ex_2; rfl)) (by first | rfl | (subst eg_1 ex_2; rfl)) (by first | rfl | (subst eg_1 ex_2; rfl)) (by first | rfl | (subst eg_1 ex_2; rfl)) hP hS (lv_sub hl [0, 1, 2, 3, 4, 5] rfl)
  · intro v5_21 v4_21 v3_21 μ_21 H locs ls ev5_21 ev4_21 ev3_21 eμ_21 hP hS hl
    refine lv_iload K.1.1 K.1.2.1 dX10_bestShadeOfLastOrder_21 (lv_at hl 0 rfl) ?_
    refine lv_bipush (v := 50) K.1.1 K.1.2.1 dX10_bestShadeOfLastOrder_23 (by decide) ?_
    refine lv_icmp_gt (tgt := 112) K.1.1 K.1.2.1 dX10_bestShadeOfLastOrder_25 (by decide) (fun c_25 => ?_) (fun c_25 => ?_)
    · refine lv_iload_n K.1.1 K.1.2.1 dX10_bestShadeOfLastOrder_112 rfl (lv_at hl 2 rfl) ?_
      exact m_iret K hr hlocks hP hS dX10_bestShadeOfLastOrder_113 (by subst eg_1 ex_2 ev5_21 ev4_21 ev3_21 eμ_21; rfl) (by subst eg_1 ex_2 ev5_21 ev4_21 ev3_21 eμ_21; rfl)
    · exact absurd c_25 (not_not_intro (by subst eg_1 ex_2 ev5_21 ev4_21 ev3_21 eμ_21; rw [NN_eq]; decide))
  · intro k hk ih_21 v5_21 v4_21 v3_21 μ_21 H locs ls ev5_21 ev4_21 ev3_21 eμ_21 hP hS hl
    rw [NN_eq] at hk
    refine lv_iload K.1.1 K.1.2.1 dX10_bestShadeOfLastOrder_21 (lv_at hl 0 rfl) ?_
    refine lv_bipush (v := 50) K.1.1 K.1.2.1 dX10_bestShadeOfLastOrder_23 (by decide) ?_
    refine lv_icmp_gt (tgt := 112) K.1.1 K.1.2.1 dX10_bestShadeOfLastOrder_25 (by decide) (fun c_25 => ?_) (fun c_25 => ?_)
    · exact absurd c_25 (by subst eg_1 ex_2 ev5_21 ev4_21 ev3_21 eμ_21; exact Int32.not_lt.mpr (nI_le (a := k) (b := 50) (by omega) (by decide)))
    · refine lv_aload_n K.1.1 K.1.2.1 dX10_bestShadeOfLastOrder_28 rfl (lv_at hl 4 rfl) ?_
      refine m_getr K hP (by decide) sh_0 rfl tuX10 1 (by decide) rfl q_388 dX10_bestShadeOfLastOrder_29 ?_
      refine m_getr K hP isA_41.1 isA_41.2.1 rfl tuX1 1 (by decide) rfl q_250 dX10_bestShadeOfLastOrder_32 ?_
      refine m_getr K hP isA_41.2.2.2.1.1 isA_41.2.2.2.1.2.1 rfl tuX4 4 (by decide) rfl q_195 dX10_bestShadeOfLastOrder_35 ?_
      refine lv_iload_n K.1.1 K.1.2.1 dX10_bestShadeOfLastOrder_38 rfl (lv_at hl 3 rfl) ?_
      refine lv_aload_n K.1.1 K.1.2.1 dX10_bestShadeOfLastOrder_39 rfl (lv_at hl 4 rfl) ?_
      refine m_getr K hP (by decide) sh_0 rfl tuX10 1 (by decide) rfl q_388 dX10_bestShadeOfLastOrder_40 ?_
      refine m_getr K hP isA_41.1 isA_41.2.1 rfl tuX1 0 (by decide) rfl q_246 dX10_bestShadeOfLastOrder_43 ?_
      refine lv_iload_n K.1.1 K.1.2.1 dX10_bestShadeOfLastOrder_46 rfl (lv_at hl 5 rfl) ?_
      refine lv_iload K.1.1 K.1.2.1 dX10_bestShadeOfLastOrder_47 (lv_at hl 0 rfl) ?_
      refine m_cV (n := 2) (As := [.int t, .int v5_21]) (rest := [.int x_2, .ref (B + (41 + 16 + 7))]) K hP hS (MX6_bidWith l G B _ (41 + 1) isA_41.2.2.1 t v5_21 ) isA_41.2.2.1.1 isA_41.2.2.1.2.1 rfl q_1102 q_633 q_634 q_84 q_635 hv_X6_bidWith ⟨Nat.le_of_ble_eq_true rfl, Nat.le_of_ble_eq_true rfl⟩ rfl hl.1 rfl (Nat.le_of_ble_eq_true rfl) dX10_bestShadeOfLastOrder_49 ⟨Nat.zero_le _, Nat.zero_le _⟩ (fun H locs hP hS => ?_)
      refine lv_topi (fun r_3 er_3 => ?_)
      refine m_cV (n := 2) (As := [.int x_2, .int r_3]) (rest := []) K hP hS (MX5_put l G B _ (41 + 16 + 7) 20 isA_41.2.2.2.1.2.2.2.2.2.1 x_2 r_3 ) (Nat.lt_of_succ_lt isA_41.2.2.2.1.2.2.2.2.2.1.1) isA_41.2.2.2.1.2.2.2.2.2.1.2.1 rfl q_946 q_514 q_515 q_85 q_516 hv_X5_put ⟨Nat.le_of_ble_eq_true rfl, Nat.le_of_ble_eq_true rfl⟩ rfl hl.1 rfl (Nat.le_of_ble_eq_true rfl) dX10_bestShadeOfLastOrder_52 ⟨Nat.zero_le _, Nat.zero_le _⟩ (fun H locs hP hS => ?_)
      refine W.eq (g2 := F0 m 55 ls []) rfl ?_
      refine lv_aload_n K.1.1 K.1.2.1 dX10_bestShadeOfLastOrder_55 rfl (lv_at hl 4 rfl) ?_
      refine m_getr K hP (by decide) sh_0 rfl tuX10 2 (by decide) rfl q_389 dX10_bestShadeOfLastOrder_56 ?_
      refine lv_aload_n K.1.1 K.1.2.1 dX10_bestShadeOfLastOrder_59 rfl (lv_at hl 4 rfl) ?_
      refine m_getr K hP (by decide) sh_0 rfl tuX10 1 (by decide) rfl q_388 dX10_bestShadeOfLastOrder_60 ?_
      refine m_cV (n := 1) (As := [.ref (B + 41)]) (rest := []) K hP hS (MX2_settle l G B _ 41 isA_41 ) (by decide) sh_81 rfl q_771 q_673 q_674 q_88 q_675 hv_X2_settle ⟨Nat.le_of_ble_eq_true rfl, Nat.le_of_ble_eq_true rfl⟩ rfl hl.1 rfl (Nat.le_of_ble_eq_true rfl) dX10_bestShadeOfLastOrder_63 ⟨Nat.zero_le _, Nat.zero_le _⟩ (fun H locs hP hS => ?_)
      refine W.eq (g2 := F0 m 66 ls []) rfl ?_
      refine lv_aload_n K.1.1 K.1.2.1 dX10_bestShadeOfLastOrder_66 rfl (lv_at hl 4 rfl) ?_
      refine m_getr K hP (by decide) sh_0 rfl tuX10 2 (by decide) rfl q_389 dX10_bestShadeOfLastOrder_67 ?_
      refine lv_aload_n K.1.1 K.1.2.1 dX10_bestShadeOfLastOrder_70 rfl (lv_at hl 4 rfl) ?_
      refine m_getr K hP (by decide) sh_0 rfl tuX10 1 (by decide) rfl q_388 dX10_bestShadeOfLastOrder_71 ?_
      refine lv_iload_n K.1.1 K.1.2.1 dX10_bestShadeOfLastOrder_74 rfl (lv_at hl 5 rfl) ?_
      refine lv_aload_n K.1.1 K.1.2.1 dX10_bestShadeOfLastOrder_75 rfl (lv_at hl 4 rfl) ?_
      refine m_getr K hP (by decide) sh_0 rfl tuX10 2 (by decide) rfl q_389 dX10_bestShadeOfLastOrder_76 ?_
      refine m_geti K hP (by decide) sh_81 rfl tuX2 2 (by decide) rfl q_297 dX10_bestShadeOfLastOrder_79 ?_
      refine lv_topi (fun g_4 eg_4 => ?_)
      refine m_cV (n := 3) (As := [.ref (B + 41), .int t, .int g_4]) (rest := []) K hP hS (MX2_gainOf l G B _ 41 isA_41 t g_4 ) (by decide) sh_81 rfl q_1085 q_1086 q_1087 q_88 q_1088 hv_X2_gainOf ⟨Nat.le_of_ble_eq_true rfl, Nat.le_of_ble_eq_true rfl⟩ rfl hl.1 rfl (Nat.le_of_ble_eq_true rfl) dX10_bestShadeOfLastOrder_82 ⟨Nat.zero_le _, Nat.zero_le _⟩ (fun H locs hP hS => ?_)
      refine lv_topi (fun r_5 er_5 => ?_)
      refine lv_istore (lv' := [(6, .int r_5), (5, .int v5_21), (4, .int v4_21), (3, .int v3_21), (2, .int x_2), (0, .ref (B + 0)), (1, .int t)]) K.1.1 K.1.2.1 dX10_bestShadeOfLastOrder_85 hl (by decide) rfl (fun ls hl => ?_)
      refine lv_iload K.1.1 K.1.2.1 dX10_bestShadeOfLastOrder_87 (lv_at hl 1 rfl) ?_
      refine lv_if_eq (tgt := 99) K.1.1 K.1.2.1 dX10_bestShadeOfLastOrder_89 (by decide) (fun c_89 => ?_) (fun c_89 => ?_)
      · refine lv_iload K.1.1 K.1.2.1 dX10_bestShadeOfLastOrder_99 (lv_at hl 0 rfl) ?_
        refine lv_istore (lv' := [(4, .int r_5), (6, .int r_5), (5, .int v5_21), (3, .int v3_21), (2, .int x_2), (0, .ref (B + 0)), (1, .int t)]) K.1.1 K.1.2.1 dX10_bestShadeOfLastOrder_101 hl (by decide) rfl (fun ls hl => ?_)
        refine lv_iload K.1.1 K.1.2.1 dX10_bestShadeOfLastOrder_103 (lv_at hl 2 rfl) ?_
        refine lv_istore_n (lv' := [(3, .int v5_21), (4, .int r_5), (6, .int r_5), (5, .int v5_21), (2, .int x_2), (0, .ref (B + 0)), (1, .int t)]) K.1.1 K.1.2.1 dX10_bestShadeOfLastOrder_105 rfl hl (by decide) rfl (fun ls hl => ?_)
        obtain ⟨x_6, ex_6⟩ : ∃ y : Int32, y = v5_21 + (1) := ⟨_, rfl⟩
        refine lv_iinc (v := x_6) (lv' := [(5, .int x_6), (3, .int v5_21), (4, .int r_5), (6, .int r_5), (2, .int x_2), (0, .ref (B + 0)), (1, .int t)]) K.1.1 K.1.2.1 dX10_bestShadeOfLastOrder_106 hl (k := 3) rfl (by rw [ex_6]; rfl) (by decide) rfl (fun ls hl => ?_)
        refine lv_goto (tgt := 21) K.1.1 K.1.2.1 dX10_bestShadeOfLastOrder_109 (by decide) ?_
        exact ih_21 _ _ _ _ _ _ _ (by subst eg_1 ex_2 ev5_21 ev4_21 ev3_21 eμ_21 er_3 eg_4 er_5 ex_6; exact nI_1 _) (by subst eg_1 ex_2 ev5_21 ev4_21 ev3_21 eμ_21 er_3 eg_4 er_5 ex_6; rw [BS_run_s]; show _ = (if nI k = 0 then _ else _); first | exact (if_pos c_89).symm | (rw [if_neg c_89]; first | exact (if_neg (Int32.not_lt.mpr c_96)).symm | exact (if_pos (Int32.not_le.mp c_96)).symm)) (by subst eg_1 ex_2 ev5_21 ev4_21 ev3_21 eμ_21 er_3 eg_4 er_5 ex_6; rw [BS_run_s]; show _ = (if nI k = 0 then _ else _); first | exact (if_pos c_89).symm | (rw [if_neg c_89]; first | exact (if_neg (Int32.not_lt.mpr c_96)).symm | exact (if_pos (Int32.not_le.mp c_96)).symm)) (by subst eg_1 ex_2 ev5_21 ev4_21 ev3_21 eμ_21 er_3 eg_4 er_5 ex_6; rw [BS_run_s]; rfl) hP hS (lv_sub hl [0, 2, 1, 4, 5, 6] rfl)
      · refine lv_iload K.1.1 K.1.2.1 dX10_bestShadeOfLastOrder_92 (lv_at hl 0 rfl) ?_
        refine lv_iload K.1.1 K.1.2.1 dX10_bestShadeOfLastOrder_94 (lv_at hl 2 rfl) ?_
        refine lv_icmp_le (tgt := 106) K.1.1 K.1.2.1 dX10_bestShadeOfLastOrder_96 (by decide) (fun c_96 => ?_) (fun c_96 => ?_)
        · obtain ⟨x_7, ex_7⟩ : ∃ y : Int32, y = v5_21 + (1) := ⟨_, rfl⟩
          refine lv_iinc (v := x_7) (lv' := [(5, .int x_7), (6, .int r_5), (4, .int v4_21), (3, .int v3_21), (2, .int x_2), (0, .ref (B + 0)), (1, .int t)]) K.1.1 K.1.2.1 dX10_bestShadeOfLastOrder_106 hl (k := 1) rfl (by rw [ex_7]; rfl) (by decide) rfl (fun ls hl => ?_)
          refine lv_goto (tgt := 21) K.1.1 K.1.2.1 dX10_bestShadeOfLastOrder_109 (by decide) ?_
          exact ih_21 _ _ _ _ _ _ _ (by subst eg_1 ex_2 ev5_21 ev4_21 ev3_21 eμ_21 er_3 eg_4 er_5 ex_7; exact nI_1 _) (by subst eg_1 ex_2 ev5_21 ev4_21 ev3_21 eμ_21 er_3 eg_4 er_5 ex_7; rw [BS_run_s]; show _ = (if nI k = 0 then _ else _); first | exact (if_pos c_89).symm | (rw [if_neg c_89]; first | exact (if_neg (Int32.not_lt.mpr c_96)).symm | exact (if_pos (Int32.not_le.mp c_96)).symm)) (by subst eg_1 ex_2 ev5_21 ev4_21 ev3_21 eμ_21 er_3 eg_4 er_5 ex_7; rw [BS_run_s]; show _ = (if nI k = 0 then _ else _); first | exact (if_pos c_89).symm | (rw [if_neg c_89]; first | exact (if_neg (Int32.not_lt.mpr c_96)).symm | exact (if_pos (Int32.not_le.mp c_96)).symm)) (by subst eg_1 ex_2 ev5_21 ev4_21 ev3_21 eμ_21 er_3 eg_4 er_5 ex_7; rw [BS_run_s]; rfl) hP hS (lv_sub hl [0, 2, 3, 4, 5, 6] rfl)
        · refine lv_iload K.1.1 K.1.2.1 dX10_bestShadeOfLastOrder_99 (lv_at hl 0 rfl) ?_
          refine lv_istore (lv' := [(4, .int r_5), (6, .int r_5), (5, .int v5_21), (3, .int v3_21), (2, .int x_2), (0, .ref (B + 0)), (1, .int t)]) K.1.1 K.1.2.1 dX10_bestShadeOfLastOrder_101 hl (by decide) rfl (fun ls hl => ?_)
          refine lv_iload K.1.1 K.1.2.1 dX10_bestShadeOfLastOrder_103 (lv_at hl 2 rfl) ?_
          refine lv_istore_n (lv' := [(3, .int v5_21), (4, .int r_5), (6, .int r_5), (5, .int v5_21), (2, .int x_2), (0, .ref (B + 0)), (1, .int t)]) K.1.1 K.1.2.1 dX10_bestShadeOfLastOrder_105 rfl hl (by decide) rfl (fun ls hl => ?_)
          obtain ⟨x_8, ex_8⟩ : ∃ y : Int32, y = v5_21 + (1) := ⟨_, rfl⟩
          refine lv_iinc (v := x_8) (lv' := [(5, .int x_8), (3, .int v5_21), (4, .int r_5), (6, .int r_5), (2, .int x_2), (0, .ref (B + 0)), (1, .int t)]) K.1.1 K.1.2.1 dX10_bestShadeOfLastOrder_106 hl (k := 3) rfl (by rw [ex_8]; rfl) (by decide) rfl (fun ls hl => ?_)
          refine lv_goto (tgt := 21) K.1.1 K.1.2.1 dX10_bestShadeOfLastOrder_109 (by decide) ?_
          exact ih_21 _ _ _ _ _ _ _ (by subst eg_1 ex_2 ev5_21 ev4_21 ev3_21 eμ_21 er_3 eg_4 er_5 ex_8; exact nI_1 _) (by subst eg_1 ex_2 ev5_21 ev4_21 ev3_21 eμ_21 er_3 eg_4 er_5 ex_8; rw [BS_run_s]; show _ = (if nI k = 0 then _ else _); first | exact (if_pos c_89).symm | (rw [if_neg c_89]; first | exact (if_neg (Int32.not_lt.mpr c_96)).symm | exact (if_pos (Int32.not_le.mp c_96)).symm)) (by subst eg_1 ex_2 ev5_21 ev4_21 ev3_21 eμ_21 er_3 eg_4 er_5 ex_8; rw [BS_run_s]; show _ = (if nI k = 0 then _ else _); first | exact (if_pos c_89).symm | (rw [if_neg c_89]; first | exact (if_neg (Int32.not_lt.mpr c_96)).symm | exact (if_pos (Int32.not_le.mp c_96)).symm)) (by subst eg_1 ex_2 ev5_21 ev4_21 ev3_21 eμ_21 er_3 eg_4 er_5 ex_8; rw [BS_run_s]; rfl) hP hS (lv_sub hl [0, 2, 1, 4, 5, 6] rfl)

