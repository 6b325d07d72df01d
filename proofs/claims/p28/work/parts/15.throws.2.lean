set_option maxHeartbeats 4000000 in
set_option maxRecDepth 100000 in
theorem XX10_gainWith_18_2 (l : Launch) (hfl : l.stackTraces = false) (G : GG) (B : Nat) (μ : Mm) (t : Int32) (pr : Int32) (h1 : T_faultOfNumber μ (1 + 1) t = 0) (ht : X_price pr = 2) : XM l yX10_gainWith (.code yX10_gainWith cX10_gainWith 3 (Option.some FieldType.int)) 7 110 G B [.ref (B + 0), .int t, .int pr] μ IAE := by
  refine XM.of (by decide) (Nat.le_of_ble_eq_true rfl) ?_
  intro p e s m below meth c ls K hD hx hr hlocks hP hl
  have hS : va_S (AA B) s.heap s.heap [] := va_S.rf
  have hl : lv_has ls 3 [(0, .ref (B + 0)), (1, .int t), (2, .int pr)] := hl
  refine lv_aload_n K.1.1 K.1.2.1 dX10_gainWith_0 rfl (lv_at hl 0 rfl) ?_
  refine m_getr K hP (by decide) sh_0 rfl tuX10 0 (by decide) rfl q_306 dX10_gainWith_1 ?_
  refine m_getr K hP isA_1.1 isA_1.2.1 rfl tuX1 0 (by decide) rfl q_170 dX10_gainWith_4 ?_
  refine lv_iload_n K.1.1 K.1.2.1 dX10_gainWith_7 rfl (lv_at hl 1 rfl) ?_
  refine m_cV (n := 1) (As := [.int t]) (rest := []) K hP hS (MX6_faultOfNumber l G B _ (1 + 1) isA_1.2.2.1 t ) isA_1.2.2.1.1 isA_1.2.2.1.2.1 rfl q_593 q_594 q_595 q_17 q_596 hv_X6_faultOfNumber ⟨Nat.le_of_ble_eq_true rfl, Nat.le_of_ble_eq_true rfl⟩ rfl hl.1 rfl (Nat.le_of_ble_eq_true rfl) dX10_gainWith_8 ⟨Nat.zero_le _, Nat.zero_le _⟩ (fun H locs hP hS => ?_)
  refine lv_topi (fun r_1 er_1 => ?_)
  have hz_11 : r_1 = 0 := (by subst er_1; exact h1)
  subst hz_11
  refine m_cS (n := 1) (As := [.int 0]) (rest := []) K hP hS (MX10_refuse l G B _  ) q_332 q_333 q_15 q_334 hv_X10_refuse ⟨Nat.le_of_ble_eq_true rfl, Nat.le_of_ble_eq_true rfl⟩ rfl hl.1 rfl (Nat.le_of_ble_eq_true rfl) dX10_gainWith_11 ⟨Nat.zero_le _, Nat.zero_le _⟩ (fun H locs hP hS => ?_)
  refine W.eq (g2 := F0 m 14 ls []) rfl ?_
  refine lv_iload_n K.1.1 K.1.2.1 dX10_gainWith_14 rfl (lv_at hl 2 rfl) ?_
  refine m_cS (n := 1) (As := [.int pr]) (rest := []) K hP hS (MX10_faultOfPrice l G B _ pr ) q_819 q_820 q_15 q_821 hv_X10_faultOfPrice ⟨Nat.le_of_ble_eq_true rfl, Nat.le_of_ble_eq_true rfl⟩ rfl hl.1 rfl (Nat.le_of_ble_eq_true rfl) dX10_gainWith_15 ⟨Nat.zero_le _, Nat.zero_le _⟩ (fun H locs hP hS => ?_)
  refine lv_topi (fun r_2 er_2 => ?_)
  have hz_t : r_2 = 2 := (by subst er_2; exact ht)
  subst hz_t
  exact x_cS (n := 1) (As := [.int 2]) (rest := []) K hP hS hD hx hlocks (X_refuse_IAE l hfl G B _) q_332 q_333 q_15 q_334 hv_X10_refuse ⟨Nat.le_of_ble_eq_true rfl, Nat.le_of_ble_eq_true rfl⟩ rfl hl.1 rfl (Nat.le_of_ble_eq_true rfl) dX10_gainWith_18 ⟨Nat.le_of_ble_eq_true rfl, Nat.le_of_ble_eq_true rfl⟩


set_option maxHeartbeats 4000000 in
set_option maxRecDepth 100000 in
theorem XX10_bestSplit_11_1 (l : Launch) (hfl : l.stackTraces = false) (G : GG) (B : Nat) (μ : Mm) (t : Int32) (ht : T_faultOfNumber μ (1 + 1) t = 1) : XM l yX10_bestSplit (.code yX10_bestSplit cX10_bestSplit 6 (Option.some FieldType.int)) 7 110 G B [.ref (B + 0), .int t] μ IOE := by
  refine XM.of (by decide) (Nat.le_of_ble_eq_true rfl) ?_
  intro p e s m below meth c ls K hD hx hr hlocks hP hl
  have hS : va_S (AA B) s.heap s.heap [] := va_S.rf
  have hl : lv_has ls 6 [(0, .ref (B + 0)), (1, .int t)] := hl
  refine lv_aload_n K.1.1 K.1.2.1 dX10_bestSplit_0 rfl (lv_at hl 0 rfl) ?_
  refine m_getr K hP (by decide) sh_0 rfl tuX10 0 (by decide) rfl q_306 dX10_bestSplit_1 ?_
  refine m_getr K hP isA_1.1 isA_1.2.1 rfl tuX1 0 (by decide) rfl q_170 dX10_bestSplit_4 ?_
  refine lv_iload_n K.1.1 K.1.2.1 dX10_bestSplit_7 rfl (lv_at hl 1 rfl) ?_
  refine m_cV (n := 1) (As := [.int t]) (rest := []) K hP hS (MX6_faultOfNumber l G B _ (1 + 1) isA_1.2.2.1 t ) isA_1.2.2.1.1 isA_1.2.2.1.2.1 rfl q_593 q_594 q_595 q_17 q_596 hv_X6_faultOfNumber ⟨Nat.le_of_ble_eq_true rfl, Nat.le_of_ble_eq_true rfl⟩ rfl hl.1 rfl (Nat.le_of_ble_eq_true rfl) dX10_bestSplit_8 ⟨Nat.zero_le _, Nat.zero_le _⟩ (fun H locs hP hS => ?_)
  refine lv_topi (fun r_1 er_1 => ?_)
  have hz_t : r_1 = 1 := (by subst er_1; exact ht)
  subst hz_t
  exact x_cS (n := 1) (As := [.int 1]) (rest := []) K hP hS hD hx hlocks (X_refuse_IOE l hfl G B _) q_332 q_333 q_15 q_334 hv_X10_refuse ⟨Nat.le_of_ble_eq_true rfl, Nat.le_of_ble_eq_true rfl⟩ rfl hl.1 rfl (Nat.le_of_ble_eq_true rfl) dX10_bestSplit_11 ⟨Nat.le_of_ble_eq_true rfl, Nat.le_of_ble_eq_true rfl⟩



set_option maxHeartbeats 4000000 in
set_option maxRecDepth 100000 in
theorem XX10_undo_15_3 (l : Launch) (hfl : l.stackTraces = false) (G : GG) (B : Nat) (μ : Mm) (h1 : μ 92 0 = 0) : XM l yX10_undo (.code yX10_undo cX10_undo 1 (Option.some FieldType.int)) 7 110 G B [.ref (B + 0)] μ ISE := by
  refine XM.of (by decide) (Nat.le_of_ble_eq_true rfl) ?_
  intro p e s m below meth c ls K hD hx hr hlocks hP hl
  have hS : va_S (AA B) s.heap s.heap [] := va_S.rf
  have hl : lv_has ls 1 [(0, .ref (B + 0))] := hl
  refine lv_aload_n K.1.1 K.1.2.1 dX10_undo_0 rfl (lv_at hl 0 rfl) ?_
  refine m_getr K hP (by decide) sh_0 rfl tuX10 3 (by decide) rfl q_309 dX10_undo_1 ?_
  refine m_geti K hP (by decide) sh_92 rfl tuX8 0 (by decide) rfl q_271 dX10_undo_4 ?_
  refine lv_topi (fun g_1 eg_1 => ?_)
  refine lv_if_ne (tgt := 14) K.1.1 K.1.2.1 dX10_undo_7 (by decide) (fun c_7 => ?_) (fun c_7 => ?_)
  · exact absurd c_7 (not_not_intro (by subst eg_1; exact h1))
  · refine lv_iconst (v := 3) K.1.1 K.1.2.1 dX10_undo_10 (by decide) ?_
    refine lv_goto (tgt := 15) K.1.1 K.1.2.1 dX10_undo_11 (by decide) ?_
    exact x_cS (n := 1) (As := [.int 3]) (rest := []) K hP hS hD hx hlocks (X_refuse_ISE l hfl G B _) q_332 q_333 q_15 q_334 hv_X10_refuse ⟨Nat.le_of_ble_eq_true rfl, Nat.le_of_ble_eq_true rfl⟩ rfl hl.1 rfl (Nat.le_of_ble_eq_true rfl) dX10_undo_15 ⟨Nat.le_of_ble_eq_true rfl, Nat.le_of_ble_eq_true rfl⟩

