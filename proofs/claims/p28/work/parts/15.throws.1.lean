set_option maxHeartbeats 4000000 in
set_option maxRecDepth 100000 in
theorem XX10_addTrader_9_2 (l : Launch) (hfl : l.stackTraces = false) (G : GG) (B : Nat) (μ : Mm) (sd : Int32) (v : Int32) (ht : A_faultOfJoin μ 1 sd v = 2) : XM l yX10_addTrader (.code yX10_addTrader cX10_addTrader 3 (Option.some FieldType.int)) 7 110 G B [.ref (B + 0), .int sd, .int v] μ IAE := by
  refine XM.of (by decide) (Nat.le_of_ble_eq_true rfl) ?_
  intro p e s m below meth c ls K hD hx hr hlocks hP hl
  have hS : va_S (AA B) s.heap s.heap [] := va_S.rf
  have hl : lv_has ls 3 [(0, .ref (B + 0)), (1, .int sd), (2, .int v)] := hl
  refine lv_aload_n K.1.1 K.1.2.1 dX10_addTrader_0 rfl (lv_at hl 0 rfl) ?_
  refine m_getr K hP (by decide) sh_0 rfl tuX10 0 (by decide) rfl q_306 dX10_addTrader_1 ?_
  refine lv_iload_n K.1.1 K.1.2.1 dX10_addTrader_4 rfl (lv_at hl 1 rfl) ?_
  refine lv_iload_n K.1.1 K.1.2.1 dX10_addTrader_5 rfl (lv_at hl 2 rfl) ?_
  refine m_cV (n := 2) (As := [.int sd, .int v]) (rest := []) K hP hS (MX1_faultOfJoin l G B _ 1 isA_1 sd v ) isA_1.1 isA_1.2.1 rfl q_641 q_642 q_643 q_16 q_644 hv_X1_faultOfJoin ⟨Nat.le_of_ble_eq_true rfl, Nat.le_of_ble_eq_true rfl⟩ rfl hl.1 rfl (Nat.le_of_ble_eq_true rfl) dX10_addTrader_6 ⟨Nat.zero_le _, Nat.zero_le _⟩ (fun H locs hP hS => ?_)
  refine lv_topi (fun r_1 er_1 => ?_)
  have hz_t : r_1 = 2 := (by subst er_1; exact ht)
  subst hz_t
  exact x_cS (n := 1) (As := [.int 2]) (rest := []) K hP hS hD hx hlocks (X_refuse_IAE l hfl G B _) q_332 q_333 q_15 q_334 hv_X10_refuse ⟨Nat.le_of_ble_eq_true rfl, Nat.le_of_ble_eq_true rfl⟩ rfl hl.1 rfl (Nat.le_of_ble_eq_true rfl) dX10_addTrader_9 ⟨Nat.le_of_ble_eq_true rfl, Nat.le_of_ble_eq_true rfl⟩

set_option maxHeartbeats 4000000 in
set_option maxRecDepth 100000 in
theorem XX10_addTrader_9_3 (l : Launch) (hfl : l.stackTraces = false) (G : GG) (B : Nat) (μ : Mm) (sd : Int32) (v : Int32) (ht : A_faultOfJoin μ 1 sd v = 3) : XM l yX10_addTrader (.code yX10_addTrader cX10_addTrader 3 (Option.some FieldType.int)) 7 110 G B [.ref (B + 0), .int sd, .int v] μ ISE := by
  refine XM.of (by decide) (Nat.le_of_ble_eq_true rfl) ?_
  intro p e s m below meth c ls K hD hx hr hlocks hP hl
  have hS : va_S (AA B) s.heap s.heap [] := va_S.rf
  have hl : lv_has ls 3 [(0, .ref (B + 0)), (1, .int sd), (2, .int v)] := hl
  refine lv_aload_n K.1.1 K.1.2.1 dX10_addTrader_0 rfl (lv_at hl 0 rfl) ?_
  refine m_getr K hP (by decide) sh_0 rfl tuX10 0 (by decide) rfl q_306 dX10_addTrader_1 ?_
  refine lv_iload_n K.1.1 K.1.2.1 dX10_addTrader_4 rfl (lv_at hl 1 rfl) ?_
  refine lv_iload_n K.1.1 K.1.2.1 dX10_addTrader_5 rfl (lv_at hl 2 rfl) ?_
  refine m_cV (n := 2) (As := [.int sd, .int v]) (rest := []) K hP hS (MX1_faultOfJoin l G B _ 1 isA_1 sd v ) isA_1.1 isA_1.2.1 rfl q_641 q_642 q_643 q_16 q_644 hv_X1_faultOfJoin ⟨Nat.le_of_ble_eq_true rfl, Nat.le_of_ble_eq_true rfl⟩ rfl hl.1 rfl (Nat.le_of_ble_eq_true rfl) dX10_addTrader_6 ⟨Nat.zero_le _, Nat.zero_le _⟩ (fun H locs hP hS => ?_)
  refine lv_topi (fun r_1 er_1 => ?_)
  have hz_t : r_1 = 3 := (by subst er_1; exact ht)
  subst hz_t
  exact x_cS (n := 1) (As := [.int 3]) (rest := []) K hP hS hD hx hlocks (X_refuse_ISE l hfl G B _) q_332 q_333 q_15 q_334 hv_X10_refuse ⟨Nat.le_of_ble_eq_true rfl, Nat.le_of_ble_eq_true rfl⟩ rfl hl.1 rfl (Nat.le_of_ble_eq_true rfl) dX10_addTrader_9 ⟨Nat.le_of_ble_eq_true rfl, Nat.le_of_ble_eq_true rfl⟩

set_option maxHeartbeats 4000000 in
set_option maxRecDepth 100000 in
theorem XX10_setValue_9_1 (l : Launch) (hfl : l.stackTraces = false) (G : GG) (B : Nat) (μ : Mm) (t : Int32) (v : Int32) (ht : A_faultOfValue μ 1 t v = 1) : XM l yX10_setValue (.code yX10_setValue cX10_setValue 4 (Option.some FieldType.int)) 7 110 G B [.ref (B + 0), .int t, .int v] μ IOE := by
  refine XM.of (by decide) (Nat.le_of_ble_eq_true rfl) ?_
  intro p e s m below meth c ls K hD hx hr hlocks hP hl
  have hS : va_S (AA B) s.heap s.heap [] := va_S.rf
  have hl : lv_has ls 4 [(0, .ref (B + 0)), (1, .int t), (2, .int v)] := hl
  refine lv_aload_n K.1.1 K.1.2.1 dX10_setValue_0 rfl (lv_at hl 0 rfl) ?_
  refine m_getr K hP (by decide) sh_0 rfl tuX10 0 (by decide) rfl q_306 dX10_setValue_1 ?_
  refine lv_iload_n K.1.1 K.1.2.1 dX10_setValue_4 rfl (lv_at hl 1 rfl) ?_
  refine lv_iload_n K.1.1 K.1.2.1 dX10_setValue_5 rfl (lv_at hl 2 rfl) ?_
  refine m_cV (n := 2) (As := [.int t, .int v]) (rest := []) K hP hS (MX1_faultOfValue l G B _ 1 isA_1 t v ) isA_1.1 isA_1.2.1 rfl q_693 q_694 q_695 q_16 q_696 hv_X1_faultOfValue ⟨Nat.le_of_ble_eq_true rfl, Nat.le_of_ble_eq_true rfl⟩ rfl hl.1 rfl (Nat.le_of_ble_eq_true rfl) dX10_setValue_6 ⟨Nat.zero_le _, Nat.zero_le _⟩ (fun H locs hP hS => ?_)
  refine lv_topi (fun r_1 er_1 => ?_)
  have hz_t : r_1 = 1 := (by subst er_1; exact ht)
  subst hz_t
  exact x_cS (n := 1) (As := [.int 1]) (rest := []) K hP hS hD hx hlocks (X_refuse_IOE l hfl G B _) q_332 q_333 q_15 q_334 hv_X10_refuse ⟨Nat.le_of_ble_eq_true rfl, Nat.le_of_ble_eq_true rfl⟩ rfl hl.1 rfl (Nat.le_of_ble_eq_true rfl) dX10_setValue_9 ⟨Nat.le_of_ble_eq_true rfl, Nat.le_of_ble_eq_true rfl⟩

set_option maxHeartbeats 4000000 in
set_option maxRecDepth 100000 in
theorem XX10_setValue_9_2 (l : Launch) (hfl : l.stackTraces = false) (G : GG) (B : Nat) (μ : Mm) (t : Int32) (v : Int32) (ht : A_faultOfValue μ 1 t v = 2) : XM l yX10_setValue (.code yX10_setValue cX10_setValue 4 (Option.some FieldType.int)) 7 110 G B [.ref (B + 0), .int t, .int v] μ IAE := by
  refine XM.of (by decide) (Nat.le_of_ble_eq_true rfl) ?_
  intro p e s m below meth c ls K hD hx hr hlocks hP hl
  have hS : va_S (AA B) s.heap s.heap [] := va_S.rf
  have hl : lv_has ls 4 [(0, .ref (B + 0)), (1, .int t), (2, .int v)] := hl
  refine lv_aload_n K.1.1 K.1.2.1 dX10_setValue_0 rfl (lv_at hl 0 rfl) ?_
  refine m_getr K hP (by decide) sh_0 rfl tuX10 0 (by decide) rfl q_306 dX10_setValue_1 ?_
  refine lv_iload_n K.1.1 K.1.2.1 dX10_setValue_4 rfl (lv_at hl 1 rfl) ?_
  refine lv_iload_n K.1.1 K.1.2.1 dX10_setValue_5 rfl (lv_at hl 2 rfl) ?_
  refine m_cV (n := 2) (As := [.int t, .int v]) (rest := []) K hP hS (MX1_faultOfValue l G B _ 1 isA_1 t v ) isA_1.1 isA_1.2.1 rfl q_693 q_694 q_695 q_16 q_696 hv_X1_faultOfValue ⟨Nat.le_of_ble_eq_true rfl, Nat.le_of_ble_eq_true rfl⟩ rfl hl.1 rfl (Nat.le_of_ble_eq_true rfl) dX10_setValue_6 ⟨Nat.zero_le _, Nat.zero_le _⟩ (fun H locs hP hS => ?_)
  refine lv_topi (fun r_1 er_1 => ?_)
  have hz_t : r_1 = 2 := (by subst er_1; exact ht)
  subst hz_t
  exact x_cS (n := 1) (As := [.int 2]) (rest := []) K hP hS hD hx hlocks (X_refuse_IAE l hfl G B _) q_332 q_333 q_15 q_334 hv_X10_refuse ⟨Nat.le_of_ble_eq_true rfl, Nat.le_of_ble_eq_true rfl⟩ rfl hl.1 rfl (Nat.le_of_ble_eq_true rfl) dX10_setValue_9 ⟨Nat.le_of_ble_eq_true rfl, Nat.le_of_ble_eq_true rfl⟩

set_option maxHeartbeats 4000000 in
set_option maxRecDepth 100000 in
theorem XX10_setShade_10_1 (l : Launch) (hfl : l.stackTraces = false) (G : GG) (B : Nat) (μ : Mm) (t : Int32) (k : Int32) (a : Int32) (ht : A_faultOfShade μ 1 t k a = 1) : XM l yX10_setShade (.code yX10_setShade cX10_setShade 4 (Option.some FieldType.int)) 7 110 G B [.ref (B + 0), .int t, .int k, .int a] μ IOE := by
  refine XM.of (by decide) (Nat.le_of_ble_eq_true rfl) ?_
  intro p e s m below meth c ls K hD hx hr hlocks hP hl
  have hS : va_S (AA B) s.heap s.heap [] := va_S.rf
  have hl : lv_has ls 4 [(0, .ref (B + 0)), (1, .int t), (2, .int k), (3, .int a)] := hl
  refine lv_aload_n K.1.1 K.1.2.1 dX10_setShade_0 rfl (lv_at hl 0 rfl) ?_
  refine m_getr K hP (by decide) sh_0 rfl tuX10 0 (by decide) rfl q_306 dX10_setShade_1 ?_
  refine lv_iload_n K.1.1 K.1.2.1 dX10_setShade_4 rfl (lv_at hl 1 rfl) ?_
  refine lv_iload_n K.1.1 K.1.2.1 dX10_setShade_5 rfl (lv_at hl 2 rfl) ?_
  refine lv_iload_n K.1.1 K.1.2.1 dX10_setShade_6 rfl (lv_at hl 3 rfl) ?_
  refine m_cV (n := 3) (As := [.int t, .int k, .int a]) (rest := []) K hP hS (MX1_faultOfShade l G B _ 1 isA_1 t k a ) isA_1.1 isA_1.2.1 rfl q_703 q_704 q_705 q_16 q_706 hv_X1_faultOfShade ⟨Nat.le_of_ble_eq_true rfl, Nat.le_of_ble_eq_true rfl⟩ rfl hl.1 rfl (Nat.le_of_ble_eq_true rfl) dX10_setShade_7 ⟨Nat.zero_le _, Nat.zero_le _⟩ (fun H locs hP hS => ?_)
  refine lv_topi (fun r_1 er_1 => ?_)
  have hz_t : r_1 = 1 := (by subst er_1; exact ht)
  subst hz_t
  exact x_cS (n := 1) (As := [.int 1]) (rest := []) K hP hS hD hx hlocks (X_refuse_IOE l hfl G B _) q_332 q_333 q_15 q_334 hv_X10_refuse ⟨Nat.le_of_ble_eq_true rfl, Nat.le_of_ble_eq_true rfl⟩ rfl hl.1 rfl (Nat.le_of_ble_eq_true rfl) dX10_setShade_10 ⟨Nat.le_of_ble_eq_true rfl, Nat.le_of_ble_eq_true rfl⟩

set_option maxHeartbeats 4000000 in
set_option maxRecDepth 100000 in
theorem XX10_setShade_10_2 (l : Launch) (hfl : l.stackTraces = false) (G : GG) (B : Nat) (μ : Mm) (t : Int32) (k : Int32) (a : Int32) (ht : A_faultOfShade μ 1 t k a = 2) : XM l yX10_setShade (.code yX10_setShade cX10_setShade 4 (Option.some FieldType.int)) 7 110 G B [.ref (B + 0), .int t, .int k, .int a] μ IAE := by
  refine XM.of (by decide) (Nat.le_of_ble_eq_true rfl) ?_
  intro p e s m below meth c ls K hD hx hr hlocks hP hl
  have hS : va_S (AA B) s.heap s.heap [] := va_S.rf
  have hl : lv_has ls 4 [(0, .ref (B + 0)), (1, .int t), (2, .int k), (3, .int a)] := hl
  refine lv_aload_n K.1.1 K.1.2.1 dX10_setShade_0 rfl (lv_at hl 0 rfl) ?_
  refine m_getr K hP (by decide) sh_0 rfl tuX10 0 (by decide) rfl q_306 dX10_setShade_1 ?_
  refine lv_iload_n K.1.1 K.1.2.1 dX10_setShade_4 rfl (lv_at hl 1 rfl) ?_
  refine lv_iload_n K.1.1 K.1.2.1 dX10_setShade_5 rfl (lv_at hl 2 rfl) ?_
  refine lv_iload_n K.1.1 K.1.2.1 dX10_setShade_6 rfl (lv_at hl 3 rfl) ?_
  refine m_cV (n := 3) (As := [.int t, .int k, .int a]) (rest := []) K hP hS (MX1_faultOfShade l G B _ 1 isA_1 t k a ) isA_1.1 isA_1.2.1 rfl q_703 q_704 q_705 q_16 q_706 hv_X1_faultOfShade ⟨Nat.le_of_ble_eq_true rfl, Nat.le_of_ble_eq_true rfl⟩ rfl hl.1 rfl (Nat.le_of_ble_eq_true rfl) dX10_setShade_7 ⟨Nat.zero_le _, Nat.zero_le _⟩ (fun H locs hP hS => ?_)
  refine lv_topi (fun r_1 er_1 => ?_)
  have hz_t : r_1 = 2 := (by subst er_1; exact ht)
  subst hz_t
  exact x_cS (n := 1) (As := [.int 2]) (rest := []) K hP hS hD hx hlocks (X_refuse_IAE l hfl G B _) q_332 q_333 q_15 q_334 hv_X10_refuse ⟨Nat.le_of_ble_eq_true rfl, Nat.le_of_ble_eq_true rfl⟩ rfl hl.1 rfl (Nat.le_of_ble_eq_true rfl) dX10_setShade_10 ⟨Nat.le_of_ble_eq_true rfl, Nat.le_of_ble_eq_true rfl⟩

set_option maxHeartbeats 4000000 in
set_option maxRecDepth 100000 in
theorem XX10_set_9_2 (l : Launch) (hfl : l.stackTraces = false) (G : GG) (B : Nat) (μ : Mm) (w : Int32) (v : Int32) (ht : A_faultOfSetting w v = 2) : XM l yX10_set (.code yX10_set cX10_set 3 (Option.some FieldType.int)) 7 110 G B [.ref (B + 0), .int w, .int v] μ IAE := by
  refine XM.of (by decide) (Nat.le_of_ble_eq_true rfl) ?_
  intro p e s m below meth c ls K hD hx hr hlocks hP hl
  have hS : va_S (AA B) s.heap s.heap [] := va_S.rf
  have hl : lv_has ls 3 [(0, .ref (B + 0)), (1, .int w), (2, .int v)] := hl
  refine lv_aload_n K.1.1 K.1.2.1 dX10_set_0 rfl (lv_at hl 0 rfl) ?_
  refine m_getr K hP (by decide) sh_0 rfl tuX10 0 (by decide) rfl q_306 dX10_set_1 ?_
  refine lv_iload_n K.1.1 K.1.2.1 dX10_set_4 rfl (lv_at hl 1 rfl) ?_
  refine lv_iload_n K.1.1 K.1.2.1 dX10_set_5 rfl (lv_at hl 2 rfl) ?_
  refine m_cV (n := 2) (As := [.int w, .int v]) (rest := []) K hP hS (MX1_faultOfSetting l G B _ 1 isA_1 w v ) isA_1.1 isA_1.2.1 rfl q_713 q_714 q_715 q_16 q_716 hv_X1_faultOfSetting ⟨Nat.le_of_ble_eq_true rfl, Nat.le_of_ble_eq_true rfl⟩ rfl hl.1 rfl (Nat.le_of_ble_eq_true rfl) dX10_set_6 ⟨Nat.zero_le _, Nat.zero_le _⟩ (fun H locs hP hS => ?_)
  refine lv_topi (fun r_1 er_1 => ?_)
  have hz_t : r_1 = 2 := (by subst er_1; exact ht)
  subst hz_t
  exact x_cS (n := 1) (As := [.int 2]) (rest := []) K hP hS hD hx hlocks (X_refuse_IAE l hfl G B _) q_332 q_333 q_15 q_334 hv_X10_refuse ⟨Nat.le_of_ble_eq_true rfl, Nat.le_of_ble_eq_true rfl⟩ rfl hl.1 rfl (Nat.le_of_ble_eq_true rfl) dX10_set_9 ⟨Nat.le_of_ble_eq_true rfl, Nat.le_of_ble_eq_true rfl⟩

set_option maxHeartbeats 4000000 in
set_option maxRecDepth 100000 in
theorem XX10_bid_9_1 (l : Launch) (hfl : l.stackTraces = false) (G : GG) (B : Nat) (μ : Mm) (t : Int32) (u : Int32) (ht : A_faultOfOrder μ 1 t 1 u = 1) : XM l yX10_bid (.code yX10_bid cX10_bid 3 (Option.some FieldType.int)) 7 110 G B [.ref (B + 0), .int t, .int u] μ IOE := by
  refine XM.of (by decide) (Nat.le_of_ble_eq_true rfl) ?_
  intro p e s m below meth c ls K hD hx hr hlocks hP hl
  have hS : va_S (AA B) s.heap s.heap [] := va_S.rf
  have hl : lv_has ls 3 [(0, .ref (B + 0)), (1, .int t), (2, .int u)] := hl
  refine lv_aload_n K.1.1 K.1.2.1 dX10_bid_0 rfl (lv_at hl 0 rfl) ?_
  refine m_getr K hP (by decide) sh_0 rfl tuX10 0 (by decide) rfl q_306 dX10_bid_1 ?_
  refine lv_iload_n K.1.1 K.1.2.1 dX10_bid_4 rfl (lv_at hl 1 rfl) ?_
  refine lv_iload_n K.1.1 K.1.2.1 dX10_bid_5 rfl (lv_at hl 2 rfl) ?_
  refine m_cV (n := 2) (As := [.int t, .int u]) (rest := []) K hP hS (MX1_faultOfBid l G B _ 1 isA_1 t u ) isA_1.1 isA_1.2.1 rfl q_725 q_726 q_727 q_16 q_728 hv_X1_faultOfBid ⟨Nat.le_of_ble_eq_true rfl, Nat.le_of_ble_eq_true rfl⟩ rfl hl.1 rfl (Nat.le_of_ble_eq_true rfl) dX10_bid_6 ⟨Nat.zero_le _, Nat.zero_le _⟩ (fun H locs hP hS => ?_)
  refine lv_topi (fun r_1 er_1 => ?_)
  have hz_t : r_1 = 1 := (by subst er_1; exact ht)
  subst hz_t
  exact x_cS (n := 1) (As := [.int 1]) (rest := []) K hP hS hD hx hlocks (X_refuse_IOE l hfl G B _) q_332 q_333 q_15 q_334 hv_X10_refuse ⟨Nat.le_of_ble_eq_true rfl, Nat.le_of_ble_eq_true rfl⟩ rfl hl.1 rfl (Nat.le_of_ble_eq_true rfl) dX10_bid_9 ⟨Nat.le_of_ble_eq_true rfl, Nat.le_of_ble_eq_true rfl⟩

set_option maxHeartbeats 4000000 in
set_option maxRecDepth 100000 in
theorem XX10_bid_9_2 (l : Launch) (hfl : l.stackTraces = false) (G : GG) (B : Nat) (μ : Mm) (t : Int32) (u : Int32) (ht : A_faultOfOrder μ 1 t 1 u = 2) : XM l yX10_bid (.code yX10_bid cX10_bid 3 (Option.some FieldType.int)) 7 110 G B [.ref (B + 0), .int t, .int u] μ IAE := by
  refine XM.of (by decide) (Nat.le_of_ble_eq_true rfl) ?_
  intro p e s m below meth c ls K hD hx hr hlocks hP hl
  have hS : va_S (AA B) s.heap s.heap [] := va_S.rf
  have hl : lv_has ls 3 [(0, .ref (B + 0)), (1, .int t), (2, .int u)] := hl
  refine lv_aload_n K.1.1 K.1.2.1 dX10_bid_0 rfl (lv_at hl 0 rfl) ?_
  refine m_getr K hP (by decide) sh_0 rfl tuX10 0 (by decide) rfl q_306 dX10_bid_1 ?_
  refine lv_iload_n K.1.1 K.1.2.1 dX10_bid_4 rfl (lv_at hl 1 rfl) ?_
  refine lv_iload_n K.1.1 K.1.2.1 dX10_bid_5 rfl (lv_at hl 2 rfl) ?_
  refine m_cV (n := 2) (As := [.int t, .int u]) (rest := []) K hP hS (MX1_faultOfBid l G B _ 1 isA_1 t u ) isA_1.1 isA_1.2.1 rfl q_725 q_726 q_727 q_16 q_728 hv_X1_faultOfBid ⟨Nat.le_of_ble_eq_true rfl, Nat.le_of_ble_eq_true rfl⟩ rfl hl.1 rfl (Nat.le_of_ble_eq_true rfl) dX10_bid_6 ⟨Nat.zero_le _, Nat.zero_le _⟩ (fun H locs hP hS => ?_)
  refine lv_topi (fun r_1 er_1 => ?_)
  have hz_t : r_1 = 2 := (by subst er_1; exact ht)
  subst hz_t
  exact x_cS (n := 1) (As := [.int 2]) (rest := []) K hP hS hD hx hlocks (X_refuse_IAE l hfl G B _) q_332 q_333 q_15 q_334 hv_X10_refuse ⟨Nat.le_of_ble_eq_true rfl, Nat.le_of_ble_eq_true rfl⟩ rfl hl.1 rfl (Nat.le_of_ble_eq_true rfl) dX10_bid_9 ⟨Nat.le_of_ble_eq_true rfl, Nat.le_of_ble_eq_true rfl⟩

set_option maxHeartbeats 4000000 in
set_option maxRecDepth 100000 in
theorem XX10_bid_9_3 (l : Launch) (hfl : l.stackTraces = false) (G : GG) (B : Nat) (μ : Mm) (t : Int32) (u : Int32) (ht : A_faultOfOrder μ 1 t 1 u = 3) : XM l yX10_bid (.code yX10_bid cX10_bid 3 (Option.some FieldType.int)) 7 110 G B [.ref (B + 0), .int t, .int u] μ ISE := by
  refine XM.of (by decide) (Nat.le_of_ble_eq_true rfl) ?_
  intro p e s m below meth c ls K hD hx hr hlocks hP hl
  have hS : va_S (AA B) s.heap s.heap [] := va_S.rf
  have hl : lv_has ls 3 [(0, .ref (B + 0)), (1, .int t), (2, .int u)] := hl
  refine lv_aload_n K.1.1 K.1.2.1 dX10_bid_0 rfl (lv_at hl 0 rfl) ?_
  refine m_getr K hP (by decide) sh_0 rfl tuX10 0 (by decide) rfl q_306 dX10_bid_1 ?_
  refine lv_iload_n K.1.1 K.1.2.1 dX10_bid_4 rfl (lv_at hl 1 rfl) ?_
  refine lv_iload_n K.1.1 K.1.2.1 dX10_bid_5 rfl (lv_at hl 2 rfl) ?_
  refine m_cV (n := 2) (As := [.int t, .int u]) (rest := []) K hP hS (MX1_faultOfBid l G B _ 1 isA_1 t u ) isA_1.1 isA_1.2.1 rfl q_725 q_726 q_727 q_16 q_728 hv_X1_faultOfBid ⟨Nat.le_of_ble_eq_true rfl, Nat.le_of_ble_eq_true rfl⟩ rfl hl.1 rfl (Nat.le_of_ble_eq_true rfl) dX10_bid_6 ⟨Nat.zero_le _, Nat.zero_le _⟩ (fun H locs hP hS => ?_)
  refine lv_topi (fun r_1 er_1 => ?_)
  have hz_t : r_1 = 3 := (by subst er_1; exact ht)
  subst hz_t
  exact x_cS (n := 1) (As := [.int 3]) (rest := []) K hP hS hD hx hlocks (X_refuse_ISE l hfl G B _) q_332 q_333 q_15 q_334 hv_X10_refuse ⟨Nat.le_of_ble_eq_true rfl, Nat.le_of_ble_eq_true rfl⟩ rfl hl.1 rfl (Nat.le_of_ble_eq_true rfl) dX10_bid_9 ⟨Nat.le_of_ble_eq_true rfl, Nat.le_of_ble_eq_true rfl⟩

set_option maxHeartbeats 4000000 in
set_option maxRecDepth 100000 in
theorem XX10_order_10_1 (l : Launch) (hfl : l.stackTraces = false) (G : GG) (B : Nat) (μ : Mm) (t : Int32) (pr : Int32) (u : Int32) (ht : A_faultOfOrder μ 1 t pr u = 1) : XM l yX10_order (.code yX10_order cX10_order 4 (Option.some FieldType.int)) 7 110 G B [.ref (B + 0), .int t, .int pr, .int u] μ IOE := by
  refine XM.of (by decide) (Nat.le_of_ble_eq_true rfl) ?_
  intro p e s m below meth c ls K hD hx hr hlocks hP hl
  have hS : va_S (AA B) s.heap s.heap [] := va_S.rf
  have hl : lv_has ls 4 [(0, .ref (B + 0)), (1, .int t), (2, .int pr), (3, .int u)] := hl
  refine lv_aload_n K.1.1 K.1.2.1 dX10_order_0 rfl (lv_at hl 0 rfl) ?_
  refine m_getr K hP (by decide) sh_0 rfl tuX10 0 (by decide) rfl q_306 dX10_order_1 ?_
  refine lv_iload_n K.1.1 K.1.2.1 dX10_order_4 rfl (lv_at hl 1 rfl) ?_
  refine lv_iload_n K.1.1 K.1.2.1 dX10_order_5 rfl (lv_at hl 2 rfl) ?_
  refine lv_iload_n K.1.1 K.1.2.1 dX10_order_6 rfl (lv_at hl 3 rfl) ?_
  refine m_cV (n := 3) (As := [.int t, .int pr, .int u]) (rest := []) K hP hS (MX1_faultOfOrder l G B _ 1 isA_1 t pr u ) isA_1.1 isA_1.2.1 rfl q_750 q_730 q_731 q_16 q_732 hv_X1_faultOfOrder ⟨Nat.le_of_ble_eq_true rfl, Nat.le_of_ble_eq_true rfl⟩ rfl hl.1 rfl (Nat.le_of_ble_eq_true rfl) dX10_order_7 ⟨Nat.zero_le _, Nat.zero_le _⟩ (fun H locs hP hS => ?_)
  refine lv_topi (fun r_1 er_1 => ?_)
  have hz_t : r_1 = 1 := (by subst er_1; exact ht)
  subst hz_t
  exact x_cS (n := 1) (As := [.int 1]) (rest := []) K hP hS hD hx hlocks (X_refuse_IOE l hfl G B _) q_332 q_333 q_15 q_334 hv_X10_refuse ⟨Nat.le_of_ble_eq_true rfl, Nat.le_of_ble_eq_true rfl⟩ rfl hl.1 rfl (Nat.le_of_ble_eq_true rfl) dX10_order_10 ⟨Nat.le_of_ble_eq_true rfl, Nat.le_of_ble_eq_true rfl⟩

set_option maxHeartbeats 4000000 in
set_option maxRecDepth 100000 in
theorem XX10_order_10_2 (l : Launch) (hfl : l.stackTraces = false) (G : GG) (B : Nat) (μ : Mm) (t : Int32) (pr : Int32) (u : Int32) (ht : A_faultOfOrder μ 1 t pr u = 2) : XM l yX10_order (.code yX10_order cX10_order 4 (Option.some FieldType.int)) 7 110 G B [.ref (B + 0), .int t, .int pr, .int u] μ IAE := by
  refine XM.of (by decide) (Nat.le_of_ble_eq_true rfl) ?_
  intro p e s m below meth c ls K hD hx hr hlocks hP hl
  have hS : va_S (AA B) s.heap s.heap [] := va_S.rf
  have hl : lv_has ls 4 [(0, .ref (B + 0)), (1, .int t), (2, .int pr), (3, .int u)] := hl
  refine lv_aload_n K.1.1 K.1.2.1 dX10_order_0 rfl (lv_at hl 0 rfl) ?_
  refine m_getr K hP (by decide) sh_0 rfl tuX10 0 (by decide) rfl q_306 dX10_order_1 ?_
  refine lv_iload_n K.1.1 K.1.2.1 dX10_order_4 rfl (lv_at hl 1 rfl) ?_
  refine lv_iload_n K.1.1 K.1.2.1 dX10_order_5 rfl (lv_at hl 2 rfl) ?_
  refine lv_iload_n K.1.1 K.1.2.1 dX10_order_6 rfl (lv_at hl 3 rfl) ?_
  refine m_cV (n := 3) (As := [.int t, .int pr, .int u]) (rest := []) K hP hS (MX1_faultOfOrder l G B _ 1 isA_1 t pr u ) isA_1.1 isA_1.2.1 rfl q_750 q_730 q_731 q_16 q_732 hv_X1_faultOfOrder ⟨Nat.le_of_ble_eq_true rfl, Nat.le_of_ble_eq_true rfl⟩ rfl hl.1 rfl (Nat.le_of_ble_eq_true rfl) dX10_order_7 ⟨Nat.zero_le _, Nat.zero_le _⟩ (fun H locs hP hS => ?_)
  refine lv_topi (fun r_1 er_1 => ?_)
  have hz_t : r_1 = 2 := (by subst er_1; exact ht)
  subst hz_t
  exact x_cS (n := 1) (As := [.int 2]) (rest := []) K hP hS hD hx hlocks (X_refuse_IAE l hfl G B _) q_332 q_333 q_15 q_334 hv_X10_refuse ⟨Nat.le_of_ble_eq_true rfl, Nat.le_of_ble_eq_true rfl⟩ rfl hl.1 rfl (Nat.le_of_ble_eq_true rfl) dX10_order_10 ⟨Nat.le_of_ble_eq_true rfl, Nat.le_of_ble_eq_true rfl⟩

set_option maxHeartbeats 4000000 in
set_option maxRecDepth 100000 in
theorem XX10_order_10_3 (l : Launch) (hfl : l.stackTraces = false) (G : GG) (B : Nat) (μ : Mm) (t : Int32) (pr : Int32) (u : Int32) (ht : A_faultOfOrder μ 1 t pr u = 3) : XM l yX10_order (.code yX10_order cX10_order 4 (Option.some FieldType.int)) 7 110 G B [.ref (B + 0), .int t, .int pr, .int u] μ ISE := by
  refine XM.of (by decide) (Nat.le_of_ble_eq_true rfl) ?_
  intro p e s m below meth c ls K hD hx hr hlocks hP hl
  have hS : va_S (AA B) s.heap s.heap [] := va_S.rf
  have hl : lv_has ls 4 [(0, .ref (B + 0)), (1, .int t), (2, .int pr), (3, .int u)] := hl
  refine lv_aload_n K.1.1 K.1.2.1 dX10_order_0 rfl (lv_at hl 0 rfl) ?_
  refine m_getr K hP (by decide) sh_0 rfl tuX10 0 (by decide) rfl q_306 dX10_order_1 ?_
  refine lv_iload_n K.1.1 K.1.2.1 dX10_order_4 rfl (lv_at hl 1 rfl) ?_
  refine lv_iload_n K.1.1 K.1.2.1 dX10_order_5 rfl (lv_at hl 2 rfl) ?_
  refine lv_iload_n K.1.1 K.1.2.1 dX10_order_6 rfl (lv_at hl 3 rfl) ?_
  refine m_cV (n := 3) (As := [.int t, .int pr, .int u]) (rest := []) K hP hS (MX1_faultOfOrder l G B _ 1 isA_1 t pr u ) isA_1.1 isA_1.2.1 rfl q_750 q_730 q_731 q_16 q_732 hv_X1_faultOfOrder ⟨Nat.le_of_ble_eq_true rfl, Nat.le_of_ble_eq_true rfl⟩ rfl hl.1 rfl (Nat.le_of_ble_eq_true rfl) dX10_order_7 ⟨Nat.zero_le _, Nat.zero_le _⟩ (fun H locs hP hS => ?_)
  refine lv_topi (fun r_1 er_1 => ?_)
  have hz_t : r_1 = 3 := (by subst er_1; exact ht)
  subst hz_t
  exact x_cS (n := 1) (As := [.int 3]) (rest := []) K hP hS hD hx hlocks (X_refuse_ISE l hfl G B _) q_332 q_333 q_15 q_334 hv_X10_refuse ⟨Nat.le_of_ble_eq_true rfl, Nat.le_of_ble_eq_true rfl⟩ rfl hl.1 rfl (Nat.le_of_ble_eq_true rfl) dX10_order_10 ⟨Nat.le_of_ble_eq_true rfl, Nat.le_of_ble_eq_true rfl⟩

set_option maxHeartbeats 4000000 in
set_option maxRecDepth 100000 in
theorem XX10_cancel_11_1 (l : Launch) (hfl : l.stackTraces = false) (G : GG) (B : Nat) (μ : Mm) (n : Int32) (ht : O_faultOfNumber μ (1 + 16) n = 1) : XM l yX10_cancel (.code yX10_cancel cX10_cancel 2 (Option.some FieldType.int)) 7 110 G B [.ref (B + 0), .int n] μ IOE := by
  refine XM.of (by decide) (Nat.le_of_ble_eq_true rfl) ?_
  intro p e s m below meth c ls K hD hx hr hlocks hP hl
  have hS : va_S (AA B) s.heap s.heap [] := va_S.rf
  have hl : lv_has ls 2 [(0, .ref (B + 0)), (1, .int n)] := hl
  refine lv_aload_n K.1.1 K.1.2.1 dX10_cancel_0 rfl (lv_at hl 0 rfl) ?_
  refine m_getr K hP (by decide) sh_0 rfl tuX10 0 (by decide) rfl q_306 dX10_cancel_1 ?_
  refine m_getr K hP isA_1.1 isA_1.2.1 rfl tuX1 1 (by decide) rfl q_174 dX10_cancel_4 ?_
  refine lv_iload_n K.1.1 K.1.2.1 dX10_cancel_7 rfl (lv_at hl 1 rfl) ?_
  refine m_cV (n := 1) (As := [.int n]) (rest := []) K hP hS (MX4_faultOfNumber l G B _ (1 + 16) isA_1.2.2.2.1 n ) isA_1.2.2.2.1.1 isA_1.2.2.2.1.2.1 rfl q_610 q_611 q_612 q_19 q_613 hv_X4_faultOfNumber ⟨Nat.le_of_ble_eq_true rfl, Nat.le_of_ble_eq_true rfl⟩ rfl hl.1 rfl (Nat.le_of_ble_eq_true rfl) dX10_cancel_8 ⟨Nat.zero_le _, Nat.zero_le _⟩ (fun H locs hP hS => ?_)
  refine lv_topi (fun r_1 er_1 => ?_)
  have hz_t : r_1 = 1 := (by subst er_1; exact ht)
  subst hz_t
  exact x_cS (n := 1) (As := [.int 1]) (rest := []) K hP hS hD hx hlocks (X_refuse_IOE l hfl G B _) q_332 q_333 q_15 q_334 hv_X10_refuse ⟨Nat.le_of_ble_eq_true rfl, Nat.le_of_ble_eq_true rfl⟩ rfl hl.1 rfl (Nat.le_of_ble_eq_true rfl) dX10_cancel_11 ⟨Nat.le_of_ble_eq_true rfl, Nat.le_of_ble_eq_true rfl⟩

set_option maxHeartbeats 4000000 in
set_option maxRecDepth 100000 in
theorem XX10_clear_7_3 (l : Launch) (hfl : l.stackTraces = false) (G : GG) (B : Nat) (μ : Mm) (ht : A_faultOfRound μ 1 = 3) : XM l yX10_clear (.code yX10_clear cX10_clear 1 (Option.some FieldType.int)) 7 110 G B [.ref (B + 0)] μ ISE := by
  refine XM.of (by decide) (Nat.le_of_ble_eq_true rfl) ?_
  intro p e s m below meth c ls K hD hx hr hlocks hP hl
  have hS : va_S (AA B) s.heap s.heap [] := va_S.rf
  have hl : lv_has ls 1 [(0, .ref (B + 0))] := hl
  refine lv_aload_n K.1.1 K.1.2.1 dX10_clear_0 rfl (lv_at hl 0 rfl) ?_
  refine m_getr K hP (by decide) sh_0 rfl tuX10 0 (by decide) rfl q_306 dX10_clear_1 ?_
  refine m_cV (n := 0) (As := []) (rest := []) K hP hS (MX1_faultOfRound l G B _ 1 isA_1 ) isA_1.1 isA_1.2.1 rfl q_771 q_772 q_773 q_16 q_774 hv_X1_faultOfRound ⟨Nat.le_of_ble_eq_true rfl, Nat.le_of_ble_eq_true rfl⟩ rfl hl.1 rfl (Nat.le_of_ble_eq_true rfl) dX10_clear_4 ⟨Nat.zero_le _, Nat.zero_le _⟩ (fun H locs hP hS => ?_)
  refine lv_topi (fun r_1 er_1 => ?_)
  have hz_t : r_1 = 3 := (by subst er_1; exact ht)
  subst hz_t
  exact x_cS (n := 1) (As := [.int 3]) (rest := []) K hP hS hD hx hlocks (X_refuse_ISE l hfl G B _) q_332 q_333 q_15 q_334 hv_X10_refuse ⟨Nat.le_of_ble_eq_true rfl, Nat.le_of_ble_eq_true rfl⟩ rfl hl.1 rfl (Nat.le_of_ble_eq_true rfl) dX10_clear_7 ⟨Nat.le_of_ble_eq_true rfl, Nat.le_of_ble_eq_true rfl⟩

set_option maxHeartbeats 4000000 in
set_option maxRecDepth 100000 in
theorem XX10_trader_11_1 (l : Launch) (hfl : l.stackTraces = false) (G : GG) (B : Nat) (μ : Mm) (t : Int32) (w : Int32) (ht : T_faultOfNumber μ (1 + 1) t = 1) : XM l yX10_trader (.code yX10_trader cX10_trader 3 (Option.some FieldType.int)) 7 110 G B [.ref (B + 0), .int t, .int w] μ IOE := by
  refine XM.of (by decide) (Nat.le_of_ble_eq_true rfl) ?_
  intro p e s m below meth c ls K hD hx hr hlocks hP hl
  have hS : va_S (AA B) s.heap s.heap [] := va_S.rf
  have hl : lv_has ls 3 [(0, .ref (B + 0)), (1, .int t), (2, .int w)] := hl
  refine lv_aload_n K.1.1 K.1.2.1 dX10_trader_0 rfl (lv_at hl 0 rfl) ?_
  refine m_getr K hP (by decide) sh_0 rfl tuX10 0 (by decide) rfl q_306 dX10_trader_1 ?_
  refine m_getr K hP isA_1.1 isA_1.2.1 rfl tuX1 0 (by decide) rfl q_170 dX10_trader_4 ?_
  refine lv_iload_n K.1.1 K.1.2.1 dX10_trader_7 rfl (lv_at hl 1 rfl) ?_
  refine m_cV (n := 1) (As := [.int t]) (rest := []) K hP hS (MX6_faultOfNumber l G B _ (1 + 1) isA_1.2.2.1 t ) isA_1.2.2.1.1 isA_1.2.2.1.2.1 rfl q_593 q_594 q_595 q_17 q_596 hv_X6_faultOfNumber ⟨Nat.le_of_ble_eq_true rfl, Nat.le_of_ble_eq_true rfl⟩ rfl hl.1 rfl (Nat.le_of_ble_eq_true rfl) dX10_trader_8 ⟨Nat.zero_le _, Nat.zero_le _⟩ (fun H locs hP hS => ?_)
  refine lv_topi (fun r_1 er_1 => ?_)
  have hz_t : r_1 = 1 := (by subst er_1; exact ht)
  subst hz_t
  exact x_cS (n := 1) (As := [.int 1]) (rest := []) K hP hS hD hx hlocks (X_refuse_IOE l hfl G B _) q_332 q_333 q_15 q_334 hv_X10_refuse ⟨Nat.le_of_ble_eq_true rfl, Nat.le_of_ble_eq_true rfl⟩ rfl hl.1 rfl (Nat.le_of_ble_eq_true rfl) dX10_trader_11 ⟨Nat.le_of_ble_eq_true rfl, Nat.le_of_ble_eq_true rfl⟩

set_option maxHeartbeats 4000000 in
set_option maxRecDepth 100000 in
theorem XX10_trader_20_2 (l : Launch) (hfl : l.stackTraces = false) (G : GG) (B : Nat) (μ : Mm) (t : Int32) (w : Int32) (h1 : T_faultOfNumber μ (1 + 1) t = 0) (ht : X_what w 10 = 2) : XM l yX10_trader (.code yX10_trader cX10_trader 3 (Option.some FieldType.int)) 7 110 G B [.ref (B + 0), .int t, .int w] μ IAE := by
  refine XM.of (by decide) (Nat.le_of_ble_eq_true rfl) ?_
  intro p e s m below meth c ls K hD hx hr hlocks hP hl
  have hS : va_S (AA B) s.heap s.heap [] := va_S.rf
  have hl : lv_has ls 3 [(0, .ref (B + 0)), (1, .int t), (2, .int w)] := hl
  refine lv_aload_n K.1.1 K.1.2.1 dX10_trader_0 rfl (lv_at hl 0 rfl) ?_
  refine m_getr K hP (by decide) sh_0 rfl tuX10 0 (by decide) rfl q_306 dX10_trader_1 ?_
  refine m_getr K hP isA_1.1 isA_1.2.1 rfl tuX1 0 (by decide) rfl q_170 dX10_trader_4 ?_
  refine lv_iload_n K.1.1 K.1.2.1 dX10_trader_7 rfl (lv_at hl 1 rfl) ?_
  refine m_cV (n := 1) (As := [.int t]) (rest := []) K hP hS (MX6_faultOfNumber l G B _ (1 + 1) isA_1.2.2.1 t ) isA_1.2.2.1.1 isA_1.2.2.1.2.1 rfl q_593 q_594 q_595 q_17 q_596 hv_X6_faultOfNumber ⟨Nat.le_of_ble_eq_true rfl, Nat.le_of_ble_eq_true rfl⟩ rfl hl.1 rfl (Nat.le_of_ble_eq_true rfl) dX10_trader_8 ⟨Nat.zero_le _, Nat.zero_le _⟩ (fun H locs hP hS => ?_)
  refine lv_topi (fun r_1 er_1 => ?_)
  have hz_11 : r_1 = 0 := (by subst er_1; exact h1)
  subst hz_11
  refine m_cS (n := 1) (As := [.int 0]) (rest := []) K hP hS (MX10_refuse l G B _  ) q_332 q_333 q_15 q_334 hv_X10_refuse ⟨Nat.le_of_ble_eq_true rfl, Nat.le_of_ble_eq_true rfl⟩ rfl hl.1 rfl (Nat.le_of_ble_eq_true rfl) dX10_trader_11 ⟨Nat.zero_le _, Nat.zero_le _⟩ (fun H locs hP hS => ?_)
  refine W.eq (g2 := F0 m 14 ls []) rfl ?_
  refine lv_iload_n K.1.1 K.1.2.1 dX10_trader_14 rfl (lv_at hl 2 rfl) ?_
  refine lv_bipush (v := 10) K.1.1 K.1.2.1 dX10_trader_15 (by decide) ?_
  refine m_cS (n := 2) (As := [.int w, .int 10]) (rest := []) K hP hS (MX10_faultOfWhat l G B _ w 10 ) q_326 q_327 q_15 q_328 hv_X10_faultOfWhat ⟨Nat.le_of_ble_eq_true rfl, Nat.le_of_ble_eq_true rfl⟩ rfl hl.1 rfl (Nat.le_of_ble_eq_true rfl) dX10_trader_17 ⟨Nat.zero_le _, Nat.zero_le _⟩ (fun H locs hP hS => ?_)
  refine lv_topi (fun r_2 er_2 => ?_)
  have hz_t : r_2 = 2 := (by subst er_2; exact ht)
  subst hz_t
  exact x_cS (n := 1) (As := [.int 2]) (rest := []) K hP hS hD hx hlocks (X_refuse_IAE l hfl G B _) q_332 q_333 q_15 q_334 hv_X10_refuse ⟨Nat.le_of_ble_eq_true rfl, Nat.le_of_ble_eq_true rfl⟩ rfl hl.1 rfl (Nat.le_of_ble_eq_true rfl) dX10_trader_20 ⟨Nat.le_of_ble_eq_true rfl, Nat.le_of_ble_eq_true rfl⟩

set_option maxHeartbeats 4000000 in
set_option maxRecDepth 100000 in
theorem XX10_orderOf_11_1 (l : Launch) (hfl : l.stackTraces = false) (G : GG) (B : Nat) (μ : Mm) (n : Int32) (w : Int32) (ht : O_faultOfNumber μ (1 + 16) n = 1) : XM l yX10_orderOf (.code yX10_orderOf cX10_orderOf 3 (Option.some FieldType.int)) 7 110 G B [.ref (B + 0), .int n, .int w] μ IOE := by
  refine XM.of (by decide) (Nat.le_of_ble_eq_true rfl) ?_
  intro p e s m below meth c ls K hD hx hr hlocks hP hl
  have hS : va_S (AA B) s.heap s.heap [] := va_S.rf
  have hl : lv_has ls 3 [(0, .ref (B + 0)), (1, .int n), (2, .int w)] := hl
  refine lv_aload_n K.1.1 K.1.2.1 dX10_orderOf_0 rfl (lv_at hl 0 rfl) ?_
  refine m_getr K hP (by decide) sh_0 rfl tuX10 0 (by decide) rfl q_306 dX10_orderOf_1 ?_
  refine m_getr K hP isA_1.1 isA_1.2.1 rfl tuX1 1 (by decide) rfl q_174 dX10_orderOf_4 ?_
  refine lv_iload_n K.1.1 K.1.2.1 dX10_orderOf_7 rfl (lv_at hl 1 rfl) ?_
  refine m_cV (n := 1) (As := [.int n]) (rest := []) K hP hS (MX4_faultOfNumber l G B _ (1 + 16) isA_1.2.2.2.1 n ) isA_1.2.2.2.1.1 isA_1.2.2.2.1.2.1 rfl q_610 q_611 q_612 q_19 q_613 hv_X4_faultOfNumber ⟨Nat.le_of_ble_eq_true rfl, Nat.le_of_ble_eq_true rfl⟩ rfl hl.1 rfl (Nat.le_of_ble_eq_true rfl) dX10_orderOf_8 ⟨Nat.zero_le _, Nat.zero_le _⟩ (fun H locs hP hS => ?_)
  refine lv_topi (fun r_1 er_1 => ?_)
  have hz_t : r_1 = 1 := (by subst er_1; exact ht)
  subst hz_t
  exact x_cS (n := 1) (As := [.int 1]) (rest := []) K hP hS hD hx hlocks (X_refuse_IOE l hfl G B _) q_332 q_333 q_15 q_334 hv_X10_refuse ⟨Nat.le_of_ble_eq_true rfl, Nat.le_of_ble_eq_true rfl⟩ rfl hl.1 rfl (Nat.le_of_ble_eq_true rfl) dX10_orderOf_11 ⟨Nat.le_of_ble_eq_true rfl, Nat.le_of_ble_eq_true rfl⟩

set_option maxHeartbeats 4000000 in
set_option maxRecDepth 100000 in
theorem XX10_orderOf_19_2 (l : Launch) (hfl : l.stackTraces = false) (G : GG) (B : Nat) (μ : Mm) (n : Int32) (w : Int32) (h1 : O_faultOfNumber μ (1 + 16) n = 0) (ht : X_what w 5 = 2) : XM l yX10_orderOf (.code yX10_orderOf cX10_orderOf 3 (Option.some FieldType.int)) 7 110 G B [.ref (B + 0), .int n, .int w] μ IAE := by
  refine XM.of (by decide) (Nat.le_of_ble_eq_true rfl) ?_
  intro p e s m below meth c ls K hD hx hr hlocks hP hl
  have hS : va_S (AA B) s.heap s.heap [] := va_S.rf
  have hl : lv_has ls 3 [(0, .ref (B + 0)), (1, .int n), (2, .int w)] := hl
  refine lv_aload_n K.1.1 K.1.2.1 dX10_orderOf_0 rfl (lv_at hl 0 rfl) ?_
  refine m_getr K hP (by decide) sh_0 rfl tuX10 0 (by decide) rfl q_306 dX10_orderOf_1 ?_
  refine m_getr K hP isA_1.1 isA_1.2.1 rfl tuX1 1 (by decide) rfl q_174 dX10_orderOf_4 ?_
  refine lv_iload_n K.1.1 K.1.2.1 dX10_orderOf_7 rfl (lv_at hl 1 rfl) ?_
  refine m_cV (n := 1) (As := [.int n]) (rest := []) K hP hS (MX4_faultOfNumber l G B _ (1 + 16) isA_1.2.2.2.1 n ) isA_1.2.2.2.1.1 isA_1.2.2.2.1.2.1 rfl q_610 q_611 q_612 q_19 q_613 hv_X4_faultOfNumber ⟨Nat.le_of_ble_eq_true rfl, Nat.le_of_ble_eq_true rfl⟩ rfl hl.1 rfl (Nat.le_of_ble_eq_true rfl) dX10_orderOf_8 ⟨Nat.zero_le _, Nat.zero_le _⟩ (fun H locs hP hS => ?_)
  refine lv_topi (fun r_1 er_1 => ?_)
  have hz_11 : r_1 = 0 := (by subst er_1; exact h1)
  subst hz_11
  refine m_cS (n := 1) (As := [.int 0]) (rest := []) K hP hS (MX10_refuse l G B _  ) q_332 q_333 q_15 q_334 hv_X10_refuse ⟨Nat.le_of_ble_eq_true rfl, Nat.le_of_ble_eq_true rfl⟩ rfl hl.1 rfl (Nat.le_of_ble_eq_true rfl) dX10_orderOf_11 ⟨Nat.zero_le _, Nat.zero_le _⟩ (fun H locs hP hS => ?_)
  refine W.eq (g2 := F0 m 14 ls []) rfl ?_
  refine lv_iload_n K.1.1 K.1.2.1 dX10_orderOf_14 rfl (lv_at hl 2 rfl) ?_
  refine lv_iconst (v := 5) K.1.1 K.1.2.1 dX10_orderOf_15 (by decide) ?_
  refine m_cS (n := 2) (As := [.int w, .int 5]) (rest := []) K hP hS (MX10_faultOfWhat l G B _ w 5 ) q_326 q_327 q_15 q_328 hv_X10_faultOfWhat ⟨Nat.le_of_ble_eq_true rfl, Nat.le_of_ble_eq_true rfl⟩ rfl hl.1 rfl (Nat.le_of_ble_eq_true rfl) dX10_orderOf_16 ⟨Nat.zero_le _, Nat.zero_le _⟩ (fun H locs hP hS => ?_)
  refine lv_topi (fun r_2 er_2 => ?_)
  have hz_t : r_2 = 2 := (by subst er_2; exact ht)
  subst hz_t
  exact x_cS (n := 1) (As := [.int 2]) (rest := []) K hP hS hD hx hlocks (X_refuse_IAE l hfl G B _) q_332 q_333 q_15 q_334 hv_X10_refuse ⟨Nat.le_of_ble_eq_true rfl, Nat.le_of_ble_eq_true rfl⟩ rfl hl.1 rfl (Nat.le_of_ble_eq_true rfl) dX10_orderOf_19 ⟨Nat.le_of_ble_eq_true rfl, Nat.le_of_ble_eq_true rfl⟩

set_option maxHeartbeats 4000000 in
set_option maxRecDepth 100000 in
theorem XX10_trade_neg (l : Launch) (hfl : l.stackTraces = false) (G : GG) (B : Nat) (μ : Mm) (i : Int32) (w : Int32) (h1 : i < 0) : XM l yX10_trade (.code yX10_trade cX10_trade 3 (Option.some FieldType.int)) 7 110 G B [.ref (B + 0), .int i, .int w] μ IAE := by
  refine XM.of (by decide) (Nat.le_of_ble_eq_true rfl) ?_
  intro p e s m below meth c ls K hD hx hr hlocks hP hl
  have hS : va_S (AA B) s.heap s.heap [] := va_S.rf
  have hl : lv_has ls 3 [(0, .ref (B + 0)), (1, .int i), (2, .int w)] := hl
  refine lv_iload_n K.1.1 K.1.2.1 dX10_trade_0 rfl (lv_at hl 1 rfl) ?_
  refine lv_if_ge (tgt := 8) K.1.1 K.1.2.1 dX10_trade_1 (by decide) (fun c_1 => ?_) (fun c_1 => ?_)
  · exact absurd c_1 (Int32.not_le.mpr h1)
  · refine lv_iconst (v := 2) K.1.1 K.1.2.1 dX10_trade_4 (by decide) ?_
    refine lv_goto (tgt := 13) K.1.1 K.1.2.1 dX10_trade_5 (by decide) ?_
    exact x_cS (n := 1) (As := [.int 2]) (rest := []) K hP hS hD hx hlocks (X_refuse_IAE l hfl G B _) q_332 q_333 q_15 q_334 hv_X10_refuse ⟨Nat.le_of_ble_eq_true rfl, Nat.le_of_ble_eq_true rfl⟩ rfl hl.1 rfl (Nat.le_of_ble_eq_true rfl) dX10_trade_13 ⟨Nat.le_of_ble_eq_true rfl, Nat.le_of_ble_eq_true rfl⟩

set_option maxHeartbeats 4000000 in
set_option maxRecDepth 100000 in
theorem XX10_trade_13_2 (l : Launch) (hfl : l.stackTraces = false) (G : GG) (B : Nat) (μ : Mm) (i : Int32) (w : Int32) (h1 : ¬ i < 0) (ht : X_what w 5 = 2) : XM l yX10_trade (.code yX10_trade cX10_trade 3 (Option.some FieldType.int)) 7 110 G B [.ref (B + 0), .int i, .int w] μ IAE := by
  refine XM.of (by decide) (Nat.le_of_ble_eq_true rfl) ?_
  intro p e s m below meth c ls K hD hx hr hlocks hP hl
  have hS : va_S (AA B) s.heap s.heap [] := va_S.rf
  have hl : lv_has ls 3 [(0, .ref (B + 0)), (1, .int i), (2, .int w)] := hl
  refine lv_iload_n K.1.1 K.1.2.1 dX10_trade_0 rfl (lv_at hl 1 rfl) ?_
  refine lv_if_ge (tgt := 8) K.1.1 K.1.2.1 dX10_trade_1 (by decide) (fun c_1 => ?_) (fun c_1 => ?_)
  · refine lv_iload_n K.1.1 K.1.2.1 dX10_trade_8 rfl (lv_at hl 2 rfl) ?_
    refine lv_iconst (v := 5) K.1.1 K.1.2.1 dX10_trade_9 (by decide) ?_
    refine m_cS (n := 2) (As := [.int w, .int 5]) (rest := []) K hP hS (MX10_faultOfWhat l G B _ w 5 ) q_326 q_327 q_15 q_328 hv_X10_faultOfWhat ⟨Nat.le_of_ble_eq_true rfl, Nat.le_of_ble_eq_true rfl⟩ rfl hl.1 rfl (Nat.le_of_ble_eq_true rfl) dX10_trade_10 ⟨Nat.zero_le _, Nat.zero_le _⟩ (fun H locs hP hS => ?_)
    refine lv_topi (fun r_1 er_1 => ?_)
    have hz_t : r_1 = 2 := (by subst er_1; exact ht)
    subst hz_t
    exact x_cS (n := 1) (As := [.int 2]) (rest := []) K hP hS hD hx hlocks (X_refuse_IAE l hfl G B _) q_332 q_333 q_15 q_334 hv_X10_refuse ⟨Nat.le_of_ble_eq_true rfl, Nat.le_of_ble_eq_true rfl⟩ rfl hl.1 rfl (Nat.le_of_ble_eq_true rfl) dX10_trade_13 ⟨Nat.le_of_ble_eq_true rfl, Nat.le_of_ble_eq_true rfl⟩
  · exact absurd c_1 (not_not_intro (Int32.not_lt.mp h1))



set_option maxHeartbeats 4000000 in
set_option maxRecDepth 100000 in
theorem XX10_now_6_2 (l : Launch) (hfl : l.stackTraces = false) (G : GG) (B : Nat) (μ : Mm) (w : Int32) (ht : X_what w 7 = 2) : XM l yX10_now (.code yX10_now cX10_now 2 (Option.some FieldType.int)) 7 110 G B [.ref (B + 0), .int w] μ IAE := by
  refine XM.of (by decide) (Nat.le_of_ble_eq_true rfl) ?_
  intro p e s m below meth c ls K hD hx hr hlocks hP hl
  have hS : va_S (AA B) s.heap s.heap [] := va_S.rf
  have hl : lv_has ls 2 [(0, .ref (B + 0)), (1, .int w)] := hl
  refine lv_iload_n K.1.1 K.1.2.1 dX10_now_0 rfl (lv_at hl 1 rfl) ?_
  refine lv_bipush (v := 7) K.1.1 K.1.2.1 dX10_now_1 (by decide) ?_
  refine m_cS (n := 2) (As := [.int w, .int 7]) (rest := []) K hP hS (MX10_faultOfWhat l G B _ w 7 ) q_326 q_327 q_15 q_328 hv_X10_faultOfWhat ⟨Nat.le_of_ble_eq_true rfl, Nat.le_of_ble_eq_true rfl⟩ rfl hl.1 rfl (Nat.le_of_ble_eq_true rfl) dX10_now_3 ⟨Nat.zero_le _, Nat.zero_le _⟩ (fun H locs hP hS => ?_)
  refine lv_topi (fun r_1 er_1 => ?_)
  have hz_t : r_1 = 2 := (by subst er_1; exact ht)
  subst hz_t
  exact x_cS (n := 1) (As := [.int 2]) (rest := []) K hP hS hD hx hlocks (X_refuse_IAE l hfl G B _) q_332 q_333 q_15 q_334 hv_X10_refuse ⟨Nat.le_of_ble_eq_true rfl, Nat.le_of_ble_eq_true rfl⟩ rfl hl.1 rfl (Nat.le_of_ble_eq_true rfl) dX10_now_6 ⟨Nat.le_of_ble_eq_true rfl, Nat.le_of_ble_eq_true rfl⟩

set_option maxHeartbeats 4000000 in
set_option maxRecDepth 100000 in
theorem XX10_whole_6_2 (l : Launch) (hfl : l.stackTraces = false) (G : GG) (B : Nat) (μ : Mm) (w : Int32) (ht : X_what w 12 = 2) : XM l yX10_whole (.code yX10_whole cX10_whole 2 (Option.some FieldType.int)) 7 110 G B [.ref (B + 0), .int w] μ IAE := by
  refine XM.of (by decide) (Nat.le_of_ble_eq_true rfl) ?_
  intro p e s m below meth c ls K hD hx hr hlocks hP hl
  have hS : va_S (AA B) s.heap s.heap [] := va_S.rf
  have hl : lv_has ls 2 [(0, .ref (B + 0)), (1, .int w)] := hl
  refine lv_iload_n K.1.1 K.1.2.1 dX10_whole_0 rfl (lv_at hl 1 rfl) ?_
  refine lv_bipush (v := 12) K.1.1 K.1.2.1 dX10_whole_1 (by decide) ?_
  refine m_cS (n := 2) (As := [.int w, .int 12]) (rest := []) K hP hS (MX10_faultOfWhat l G B _ w 12 ) q_326 q_327 q_15 q_328 hv_X10_faultOfWhat ⟨Nat.le_of_ble_eq_true rfl, Nat.le_of_ble_eq_true rfl⟩ rfl hl.1 rfl (Nat.le_of_ble_eq_true rfl) dX10_whole_3 ⟨Nat.zero_le _, Nat.zero_le _⟩ (fun H locs hP hS => ?_)
  refine lv_topi (fun r_1 er_1 => ?_)
  have hz_t : r_1 = 2 := (by subst er_1; exact ht)
  subst hz_t
  exact x_cS (n := 1) (As := [.int 2]) (rest := []) K hP hS hD hx hlocks (X_refuse_IAE l hfl G B _) q_332 q_333 q_15 q_334 hv_X10_refuse ⟨Nat.le_of_ble_eq_true rfl, Nat.le_of_ble_eq_true rfl⟩ rfl hl.1 rfl (Nat.le_of_ble_eq_true rfl) dX10_whole_6 ⟨Nat.le_of_ble_eq_true rfl, Nat.le_of_ble_eq_true rfl⟩


set_option maxHeartbeats 4000000 in
set_option maxRecDepth 100000 in
theorem XX10_reason_11_1 (l : Launch) (hfl : l.stackTraces = false) (G : GG) (B : Nat) (μ : Mm) (n : Int32) (ht : O_faultOfNumber μ (1 + 16) n = 1) : XM l yX10_reason (.code yX10_reason cX10_reason 2 (Option.some FieldType.int)) 7 110 G B [.ref (B + 0), .int n] μ IOE := by
  refine XM.of (by decide) (Nat.le_of_ble_eq_true rfl) ?_
  intro p e s m below meth c ls K hD hx hr hlocks hP hl
  have hS : va_S (AA B) s.heap s.heap [] := va_S.rf
  have hl : lv_has ls 2 [(0, .ref (B + 0)), (1, .int n)] := hl
  refine lv_aload_n K.1.1 K.1.2.1 dX10_reason_0 rfl (lv_at hl 0 rfl) ?_
  refine m_getr K hP (by decide) sh_0 rfl tuX10 0 (by decide) rfl q_306 dX10_reason_1 ?_
  refine m_getr K hP isA_1.1 isA_1.2.1 rfl tuX1 1 (by decide) rfl q_174 dX10_reason_4 ?_
  refine lv_iload_n K.1.1 K.1.2.1 dX10_reason_7 rfl (lv_at hl 1 rfl) ?_
  refine m_cV (n := 1) (As := [.int n]) (rest := []) K hP hS (MX4_faultOfNumber l G B _ (1 + 16) isA_1.2.2.2.1 n ) isA_1.2.2.2.1.1 isA_1.2.2.2.1.2.1 rfl q_610 q_611 q_612 q_19 q_613 hv_X4_faultOfNumber ⟨Nat.le_of_ble_eq_true rfl, Nat.le_of_ble_eq_true rfl⟩ rfl hl.1 rfl (Nat.le_of_ble_eq_true rfl) dX10_reason_8 ⟨Nat.zero_le _, Nat.zero_le _⟩ (fun H locs hP hS => ?_)
  refine lv_topi (fun r_1 er_1 => ?_)
  have hz_t : r_1 = 1 := (by subst er_1; exact ht)
  subst hz_t
  exact x_cS (n := 1) (As := [.int 1]) (rest := []) K hP hS hD hx hlocks (X_refuse_IOE l hfl G B _) q_332 q_333 q_15 q_334 hv_X10_refuse ⟨Nat.le_of_ble_eq_true rfl, Nat.le_of_ble_eq_true rfl⟩ rfl hl.1 rfl (Nat.le_of_ble_eq_true rfl) dX10_reason_11 ⟨Nat.le_of_ble_eq_true rfl, Nat.le_of_ble_eq_true rfl⟩

set_option maxHeartbeats 4000000 in
set_option maxRecDepth 100000 in
theorem XX10_goneIn_11_1 (l : Launch) (hfl : l.stackTraces = false) (G : GG) (B : Nat) (μ : Mm) (n : Int32) (ht : O_faultOfNumber μ (1 + 16) n = 1) : XM l yX10_goneIn (.code yX10_goneIn cX10_goneIn 3 (Option.some FieldType.int)) 7 110 G B [.ref (B + 0), .int n] μ IOE := by
  refine XM.of (by decide) (Nat.le_of_ble_eq_true rfl) ?_
  intro p e s m below meth c ls K hD hx hr hlocks hP hl
  have hS : va_S (AA B) s.heap s.heap [] := va_S.rf
  have hl : lv_has ls 3 [(0, .ref (B + 0)), (1, .int n)] := hl
  refine lv_aload_n K.1.1 K.1.2.1 dX10_goneIn_0 rfl (lv_at hl 0 rfl) ?_
  refine m_getr K hP (by decide) sh_0 rfl tuX10 0 (by decide) rfl q_306 dX10_goneIn_1 ?_
  refine m_getr K hP isA_1.1 isA_1.2.1 rfl tuX1 1 (by decide) rfl q_174 dX10_goneIn_4 ?_
  refine lv_iload_n K.1.1 K.1.2.1 dX10_goneIn_7 rfl (lv_at hl 1 rfl) ?_
  refine m_cV (n := 1) (As := [.int n]) (rest := []) K hP hS (MX4_faultOfNumber l G B _ (1 + 16) isA_1.2.2.2.1 n ) isA_1.2.2.2.1.1 isA_1.2.2.2.1.2.1 rfl q_610 q_611 q_612 q_19 q_613 hv_X4_faultOfNumber ⟨Nat.le_of_ble_eq_true rfl, Nat.le_of_ble_eq_true rfl⟩ rfl hl.1 rfl (Nat.le_of_ble_eq_true rfl) dX10_goneIn_8 ⟨Nat.zero_le _, Nat.zero_le _⟩ (fun H locs hP hS => ?_)
  refine lv_topi (fun r_1 er_1 => ?_)
  have hz_t : r_1 = 1 := (by subst er_1; exact ht)
  subst hz_t
  exact x_cS (n := 1) (As := [.int 1]) (rest := []) K hP hS hD hx hlocks (X_refuse_IOE l hfl G B _) q_332 q_333 q_15 q_334 hv_X10_refuse ⟨Nat.le_of_ble_eq_true rfl, Nat.le_of_ble_eq_true rfl⟩ rfl hl.1 rfl (Nat.le_of_ble_eq_true rfl) dX10_goneIn_11 ⟨Nat.le_of_ble_eq_true rfl, Nat.le_of_ble_eq_true rfl⟩

set_option maxHeartbeats 4000000 in
set_option maxRecDepth 100000 in
theorem XX10_gainWith_11_1 (l : Launch) (hfl : l.stackTraces = false) (G : GG) (B : Nat) (μ : Mm) (t : Int32) (pr : Int32) (ht : T_faultOfNumber μ (1 + 1) t = 1) : XM l yX10_gainWith (.code yX10_gainWith cX10_gainWith 3 (Option.some FieldType.int)) 7 110 G B [.ref (B + 0), .int t, .int pr] μ IOE := by
  refine XM.of (by decide) (Nat.le_of_ble_eq_true rfl) ?_
  intro p e s m below meth c ls K hD hx hr hlocks hP hl
  have hS : va_S (AA B) s.heap s.heap [] := va_S.rf
  have hl : lv_has ls 3 [(0, .ref (B + 0)), (1, .int t), (2, .int pr)] := hl
  refine lv_aload_n K.1.1 K.1.2.1 dX10_gainWith_0 rfl (lv_at hl 0 rfl) ?_
  refine m_getr K hP (by decide) sh_0 rfl tuX10 0 (by decide) rfl q_306 dX10_gainWith_1 ?_
  refine m_getr K hP isA_1.1 isA_1.2.1 rfl tuX1 0 (by decide) rfl q_170 dX10_gainWith_4 ?_
  refine lv_iload_n K.1.1 K.1.2.1 dX10_gainWith_7 rfl (lv_at hl 1 rfl) ?_
  refine m_cV (n := 1) (As := [.int t]) (rest := []) K hP hS (MX6_faultOfNumber l G B _ (1 + 1) isA_1.2.2.1 t ) isA_1.2.2.1.1 isA_1.2.2.1.2.1 rfl q_593 q_594 q_595 q_17 q_596 hv_X6_faultOfNumber ⟨Nat.le_of_ble_eq_true rfl, Nat.le_of_ble_eq_true rfl⟩ rfl hl.1 rfl (Nat.le_of_ble_eq_true rfl) dX10_gainWith_8 ⟨Nat.zero_le _, Nat.zero_le _⟩ (fun H locs hP hS => ?_)
  refine lv_topi (fun r_1 er_1 => ?_)
  have hz_t : r_1 = 1 := (by subst er_1; exact ht)
  subst hz_t
  exact x_cS (n := 1) (As := [.int 1]) (rest := []) K hP hS hD hx hlocks (X_refuse_IOE l hfl G B _) q_332 q_333 q_15 q_334 hv_X10_refuse ⟨Nat.le_of_ble_eq_true rfl, Nat.le_of_ble_eq_true rfl⟩ rfl hl.1 rfl (Nat.le_of_ble_eq_true rfl) dX10_gainWith_11 ⟨Nat.le_of_ble_eq_true rfl, Nat.le_of_ble_eq_true rfl⟩

