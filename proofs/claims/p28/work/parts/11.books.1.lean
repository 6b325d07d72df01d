set_option maxHeartbeats 4000000 in
set_option maxRecDepth 100000 in
theorem MX10_mix (l : Launch) (G : GG) (B : Nat) (μ : Mm) (h : Int64) (v : Int64) : CM l yX10_mix (.code yX10_mix cX10_mix 4 (Option.some FieldType.long)) 0 0 G B [.long h, .long v] μ (some (.long (X_mix h v))) μ := by
  refine CM.of (by decide) (Nat.le_of_ble_eq_true rfl) ?_
  intro p e s m below meth c ls K hr hlocks hP hl
  have hS : va_S (AA B) s.heap s.heap [] := va_S.rf
  have hl : lv_has ls 4 [(0, .long h), (2, .long v)] := hl
  refine lv_ldc2 (own := RX10) (v := 31) K.1.1 K.1.2.1 K.1.2.2.2.1 (K.w q_451) dX10_mix_0 ?_
  refine lv_lload_n K.1.1 K.1.2.1 dX10_mix_3 rfl (lv_at hl 0 rfl) ?_
  refine lv_lmul K.1.1 K.1.2.1 dX10_mix_4 ?_
  refine lv_lload_n K.1.1 K.1.2.1 dX10_mix_5 rfl (lv_at hl 1 rfl) ?_
  refine lv_ladd K.1.1 K.1.2.1 dX10_mix_6 ?_
  exact m_lret K hr hlocks hP hS dX10_mix_7 (by rfl) rfl

set_option maxHeartbeats 4000000 in
set_option maxRecDepth 100000 in
theorem MX10_faultOfWhat (l : Launch) (G : GG) (B : Nat) (μ : Mm) (w : Int32) (k : Int32) : CM l yX10_faultOfWhat (.code yX10_faultOfWhat cX10_faultOfWhat 2 (Option.some FieldType.int)) 1 22 G B [.int w, .int k] μ (some (.int (X_what w k))) μ := by
  refine CM.of (by decide) (Nat.le_of_ble_eq_true rfl) ?_
  intro p e s m below meth c ls K hr hlocks hP hl
  have hS : va_S (AA B) s.heap s.heap [] := va_S.rf
  have hl : lv_has ls 2 [(0, .int w), (1, .int k)] := hl
  refine lv_iload_n K.1.1 K.1.2.1 dX10_faultOfWhat_0 rfl (lv_at hl 0 rfl) ?_
  refine lv_iconst (v := 0) K.1.1 K.1.2.1 dX10_faultOfWhat_1 (by decide) ?_
  refine lv_iload_n K.1.1 K.1.2.1 dX10_faultOfWhat_2 rfl (lv_at hl 1 rfl) ?_
  refine lv_iconst (v := 1) K.1.1 K.1.2.1 dX10_faultOfWhat_3 (by decide) ?_
  refine lv_isub K.1.1 K.1.2.1 dX10_faultOfWhat_4 ?_
  refine m_cS (n := 3) (As := [.int w, .int 0, .int (k - 1)]) (rest := []) K hP hS (MX10_isWithin l G B _ w 0 (k - 1) ) q_329 q_330 q_15 q_331 hv_X10_isWithin ⟨Nat.le_of_ble_eq_true rfl, Nat.le_of_ble_eq_true rfl⟩ rfl hl.1 rfl (Nat.le_of_ble_eq_true rfl) dX10_faultOfWhat_5 ⟨Nat.zero_le _, Nat.zero_le _⟩ (fun H locs hP hS => ?_)
  refine lv_topi (fun r_1 er_1 => ?_)
  refine lv_if_eq (tgt := 15) K.1.1 K.1.2.1 dX10_faultOfWhat_8 (by decide) (fun c_8 => ?_) (fun c_8 => ?_)
  · refine lv_iconst (v := 2) K.1.1 K.1.2.1 dX10_faultOfWhat_15 (by decide) ?_
    exact m_iret K hr hlocks hP hS dX10_faultOfWhat_16 (by subst er_1; first | (simp only [X_what, c_8, if_true, if_false, ite_true, ite_false, reduceIte, not_true, not_false_iff]; done) | simp [X_what, c_8]) rfl
  · refine lv_iconst (v := 0) K.1.1 K.1.2.1 dX10_faultOfWhat_11 (by decide) ?_
    refine lv_goto (tgt := 16) K.1.1 K.1.2.1 dX10_faultOfWhat_12 (by decide) ?_
    exact m_iret K hr hlocks hP hS dX10_faultOfWhat_16 (by subst er_1; first | (simp only [X_what, c_8, if_true, if_false, ite_true, ite_false, reduceIte, not_true, not_false_iff]; done) | simp [X_what, c_8]) rfl

set_option maxHeartbeats 4000000 in
set_option maxRecDepth 100000 in
theorem MX10_faultOfPrice (l : Launch) (G : GG) (B : Nat) (μ : Mm) (pr : Int32) : CM l yX10_faultOfPrice (.code yX10_faultOfPrice cX10_faultOfPrice 1 (Option.some FieldType.int)) 1 22 G B [.int pr] μ (some (.int (X_price pr))) μ := by
  refine CM.of (by decide) (Nat.le_of_ble_eq_true rfl) ?_
  intro p e s m below meth c ls K hr hlocks hP hl
  have hS : va_S (AA B) s.heap s.heap [] := va_S.rf
  have hl : lv_has ls 1 [(0, .int pr)] := hl
  refine lv_iload_n K.1.1 K.1.2.1 dX10_faultOfPrice_0 rfl (lv_at hl 0 rfl) ?_
  refine lv_iconst (v := 1) K.1.1 K.1.2.1 dX10_faultOfPrice_1 (by decide) ?_
  refine lv_bipush (v := 120) K.1.1 K.1.2.1 dX10_faultOfPrice_2 (by decide) ?_
  refine m_cS (n := 3) (As := [.int pr, .int 1, .int 120]) (rest := []) K hP hS (MX10_isWithin l G B _ pr 1 120 ) q_329 q_330 q_15 q_331 hv_X10_isWithin ⟨Nat.le_of_ble_eq_true rfl, Nat.le_of_ble_eq_true rfl⟩ rfl hl.1 rfl (Nat.le_of_ble_eq_true rfl) dX10_faultOfPrice_4 ⟨Nat.zero_le _, Nat.zero_le _⟩ (fun H locs hP hS => ?_)
  refine lv_topi (fun r_1 er_1 => ?_)
  refine lv_if_eq (tgt := 14) K.1.1 K.1.2.1 dX10_faultOfPrice_7 (by decide) (fun c_7 => ?_) (fun c_7 => ?_)
  · refine lv_iconst (v := 2) K.1.1 K.1.2.1 dX10_faultOfPrice_14 (by decide) ?_
    exact m_iret K hr hlocks hP hS dX10_faultOfPrice_15 (by subst er_1; first | (simp only [X_price, c_7, if_true, if_false, ite_true, ite_false, reduceIte, not_true, not_false_iff]; done) | simp [X_price, c_7]) rfl
  · refine lv_iconst (v := 0) K.1.1 K.1.2.1 dX10_faultOfPrice_10 (by decide) ?_
    refine lv_goto (tgt := 15) K.1.1 K.1.2.1 dX10_faultOfPrice_11 (by decide) ?_
    exact m_iret K hr hlocks hP hS dX10_faultOfPrice_15 (by subst er_1; first | (simp only [X_price, c_7, if_true, if_false, ite_true, ite_false, reduceIte, not_true, not_false_iff]; done) | simp [X_price, c_7]) rfl

set_option maxHeartbeats 4000000 in
set_option maxRecDepth 100000 in
theorem MX10_refuse (l : Launch) (G : GG) (B : Nat) (μ : Mm) : CM l yX10_refuse (.code yX10_refuse cX10_refuse 1 Option.none) 0 0 G B [.int 0] μ none μ := by
  refine CM.of (by decide) (Nat.le_of_ble_eq_true rfl) ?_
  intro p e s m below meth c ls K hr hlocks hP hl
  have hS : va_S (AA B) s.heap s.heap [] := va_S.rf
  have hl : lv_has ls 1 [(0, .int 0)] := hl
  refine lv_iload_n K.1.1 K.1.2.1 dX10_refuse_0 rfl (lv_at hl 0 rfl) ?_
  refine lv_tableOut (tgt := 59) K.1.1 K.1.2.1 dX10_refuse_1 (Or.inl (by decide)) (by decide) ?_
  exact m_vret K hr hlocks hP hS dX10_refuse_59 rfl rfl

set_option maxHeartbeats 4000000 in
set_option maxRecDepth 100000 in
theorem MX10_wholeValue (l : Launch) (G : GG) (B : Nat) (μ : Mm) (w : Int32) : CM l yX10_wholeValue (.code yX10_wholeValue cX10_wholeValue 2 (Option.some FieldType.int)) 1 21 G B [.ref (B + 0), .int w] μ (some (.int (X_whole μ w))) μ := by
  refine CM.of (by decide) (Nat.le_of_ble_eq_true rfl) ?_
  intro p e s m below meth c ls K hr hlocks hP hl
  have hS : va_S (AA B) s.heap s.heap [] := va_S.rf
  have hl : lv_has ls 2 [(0, .ref (B + 0)), (1, .int w)] := hl
  refine lv_iload_n K.1.1 K.1.2.1 dX10_wholeValue_0 rfl (lv_at hl 1 rfl) ?_
  refine lv_bipush (v := 11) K.1.1 K.1.2.1 dX10_wholeValue_1 (by decide) ?_
  refine lv_icmp_ne (tgt := 16) K.1.1 K.1.2.1 dX10_wholeValue_3 (by decide) (fun c_3 => ?_) (fun c_3 => ?_)
  · refine lv_aload_n K.1.1 K.1.2.1 dX10_wholeValue_16 rfl (lv_at hl 0 rfl) ?_
    refine m_getr K hP (by decide) sh_0 rfl tuX10 0 (by decide) rfl q_306 dX10_wholeValue_17 ?_
    refine lv_iload_n K.1.1 K.1.2.1 dX10_wholeValue_20 rfl (lv_at hl 1 rfl) ?_
    refine m_cV (n := 1) (As := [.int w]) (rest := []) K hP hS (MX1_wholeValue l G B _ 1 isA_1 w ) isA_1.1 isA_1.2.1 rfl q_439 q_440 q_441 q_16 q_442 hv_X1_wholeValue ⟨Nat.le_of_ble_eq_true rfl, Nat.le_of_ble_eq_true rfl⟩ rfl hl.1 rfl (Nat.le_of_ble_eq_true rfl) dX10_wholeValue_21 ⟨Nat.zero_le _, Nat.zero_le _⟩ (fun H locs hP hS => ?_)
    refine lv_topi (fun r_1 er_1 => ?_)
    exact m_iret K hr hlocks hP hS dX10_wholeValue_24 (by subst er_1; first | (simp only [X_whole, c_3, if_true, if_false, ite_true, ite_false, reduceIte, not_true, not_false_iff]; done) | simp [X_whole, c_3]) rfl
  · refine lv_aload_n K.1.1 K.1.2.1 dX10_wholeValue_6 rfl (lv_at hl 0 rfl) ?_
    refine m_getr K hP (by decide) sh_0 rfl tuX10 4 (by decide) rfl q_310 dX10_wholeValue_7 ?_
    refine m_geti K hP (by decide) sh_254 rfl tuX3 0 (by decide) rfl q_289 dX10_wholeValue_10 ?_
    refine lv_topi (fun g_2 eg_2 => ?_)
    refine lv_goto (tgt := 24) K.1.1 K.1.2.1 dX10_wholeValue_13 (by decide) ?_
    exact m_iret K hr hlocks hP hS dX10_wholeValue_24 (by subst eg_2; first | (simp only [X_whole, c_3, if_true, if_false, ite_true, ite_false, reduceIte, not_true, not_false_iff]; done) | simp [X_whole, c_3]) rfl

set_option maxHeartbeats 4000000 in
set_option maxRecDepth 100000 in
theorem MX10_addTrader (l : Launch) (G : GG) (B : Nat) (μ : Mm) (sd : Int32) (v : Int32) (h1 : A_faultOfJoin μ 1 sd v = 0) : CM l yX10_addTrader (.code yX10_addTrader cX10_addTrader 3 (Option.some FieldType.int)) 5 107 G B [.ref (B + 0), .int sd, .int v] μ (some (.int ((U_push μ 1) (1 + 1) 0))) (T_join (U_push μ 1) (1 + 1) sd v) := by
  refine CM.of (by decide) (Nat.le_of_ble_eq_true rfl) ?_
  intro p e s m below meth c ls K hr hlocks hP hl
  have hS : va_S (AA B) s.heap s.heap [] := va_S.rf
  have hl : lv_has ls 3 [(0, .ref (B + 0)), (1, .int sd), (2, .int v)] := hl
  refine lv_aload_n K.1.1 K.1.2.1 dX10_addTrader_0 rfl (lv_at hl 0 rfl) ?_
  refine m_getr K hP (by decide) sh_0 rfl tuX10 0 (by decide) rfl q_306 dX10_addTrader_1 ?_
  refine lv_iload_n K.1.1 K.1.2.1 dX10_addTrader_4 rfl (lv_at hl 1 rfl) ?_
  refine lv_iload_n K.1.1 K.1.2.1 dX10_addTrader_5 rfl (lv_at hl 2 rfl) ?_
  refine m_cV (n := 2) (As := [.int sd, .int v]) (rest := []) K hP hS (MX1_faultOfJoin l G B _ 1 isA_1 sd v ) isA_1.1 isA_1.2.1 rfl q_641 q_642 q_643 q_16 q_644 hv_X1_faultOfJoin ⟨Nat.le_of_ble_eq_true rfl, Nat.le_of_ble_eq_true rfl⟩ rfl hl.1 rfl (Nat.le_of_ble_eq_true rfl) dX10_addTrader_6 ⟨Nat.zero_le _, Nat.zero_le _⟩ (fun H locs hP hS => ?_)
  refine lv_topi (fun r_1 er_1 => ?_)
  have hz_9 : r_1 = 0 := (by subst er_1; exact h1)
  subst hz_9
  refine m_cS (n := 1) (As := [.int 0]) (rest := []) K hP hS (MX10_refuse l G B _  ) q_332 q_333 q_15 q_334 hv_X10_refuse ⟨Nat.le_of_ble_eq_true rfl, Nat.le_of_ble_eq_true rfl⟩ rfl hl.1 rfl (Nat.le_of_ble_eq_true rfl) dX10_addTrader_9 ⟨Nat.zero_le _, Nat.zero_le _⟩ (fun H locs hP hS => ?_)
  refine W.eq (g2 := F0 m 12 ls []) rfl ?_
  refine lv_aload_n K.1.1 K.1.2.1 dX10_addTrader_12 rfl (lv_at hl 0 rfl) ?_
  refine m_getr K hP (by decide) sh_0 rfl tuX10 3 (by decide) rfl q_309 dX10_addTrader_13 ?_
  refine lv_aload_n K.1.1 K.1.2.1 dX10_addTrader_16 rfl (lv_at hl 0 rfl) ?_
  refine m_getr K hP (by decide) sh_0 rfl tuX10 0 (by decide) rfl q_306 dX10_addTrader_17 ?_
  refine m_cV (n := 1) (As := [.ref (B + 1)]) (rest := []) K hP hS (MX8_push l G B _ 1 isA_1 ) (by decide) sh_92 rfl q_646 q_647 q_648 q_22 q_649 hv_X8_push ⟨Nat.le_of_ble_eq_true rfl, Nat.le_of_ble_eq_true rfl⟩ rfl hl.1 rfl (Nat.le_of_ble_eq_true rfl) dX10_addTrader_20 ⟨Nat.zero_le _, Nat.zero_le _⟩ (fun H locs hP hS => ?_)
  refine W.eq (g2 := F0 m 23 ls []) rfl ?_
  refine lv_aload_n K.1.1 K.1.2.1 dX10_addTrader_23 rfl (lv_at hl 0 rfl) ?_
  refine m_getr K hP (by decide) sh_0 rfl tuX10 0 (by decide) rfl q_306 dX10_addTrader_24 ?_
  refine m_getr K hP isA_1.1 isA_1.2.1 rfl tuX1 0 (by decide) rfl q_170 dX10_addTrader_27 ?_
  refine lv_iload_n K.1.1 K.1.2.1 dX10_addTrader_30 rfl (lv_at hl 1 rfl) ?_
  refine lv_iload_n K.1.1 K.1.2.1 dX10_addTrader_31 rfl (lv_at hl 2 rfl) ?_
  refine m_cV (n := 2) (As := [.int sd, .int v]) (rest := []) K hP hS (MX6_join l G B _ (1 + 1) isA_1.2.2.1 sd v ) isA_1.2.2.1.1 isA_1.2.2.1.2.1 rfl q_680 q_681 q_682 q_17 q_683 hv_X6_join ⟨Nat.le_of_ble_eq_true rfl, Nat.le_of_ble_eq_true rfl⟩ rfl hl.1 rfl (Nat.le_of_ble_eq_true rfl) dX10_addTrader_32 ⟨Nat.zero_le _, Nat.zero_le _⟩ (fun H locs hP hS => ?_)
  refine lv_topi (fun r_2 er_2 => ?_)
  exact m_iret K hr hlocks hP hS dX10_addTrader_35 (by subst er_2; rfl) (by subst er_2; rfl)

set_option maxHeartbeats 4000000 in
set_option maxRecDepth 100000 in
theorem MX10_setValue (l : Launch) (G : GG) (B : Nat) (μ : Mm) (t : Int32) (v : Int32) (h1 : A_faultOfValue μ 1 t v = 0) : CM l yX10_setValue (.code yX10_setValue cX10_setValue 4 (Option.some FieldType.int)) 5 107 G B [.ref (B + 0), .int t, .int v] μ (some (.int (R_get (U_push μ 1) (1 + 1 + 3) 8 t))) (R_put (U_push μ 1) (1 + 1 + 3) 8 t v) := by
  refine CM.of (by decide) (Nat.le_of_ble_eq_true rfl) ?_
  intro p e s m below meth c ls K hr hlocks hP hl
  have hS : va_S (AA B) s.heap s.heap [] := va_S.rf
  have hl : lv_has ls 4 [(0, .ref (B + 0)), (1, .int t), (2, .int v)] := hl
  refine lv_aload_n K.1.1 K.1.2.1 dX10_setValue_0 rfl (lv_at hl 0 rfl) ?_
  refine m_getr K hP (by decide) sh_0 rfl tuX10 0 (by decide) rfl q_306 dX10_setValue_1 ?_
  refine lv_iload_n K.1.1 K.1.2.1 dX10_setValue_4 rfl (lv_at hl 1 rfl) ?_
  refine lv_iload_n K.1.1 K.1.2.1 dX10_setValue_5 rfl (lv_at hl 2 rfl) ?_
  refine m_cV (n := 2) (As := [.int t, .int v]) (rest := []) K hP hS (MX1_faultOfValue l G B _ 1 isA_1 t v ) isA_1.1 isA_1.2.1 rfl q_693 q_694 q_695 q_16 q_696 hv_X1_faultOfValue ⟨Nat.le_of_ble_eq_true rfl, Nat.le_of_ble_eq_true rfl⟩ rfl hl.1 rfl (Nat.le_of_ble_eq_true rfl) dX10_setValue_6 ⟨Nat.zero_le _, Nat.zero_le _⟩ (fun H locs hP hS => ?_)
  refine lv_topi (fun r_1 er_1 => ?_)
  have hz_9 : r_1 = 0 := (by subst er_1; exact h1)
  subst hz_9
  refine m_cS (n := 1) (As := [.int 0]) (rest := []) K hP hS (MX10_refuse l G B _  ) q_332 q_333 q_15 q_334 hv_X10_refuse ⟨Nat.le_of_ble_eq_true rfl, Nat.le_of_ble_eq_true rfl⟩ rfl hl.1 rfl (Nat.le_of_ble_eq_true rfl) dX10_setValue_9 ⟨Nat.zero_le _, Nat.zero_le _⟩ (fun H locs hP hS => ?_)
  refine W.eq (g2 := F0 m 12 ls []) rfl ?_
  refine lv_aload_n K.1.1 K.1.2.1 dX10_setValue_12 rfl (lv_at hl 0 rfl) ?_
  refine m_getr K hP (by decide) sh_0 rfl tuX10 3 (by decide) rfl q_309 dX10_setValue_13 ?_
  refine lv_aload_n K.1.1 K.1.2.1 dX10_setValue_16 rfl (lv_at hl 0 rfl) ?_
  refine m_getr K hP (by decide) sh_0 rfl tuX10 0 (by decide) rfl q_306 dX10_setValue_17 ?_
  refine m_cV (n := 1) (As := [.ref (B + 1)]) (rest := []) K hP hS (MX8_push l G B _ 1 isA_1 ) (by decide) sh_92 rfl q_646 q_647 q_648 q_22 q_649 hv_X8_push ⟨Nat.le_of_ble_eq_true rfl, Nat.le_of_ble_eq_true rfl⟩ rfl hl.1 rfl (Nat.le_of_ble_eq_true rfl) dX10_setValue_20 ⟨Nat.zero_le _, Nat.zero_le _⟩ (fun H locs hP hS => ?_)
  refine W.eq (g2 := F0 m 23 ls []) rfl ?_
  refine lv_aload_n K.1.1 K.1.2.1 dX10_setValue_23 rfl (lv_at hl 0 rfl) ?_
  refine m_getr K hP (by decide) sh_0 rfl tuX10 0 (by decide) rfl q_306 dX10_setValue_24 ?_
  refine m_getr K hP isA_1.1 isA_1.2.1 rfl tuX1 0 (by decide) rfl q_170 dX10_setValue_27 ?_
  refine m_getr K hP isA_1.2.2.1.1 isA_1.2.2.1.2.1 rfl tuX6 2 (by decide) rfl q_68 dX10_setValue_30 ?_
  refine lv_iload_n K.1.1 K.1.2.1 dX10_setValue_33 rfl (lv_at hl 1 rfl) ?_
  refine m_cV (n := 1) (As := [.int t]) (rest := []) K hP hS (MX5_get l G B _ (1 + 1 + 3) 8 isA_1.2.2.1.2.2.2.1 t ) (Nat.lt_of_succ_lt isA_1.2.2.1.2.2.2.1.1) isA_1.2.2.1.2.2.2.1.2.1 rfl q_557 q_460 q_461 q_18 q_462 hv_X5_get ⟨Nat.le_of_ble_eq_true rfl, Nat.le_of_ble_eq_true rfl⟩ rfl hl.1 rfl (Nat.le_of_ble_eq_true rfl) dX10_setValue_34 ⟨Nat.zero_le _, Nat.zero_le _⟩ (fun H locs hP hS => ?_)
  refine lv_topi (fun r_2 er_2 => ?_)
  refine lv_istore_n (lv' := [(3, .int r_2), (0, .ref (B + 0)), (1, .int t), (2, .int v)]) K.1.1 K.1.2.1 dX10_setValue_37 rfl hl (by decide) rfl (fun ls hl => ?_)
  refine lv_aload_n K.1.1 K.1.2.1 dX10_setValue_38 rfl (lv_at hl 1 rfl) ?_
  refine m_getr K hP (by decide) sh_0 rfl tuX10 0 (by decide) rfl q_306 dX10_setValue_39 ?_
  refine m_getr K hP isA_1.1 isA_1.2.1 rfl tuX1 0 (by decide) rfl q_170 dX10_setValue_42 ?_
  refine m_getr K hP isA_1.2.2.1.1 isA_1.2.2.1.2.1 rfl tuX6 2 (by decide) rfl q_68 dX10_setValue_45 ?_
  refine lv_iload_n K.1.1 K.1.2.1 dX10_setValue_48 rfl (lv_at hl 2 rfl) ?_
  refine lv_iload_n K.1.1 K.1.2.1 dX10_setValue_49 rfl (lv_at hl 3 rfl) ?_
  refine m_cV (n := 2) (As := [.int t, .int v]) (rest := []) K hP hS (MX5_put l G B _ (1 + 1 + 3) 8 isA_1.2.2.1.2.2.2.1 t v ) (Nat.lt_of_succ_lt isA_1.2.2.1.2.2.2.1.1) isA_1.2.2.1.2.2.2.1.2.1 rfl q_698 q_469 q_470 q_18 q_471 hv_X5_put ⟨Nat.le_of_ble_eq_true rfl, Nat.le_of_ble_eq_true rfl⟩ rfl hl.1 rfl (Nat.le_of_ble_eq_true rfl) dX10_setValue_50 ⟨Nat.zero_le _, Nat.zero_le _⟩ (fun H locs hP hS => ?_)
  refine W.eq (g2 := F0 m 53 ls []) rfl ?_
  refine lv_iload_n K.1.1 K.1.2.1 dX10_setValue_53 rfl (lv_at hl 0 rfl) ?_
  exact m_iret K hr hlocks hP hS dX10_setValue_54 (by subst er_2; rfl) (by subst er_2; rfl)

set_option maxHeartbeats 4000000 in
set_option maxRecDepth 100000 in
theorem MX10_setShade (l : Launch) (G : GG) (B : Nat) (μ : Mm) (t : Int32) (k : Int32) (a : Int32) (h1 : A_faultOfShade μ 1 t k a = 0) : CM l yX10_setShade (.code yX10_setShade cX10_setShade 4 (Option.some FieldType.int)) 5 107 G B [.ref (B + 0), .int t, .int k, .int a] μ (some (.int (T_bidOf (T_shadeBy (U_push μ 1) (1 + 1) t k a) (1 + 1) t))) (T_shadeBy (U_push μ 1) (1 + 1) t k a) := by
  refine CM.of (by decide) (Nat.le_of_ble_eq_true rfl) ?_
  intro p e s m below meth c ls K hr hlocks hP hl
  have hS : va_S (AA B) s.heap s.heap [] := va_S.rf
  have hl : lv_has ls 4 [(0, .ref (B + 0)), (1, .int t), (2, .int k), (3, .int a)] := hl
  refine lv_aload_n K.1.1 K.1.2.1 dX10_setShade_0 rfl (lv_at hl 0 rfl) ?_
  refine m_getr K hP (by decide) sh_0 rfl tuX10 0 (by decide) rfl q_306 dX10_setShade_1 ?_
  refine lv_iload_n K.1.1 K.1.2.1 dX10_setShade_4 rfl (lv_at hl 1 rfl) ?_
  refine lv_iload_n K.1.1 K.1.2.1 dX10_setShade_5 rfl (lv_at hl 2 rfl) ?_
  refine lv_iload_n K.1.1 K.1.2.1 dX10_setShade_6 rfl (lv_at hl 3 rfl) ?_
  refine m_cV (n := 3) (As := [.int t, .int k, .int a]) (rest := []) K hP hS (MX1_faultOfShade l G B _ 1 isA_1 t k a ) isA_1.1 isA_1.2.1 rfl q_703 q_704 q_705 q_16 q_706 hv_X1_faultOfShade ⟨Nat.le_of_ble_eq_true rfl, Nat.le_of_ble_eq_true rfl⟩ rfl hl.1 rfl (Nat.le_of_ble_eq_true rfl) dX10_setShade_7 ⟨Nat.zero_le _, Nat.zero_le _⟩ (fun H locs hP hS => ?_)
  refine lv_topi (fun r_1 er_1 => ?_)
  have hz_10 : r_1 = 0 := (by subst er_1; exact h1)
  subst hz_10
  refine m_cS (n := 1) (As := [.int 0]) (rest := []) K hP hS (MX10_refuse l G B _  ) q_332 q_333 q_15 q_334 hv_X10_refuse ⟨Nat.le_of_ble_eq_true rfl, Nat.le_of_ble_eq_true rfl⟩ rfl hl.1 rfl (Nat.le_of_ble_eq_true rfl) dX10_setShade_10 ⟨Nat.zero_le _, Nat.zero_le _⟩ (fun H locs hP hS => ?_)
  refine W.eq (g2 := F0 m 13 ls []) rfl ?_
  refine lv_aload_n K.1.1 K.1.2.1 dX10_setShade_13 rfl (lv_at hl 0 rfl) ?_
  refine m_getr K hP (by decide) sh_0 rfl tuX10 3 (by decide) rfl q_309 dX10_setShade_14 ?_
  refine lv_aload_n K.1.1 K.1.2.1 dX10_setShade_17 rfl (lv_at hl 0 rfl) ?_
  refine m_getr K hP (by decide) sh_0 rfl tuX10 0 (by decide) rfl q_306 dX10_setShade_18 ?_
  refine m_cV (n := 1) (As := [.ref (B + 1)]) (rest := []) K hP hS (MX8_push l G B _ 1 isA_1 ) (by decide) sh_92 rfl q_646 q_647 q_648 q_22 q_649 hv_X8_push ⟨Nat.le_of_ble_eq_true rfl, Nat.le_of_ble_eq_true rfl⟩ rfl hl.1 rfl (Nat.le_of_ble_eq_true rfl) dX10_setShade_21 ⟨Nat.zero_le _, Nat.zero_le _⟩ (fun H locs hP hS => ?_)
  refine W.eq (g2 := F0 m 24 ls []) rfl ?_
  refine lv_aload_n K.1.1 K.1.2.1 dX10_setShade_24 rfl (lv_at hl 0 rfl) ?_
  refine m_getr K hP (by decide) sh_0 rfl tuX10 0 (by decide) rfl q_306 dX10_setShade_25 ?_
  refine m_getr K hP isA_1.1 isA_1.2.1 rfl tuX1 0 (by decide) rfl q_170 dX10_setShade_28 ?_
  refine lv_iload_n K.1.1 K.1.2.1 dX10_setShade_31 rfl (lv_at hl 1 rfl) ?_
  refine lv_iload_n K.1.1 K.1.2.1 dX10_setShade_32 rfl (lv_at hl 2 rfl) ?_
  refine lv_iload_n K.1.1 K.1.2.1 dX10_setShade_33 rfl (lv_at hl 3 rfl) ?_
  refine m_cV (n := 3) (As := [.int t, .int k, .int a]) (rest := []) K hP hS (MX6_shadeBy l G B _ (1 + 1) isA_1.2.2.1 t k a ) isA_1.2.2.1.1 isA_1.2.2.1.2.1 rfl q_707 q_686 q_687 q_17 q_688 hv_X6_shadeBy ⟨Nat.le_of_ble_eq_true rfl, Nat.le_of_ble_eq_true rfl⟩ rfl hl.1 rfl (Nat.le_of_ble_eq_true rfl) dX10_setShade_34 ⟨Nat.zero_le _, Nat.zero_le _⟩ (fun H locs hP hS => ?_)
  refine W.eq (g2 := F0 m 37 ls []) rfl ?_
  refine lv_aload_n K.1.1 K.1.2.1 dX10_setShade_37 rfl (lv_at hl 0 rfl) ?_
  refine m_getr K hP (by decide) sh_0 rfl tuX10 0 (by decide) rfl q_306 dX10_setShade_38 ?_
  refine m_getr K hP isA_1.1 isA_1.2.1 rfl tuX1 0 (by decide) rfl q_170 dX10_setShade_41 ?_
  refine lv_iload_n K.1.1 K.1.2.1 dX10_setShade_44 rfl (lv_at hl 1 rfl) ?_
  refine m_cV (n := 1) (As := [.int t]) (rest := []) K hP hS (MX6_bidOf l G B _ (1 + 1) isA_1.2.2.1 t ) isA_1.2.2.1.1 isA_1.2.2.1.2.1 rfl q_708 q_529 q_530 q_17 q_531 hv_X6_bidOf ⟨Nat.le_of_ble_eq_true rfl, Nat.le_of_ble_eq_true rfl⟩ rfl hl.1 rfl (Nat.le_of_ble_eq_true rfl) dX10_setShade_45 ⟨Nat.zero_le _, Nat.zero_le _⟩ (fun H locs hP hS => ?_)
  refine lv_topi (fun r_2 er_2 => ?_)
  exact m_iret K hr hlocks hP hS dX10_setShade_48 (by subst er_2; rfl) (by subst er_2; rfl)

set_option maxHeartbeats 4000000 in
set_option maxRecDepth 100000 in
theorem MX10_set (l : Launch) (G : GG) (B : Nat) (μ : Mm) (w : Int32) (v : Int32) (h1 : A_faultOfSetting w v = 0) : CM l yX10_set (.code yX10_set cX10_set 3 (Option.some FieldType.int)) 5 107 G B [.ref (B + 0), .int w, .int v] μ (some (.int (A_change (U_push μ 1) 1 w))) (A_changeM (U_push μ 1) 1 w v) := by
  refine CM.of (by decide) (Nat.le_of_ble_eq_true rfl) ?_
  intro p e s m below meth c ls K hr hlocks hP hl
  have hS : va_S (AA B) s.heap s.heap [] := va_S.rf
  have hl : lv_has ls 3 [(0, .ref (B + 0)), (1, .int w), (2, .int v)] := hl
  refine lv_aload_n K.1.1 K.1.2.1 dX10_set_0 rfl (lv_at hl 0 rfl) ?_
  refine m_getr K hP (by decide) sh_0 rfl tuX10 0 (by decide) rfl q_306 dX10_set_1 ?_
  refine lv_iload_n K.1.1 K.1.2.1 dX10_set_4 rfl (lv_at hl 1 rfl) ?_
  refine lv_iload_n K.1.1 K.1.2.1 dX10_set_5 rfl (lv_at hl 2 rfl) ?_
  refine m_cV (n := 2) (As := [.int w, .int v]) (rest := []) K hP hS (MX1_faultOfSetting l G B _ 1 isA_1 w v ) isA_1.1 isA_1.2.1 rfl q_713 q_714 q_715 q_16 q_716 hv_X1_faultOfSetting ⟨Nat.le_of_ble_eq_true rfl, Nat.le_of_ble_eq_true rfl⟩ rfl hl.1 rfl (Nat.le_of_ble_eq_true rfl) dX10_set_6 ⟨Nat.zero_le _, Nat.zero_le _⟩ (fun H locs hP hS => ?_)
  refine lv_topi (fun r_1 er_1 => ?_)
  have hz_9 : r_1 = 0 := (by subst er_1; exact h1)
  subst hz_9
  refine m_cS (n := 1) (As := [.int 0]) (rest := []) K hP hS (MX10_refuse l G B _  ) q_332 q_333 q_15 q_334 hv_X10_refuse ⟨Nat.le_of_ble_eq_true rfl, Nat.le_of_ble_eq_true rfl⟩ rfl hl.1 rfl (Nat.le_of_ble_eq_true rfl) dX10_set_9 ⟨Nat.zero_le _, Nat.zero_le _⟩ (fun H locs hP hS => ?_)
  refine W.eq (g2 := F0 m 12 ls []) rfl ?_
  refine lv_aload_n K.1.1 K.1.2.1 dX10_set_12 rfl (lv_at hl 0 rfl) ?_
  refine m_getr K hP (by decide) sh_0 rfl tuX10 3 (by decide) rfl q_309 dX10_set_13 ?_
  refine lv_aload_n K.1.1 K.1.2.1 dX10_set_16 rfl (lv_at hl 0 rfl) ?_
  refine m_getr K hP (by decide) sh_0 rfl tuX10 0 (by decide) rfl q_306 dX10_set_17 ?_
  refine m_cV (n := 1) (As := [.ref (B + 1)]) (rest := []) K hP hS (MX8_push l G B _ 1 isA_1 ) (by decide) sh_92 rfl q_646 q_647 q_648 q_22 q_649 hv_X8_push ⟨Nat.le_of_ble_eq_true rfl, Nat.le_of_ble_eq_true rfl⟩ rfl hl.1 rfl (Nat.le_of_ble_eq_true rfl) dX10_set_20 ⟨Nat.zero_le _, Nat.zero_le _⟩ (fun H locs hP hS => ?_)
  refine W.eq (g2 := F0 m 23 ls []) rfl ?_
  refine lv_aload_n K.1.1 K.1.2.1 dX10_set_23 rfl (lv_at hl 0 rfl) ?_
  refine m_getr K hP (by decide) sh_0 rfl tuX10 0 (by decide) rfl q_306 dX10_set_24 ?_
  refine lv_iload_n K.1.1 K.1.2.1 dX10_set_27 rfl (lv_at hl 1 rfl) ?_
  refine lv_iload_n K.1.1 K.1.2.1 dX10_set_28 rfl (lv_at hl 2 rfl) ?_
  refine m_cV (n := 2) (As := [.int w, .int v]) (rest := []) K hP hS (MX1_change l G B _ 1 isA_1 w v ) isA_1.1 isA_1.2.1 rfl q_717 q_718 q_719 q_16 q_720 hv_X1_change ⟨Nat.le_of_ble_eq_true rfl, Nat.le_of_ble_eq_true rfl⟩ rfl hl.1 rfl (Nat.le_of_ble_eq_true rfl) dX10_set_29 ⟨Nat.zero_le _, Nat.zero_le _⟩ (fun H locs hP hS => ?_)
  refine lv_topi (fun r_2 er_2 => ?_)
  exact m_iret K hr hlocks hP hS dX10_set_32 (by subst er_2; rfl) (by subst er_2; rfl)

set_option maxHeartbeats 4000000 in
set_option maxRecDepth 100000 in
theorem MX10_bid (l : Launch) (G : GG) (B : Nat) (μ : Mm) (t : Int32) (u : Int32) (h1 : A_faultOfOrder μ 1 t 1 u = 0) : CM l yX10_bid (.code yX10_bid cX10_bid 3 (Option.some FieldType.int)) 5 107 G B [.ref (B + 0), .int t, .int u] μ (some (.int (A_place (U_push μ 1) 1 t (T_bidOf (U_push μ 1) (1 + 1) t) u))) (A_placeM (U_push μ 1) 1 t (T_bidOf (U_push μ 1) (1 + 1) t) u) := by
  refine CM.of (by decide) (Nat.le_of_ble_eq_true rfl) ?_
  intro p e s m below meth c ls K hr hlocks hP hl
  have hS : va_S (AA B) s.heap s.heap [] := va_S.rf
  have hl : lv_has ls 3 [(0, .ref (B + 0)), (1, .int t), (2, .int u)] := hl
  refine lv_aload_n K.1.1 K.1.2.1 dX10_bid_0 rfl (lv_at hl 0 rfl) ?_
  refine m_getr K hP (by decide) sh_0 rfl tuX10 0 (by decide) rfl q_306 dX10_bid_1 ?_
  refine lv_iload_n K.1.1 K.1.2.1 dX10_bid_4 rfl (lv_at hl 1 rfl) ?_
  refine lv_iload_n K.1.1 K.1.2.1 dX10_bid_5 rfl (lv_at hl 2 rfl) ?_
  refine m_cV (n := 2) (As := [.int t, .int u]) (rest := []) K hP hS (MX1_faultOfBid l G B _ 1 isA_1 t u ) isA_1.1 isA_1.2.1 rfl q_725 q_726 q_727 q_16 q_728 hv_X1_faultOfBid ⟨Nat.le_of_ble_eq_true rfl, Nat.le_of_ble_eq_true rfl⟩ rfl hl.1 rfl (Nat.le_of_ble_eq_true rfl) dX10_bid_6 ⟨Nat.zero_le _, Nat.zero_le _⟩ (fun H locs hP hS => ?_)
  refine lv_topi (fun r_1 er_1 => ?_)
  have hz_9 : r_1 = 0 := (by subst er_1; exact h1)
  subst hz_9
  refine m_cS (n := 1) (As := [.int 0]) (rest := []) K hP hS (MX10_refuse l G B _  ) q_332 q_333 q_15 q_334 hv_X10_refuse ⟨Nat.le_of_ble_eq_true rfl, Nat.le_of_ble_eq_true rfl⟩ rfl hl.1 rfl (Nat.le_of_ble_eq_true rfl) dX10_bid_9 ⟨Nat.zero_le _, Nat.zero_le _⟩ (fun H locs hP hS => ?_)
  refine W.eq (g2 := F0 m 12 ls []) rfl ?_
  refine lv_aload_n K.1.1 K.1.2.1 dX10_bid_12 rfl (lv_at hl 0 rfl) ?_
  refine m_getr K hP (by decide) sh_0 rfl tuX10 3 (by decide) rfl q_309 dX10_bid_13 ?_
  refine lv_aload_n K.1.1 K.1.2.1 dX10_bid_16 rfl (lv_at hl 0 rfl) ?_
  refine m_getr K hP (by decide) sh_0 rfl tuX10 0 (by decide) rfl q_306 dX10_bid_17 ?_
  refine m_cV (n := 1) (As := [.ref (B + 1)]) (rest := []) K hP hS (MX8_push l G B _ 1 isA_1 ) (by decide) sh_92 rfl q_646 q_647 q_648 q_22 q_649 hv_X8_push ⟨Nat.le_of_ble_eq_true rfl, Nat.le_of_ble_eq_true rfl⟩ rfl hl.1 rfl (Nat.le_of_ble_eq_true rfl) dX10_bid_20 ⟨Nat.zero_le _, Nat.zero_le _⟩ (fun H locs hP hS => ?_)
  refine W.eq (g2 := F0 m 23 ls []) rfl ?_
  refine lv_aload_n K.1.1 K.1.2.1 dX10_bid_23 rfl (lv_at hl 0 rfl) ?_
  refine m_getr K hP (by decide) sh_0 rfl tuX10 0 (by decide) rfl q_306 dX10_bid_24 ?_
  refine lv_iload_n K.1.1 K.1.2.1 dX10_bid_27 rfl (lv_at hl 1 rfl) ?_
  refine lv_aload_n K.1.1 K.1.2.1 dX10_bid_28 rfl (lv_at hl 0 rfl) ?_
  refine m_getr K hP (by decide) sh_0 rfl tuX10 0 (by decide) rfl q_306 dX10_bid_29 ?_
  refine m_getr K hP isA_1.1 isA_1.2.1 rfl tuX1 0 (by decide) rfl q_170 dX10_bid_32 ?_
  refine lv_iload_n K.1.1 K.1.2.1 dX10_bid_35 rfl (lv_at hl 1 rfl) ?_
  refine m_cV (n := 1) (As := [.int t]) (rest := [.int t, .ref (B + 1)]) K hP hS (MX6_bidOf l G B _ (1 + 1) isA_1.2.2.1 t ) isA_1.2.2.1.1 isA_1.2.2.1.2.1 rfl q_708 q_529 q_530 q_17 q_531 hv_X6_bidOf ⟨Nat.le_of_ble_eq_true rfl, Nat.le_of_ble_eq_true rfl⟩ rfl hl.1 rfl (Nat.le_of_ble_eq_true rfl) dX10_bid_36 ⟨Nat.zero_le _, Nat.zero_le _⟩ (fun H locs hP hS => ?_)
  refine lv_topi (fun r_2 er_2 => ?_)
  refine lv_iload_n K.1.1 K.1.2.1 dX10_bid_39 rfl (lv_at hl 2 rfl) ?_
  refine m_cV (n := 3) (As := [.int t, .int r_2, .int u]) (rest := []) K hP hS (MX1_place l G B _ 1 isA_1 t r_2 u ) isA_1.1 isA_1.2.1 rfl q_737 q_738 q_739 q_16 q_740 hv_X1_place ⟨Nat.le_of_ble_eq_true rfl, Nat.le_of_ble_eq_true rfl⟩ rfl hl.1 rfl (Nat.le_of_ble_eq_true rfl) dX10_bid_40 ⟨Nat.zero_le _, Nat.zero_le _⟩ (fun H locs hP hS => ?_)
  refine lv_topi (fun r_3 er_3 => ?_)
  exact m_iret K hr hlocks hP hS dX10_bid_43 (by subst er_2 er_3; rfl) (by subst er_2 er_3; rfl)

set_option maxHeartbeats 4000000 in
set_option maxRecDepth 100000 in
theorem MX10_order (l : Launch) (G : GG) (B : Nat) (μ : Mm) (t : Int32) (pr : Int32) (u : Int32) (h1 : A_faultOfOrder μ 1 t pr u = 0) : CM l yX10_order (.code yX10_order cX10_order 4 (Option.some FieldType.int)) 5 107 G B [.ref (B + 0), .int t, .int pr, .int u] μ (some (.int (A_place (U_push μ 1) 1 t pr u))) (A_placeM (U_push μ 1) 1 t pr u) := by
  refine CM.of (by decide) (Nat.le_of_ble_eq_true rfl) ?_
  intro p e s m below meth c ls K hr hlocks hP hl
  have hS : va_S (AA B) s.heap s.heap [] := va_S.rf
  have hl : lv_has ls 4 [(0, .ref (B + 0)), (1, .int t), (2, .int pr), (3, .int u)] := hl
  refine lv_aload_n K.1.1 K.1.2.1 dX10_order_0 rfl (lv_at hl 0 rfl) ?_
  refine m_getr K hP (by decide) sh_0 rfl tuX10 0 (by decide) rfl q_306 dX10_order_1 ?_
  refine lv_iload_n K.1.1 K.1.2.1 dX10_order_4 rfl (lv_at hl 1 rfl) ?_
  refine lv_iload_n K.1.1 K.1.2.1 dX10_order_5 rfl (lv_at hl 2 rfl) ?_
  refine lv_iload_n K.1.1 K.1.2.1 dX10_order_6 rfl (lv_at hl 3 rfl) ?_
  refine m_cV (n := 3) (As := [.int t, .int pr, .int u]) (rest := []) K hP hS (MX1_faultOfOrder l G B _ 1 isA_1 t pr u ) isA_1.1 isA_1.2.1 rfl q_750 q_730 q_731 q_16 q_732 hv_X1_faultOfOrder ⟨Nat.le_of_ble_eq_true rfl, Nat.le_of_ble_eq_true rfl⟩ rfl hl.1 rfl (Nat.le_of_ble_eq_true rfl) dX10_order_7 ⟨Nat.zero_le _, Nat.zero_le _⟩ (fun H locs hP hS => ?_)
  refine lv_topi (fun r_1 er_1 => ?_)
  have hz_10 : r_1 = 0 := (by subst er_1; exact h1)
  subst hz_10
  refine m_cS (n := 1) (As := [.int 0]) (rest := []) K hP hS (MX10_refuse l G B _  ) q_332 q_333 q_15 q_334 hv_X10_refuse ⟨Nat.le_of_ble_eq_true rfl, Nat.le_of_ble_eq_true rfl⟩ rfl hl.1 rfl (Nat.le_of_ble_eq_true rfl) dX10_order_10 ⟨Nat.zero_le _, Nat.zero_le _⟩ (fun H locs hP hS => ?_)
  refine W.eq (g2 := F0 m 13 ls []) rfl ?_
  refine lv_aload_n K.1.1 K.1.2.1 dX10_order_13 rfl (lv_at hl 0 rfl) ?_
  refine m_getr K hP (by decide) sh_0 rfl tuX10 3 (by decide) rfl q_309 dX10_order_14 ?_
  refine lv_aload_n K.1.1 K.1.2.1 dX10_order_17 rfl (lv_at hl 0 rfl) ?_
  refine m_getr K hP (by decide) sh_0 rfl tuX10 0 (by decide) rfl q_306 dX10_order_18 ?_
  refine m_cV (n := 1) (As := [.ref (B + 1)]) (rest := []) K hP hS (MX8_push l G B _ 1 isA_1 ) (by decide) sh_92 rfl q_646 q_647 q_648 q_22 q_649 hv_X8_push ⟨Nat.le_of_ble_eq_true rfl, Nat.le_of_ble_eq_true rfl⟩ rfl hl.1 rfl (Nat.le_of_ble_eq_true rfl) dX10_order_21 ⟨Nat.zero_le _, Nat.zero_le _⟩ (fun H locs hP hS => ?_)
  refine W.eq (g2 := F0 m 24 ls []) rfl ?_
  refine lv_aload_n K.1.1 K.1.2.1 dX10_order_24 rfl (lv_at hl 0 rfl) ?_
  refine m_getr K hP (by decide) sh_0 rfl tuX10 0 (by decide) rfl q_306 dX10_order_25 ?_
  refine lv_iload_n K.1.1 K.1.2.1 dX10_order_28 rfl (lv_at hl 1 rfl) ?_
  refine lv_iload_n K.1.1 K.1.2.1 dX10_order_29 rfl (lv_at hl 2 rfl) ?_
  refine lv_iload_n K.1.1 K.1.2.1 dX10_order_30 rfl (lv_at hl 3 rfl) ?_
  refine m_cV (n := 3) (As := [.int t, .int pr, .int u]) (rest := []) K hP hS (MX1_place l G B _ 1 isA_1 t pr u ) isA_1.1 isA_1.2.1 rfl q_737 q_738 q_739 q_16 q_740 hv_X1_place ⟨Nat.le_of_ble_eq_true rfl, Nat.le_of_ble_eq_true rfl⟩ rfl hl.1 rfl (Nat.le_of_ble_eq_true rfl) dX10_order_31 ⟨Nat.zero_le _, Nat.zero_le _⟩ (fun H locs hP hS => ?_)
  refine lv_topi (fun r_2 er_2 => ?_)
  exact m_iret K hr hlocks hP hS dX10_order_34 (by subst er_2; rfl) (by subst er_2; rfl)

set_option maxHeartbeats 4000000 in
set_option maxRecDepth 100000 in
theorem MX10_cancel (l : Launch) (G : GG) (B : Nat) (μ : Mm) (n : Int32) (h1 : O_faultOfNumber μ (1 + 16) n = 0) : CM l yX10_cancel (.code yX10_cancel cX10_cancel 2 (Option.some FieldType.int)) 5 107 G B [.ref (B + 0), .int n] μ (some (.int (R_get (U_push μ 1) (1 + 16 + 9) 20 (O_indexOf (U_push μ 1) (1 + 16) n)))) (O_removeAt (U_push μ 1) (1 + 16) (O_indexOf (U_push μ 1) (1 + 16) n)) := by
  refine CM.of (by decide) (Nat.le_of_ble_eq_true rfl) ?_
  intro p e s m below meth c ls K hr hlocks hP hl
  have hS : va_S (AA B) s.heap s.heap [] := va_S.rf
  have hl : lv_has ls 2 [(0, .ref (B + 0)), (1, .int n)] := hl
  refine lv_aload_n K.1.1 K.1.2.1 dX10_cancel_0 rfl (lv_at hl 0 rfl) ?_
  refine m_getr K hP (by decide) sh_0 rfl tuX10 0 (by decide) rfl q_306 dX10_cancel_1 ?_
  refine m_getr K hP isA_1.1 isA_1.2.1 rfl tuX1 1 (by decide) rfl q_174 dX10_cancel_4 ?_
  refine lv_iload_n K.1.1 K.1.2.1 dX10_cancel_7 rfl (lv_at hl 1 rfl) ?_
  refine m_cV (n := 1) (As := [.int n]) (rest := []) K hP hS (MX4_faultOfNumber l G B _ (1 + 16) isA_1.2.2.2.1 n ) isA_1.2.2.2.1.1 isA_1.2.2.2.1.2.1 rfl q_610 q_611 q_612 q_19 q_613 hv_X4_faultOfNumber ⟨Nat.le_of_ble_eq_true rfl, Nat.le_of_ble_eq_true rfl⟩ rfl hl.1 rfl (Nat.le_of_ble_eq_true rfl) dX10_cancel_8 ⟨Nat.zero_le _, Nat.zero_le _⟩ (fun H locs hP hS => ?_)
  refine lv_topi (fun r_1 er_1 => ?_)
  have hz_11 : r_1 = 0 := (by subst er_1; exact h1)
  subst hz_11
  refine m_cS (n := 1) (As := [.int 0]) (rest := []) K hP hS (MX10_refuse l G B _  ) q_332 q_333 q_15 q_334 hv_X10_refuse ⟨Nat.le_of_ble_eq_true rfl, Nat.le_of_ble_eq_true rfl⟩ rfl hl.1 rfl (Nat.le_of_ble_eq_true rfl) dX10_cancel_11 ⟨Nat.zero_le _, Nat.zero_le _⟩ (fun H locs hP hS => ?_)
  refine W.eq (g2 := F0 m 14 ls []) rfl ?_
  refine lv_aload_n K.1.1 K.1.2.1 dX10_cancel_14 rfl (lv_at hl 0 rfl) ?_
  refine m_getr K hP (by decide) sh_0 rfl tuX10 3 (by decide) rfl q_309 dX10_cancel_15 ?_
  refine lv_aload_n K.1.1 K.1.2.1 dX10_cancel_18 rfl (lv_at hl 0 rfl) ?_
  refine m_getr K hP (by decide) sh_0 rfl tuX10 0 (by decide) rfl q_306 dX10_cancel_19 ?_
  refine m_cV (n := 1) (As := [.ref (B + 1)]) (rest := []) K hP hS (MX8_push l G B _ 1 isA_1 ) (by decide) sh_92 rfl q_646 q_647 q_648 q_22 q_649 hv_X8_push ⟨Nat.le_of_ble_eq_true rfl, Nat.le_of_ble_eq_true rfl⟩ rfl hl.1 rfl (Nat.le_of_ble_eq_true rfl) dX10_cancel_22 ⟨Nat.zero_le _, Nat.zero_le _⟩ (fun H locs hP hS => ?_)
  refine W.eq (g2 := F0 m 25 ls []) rfl ?_
  refine lv_aload_n K.1.1 K.1.2.1 dX10_cancel_25 rfl (lv_at hl 0 rfl) ?_
  refine m_getr K hP (by decide) sh_0 rfl tuX10 0 (by decide) rfl q_306 dX10_cancel_26 ?_
  refine m_getr K hP isA_1.1 isA_1.2.1 rfl tuX1 1 (by decide) rfl q_174 dX10_cancel_29 ?_
  refine lv_iload_n K.1.1 K.1.2.1 dX10_cancel_32 rfl (lv_at hl 1 rfl) ?_
  refine m_cV (n := 1) (As := [.int n]) (rest := []) K hP hS (MX4_withdraw l G B _ (1 + 16) isA_1.2.2.2.1 n ) isA_1.2.2.2.1.1 isA_1.2.2.2.1.2.1 rfl q_755 q_756 q_757 q_19 q_758 hv_X4_withdraw ⟨Nat.le_of_ble_eq_true rfl, Nat.le_of_ble_eq_true rfl⟩ rfl hl.1 rfl (Nat.le_of_ble_eq_true rfl) dX10_cancel_33 ⟨Nat.zero_le _, Nat.zero_le _⟩ (fun H locs hP hS => ?_)
  refine lv_topi (fun r_2 er_2 => ?_)
  exact m_iret K hr hlocks hP hS dX10_cancel_36 (by subst er_2; rfl) (by subst er_2; rfl)

set_option maxHeartbeats 4000000 in
set_option maxRecDepth 100000 in
theorem MX10_clear (l : Launch) (G : GG) (B : Nat) (μ : Mm) (h1 : A_faultOfRound μ 1 = 0) (hc : ¬ (U_push μ 1) (1 + 16) 0 < 0) : CM l yX10_clear (.code yX10_clear cX10_clear 1 (Option.some FieldType.int)) 5 114 G B [.ref (B + 0)] μ (some (.int (A_end (U_push μ 1) 1))) (A_endM (U_push μ 1) 1) := by
  refine CM.of (by decide) (Nat.le_of_ble_eq_true rfl) ?_
  intro p e s m below meth c ls K hr hlocks hP hl
  have hS : va_S (AA B) s.heap s.heap [] := va_S.rf
  have hl : lv_has ls 1 [(0, .ref (B + 0))] := hl
  refine lv_aload_n K.1.1 K.1.2.1 dX10_clear_0 rfl (lv_at hl 0 rfl) ?_
  refine m_getr K hP (by decide) sh_0 rfl tuX10 0 (by decide) rfl q_306 dX10_clear_1 ?_
  refine m_cV (n := 0) (As := []) (rest := []) K hP hS (MX1_faultOfRound l G B _ 1 isA_1 ) isA_1.1 isA_1.2.1 rfl q_771 q_772 q_773 q_16 q_774 hv_X1_faultOfRound ⟨Nat.le_of_ble_eq_true rfl, Nat.le_of_ble_eq_true rfl⟩ rfl hl.1 rfl (Nat.le_of_ble_eq_true rfl) dX10_clear_4 ⟨Nat.zero_le _, Nat.zero_le _⟩ (fun H locs hP hS => ?_)
  refine lv_topi (fun r_1 er_1 => ?_)
  have hz_7 : r_1 = 0 := (by subst er_1; exact h1)
  subst hz_7
  refine m_cS (n := 1) (As := [.int 0]) (rest := []) K hP hS (MX10_refuse l G B _  ) q_332 q_333 q_15 q_334 hv_X10_refuse ⟨Nat.le_of_ble_eq_true rfl, Nat.le_of_ble_eq_true rfl⟩ rfl hl.1 rfl (Nat.le_of_ble_eq_true rfl) dX10_clear_7 ⟨Nat.zero_le _, Nat.zero_le _⟩ (fun H locs hP hS => ?_)
  refine W.eq (g2 := F0 m 10 ls []) rfl ?_
  refine lv_aload_n K.1.1 K.1.2.1 dX10_clear_10 rfl (lv_at hl 0 rfl) ?_
  refine m_getr K hP (by decide) sh_0 rfl tuX10 3 (by decide) rfl q_309 dX10_clear_11 ?_
  refine lv_aload_n K.1.1 K.1.2.1 dX10_clear_14 rfl (lv_at hl 0 rfl) ?_
  refine m_getr K hP (by decide) sh_0 rfl tuX10 0 (by decide) rfl q_306 dX10_clear_15 ?_
  refine m_cV (n := 1) (As := [.ref (B + 1)]) (rest := []) K hP hS (MX8_push l G B _ 1 isA_1 ) (by decide) sh_92 rfl q_646 q_647 q_648 q_22 q_649 hv_X8_push ⟨Nat.le_of_ble_eq_true rfl, Nat.le_of_ble_eq_true rfl⟩ rfl hl.1 rfl (Nat.le_of_ble_eq_true rfl) dX10_clear_18 ⟨Nat.zero_le _, Nat.zero_le _⟩ (fun H locs hP hS => ?_)
  refine W.eq (g2 := F0 m 21 ls []) rfl ?_
  refine lv_aload_n K.1.1 K.1.2.1 dX10_clear_21 rfl (lv_at hl 0 rfl) ?_
  refine m_getr K hP (by decide) sh_0 rfl tuX10 0 (by decide) rfl q_306 dX10_clear_22 ?_
  refine lv_aload_n K.1.1 K.1.2.1 dX10_clear_25 rfl (lv_at hl 0 rfl) ?_
  refine m_getr K hP (by decide) sh_0 rfl tuX10 2 (by decide) rfl q_308 dX10_clear_26 ?_
  refine m_cV (n := 1) (As := [.ref (B + 81)]) (rest := []) K hP hS (MX1_endRound l G B _ 1 isA_1 hc) isA_1.1 isA_1.2.1 rfl q_775 q_776 q_777 q_16 q_778 hv_X1_endRound ⟨Nat.le_of_ble_eq_true rfl, Nat.le_of_ble_eq_true rfl⟩ rfl hl.1 rfl (Nat.le_of_ble_eq_true rfl) dX10_clear_29 ⟨Nat.zero_le _, Nat.zero_le _⟩ (fun H locs hP hS => ?_)
  refine lv_topi (fun r_2 er_2 => ?_)
  exact m_iret K hr hlocks hP hS dX10_clear_32 (by subst er_2; rfl) (by subst er_2; rfl)

set_option maxHeartbeats 4000000 in
set_option maxRecDepth 100000 in
theorem MX10_trader (l : Launch) (G : GG) (B : Nat) (μ : Mm) (t : Int32) (w : Int32) (h1 : T_faultOfNumber μ (1 + 1) t = 0) (h2 : X_what w 10 = 0) : CM l yX10_trader (.code yX10_trader cX10_trader 3 (Option.some FieldType.int)) 4 86 G B [.ref (B + 0), .int t, .int w] μ (some (.int (A_traderValue μ 1 t w))) μ := by
  refine CM.of (by decide) (Nat.le_of_ble_eq_true rfl) ?_
  intro p e s m below meth c ls K hr hlocks hP hl
  have hS : va_S (AA B) s.heap s.heap [] := va_S.rf
  have hl : lv_has ls 3 [(0, .ref (B + 0)), (1, .int t), (2, .int w)] := hl
  refine lv_aload_n K.1.1 K.1.2.1 dX10_trader_0 rfl (lv_at hl 0 rfl) ?_
  refine m_getr K hP (by decide) sh_0 rfl tuX10 0 (by decide) rfl q_306 dX10_trader_1 ?_
  refine m_getr K hP isA_1.1 isA_1.2.1 rfl tuX1 0 (by decide) rfl q_170 dX10_trader_4 ?_
  refine lv_iload_n K.1.1 K.1.2.1 dX10_trader_7 rfl (lv_at hl 1 rfl) ?_
  refine m_cV (n := 1) (As := [.int t]) (rest := []) K hP hS (MX6_faultOfNumber l G B _ (1 + 1) isA_1.2.2.1 t ) isA_1.2.2.1.1 isA_1.2.2.1.2.1 rfl q_593 q_594 q_595 q_17 q_596 hv_X6_faultOfNumber ⟨Nat.le_of_ble_eq_true rfl, Nat.le_of_ble_eq_true rfl⟩ rfl hl.1 rfl (Nat.le_of_ble_eq_true rfl) dX10_trader_8 ⟨Nat.zero_le _, Nat.zero_le _⟩ (fun H locs hP hS => ?_)
  refine lv_topi (fun r_1 er_1 => ?_)
  have hz_11 : r_1 = 0 := (by subst er_1; exact h1)
  subst hz_11
  refine m_cS (n := 1) (As := [.int 0]) (rest := []) K hP hS (MX10_refuse l G B _  ) q_332 q_333 q_15 q_334 hv_X10_refuse ⟨Nat.le_of_ble_eq_true rfl, Nat.le_of_ble_eq_true rfl⟩ rfl hl.1 rfl (Nat.le_of_ble_eq_true rfl) dX10_trader_11 ⟨Nat.zero_le _, Nat.zero_le _⟩ (fun H locs hP hS => ?_)
  refine W.eq (g2 := F0 m 14 ls []) rfl ?_
  refine lv_iload_n K.1.1 K.1.2.1 dX10_trader_14 rfl (lv_at hl 2 rfl) ?_
  refine lv_bipush (v := 10) K.1.1 K.1.2.1 dX10_trader_15 (by decide) ?_
  refine m_cS (n := 2) (As := [.int w, .int 10]) (rest := []) K hP hS (MX10_faultOfWhat l G B _ w 10 ) q_326 q_327 q_15 q_328 hv_X10_faultOfWhat ⟨Nat.le_of_ble_eq_true rfl, Nat.le_of_ble_eq_true rfl⟩ rfl hl.1 rfl (Nat.le_of_ble_eq_true rfl) dX10_trader_17 ⟨Nat.zero_le _, Nat.zero_le _⟩ (fun H locs hP hS => ?_)
  refine lv_topi (fun r_2 er_2 => ?_)
  have hz_20 : r_2 = 0 := (by subst er_2; exact h2)
  subst hz_20
  refine m_cS (n := 1) (As := [.int 0]) (rest := []) K hP hS (MX10_refuse l G B _  ) q_332 q_333 q_15 q_334 hv_X10_refuse ⟨Nat.le_of_ble_eq_true rfl, Nat.le_of_ble_eq_true rfl⟩ rfl hl.1 rfl (Nat.le_of_ble_eq_true rfl) dX10_trader_20 ⟨Nat.zero_le _, Nat.zero_le _⟩ (fun H locs hP hS => ?_)
  refine W.eq (g2 := F0 m 23 ls []) rfl ?_
  refine lv_aload_n K.1.1 K.1.2.1 dX10_trader_23 rfl (lv_at hl 0 rfl) ?_
  refine m_getr K hP (by decide) sh_0 rfl tuX10 0 (by decide) rfl q_306 dX10_trader_24 ?_
  refine lv_iload_n K.1.1 K.1.2.1 dX10_trader_27 rfl (lv_at hl 1 rfl) ?_
  refine lv_iload_n K.1.1 K.1.2.1 dX10_trader_28 rfl (lv_at hl 2 rfl) ?_
  refine m_cV (n := 2) (As := [.int t, .int w]) (rest := []) K hP hS (MX1_traderValue l G B _ 1 isA_1 t w ) isA_1.1 isA_1.2.1 rfl q_523 q_524 q_525 q_16 q_526 hv_X1_traderValue ⟨Nat.le_of_ble_eq_true rfl, Nat.le_of_ble_eq_true rfl⟩ rfl hl.1 rfl (Nat.le_of_ble_eq_true rfl) dX10_trader_29 ⟨Nat.zero_le _, Nat.zero_le _⟩ (fun H locs hP hS => ?_)
  refine lv_topi (fun r_3 er_3 => ?_)
  exact m_iret K hr hlocks hP hS dX10_trader_32 (by subst er_3; rfl) rfl

set_option maxHeartbeats 4000000 in
set_option maxRecDepth 100000 in
theorem MX10_orderOf (l : Launch) (G : GG) (B : Nat) (μ : Mm) (n : Int32) (w : Int32) (h1 : O_faultOfNumber μ (1 + 16) n = 0) (h2 : X_what w 5 = 0) : CM l yX10_orderOf (.code yX10_orderOf cX10_orderOf 3 (Option.some FieldType.int)) 4 89 G B [.ref (B + 0), .int n, .int w] μ (some (.int (O_valueOf μ (1 + 16) (O_indexOf μ (1 + 16) n) w))) μ := by
  refine CM.of (by decide) (Nat.le_of_ble_eq_true rfl) ?_
  intro p e s m below meth c ls K hr hlocks hP hl
  have hS : va_S (AA B) s.heap s.heap [] := va_S.rf
  have hl : lv_has ls 3 [(0, .ref (B + 0)), (1, .int n), (2, .int w)] := hl
  refine lv_aload_n K.1.1 K.1.2.1 dX10_orderOf_0 rfl (lv_at hl 0 rfl) ?_
  refine m_getr K hP (by decide) sh_0 rfl tuX10 0 (by decide) rfl q_306 dX10_orderOf_1 ?_
  refine m_getr K hP isA_1.1 isA_1.2.1 rfl tuX1 1 (by decide) rfl q_174 dX10_orderOf_4 ?_
  refine lv_iload_n K.1.1 K.1.2.1 dX10_orderOf_7 rfl (lv_at hl 1 rfl) ?_
  refine m_cV (n := 1) (As := [.int n]) (rest := []) K hP hS (MX4_faultOfNumber l G B _ (1 + 16) isA_1.2.2.2.1 n ) isA_1.2.2.2.1.1 isA_1.2.2.2.1.2.1 rfl q_610 q_611 q_612 q_19 q_613 hv_X4_faultOfNumber ⟨Nat.le_of_ble_eq_true rfl, Nat.le_of_ble_eq_true rfl⟩ rfl hl.1 rfl (Nat.le_of_ble_eq_true rfl) dX10_orderOf_8 ⟨Nat.zero_le _, Nat.zero_le _⟩ (fun H locs hP hS => ?_)
  refine lv_topi (fun r_1 er_1 => ?_)
  have hz_11 : r_1 = 0 := (by subst er_1; exact h1)
  subst hz_11
  refine m_cS (n := 1) (As := [.int 0]) (rest := []) K hP hS (MX10_refuse l G B _  ) q_332 q_333 q_15 q_334 hv_X10_refuse ⟨Nat.le_of_ble_eq_true rfl, Nat.le_of_ble_eq_true rfl⟩ rfl hl.1 rfl (Nat.le_of_ble_eq_true rfl) dX10_orderOf_11 ⟨Nat.zero_le _, Nat.zero_le _⟩ (fun H locs hP hS => ?_)
  refine W.eq (g2 := F0 m 14 ls []) rfl ?_
  refine lv_iload_n K.1.1 K.1.2.1 dX10_orderOf_14 rfl (lv_at hl 2 rfl) ?_
  refine lv_iconst (v := 5) K.1.1 K.1.2.1 dX10_orderOf_15 (by decide) ?_
  refine m_cS (n := 2) (As := [.int w, .int 5]) (rest := []) K hP hS (MX10_faultOfWhat l G B _ w 5 ) q_326 q_327 q_15 q_328 hv_X10_faultOfWhat ⟨Nat.le_of_ble_eq_true rfl, Nat.le_of_ble_eq_true rfl⟩ rfl hl.1 rfl (Nat.le_of_ble_eq_true rfl) dX10_orderOf_16 ⟨Nat.zero_le _, Nat.zero_le _⟩ (fun H locs hP hS => ?_)
  refine lv_topi (fun r_2 er_2 => ?_)
  have hz_19 : r_2 = 0 := (by subst er_2; exact h2)
  subst hz_19
  refine m_cS (n := 1) (As := [.int 0]) (rest := []) K hP hS (MX10_refuse l G B _  ) q_332 q_333 q_15 q_334 hv_X10_refuse ⟨Nat.le_of_ble_eq_true rfl, Nat.le_of_ble_eq_true rfl⟩ rfl hl.1 rfl (Nat.le_of_ble_eq_true rfl) dX10_orderOf_19 ⟨Nat.zero_le _, Nat.zero_le _⟩ (fun H locs hP hS => ?_)
  refine W.eq (g2 := F0 m 22 ls []) rfl ?_
  refine lv_aload_n K.1.1 K.1.2.1 dX10_orderOf_22 rfl (lv_at hl 0 rfl) ?_
  refine m_getr K hP (by decide) sh_0 rfl tuX10 0 (by decide) rfl q_306 dX10_orderOf_23 ?_
  refine m_getr K hP isA_1.1 isA_1.2.1 rfl tuX1 1 (by decide) rfl q_174 dX10_orderOf_26 ?_
  refine lv_aload_n K.1.1 K.1.2.1 dX10_orderOf_29 rfl (lv_at hl 0 rfl) ?_
  refine m_getr K hP (by decide) sh_0 rfl tuX10 0 (by decide) rfl q_306 dX10_orderOf_30 ?_
  refine m_getr K hP isA_1.1 isA_1.2.1 rfl tuX1 1 (by decide) rfl q_174 dX10_orderOf_33 ?_
  refine lv_iload_n K.1.1 K.1.2.1 dX10_orderOf_36 rfl (lv_at hl 1 rfl) ?_
  refine m_cV (n := 1) (As := [.int n]) (rest := [.ref (B + (1 + 16))]) K hP hS (MX4_indexOf l G B _ (1 + 16) isA_1.2.2.2.1 n ) isA_1.2.2.2.1.1 isA_1.2.2.2.1.2.1 rfl q_618 q_615 q_616 q_19 q_617 hv_X4_indexOf ⟨Nat.le_of_ble_eq_true rfl, Nat.le_of_ble_eq_true rfl⟩ rfl hl.1 rfl (Nat.le_of_ble_eq_true rfl) dX10_orderOf_37 ⟨Nat.zero_le _, Nat.zero_le _⟩ (fun H locs hP hS => ?_)
  refine lv_topi (fun r_3 er_3 => ?_)
  refine lv_iload_n K.1.1 K.1.2.1 dX10_orderOf_40 rfl (lv_at hl 2 rfl) ?_
  refine m_cV (n := 2) (As := [.int r_3, .int w]) (rest := []) K hP hS (MX4_valueOf l G B _ (1 + 16) isA_1.2.2.2.1 r_3 w ) isA_1.2.2.2.1.1 isA_1.2.2.2.1.2.1 rfl q_558 q_559 q_560 q_19 q_561 hv_X4_valueOf ⟨Nat.le_of_ble_eq_true rfl, Nat.le_of_ble_eq_true rfl⟩ rfl hl.1 rfl (Nat.le_of_ble_eq_true rfl) dX10_orderOf_41 ⟨Nat.zero_le _, Nat.zero_le _⟩ (fun H locs hP hS => ?_)
  refine lv_topi (fun r_4 er_4 => ?_)
  exact m_iret K hr hlocks hP hS dX10_orderOf_44 (by subst er_3 er_4; rfl) rfl

