set_option maxHeartbeats 4000000 in
set_option maxRecDepth 100000 in
theorem MX11_tellsOrder (l : Launch) (G : GG) (B : Nat) (μ : Mm) (k : Int32) (w : Int32) (hI : MI μ) (hk : vp_in k 20) (hw : vp_in w 5) : CM l yX11_tellsOrder (.code yX11_tellsOrder cX11_tellsOrder 3 (Option.some FieldType.int)) 4 91 G B [.ref (B + 259), .int k, .int w] μ (some (.int (M_tellsOrder μ k w))) μ := by
  refine CM.of (by decide) (Nat.le_of_ble_eq_true rfl) ?_
  intro p e s m below meth c ls K hr hlocks hP hl
  have hS : va_S (AA B) s.heap s.heap [] := va_S.rf
  have hl : lv_has ls 3 [(0, .ref (B + 259)), (1, .int k), (2, .int w)] := hl
  refine lv_iload_n K.1.1 K.1.2.1 dX11_tellsOrder_0 rfl (lv_at hl 2 rfl) ?_
  refine lv_iconst (v := 4) K.1.1 K.1.2.1 dX11_tellsOrder_1 (by decide) ?_
  refine lv_icmp_ne (tgt := 13) K.1.1 K.1.2.1 dX11_tellsOrder_2 (by decide) (fun c_2 => ?_) (fun c_2 => ?_)
  · refine lv_aload_n K.1.1 K.1.2.1 dX11_tellsOrder_13 rfl (lv_at hl 0 rfl) ?_
    refine lv_iload_n K.1.1 K.1.2.1 dX11_tellsOrder_14 rfl (lv_at hl 1 rfl) ?_
    refine lv_iload_n K.1.1 K.1.2.1 dX11_tellsOrder_15 rfl (lv_at hl 2 rfl) ?_
    refine lv_iconst (v := 1) K.1.1 K.1.2.1 dX11_tellsOrder_16 (by decide) ?_
    refine lv_iadd K.1.1 K.1.2.1 dX11_tellsOrder_17 ?_
    refine m_cV (n := 2) (As := [.int k, .int (w + 1)]) (rest := []) K hP hS (MX11_ofO l G B _ k (w + 1) (loO hk (to_w hw c_2))) (by decide) sh_259 rfl q_1291 q_1293 q_39 q_91 q_1294 hv_X11_ofO ⟨Nat.le_of_ble_eq_true rfl, Nat.le_of_ble_eq_true rfl⟩ rfl hl.1 rfl (Nat.le_of_ble_eq_true rfl) dX11_tellsOrder_18 ⟨Nat.zero_le _, Nat.zero_le _⟩ (fun H locs hP hS => ?_)
    refine lv_topi (fun r_1 er_1 => ?_)
    exact m_iret K hr hlocks hP hS dX11_tellsOrder_21 (by subst er_1; rw [M_tellsOrder]; simp only [if_neg c_2]) rfl
  · refine lv_aload_n K.1.1 K.1.2.1 dX11_tellsOrder_5 rfl (lv_at hl 0 rfl) ?_
    refine lv_iload_n K.1.1 K.1.2.1 dX11_tellsOrder_6 rfl (lv_at hl 1 rfl) ?_
    refine m_cV (n := 1) (As := [.int k]) (rest := []) K hP hS (MX11_placeOf l G B _ k hI (by skip; first | assumption | exact MI_k hI (by assumption) | exact MI_w hI (by first | assumption | exact MI_k hI (by assumption)) | exact MI_t hI (by assumption))) (by decide) sh_259 rfl q_1355 q_1357 q_52 q_91 q_1358 hv_X11_placeOf ⟨Nat.le_of_ble_eq_true rfl, Nat.le_of_ble_eq_true rfl⟩ rfl hl.1 rfl (Nat.le_of_ble_eq_true rfl) dX11_tellsOrder_7 ⟨Nat.zero_le _, Nat.zero_le _⟩ (fun H locs hP hS => ?_)
    refine lv_topi (fun r_2 er_2 => ?_)
    refine lv_goto (tgt := 21) K.1.1 K.1.2.1 dX11_tellsOrder_10 (by decide) ?_
    exact m_iret K hr hlocks hP hS dX11_tellsOrder_21 (by subst er_2; rw [M_tellsOrder]; simp only [if_pos c_2]) rfl

set_option maxHeartbeats 4000000 in
set_option maxRecDepth 100000 in
theorem MX11_orderOf (l : Launch) (G : GG) (B : Nat) (μ : Mm) (x : Int32) (w : Int32) (hI : MI μ) : CM l yX11_orderOf (.code yX11_orderOf cX11_orderOf 3 (Option.some FieldType.int)) 5 113 G B [.ref (B + 259), .int x, .int w] μ (some (.int ((M_orderOf μ x w).2))) ((M_orderOf μ x w).1) := by
  refine CM.of (by decide) (Nat.le_of_ble_eq_true rfl) ?_
  intro p e s m below meth c ls K hr hlocks hP hl
  have hS : va_S (AA B) s.heap s.heap [] := va_S.rf
  have hl : lv_has ls 3 [(0, .ref (B + 259)), (1, .int x), (2, .int w)] := hl
  refine lv_aload_n K.1.1 K.1.2.1 dX11_orderOf_0 rfl (lv_at hl 0 rfl) ?_
  refine lv_aload_n K.1.1 K.1.2.1 dX11_orderOf_1 rfl (lv_at hl 0 rfl) ?_
  refine lv_iload_n K.1.1 K.1.2.1 dX11_orderOf_2 rfl (lv_at hl 1 rfl) ?_
  refine m_cV (n := 1) (As := [.int x]) (rest := [.ref (B + 259)]) K hP hS (MX11_find l G B _ x hI) (by decide) sh_259 rfl q_1303 q_1305 q_40 q_91 q_1306 hv_X11_find ⟨Nat.le_of_ble_eq_true rfl, Nat.le_of_ble_eq_true rfl⟩ rfl hl.1 rfl (Nat.le_of_ble_eq_true rfl) dX11_orderOf_3 ⟨Nat.zero_le _, Nat.zero_le _⟩ (fun H locs hP hS => ?_)
  refine lv_topi (fun r_1 er_1 => ?_)
  refine lv_if_ge (tgt := 13) K.1.1 K.1.2.1 dX11_orderOf_6 (by decide) (fun c_6 => ?_) (fun c_6 => ?_)
  · refine lv_iload_n K.1.1 K.1.2.1 dX11_orderOf_13 rfl (lv_at hl 2 rfl) ?_
    refine lv_iconst (v := 0) K.1.1 K.1.2.1 dX11_orderOf_14 (by decide) ?_
    refine lv_iconst (v := 4) K.1.1 K.1.2.1 dX11_orderOf_15 (by decide) ?_
    refine m_cS (n := 3) (As := [.int w, .int 0, .int 4]) (rest := [.ref (B + 259)]) K hP hS (MX11_isIn l G B _ w 0 4 ) q_1213 q_1214 q_91 q_1215 hv_X11_isIn ⟨Nat.le_of_ble_eq_true rfl, Nat.le_of_ble_eq_true rfl⟩ rfl hl.1 rfl (Nat.le_of_ble_eq_true rfl) dX11_orderOf_16 ⟨Nat.zero_le _, Nat.zero_le _⟩ (fun H locs hP hS => ?_)
    refine lv_topi (fun r_2 er_2 => ?_)
    refine lv_if_eq (tgt := 26) K.1.1 K.1.2.1 dX11_orderOf_19 (by decide) (fun c_19 => ?_) (fun c_19 => ?_)
    · refine lv_iconst (v := 2) K.1.1 K.1.2.1 dX11_orderOf_26 (by decide) ?_
      refine m_puti K hP hS (by decide) sh_259 rfl tuX11 tyX11 tyX11_ok nmX11 3 (by decide) rfl rfl (by decide +kernel) q_1153 dX11_orderOf_27 (fun H locs hP hS => ?_)
      refine lv_aload_n K.1.1 K.1.2.1 dX11_orderOf_30 rfl (lv_at hl 0 rfl) ?_
      refine m_geti K hP (by decide) sh_259 rfl tuX11 3 (by decide) rfl q_1153 dX11_orderOf_31 ?_
      refine lv_topi (fun g_3 eg_3 => ?_)
      refine lv_if_ne (tgt := 50) K.1.1 K.1.2.1 dX11_orderOf_34 (by decide) (fun c_34 => ?_) (fun c_34 => ?_)
      · refine lv_iconst (v := 0) K.1.1 K.1.2.1 dX11_orderOf_50 (by decide) ?_
        exact m_iret K hr hlocks hP hS dX11_orderOf_51 (by subst er_1 er_2 eg_3; rw [M_orderOf, M_ask, show M_orErr μ x w = 2 from (if_neg (Int32.not_lt.mpr c_6)).trans (if_pos c_19)]; rfl) (by subst er_1 er_2 eg_3; rw [M_orderOf, M_ask, show M_orErr μ x w = 2 from (if_neg (Int32.not_lt.mpr c_6)).trans (if_pos c_19)]; rfl)
      · exact absurd c_34 (by subst er_1 er_2 eg_3; rw [up2_s]; decide)
    · refine lv_iconst (v := 0) K.1.1 K.1.2.1 dX11_orderOf_22 (by decide) ?_
      refine lv_goto (tgt := 27) K.1.1 K.1.2.1 dX11_orderOf_23 (by decide) ?_
      refine m_puti K hP hS (by decide) sh_259 rfl tuX11 tyX11 tyX11_ok nmX11 3 (by decide) rfl rfl (by decide +kernel) q_1153 dX11_orderOf_27 (fun H locs hP hS => ?_)
      refine lv_aload_n K.1.1 K.1.2.1 dX11_orderOf_30 rfl (lv_at hl 0 rfl) ?_
      refine m_geti K hP (by decide) sh_259 rfl tuX11 3 (by decide) rfl q_1153 dX11_orderOf_31 ?_
      refine lv_topi (fun g_4 eg_4 => ?_)
      refine lv_if_ne (tgt := 50) K.1.1 K.1.2.1 dX11_orderOf_34 (by decide) (fun c_34 => ?_) (fun c_34 => ?_)
      · exact absurd c_34 (not_not_intro (by subst er_1 er_2 eg_4; rw [up2_s]))
      · refine lv_aload_n K.1.1 K.1.2.1 dX11_orderOf_37 rfl (lv_at hl 0 rfl) ?_
        refine lv_aload_n K.1.1 K.1.2.1 dX11_orderOf_38 rfl (lv_at hl 0 rfl) ?_
        refine lv_iload_n K.1.1 K.1.2.1 dX11_orderOf_39 rfl (lv_at hl 1 rfl) ?_
        refine m_cV (n := 1) (As := [.int x]) (rest := [.ref (B + 259)]) K hP hS (MX11_find l G B _ x (by subst er_1 er_2 eg_4; exact MI_ne hI (by decide))) (by decide) sh_259 rfl q_1303 q_1305 q_40 q_91 q_1306 hv_X11_find ⟨Nat.le_of_ble_eq_true rfl, Nat.le_of_ble_eq_true rfl⟩ rfl hl.1 rfl (Nat.le_of_ble_eq_true rfl) dX11_orderOf_40 ⟨Nat.zero_le _, Nat.zero_le _⟩ (fun H locs hP hS => ?_)
        refine lv_topi (fun r_5 er_5 => ?_)
        refine lv_iload_n K.1.1 K.1.2.1 dX11_orderOf_43 rfl (lv_at hl 2 rfl) ?_
        refine m_cV (n := 2) (As := [.int r_5, .int w]) (rest := []) K hP hS (MX11_tellsOrder l G B _ r_5 w (by subst er_1 er_2 eg_4 er_5; exact MI_ne hI (by decide)) (by subst er_1 er_2 eg_4 er_5; exact (find_vp (MI_ne hI (by decide)) (by rw [find_260 (up2_k _ _ (by decide))]; exact Int32.not_lt.mpr c_6))) (wI_vp (n := 4) (by subst er_1 er_2 eg_4 er_5; exact c_19))) (by decide) sh_259 rfl q_1415 q_1417 q_65 q_91 q_1418 hv_X11_tellsOrder ⟨Nat.le_of_ble_eq_true rfl, Nat.le_of_ble_eq_true rfl⟩ rfl hl.1 rfl (Nat.le_of_ble_eq_true rfl) dX11_orderOf_44 ⟨Nat.zero_le _, Nat.zero_le _⟩ (fun H locs hP hS => ?_)
        refine lv_topi (fun r_6 er_6 => ?_)
        refine lv_goto (tgt := 51) K.1.1 K.1.2.1 dX11_orderOf_47 (by decide) ?_
        exact m_iret K hr hlocks hP hS dX11_orderOf_51 (by subst er_1 er_2 eg_4 er_5 er_6; rw [M_orderOf, M_ask, show M_orErr μ x w = 0 from (if_neg (Int32.not_lt.mpr c_6)).trans (if_neg c_19), if_pos rfl]; first | done | rfl) (by subst er_1 er_2 eg_4 er_5 er_6; rw [M_orderOf, M_ask, show M_orErr μ x w = 0 from (if_neg (Int32.not_lt.mpr c_6)).trans (if_neg c_19), if_pos rfl]; first | done | rfl)
  · refine lv_iconst (v := 1) K.1.1 K.1.2.1 dX11_orderOf_9 (by decide) ?_
    refine lv_goto (tgt := 27) K.1.1 K.1.2.1 dX11_orderOf_10 (by decide) ?_
    refine m_puti K hP hS (by decide) sh_259 rfl tuX11 tyX11 tyX11_ok nmX11 3 (by decide) rfl rfl (by decide +kernel) q_1153 dX11_orderOf_27 (fun H locs hP hS => ?_)
    refine lv_aload_n K.1.1 K.1.2.1 dX11_orderOf_30 rfl (lv_at hl 0 rfl) ?_
    refine m_geti K hP (by decide) sh_259 rfl tuX11 3 (by decide) rfl q_1153 dX11_orderOf_31 ?_
    refine lv_topi (fun g_7 eg_7 => ?_)
    refine lv_if_ne (tgt := 50) K.1.1 K.1.2.1 dX11_orderOf_34 (by decide) (fun c_34 => ?_) (fun c_34 => ?_)
    · refine lv_iconst (v := 0) K.1.1 K.1.2.1 dX11_orderOf_50 (by decide) ?_
      exact m_iret K hr hlocks hP hS dX11_orderOf_51 (by subst er_1 eg_7; rw [M_orderOf, M_ask, show M_orErr μ x w = 1 from if_pos (Int32.not_le.mp c_6)]; rfl) (by subst er_1 eg_7; rw [M_orderOf, M_ask, show M_orErr μ x w = 1 from if_pos (Int32.not_le.mp c_6)]; rfl)
    · exact absurd c_34 (by subst er_1 eg_7; rw [up2_s]; decide)

set_option maxHeartbeats 4000000 in
set_option maxRecDepth 100000 in
theorem MX11_trade (l : Launch) (G : GG) (B : Nat) (μ : Mm) (i : Int32) (w : Int32) (hI : MI μ) : CM l yX11_trade (.code yX11_trade cX11_trade 3 (Option.some FieldType.int)) 1 22 G B [.ref (B + 259), .int i, .int w] μ (some (.int ((M_trade μ i w).2))) ((M_trade μ i w).1) := by
  refine CM.of (by decide) (Nat.le_of_ble_eq_true rfl) ?_
  intro p e s m below meth c ls K hr hlocks hP hl
  have hS : va_S (AA B) s.heap s.heap [] := va_S.rf
  have hl : lv_has ls 3 [(0, .ref (B + 259)), (1, .int i), (2, .int w)] := hl
  refine lv_aload_n K.1.1 K.1.2.1 dX11_trade_0 rfl (lv_at hl 0 rfl) ?_
  refine lv_iload_n K.1.1 K.1.2.1 dX11_trade_1 rfl (lv_at hl 1 rfl) ?_
  refine lv_if_lt (tgt := 18) K.1.1 K.1.2.1 dX11_trade_2 (by decide) (fun c_2 => ?_) (fun c_2 => ?_)
  · refine lv_iconst (v := 1) K.1.1 K.1.2.1 dX11_trade_18 (by decide) ?_
    refine m_puti K hP hS (by decide) sh_259 rfl tuX11 tyX11 tyX11_ok nmX11 3 (by decide) rfl rfl (by decide +kernel) q_1153 dX11_trade_19 (fun H locs hP hS => ?_)
    refine lv_aload_n K.1.1 K.1.2.1 dX11_trade_22 rfl (lv_at hl 0 rfl) ?_
    refine m_geti K hP (by decide) sh_259 rfl tuX11 3 (by decide) rfl q_1153 dX11_trade_23 ?_
    refine lv_topi (fun g_1 eg_1 => ?_)
    refine lv_if_eq (tgt := 31) K.1.1 K.1.2.1 dX11_trade_26 (by decide) (fun c_26 => ?_) (fun c_26 => ?_)
    · exact absurd c_26 (by subst eg_1; rw [up2_s]; decide)
    · refine lv_iconst (v := 0) K.1.1 K.1.2.1 dX11_trade_29 (by decide) ?_
      exact m_iret K hr hlocks hP hS dX11_trade_30 (by subst eg_1; rw [M_trade, M_ask, show M_tdErr i w = 1 from if_pos c_2]; rfl) (by subst eg_1; rw [M_trade, M_ask, show M_tdErr i w = 1 from if_pos c_2]; rfl)
  · refine lv_iload_n K.1.1 K.1.2.1 dX11_trade_5 rfl (lv_at hl 2 rfl) ?_
    refine lv_iconst (v := 0) K.1.1 K.1.2.1 dX11_trade_6 (by decide) ?_
    refine lv_iconst (v := 4) K.1.1 K.1.2.1 dX11_trade_7 (by decide) ?_
    refine m_cS (n := 3) (As := [.int w, .int 0, .int 4]) (rest := [.ref (B + 259)]) K hP hS (MX11_isIn l G B _ w 0 4 ) q_1213 q_1214 q_91 q_1215 hv_X11_isIn ⟨Nat.le_of_ble_eq_true rfl, Nat.le_of_ble_eq_true rfl⟩ rfl hl.1 rfl (Nat.le_of_ble_eq_true rfl) dX11_trade_8 ⟨Nat.zero_le _, Nat.zero_le _⟩ (fun H locs hP hS => ?_)
    refine lv_topi (fun r_2 er_2 => ?_)
    refine lv_if_eq (tgt := 18) K.1.1 K.1.2.1 dX11_trade_11 (by decide) (fun c_11 => ?_) (fun c_11 => ?_)
    · refine lv_iconst (v := 1) K.1.1 K.1.2.1 dX11_trade_18 (by decide) ?_
      refine m_puti K hP hS (by decide) sh_259 rfl tuX11 tyX11 tyX11_ok nmX11 3 (by decide) rfl rfl (by decide +kernel) q_1153 dX11_trade_19 (fun H locs hP hS => ?_)
      refine lv_aload_n K.1.1 K.1.2.1 dX11_trade_22 rfl (lv_at hl 0 rfl) ?_
      refine m_geti K hP (by decide) sh_259 rfl tuX11 3 (by decide) rfl q_1153 dX11_trade_23 ?_
      refine lv_topi (fun g_3 eg_3 => ?_)
      refine lv_if_eq (tgt := 31) K.1.1 K.1.2.1 dX11_trade_26 (by decide) (fun c_26 => ?_) (fun c_26 => ?_)
      · exact absurd c_26 (by subst er_2 eg_3; rw [up2_s]; decide)
      · refine lv_iconst (v := 0) K.1.1 K.1.2.1 dX11_trade_29 (by decide) ?_
        exact m_iret K hr hlocks hP hS dX11_trade_30 (by subst er_2 eg_3; rw [M_trade, M_ask, show M_tdErr i w = 1 from (if_neg c_2).trans (if_pos c_11)]; rfl) (by subst er_2 eg_3; rw [M_trade, M_ask, show M_tdErr i w = 1 from (if_neg c_2).trans (if_pos c_11)]; rfl)
    · refine lv_iconst (v := 0) K.1.1 K.1.2.1 dX11_trade_14 (by decide) ?_
      refine lv_goto (tgt := 19) K.1.1 K.1.2.1 dX11_trade_15 (by decide) ?_
      refine m_puti K hP hS (by decide) sh_259 rfl tuX11 tyX11 tyX11_ok nmX11 3 (by decide) rfl rfl (by decide +kernel) q_1153 dX11_trade_19 (fun H locs hP hS => ?_)
      refine lv_aload_n K.1.1 K.1.2.1 dX11_trade_22 rfl (lv_at hl 0 rfl) ?_
      refine m_geti K hP (by decide) sh_259 rfl tuX11 3 (by decide) rfl q_1153 dX11_trade_23 ?_
      refine lv_topi (fun g_4 eg_4 => ?_)
      refine lv_if_eq (tgt := 31) K.1.1 K.1.2.1 dX11_trade_26 (by decide) (fun c_26 => ?_) (fun c_26 => ?_)
      · refine lv_iload_n K.1.1 K.1.2.1 dX11_trade_31 rfl (lv_at hl 1 rfl) ?_
        refine lv_aload_n K.1.1 K.1.2.1 dX11_trade_32 rfl (lv_at hl 0 rfl) ?_
        refine m_getr K hP (by decide) sh_259 rfl tuX11 0 (by decide) rfl q_1150 dX11_trade_33 ?_
        refine lv_bipush (v := 9) K.1.1 K.1.2.1 dX11_trade_36 (by decide) ?_
        refine m_iald K hP (by decide) sh_260 (n := 267) (vpd rfl) dX11_trade_38 ?_
        refine lv_topi (fun g_5 eg_5 => ?_)
        have eg_5 : g_5 = (_ : Mm) 260 9 := eg_5
        refine lv_icmp_ge (tgt := 59) K.1.1 K.1.2.1 dX11_trade_39 (by decide) (fun c_39 => ?_) (fun c_39 => ?_)
        · refine lv_sipush (v := (-10000)) K.1.1 K.1.2.1 dX11_trade_59 (by decide) ?_
          exact m_iret K hr hlocks hP hS dX11_trade_62 (by subst er_2 eg_4 eg_5; rw [M_trade, M_ask, show M_tdErr i w = 0 from (if_neg c_2).trans (if_neg c_11), if_pos rfl]; dsimp only; rw [M_tells_td, if_neg (show ¬ i < (M_thr μ 0) 260 9 from Int32.not_lt.mpr c_39)]; first | done | rfl) (by subst er_2 eg_4 eg_5; rw [M_trade, M_ask, show M_tdErr i w = 0 from (if_neg c_2).trans (if_neg c_11), if_pos rfl]; first | done | rfl)
        · refine lv_aload_n K.1.1 K.1.2.1 dX11_trade_42 rfl (lv_at hl 0 rfl) ?_
          refine m_getr K hP (by decide) sh_259 rfl tuX11 0 (by decide) rfl q_1150 dX11_trade_43 ?_
          refine lv_sipush (v := 167) K.1.1 K.1.2.1 dX11_trade_46 (by decide) ?_
          refine lv_iconst (v := 5) K.1.1 K.1.2.1 dX11_trade_49 (by decide) ?_
          refine lv_iload_n K.1.1 K.1.2.1 dX11_trade_50 rfl (lv_at hl 1 rfl) ?_
          refine lv_imul K.1.1 K.1.2.1 dX11_trade_51 ?_
          refine lv_iadd K.1.1 K.1.2.1 dX11_trade_52 ?_
          refine lv_iload_n K.1.1 K.1.2.1 dX11_trade_53 rfl (lv_at hl 2 rfl) ?_
          refine lv_iadd K.1.1 K.1.2.1 dX11_trade_54 ?_
          refine m_iald K hP (by decide) sh_260 (n := 267) (by subst er_2 eg_4 eg_5; exact td_vp hI c_2 (by rw [up2_k _ _ (by decide)] at c_39; exact c_39) c_11) dX11_trade_55 ?_
          refine lv_topi (fun g_6 eg_6 => ?_)
          have eg_6 : g_6 = (_ : Mm) 260 (cn (((167 + (5 * i)) + w))) := eg_6
          refine lv_goto (tgt := 62) K.1.1 K.1.2.1 dX11_trade_56 (by decide) ?_
          exact m_iret K hr hlocks hP hS dX11_trade_62 (by subst er_2 eg_4 eg_5 eg_6; rw [M_trade, M_ask, show M_tdErr i w = 0 from (if_neg c_2).trans (if_neg c_11), if_pos rfl]; dsimp only; rw [M_tells_td, if_pos (show i < (M_thr μ 0) 260 9 from Int32.not_le.mp c_39)]; first | done | rfl) (by subst er_2 eg_4 eg_5 eg_6; rw [M_trade, M_ask, show M_tdErr i w = 0 from (if_neg c_2).trans (if_neg c_11), if_pos rfl]; first | done | rfl)
      · exact absurd c_26 (not_not_intro (by subst er_2 eg_4; rw [up2_s]))

set_option maxHeartbeats 4000000 in
set_option maxRecDepth 100000 in
theorem MX11_at (l : Launch) (G : GG) (B : Nat) (μ : Mm) (pr : Int32) (w : Int32) (hI : MI μ) : CM l yX11_at (.code yX11_at cX11_at 3 (Option.some FieldType.int)) 5 112 G B [.ref (B + 259), .int pr, .int w] μ (some (.int ((M_at μ pr w).2))) ((M_at μ pr w).1) := by
  refine CM.of (by decide) (Nat.le_of_ble_eq_true rfl) ?_
  intro p e s m below meth c ls K hr hlocks hP hl
  have hS : va_S (AA B) s.heap s.heap [] := va_S.rf
  have hl : lv_has ls 3 [(0, .ref (B + 259)), (1, .int pr), (2, .int w)] := hl
  refine lv_aload_n K.1.1 K.1.2.1 dX11_at_0 rfl (lv_at hl 0 rfl) ?_
  refine lv_iload_n K.1.1 K.1.2.1 dX11_at_1 rfl (lv_at hl 1 rfl) ?_
  refine lv_iconst (v := 1) K.1.1 K.1.2.1 dX11_at_2 (by decide) ?_
  refine lv_bipush (v := 120) K.1.1 K.1.2.1 dX11_at_3 (by decide) ?_
  refine m_cS (n := 3) (As := [.int pr, .int 1, .int 120]) (rest := [.ref (B + 259)]) K hP hS (MX11_isIn l G B _ pr 1 120 ) q_1213 q_1214 q_91 q_1215 hv_X11_isIn ⟨Nat.le_of_ble_eq_true rfl, Nat.le_of_ble_eq_true rfl⟩ rfl hl.1 rfl (Nat.le_of_ble_eq_true rfl) dX11_at_5 ⟨Nat.zero_le _, Nat.zero_le _⟩ (fun H locs hP hS => ?_)
  refine lv_topi (fun r_1 er_1 => ?_)
  refine lv_if_eq (tgt := 24) K.1.1 K.1.2.1 dX11_at_8 (by decide) (fun c_8 => ?_) (fun c_8 => ?_)
  · refine lv_iconst (v := 1) K.1.1 K.1.2.1 dX11_at_24 (by decide) ?_
    refine m_puti K hP hS (by decide) sh_259 rfl tuX11 tyX11 tyX11_ok nmX11 3 (by decide) rfl rfl (by decide +kernel) q_1153 dX11_at_25 (fun H locs hP hS => ?_)
    refine lv_aload_n K.1.1 K.1.2.1 dX11_at_28 rfl (lv_at hl 0 rfl) ?_
    refine m_geti K hP (by decide) sh_259 rfl tuX11 3 (by decide) rfl q_1153 dX11_at_29 ?_
    refine lv_topi (fun g_2 eg_2 => ?_)
    refine lv_if_eq (tgt := 37) K.1.1 K.1.2.1 dX11_at_32 (by decide) (fun c_32 => ?_) (fun c_32 => ?_)
    · exact absurd c_32 (by subst er_1 eg_2; rw [up2_s]; decide)
    · refine lv_iconst (v := 0) K.1.1 K.1.2.1 dX11_at_35 (by decide) ?_
      exact m_iret K hr hlocks hP hS dX11_at_36 (by subst er_1 eg_2; rw [M_at, M_ask, show M_atErr pr w = 1 from if_pos c_8]; rfl) (by subst er_1 eg_2; rw [M_at, M_ask, show M_atErr pr w = 1 from if_pos c_8]; rfl)
  · refine lv_iload_n K.1.1 K.1.2.1 dX11_at_11 rfl (lv_at hl 2 rfl) ?_
    refine lv_iconst (v := 0) K.1.1 K.1.2.1 dX11_at_12 (by decide) ?_
    refine lv_iconst (v := 2) K.1.1 K.1.2.1 dX11_at_13 (by decide) ?_
    refine m_cS (n := 3) (As := [.int w, .int 0, .int 2]) (rest := [.ref (B + 259)]) K hP hS (MX11_isIn l G B _ w 0 2 ) q_1213 q_1214 q_91 q_1215 hv_X11_isIn ⟨Nat.le_of_ble_eq_true rfl, Nat.le_of_ble_eq_true rfl⟩ rfl hl.1 rfl (Nat.le_of_ble_eq_true rfl) dX11_at_14 ⟨Nat.zero_le _, Nat.zero_le _⟩ (fun H locs hP hS => ?_)
    refine lv_topi (fun r_3 er_3 => ?_)
    refine lv_if_eq (tgt := 24) K.1.1 K.1.2.1 dX11_at_17 (by decide) (fun c_17 => ?_) (fun c_17 => ?_)
    · refine lv_iconst (v := 1) K.1.1 K.1.2.1 dX11_at_24 (by decide) ?_
      refine m_puti K hP hS (by decide) sh_259 rfl tuX11 tyX11 tyX11_ok nmX11 3 (by decide) rfl rfl (by decide +kernel) q_1153 dX11_at_25 (fun H locs hP hS => ?_)
      refine lv_aload_n K.1.1 K.1.2.1 dX11_at_28 rfl (lv_at hl 0 rfl) ?_
      refine m_geti K hP (by decide) sh_259 rfl tuX11 3 (by decide) rfl q_1153 dX11_at_29 ?_
      refine lv_topi (fun g_4 eg_4 => ?_)
      refine lv_if_eq (tgt := 37) K.1.1 K.1.2.1 dX11_at_32 (by decide) (fun c_32 => ?_) (fun c_32 => ?_)
      · exact absurd c_32 (by subst er_1 er_3 eg_4; rw [up2_s]; decide)
      · refine lv_iconst (v := 0) K.1.1 K.1.2.1 dX11_at_35 (by decide) ?_
        exact m_iret K hr hlocks hP hS dX11_at_36 (by subst er_1 er_3 eg_4; rw [M_at, M_ask, show M_atErr pr w = 1 from (if_neg c_8).trans (if_pos c_17)]; rfl) (by subst er_1 er_3 eg_4; rw [M_at, M_ask, show M_atErr pr w = 1 from (if_neg c_8).trans (if_pos c_17)]; rfl)
    · refine lv_iconst (v := 0) K.1.1 K.1.2.1 dX11_at_20 (by decide) ?_
      refine lv_goto (tgt := 25) K.1.1 K.1.2.1 dX11_at_21 (by decide) ?_
      refine m_puti K hP hS (by decide) sh_259 rfl tuX11 tyX11 tyX11_ok nmX11 3 (by decide) rfl rfl (by decide +kernel) q_1153 dX11_at_25 (fun H locs hP hS => ?_)
      refine lv_aload_n K.1.1 K.1.2.1 dX11_at_28 rfl (lv_at hl 0 rfl) ?_
      refine m_geti K hP (by decide) sh_259 rfl tuX11 3 (by decide) rfl q_1153 dX11_at_29 ?_
      refine lv_topi (fun g_5 eg_5 => ?_)
      refine lv_if_eq (tgt := 37) K.1.1 K.1.2.1 dX11_at_32 (by decide) (fun c_32 => ?_) (fun c_32 => ?_)
      · refine lv_iload_n K.1.1 K.1.2.1 dX11_at_37 rfl (lv_at hl 2 rfl) ?_
        refine lv_iconst (v := 2) K.1.1 K.1.2.1 dX11_at_38 (by decide) ?_
        refine lv_icmp_ne (tgt := 50) K.1.1 K.1.2.1 dX11_at_39 (by decide) (fun c_39 => ?_) (fun c_39 => ?_)
        · refine lv_aload_n K.1.1 K.1.2.1 dX11_at_50 rfl (lv_at hl 0 rfl) ?_
          refine lv_iload_n K.1.1 K.1.2.1 dX11_at_51 rfl (lv_at hl 2 rfl) ?_
          refine lv_iload_n K.1.1 K.1.2.1 dX11_at_52 rfl (lv_at hl 1 rfl) ?_
          refine m_cV (n := 2) (As := [.int w, .int pr]) (rest := []) K hP hS (MX11_unitsAt l G B _ w pr (by subst er_1 er_3 eg_5; exact MI_ne hI (by decide))) (by decide) sh_259 rfl q_1335 q_1337 q_47 q_91 q_1338 hv_X11_unitsAt ⟨Nat.le_of_ble_eq_true rfl, Nat.le_of_ble_eq_true rfl⟩ rfl hl.1 rfl (Nat.le_of_ble_eq_true rfl) dX11_at_53 ⟨Nat.zero_le _, Nat.zero_le _⟩ (fun H locs hP hS => ?_)
          refine lv_topi (fun r_6 er_6 => ?_)
          exact m_iret K hr hlocks hP hS dX11_at_56 (by subst er_1 er_3 eg_5 er_6; rw [M_at, M_ask, show M_atErr pr w = 0 from (if_neg c_8).trans (if_neg c_17), if_pos rfl]; dsimp only; rw [M_tellsAt, if_neg c_39]; first | done | rfl) (by subst er_1 er_3 eg_5 er_6; rw [M_at, M_ask, show M_atErr pr w = 0 from (if_neg c_8).trans (if_neg c_17), if_pos rfl]; first | done | rfl)
        · refine lv_aload_n K.1.1 K.1.2.1 dX11_at_42 rfl (lv_at hl 0 rfl) ?_
          refine lv_iload_n K.1.1 K.1.2.1 dX11_at_43 rfl (lv_at hl 1 rfl) ?_
          refine m_cV (n := 1) (As := [.int pr]) (rest := []) K hP hS (MX11_volumeAt l G B _ pr (by subst er_1 er_3 eg_5; exact MI_ne hI (by decide))) (by decide) sh_259 rfl q_1331 q_1333 q_46 q_91 q_1334 hv_X11_volumeAt ⟨Nat.le_of_ble_eq_true rfl, Nat.le_of_ble_eq_true rfl⟩ rfl hl.1 rfl (Nat.le_of_ble_eq_true rfl) dX11_at_44 ⟨Nat.zero_le _, Nat.zero_le _⟩ (fun H locs hP hS => ?_)
          refine lv_topi (fun r_7 er_7 => ?_)
          refine lv_goto (tgt := 56) K.1.1 K.1.2.1 dX11_at_47 (by decide) ?_
          exact m_iret K hr hlocks hP hS dX11_at_56 (by subst er_1 er_3 eg_5 er_7; rw [M_at, M_ask, show M_atErr pr w = 0 from (if_neg c_8).trans (if_neg c_17), if_pos rfl]; dsimp only; rw [M_tellsAt, if_pos c_39]; first | done | rfl) (by subst er_1 er_3 eg_5 er_7; rw [M_at, M_ask, show M_atErr pr w = 0 from (if_neg c_8).trans (if_neg c_17), if_pos rfl]; first | done | rfl)
      · exact absurd c_32 (not_not_intro (by subst er_1 er_3 eg_5; rw [up2_s]))

set_option maxHeartbeats 4000000 in
set_option maxRecDepth 100000 in
theorem MX11_share (l : Launch) (G : GG) (B : Nat) (μ : Mm) (su : Int32) (gr : Int32) : CM l yX11_share (.code yX11_share cX11_share 2 (Option.some FieldType.int)) 0 0 G B [.int su, .int gr] μ (some (.int (M_share su gr))) μ := by
  refine CM.of (by decide) (Nat.le_of_ble_eq_true rfl) ?_
  intro p e s m below meth c ls K hr hlocks hP hl
  have hS : va_S (AA B) s.heap s.heap [] := va_S.rf
  have hl : lv_has ls 2 [(0, .int su), (1, .int gr)] := hl
  refine lv_iload_n K.1.1 K.1.2.1 dX11_share_0 rfl (lv_at hl 0 rfl) ?_
  refine lv_if_ge (tgt := 6) K.1.1 K.1.2.1 dX11_share_1 (by decide) (fun c_1 => ?_) (fun c_1 => ?_)
  · refine lv_iload_n K.1.1 K.1.2.1 dX11_share_6 rfl (lv_at hl 1 rfl) ?_
    refine lv_if_ne (tgt := 15) K.1.1 K.1.2.1 dX11_share_7 (by decide) (fun c_7 => ?_) (fun c_7 => ?_)
    · refine lv_iload_n K.1.1 K.1.2.1 dX11_share_15 rfl (lv_at hl 0 rfl) ?_
      refine lv_bipush (v := 100) K.1.1 K.1.2.1 dX11_share_16 (by decide) ?_
      refine lv_imul K.1.1 K.1.2.1 dX11_share_18 ?_
      refine lv_iload_n K.1.1 K.1.2.1 dX11_share_19 rfl (lv_at hl 1 rfl) ?_
      refine lv_idiv K.1.1 K.1.2.1 dX11_share_20 c_7 ?_
      exact m_iret K hr hlocks hP hS dX11_share_21 (by skip; first | (simp only [M_share, c_1, Int32.not_lt.mpr c_1, c_7, if_true, if_false, ite_true, ite_false, reduceIte, not_true, not_false_iff]; done) | simp [M_share, c_1, Int32.not_lt.mpr c_1, c_7]) rfl
    · refine lv_bipush (v := 100) K.1.1 K.1.2.1 dX11_share_10 (by decide) ?_
      refine lv_goto (tgt := 21) K.1.1 K.1.2.1 dX11_share_12 (by decide) ?_
      exact m_iret K hr hlocks hP hS dX11_share_21 (by skip; first | (simp only [M_share, c_1, Int32.not_lt.mpr c_1, c_7, if_true, if_false, ite_true, ite_false, reduceIte, not_true, not_false_iff]; done) | simp [M_share, c_1, Int32.not_lt.mpr c_1, c_7]) rfl
  · refine lv_iconst (v := 0) K.1.1 K.1.2.1 dX11_share_4 (by decide) ?_
    exact m_iret K hr hlocks hP hS dX11_share_5 (by skip; first | (simp only [M_share, c_1, Int32.not_le.mp c_1, if_true, if_false, ite_true, ite_false, reduceIte, not_true, not_false_iff]; done) | simp [M_share, c_1, Int32.not_le.mp c_1]) rfl

set_option maxHeartbeats 4000000 in
set_option maxRecDepth 100000 in
theorem MX11_tellsNow (l : Launch) (G : GG) (B : Nat) (μ : Mm) (w : Int32) (hI : MI μ) (hg : M_grok (M_finds μ)) : CM l yX11_tellsNow (.code yX11_tellsNow cX11_tellsNow 2 (Option.some FieldType.int)) 6 136 G B [.ref (B + 259), .int w] μ (some (.int ((M_tellsNow μ w).2))) ((M_tellsNow μ w).1) := by
  refine CM.of (by decide) (Nat.le_of_ble_eq_true rfl) ?_
  intro p e s m below meth c ls K hr hlocks hP hl
  have hS : va_S (AA B) s.heap s.heap [] := va_S.rf
  have hl : lv_has ls 2 [(0, .ref (B + 259)), (1, .int w)] := hl
  refine lv_aload_n K.1.1 K.1.2.1 dX11_tellsNow_0 rfl (lv_at hl 0 rfl) ?_
  refine m_cV (n := 0) (As := []) (rest := []) K hP hS (MX11_finds l G B _  hI) (by decide) sh_259 rfl q_1327 q_1329 q_45 q_91 q_1330 hv_X11_finds ⟨Nat.le_of_ble_eq_true rfl, Nat.le_of_ble_eq_true rfl⟩ rfl hl.1 rfl (Nat.le_of_ble_eq_true rfl) dX11_tellsNow_1 ⟨Nat.zero_le _, Nat.zero_le _⟩ (fun H locs hP hS => ?_)
  refine W.eq (g2 := F0 m 4 ls []) rfl ?_
  refine lv_iload_n K.1.1 K.1.2.1 dX11_tellsNow_4 rfl (lv_at hl 1 rfl) ?_
  by_cases w_1 : w = 0
  · refine lv_tableIn (off := 39) (tgt := 44) K.1.1 K.1.2.1 dX11_tellsNow_5 (by rw [w_1]; decide) (by rw [w_1]; decide) (by rw [w_1]; rfl) (by decide) ?_
    refine lv_aload_n K.1.1 K.1.2.1 dX11_tellsNow_44 rfl (lv_at hl 0 rfl) ?_
    refine m_geti K hP (by decide) sh_259 rfl tuX11 4 (by decide) rfl q_1154 dX11_tellsNow_45 ?_
    refine lv_topi (fun g_2 eg_2 => ?_)
    exact m_iret K hr hlocks hP hS dX11_tellsNow_48 (by subst eg_2; show some (Value.int (M_nowVal (M_finds μ) w)) = _; rw [M_nowVal, if_pos w_1]) (by subst eg_2; rfl)
  by_cases w_3 : w = 1
  · refine lv_tableIn (off := 44) (tgt := 49) K.1.1 K.1.2.1 dX11_tellsNow_5 (by rw [w_3]; decide) (by rw [w_3]; decide) (by rw [w_3]; rfl) (by decide) ?_
    refine lv_aload_n K.1.1 K.1.2.1 dX11_tellsNow_49 rfl (lv_at hl 0 rfl) ?_
    refine m_geti K hP (by decide) sh_259 rfl tuX11 5 (by decide) rfl q_1155 dX11_tellsNow_50 ?_
    refine lv_topi (fun g_4 eg_4 => ?_)
    exact m_iret K hr hlocks hP hS dX11_tellsNow_53 (by subst eg_4; show some (Value.int (M_nowVal (M_finds μ) w)) = _; rw [M_nowVal, if_neg w_1, if_pos w_3]) (by subst eg_4; rfl)
  by_cases w_5 : w = 2
  · refine lv_tableIn (off := 49) (tgt := 54) K.1.1 K.1.2.1 dX11_tellsNow_5 (by rw [w_5]; decide) (by rw [w_5]; decide) (by rw [w_5]; rfl) (by decide) ?_
    refine lv_aload_n K.1.1 K.1.2.1 dX11_tellsNow_54 rfl (lv_at hl 0 rfl) ?_
    refine m_geti K hP (by decide) sh_259 rfl tuX11 6 (by decide) rfl q_1156 dX11_tellsNow_55 ?_
    refine lv_topi (fun g_6 eg_6 => ?_)
    exact m_iret K hr hlocks hP hS dX11_tellsNow_58 (by subst eg_6; show some (Value.int (M_nowVal (M_finds μ) w)) = _; rw [M_nowVal, if_neg w_1, if_neg w_3, if_pos w_5]) (by subst eg_6; rfl)
  by_cases w_7 : w = 3
  · refine lv_tableIn (off := 54) (tgt := 59) K.1.1 K.1.2.1 dX11_tellsNow_5 (by rw [w_7]; decide) (by rw [w_7]; decide) (by rw [w_7]; rfl) (by decide) ?_
    refine lv_aload_n K.1.1 K.1.2.1 dX11_tellsNow_59 rfl (lv_at hl 0 rfl) ?_
    refine m_geti K hP (by decide) sh_259 rfl tuX11 7 (by decide) rfl q_1157 dX11_tellsNow_60 ?_
    refine lv_topi (fun g_8 eg_8 => ?_)
    exact m_iret K hr hlocks hP hS dX11_tellsNow_63 (by subst eg_8; show some (Value.int (M_nowVal (M_finds μ) w)) = _; rw [M_nowVal, if_neg w_1, if_neg w_3, if_neg w_5, if_pos w_7]) (by subst eg_8; rfl)
  by_cases w_9 : w = 4
  · refine lv_tableIn (off := 59) (tgt := 64) K.1.1 K.1.2.1 dX11_tellsNow_5 (by rw [w_9]; decide) (by rw [w_9]; decide) (by rw [w_9]; rfl) (by decide) ?_
    refine lv_aload_n K.1.1 K.1.2.1 dX11_tellsNow_64 rfl (lv_at hl 0 rfl) ?_
    refine m_cV (n := 0) (As := []) (rest := []) K hP hS (MX11_surplusNow l G B _  (MI_finds hI)) (by decide) sh_259 rfl q_1371 q_1373 q_56 q_91 q_1374 hv_X11_surplusNow ⟨Nat.le_of_ble_eq_true rfl, Nat.le_of_ble_eq_true rfl⟩ rfl hl.1 rfl (Nat.le_of_ble_eq_true rfl) dX11_tellsNow_65 ⟨Nat.zero_le _, Nat.zero_le _⟩ (fun H locs hP hS => ?_)
    refine lv_topi (fun r_10 er_10 => ?_)
    exact m_iret K hr hlocks hP hS dX11_tellsNow_68 (by subst er_10; show some (Value.int (M_nowVal (M_finds μ) w)) = _; rw [M_nowVal, if_neg w_1, if_neg w_3, if_neg w_5, if_neg w_7, if_pos w_9]) (by subst er_10; rfl)
  by_cases w_11 : w = 5
  · refine lv_tableIn (off := 64) (tgt := 69) K.1.1 K.1.2.1 dX11_tellsNow_5 (by rw [w_11]; decide) (by rw [w_11]; decide) (by rw [w_11]; rfl) (by decide) ?_
    refine lv_aload_n K.1.1 K.1.2.1 dX11_tellsNow_69 rfl (lv_at hl 0 rfl) ?_
    refine m_cV (n := 0) (As := []) (rest := []) K hP hS (MX11_greatest l G B _  (MI_finds hI) hg) (by decide) sh_259 rfl q_1435 q_1437 q_67 q_91 q_1438 hv_X11_greatest ⟨Nat.le_of_ble_eq_true rfl, Nat.le_of_ble_eq_true rfl⟩ rfl hl.1 rfl (Nat.le_of_ble_eq_true rfl) dX11_tellsNow_70 ⟨Nat.zero_le _, Nat.zero_le _⟩ (fun H locs hP hS => ?_)
    refine lv_topi (fun r_12 er_12 => ?_)
    exact m_iret K hr hlocks hP hS dX11_tellsNow_73 (by subst er_12; show some (Value.int (M_nowVal (M_finds μ) w)) = _; rw [M_nowVal, if_neg w_1, if_neg w_3, if_neg w_5, if_neg w_7, if_neg w_9, if_pos w_11]) (by subst er_12; rfl)
  refine lv_tableOut (tgt := 74) K.1.1 K.1.2.1 dX11_tellsNow_5 (sw_out_0_5 w_1 w_3 w_5 w_7 w_9 w_11) (by decide) ?_
  refine lv_aload_n K.1.1 K.1.2.1 dX11_tellsNow_74 rfl (lv_at hl 0 rfl) ?_
  refine m_cV (n := 0) (As := []) (rest := []) K hP hS (MX11_surplusNow l G B _  (MI_finds hI)) (by decide) sh_259 rfl q_1371 q_1373 q_56 q_91 q_1374 hv_X11_surplusNow ⟨Nat.le_of_ble_eq_true rfl, Nat.le_of_ble_eq_true rfl⟩ rfl hl.1 rfl (Nat.le_of_ble_eq_true rfl) dX11_tellsNow_75 ⟨Nat.zero_le _, Nat.zero_le _⟩ (fun H locs hP hS => ?_)
  refine lv_topi (fun r_13 er_13 => ?_)
  refine lv_aload_n K.1.1 K.1.2.1 dX11_tellsNow_78 rfl (lv_at hl 0 rfl) ?_
  refine m_cV (n := 0) (As := []) (rest := [.int r_13]) K hP hS (MX11_greatest l G B _  (MI_finds hI) hg) (by decide) sh_259 rfl q_1435 q_1437 q_67 q_91 q_1438 hv_X11_greatest ⟨Nat.le_of_ble_eq_true rfl, Nat.le_of_ble_eq_true rfl⟩ rfl hl.1 rfl (Nat.le_of_ble_eq_true rfl) dX11_tellsNow_79 ⟨Nat.zero_le _, Nat.zero_le _⟩ (fun H locs hP hS => ?_)
  refine lv_topi (fun r_14 er_14 => ?_)
  refine m_cS (n := 2) (As := [.int r_13, .int r_14]) (rest := []) K hP hS (MX11_share l G B _ r_13 r_14 ) q_1443 q_1444 q_91 q_1445 hv_X11_share ⟨Nat.le_of_ble_eq_true rfl, Nat.le_of_ble_eq_true rfl⟩ rfl hl.1 rfl (Nat.le_of_ble_eq_true rfl) dX11_tellsNow_82 ⟨Nat.zero_le _, Nat.zero_le _⟩ (fun H locs hP hS => ?_)
  refine lv_topi (fun r_15 er_15 => ?_)
  exact m_iret K hr hlocks hP hS dX11_tellsNow_85 (by subst er_13 er_14 er_15; show some (Value.int (M_nowVal (M_finds μ) w)) = _; rw [M_nowVal, if_neg w_1, if_neg w_3, if_neg w_5, if_neg w_7, if_neg w_9, if_neg w_11]) (by subst er_13 er_14 er_15; rfl)

set_option maxHeartbeats 4000000 in
set_option maxRecDepth 100000 in
theorem MX11_now (l : Launch) (G : GG) (B : Nat) (μ : Mm) (w : Int32) (hI : MI μ) (hg : M_grok (M_finds (M_thr μ 0))) : CM l yX11_now (.code yX11_now cX11_now 2 (Option.some FieldType.int)) 7 157 G B [.ref (B + 259), .int w] μ (some (.int ((M_now μ w).2))) ((M_now μ w).1) := by
  refine CM.of (by decide) (Nat.le_of_ble_eq_true rfl) ?_
  intro p e s m below meth c ls K hr hlocks hP hl
  have hS : va_S (AA B) s.heap s.heap [] := va_S.rf
  have hl : lv_has ls 2 [(0, .ref (B + 259)), (1, .int w)] := hl
  refine lv_aload_n K.1.1 K.1.2.1 dX11_now_0 rfl (lv_at hl 0 rfl) ?_
  refine lv_iload_n K.1.1 K.1.2.1 dX11_now_1 rfl (lv_at hl 1 rfl) ?_
  refine lv_iconst (v := 0) K.1.1 K.1.2.1 dX11_now_2 (by decide) ?_
  refine lv_bipush (v := 6) K.1.1 K.1.2.1 dX11_now_3 (by decide) ?_
  refine m_cS (n := 3) (As := [.int w, .int 0, .int 6]) (rest := [.ref (B + 259)]) K hP hS (MX11_isIn l G B _ w 0 6 ) q_1213 q_1214 q_91 q_1215 hv_X11_isIn ⟨Nat.le_of_ble_eq_true rfl, Nat.le_of_ble_eq_true rfl⟩ rfl hl.1 rfl (Nat.le_of_ble_eq_true rfl) dX11_now_5 ⟨Nat.zero_le _, Nat.zero_le _⟩ (fun H locs hP hS => ?_)
  refine lv_topi (fun r_1 er_1 => ?_)
  refine lv_if_eq (tgt := 15) K.1.1 K.1.2.1 dX11_now_8 (by decide) (fun c_8 => ?_) (fun c_8 => ?_)
  · refine lv_iconst (v := 1) K.1.1 K.1.2.1 dX11_now_15 (by decide) ?_
    refine m_puti K hP hS (by decide) sh_259 rfl tuX11 tyX11 tyX11_ok nmX11 3 (by decide) rfl rfl (by decide +kernel) q_1153 dX11_now_16 (fun H locs hP hS => ?_)
    refine lv_aload_n K.1.1 K.1.2.1 dX11_now_19 rfl (lv_at hl 0 rfl) ?_
    refine m_geti K hP (by decide) sh_259 rfl tuX11 3 (by decide) rfl q_1153 dX11_now_20 ?_
    refine lv_topi (fun g_2 eg_2 => ?_)
    refine lv_if_ne (tgt := 34) K.1.1 K.1.2.1 dX11_now_23 (by decide) (fun c_23 => ?_) (fun c_23 => ?_)
    · refine lv_iconst (v := 0) K.1.1 K.1.2.1 dX11_now_34 (by decide) ?_
      exact m_iret K hr hlocks hP hS dX11_now_35 (by subst er_1 eg_2; rw [M_now, M_ask, show (if wI w 0 6 = 0 then (1 : Int32) else 0) = 1 from if_pos c_8]; rfl) (by subst er_1 eg_2; rw [M_now, M_ask, show (if wI w 0 6 = 0 then (1 : Int32) else 0) = 1 from if_pos c_8]; rfl)
    · exact absurd c_23 (by subst er_1 eg_2; rw [up2_s]; decide)
  · refine lv_iconst (v := 0) K.1.1 K.1.2.1 dX11_now_11 (by decide) ?_
    refine lv_goto (tgt := 16) K.1.1 K.1.2.1 dX11_now_12 (by decide) ?_
    refine m_puti K hP hS (by decide) sh_259 rfl tuX11 tyX11 tyX11_ok nmX11 3 (by decide) rfl rfl (by decide +kernel) q_1153 dX11_now_16 (fun H locs hP hS => ?_)
    refine lv_aload_n K.1.1 K.1.2.1 dX11_now_19 rfl (lv_at hl 0 rfl) ?_
    refine m_geti K hP (by decide) sh_259 rfl tuX11 3 (by decide) rfl q_1153 dX11_now_20 ?_
    refine lv_topi (fun g_3 eg_3 => ?_)
    refine lv_if_ne (tgt := 34) K.1.1 K.1.2.1 dX11_now_23 (by decide) (fun c_23 => ?_) (fun c_23 => ?_)
    · exact absurd c_23 (not_not_intro (by subst er_1 eg_3; rw [up2_s]))
    · refine lv_aload_n K.1.1 K.1.2.1 dX11_now_26 rfl (lv_at hl 0 rfl) ?_
      refine lv_iload_n K.1.1 K.1.2.1 dX11_now_27 rfl (lv_at hl 1 rfl) ?_
      refine m_cV (n := 1) (As := [.int w]) (rest := []) K hP hS (MX11_tellsNow l G B _ w (by subst er_1 eg_3; exact MI_ne hI (by decide)) hg) (by decide) sh_259 rfl q_1431 q_1433 q_66 q_91 q_1434 hv_X11_tellsNow ⟨Nat.le_of_ble_eq_true rfl, Nat.le_of_ble_eq_true rfl⟩ rfl hl.1 rfl (Nat.le_of_ble_eq_true rfl) dX11_now_28 ⟨Nat.zero_le _, Nat.zero_le _⟩ (fun H locs hP hS => ?_)
      refine lv_topi (fun r_4 er_4 => ?_)
      refine lv_goto (tgt := 35) K.1.1 K.1.2.1 dX11_now_31 (by decide) ?_
      exact m_iret K hr hlocks hP hS dX11_now_35 (by subst er_1 eg_3 er_4; rw [M_now, M_ask, show (if wI w 0 6 = 0 then (1 : Int32) else 0) = 0 from if_neg c_8, if_pos rfl]; first | done | rfl) (by subst er_1 eg_3 er_4; rw [M_now, M_ask, show (if wI w 0 6 = 0 then (1 : Int32) else 0) = 0 from if_neg c_8, if_pos rfl]; first | done | rfl)

set_option maxHeartbeats 4000000 in
set_option maxRecDepth 100000 in
theorem MX11_tellsWhole (l : Launch) (G : GG) (B : Nat) (μ : Mm) (w : Int32) (hw : vp_in w 12) : CM l yX11_tellsWhole (.code yX11_tellsWhole cX11_tellsWhole 2 (Option.some FieldType.int)) 0 0 G B [.ref (B + 259), .int w] μ (some (.int (M_tellsWhole μ w))) μ := by
  refine CM.of (by decide) (Nat.le_of_ble_eq_true rfl) ?_
  intro p e s m below meth c ls K hr hlocks hP hl
  have hS : va_S (AA B) s.heap s.heap [] := va_S.rf
  have hl : lv_has ls 2 [(0, .ref (B + 259)), (1, .int w)] := hl
  refine lv_iload_n K.1.1 K.1.2.1 dX11_tellsWhole_0 rfl (lv_at hl 1 rfl) ?_
  refine lv_bipush (v := 11) K.1.1 K.1.2.1 dX11_tellsWhole_1 (by decide) ?_
  refine lv_icmp_ne (tgt := 13) K.1.1 K.1.2.1 dX11_tellsWhole_3 (by decide) (fun c_3 => ?_) (fun c_3 => ?_)
  · refine lv_aload_n K.1.1 K.1.2.1 dX11_tellsWhole_13 rfl (lv_at hl 0 rfl) ?_
    refine m_getr K hP (by decide) sh_259 rfl tuX11 0 (by decide) rfl q_1150 dX11_tellsWhole_14 ?_
    refine lv_iload_n K.1.1 K.1.2.1 dX11_tellsWhole_17 rfl (lv_at hl 1 rfl) ?_
    refine m_iald K hP (by decide) sh_260 (n := 267) (by skip; exact tw_vp hw) dX11_tellsWhole_18 ?_
    refine lv_topi (fun g_1 eg_1 => ?_)
    have eg_1 : g_1 = (_ : Mm) 260 (cn w) := eg_1
    exact m_iret K hr hlocks hP hS dX11_tellsWhole_19 (by subst eg_1; rw [M_tellsWhole]; simp only [if_neg c_3]) rfl
  · refine lv_aload_n K.1.1 K.1.2.1 dX11_tellsWhole_6 rfl (lv_at hl 0 rfl) ?_
    refine m_geti K hP (by decide) sh_259 rfl tuX11 9 (by decide) rfl q_1159 dX11_tellsWhole_7 ?_
    refine lv_topi (fun g_2 eg_2 => ?_)
    refine lv_goto (tgt := 19) K.1.1 K.1.2.1 dX11_tellsWhole_10 (by decide) ?_
    exact m_iret K hr hlocks hP hS dX11_tellsWhole_19 (by subst eg_2; rw [M_tellsWhole]; simp only [if_pos c_3]) rfl

set_option maxHeartbeats 4000000 in
set_option maxRecDepth 100000 in
theorem MX11_whole (l : Launch) (G : GG) (B : Nat) (μ : Mm) (w : Int32) : CM l yX11_whole (.code yX11_whole cX11_whole 2 (Option.some FieldType.int)) 1 22 G B [.ref (B + 259), .int w] μ (some (.int ((M_whole μ w).2))) ((M_whole μ w).1) := by
  refine CM.of (by decide) (Nat.le_of_ble_eq_true rfl) ?_
  intro p e s m below meth c ls K hr hlocks hP hl
  have hS : va_S (AA B) s.heap s.heap [] := va_S.rf
  have hl : lv_has ls 2 [(0, .ref (B + 259)), (1, .int w)] := hl
  refine lv_aload_n K.1.1 K.1.2.1 dX11_whole_0 rfl (lv_at hl 0 rfl) ?_
  refine lv_iload_n K.1.1 K.1.2.1 dX11_whole_1 rfl (lv_at hl 1 rfl) ?_
  refine lv_iconst (v := 0) K.1.1 K.1.2.1 dX11_whole_2 (by decide) ?_
  refine lv_bipush (v := 11) K.1.1 K.1.2.1 dX11_whole_3 (by decide) ?_
  refine m_cS (n := 3) (As := [.int w, .int 0, .int 11]) (rest := [.ref (B + 259)]) K hP hS (MX11_isIn l G B _ w 0 11 ) q_1213 q_1214 q_91 q_1215 hv_X11_isIn ⟨Nat.le_of_ble_eq_true rfl, Nat.le_of_ble_eq_true rfl⟩ rfl hl.1 rfl (Nat.le_of_ble_eq_true rfl) dX11_whole_5 ⟨Nat.zero_le _, Nat.zero_le _⟩ (fun H locs hP hS => ?_)
  refine lv_topi (fun r_1 er_1 => ?_)
  refine lv_if_eq (tgt := 15) K.1.1 K.1.2.1 dX11_whole_8 (by decide) (fun c_8 => ?_) (fun c_8 => ?_)
  · refine lv_iconst (v := 1) K.1.1 K.1.2.1 dX11_whole_15 (by decide) ?_
    refine m_puti K hP hS (by decide) sh_259 rfl tuX11 tyX11 tyX11_ok nmX11 3 (by decide) rfl rfl (by decide +kernel) q_1153 dX11_whole_16 (fun H locs hP hS => ?_)
    refine lv_aload_n K.1.1 K.1.2.1 dX11_whole_19 rfl (lv_at hl 0 rfl) ?_
    refine m_geti K hP (by decide) sh_259 rfl tuX11 3 (by decide) rfl q_1153 dX11_whole_20 ?_
    refine lv_topi (fun g_2 eg_2 => ?_)
    refine lv_if_ne (tgt := 34) K.1.1 K.1.2.1 dX11_whole_23 (by decide) (fun c_23 => ?_) (fun c_23 => ?_)
    · refine lv_iconst (v := 0) K.1.1 K.1.2.1 dX11_whole_34 (by decide) ?_
      exact m_iret K hr hlocks hP hS dX11_whole_35 (by subst er_1 eg_2; rw [M_whole, M_ask, show (if wI w 0 11 = 0 then (1 : Int32) else 0) = 1 from if_pos c_8]; rfl) (by subst er_1 eg_2; rw [M_whole, M_ask, show (if wI w 0 11 = 0 then (1 : Int32) else 0) = 1 from if_pos c_8]; rfl)
    · exact absurd c_23 (by subst er_1 eg_2; rw [up2_s]; decide)
  · refine lv_iconst (v := 0) K.1.1 K.1.2.1 dX11_whole_11 (by decide) ?_
    refine lv_goto (tgt := 16) K.1.1 K.1.2.1 dX11_whole_12 (by decide) ?_
    refine m_puti K hP hS (by decide) sh_259 rfl tuX11 tyX11 tyX11_ok nmX11 3 (by decide) rfl rfl (by decide +kernel) q_1153 dX11_whole_16 (fun H locs hP hS => ?_)
    refine lv_aload_n K.1.1 K.1.2.1 dX11_whole_19 rfl (lv_at hl 0 rfl) ?_
    refine m_geti K hP (by decide) sh_259 rfl tuX11 3 (by decide) rfl q_1153 dX11_whole_20 ?_
    refine lv_topi (fun g_3 eg_3 => ?_)
    refine lv_if_ne (tgt := 34) K.1.1 K.1.2.1 dX11_whole_23 (by decide) (fun c_23 => ?_) (fun c_23 => ?_)
    · exact absurd c_23 (not_not_intro (by subst er_1 eg_3; rw [up2_s]))
    · refine lv_aload_n K.1.1 K.1.2.1 dX11_whole_26 rfl (lv_at hl 0 rfl) ?_
      refine lv_iload_n K.1.1 K.1.2.1 dX11_whole_27 rfl (lv_at hl 1 rfl) ?_
      refine m_cV (n := 1) (As := [.int w]) (rest := []) K hP hS (MX11_tellsWhole l G B _ w (wI_vp (n := 11) (by subst er_1 eg_3; exact c_8))) (by decide) sh_259 rfl q_1450 q_1452 q_69 q_91 q_1453 hv_X11_tellsWhole ⟨Nat.le_of_ble_eq_true rfl, Nat.le_of_ble_eq_true rfl⟩ rfl hl.1 rfl (Nat.le_of_ble_eq_true rfl) dX11_whole_28 ⟨Nat.zero_le _, Nat.zero_le _⟩ (fun H locs hP hS => ?_)
      refine lv_topi (fun r_4 er_4 => ?_)
      refine lv_goto (tgt := 35) K.1.1 K.1.2.1 dX11_whole_31 (by decide) ?_
      exact m_iret K hr hlocks hP hS dX11_whole_35 (by subst er_1 eg_3 er_4; rw [M_whole, M_ask, show (if wI w 0 11 = 0 then (1 : Int32) else 0) = 0 from if_neg c_8, if_pos rfl]; first | done | rfl) (by subst er_1 eg_3 er_4; rw [M_whole, M_ask, show (if wI w 0 11 = 0 then (1 : Int32) else 0) = 0 from if_neg c_8, if_pos rfl]; first | done | rfl)

set_option maxHeartbeats 4000000 in
set_option maxRecDepth 100000 in
theorem MX11_filledOf (l : Launch) (G : GG) (B : Nat) (μ : Mm) (k : Int32) (hI : MI μ) (hk : vp_in k 20) : CM l yX11_filledOf (.code yX11_filledOf cX11_filledOf 2 (Option.some FieldType.int)) 6 134 G B [.ref (B + 259), .int k] μ (some (.int (M_fillOf (M_finds μ) k))) (M_finds μ) := by
  refine CM.of (by decide) (Nat.le_of_ble_eq_true rfl) ?_
  intro p e s m below meth c ls K hr hlocks hP hl
  have hS : va_S (AA B) s.heap s.heap [] := va_S.rf
  have hl : lv_has ls 2 [(0, .ref (B + 259)), (1, .int k)] := hl
  refine lv_aload_n K.1.1 K.1.2.1 dX11_filledOf_0 rfl (lv_at hl 0 rfl) ?_
  refine m_cV (n := 0) (As := []) (rest := []) K hP hS (MX11_finds l G B _  hI) (by decide) sh_259 rfl q_1327 q_1329 q_45 q_91 q_1330 hv_X11_finds ⟨Nat.le_of_ble_eq_true rfl, Nat.le_of_ble_eq_true rfl⟩ rfl hl.1 rfl (Nat.le_of_ble_eq_true rfl) dX11_filledOf_1 ⟨Nat.zero_le _, Nat.zero_le _⟩ (fun H locs hP hS => ?_)
  refine W.eq (g2 := F0 m 4 ls []) rfl ?_
  refine lv_aload_n K.1.1 K.1.2.1 dX11_filledOf_4 rfl (lv_at hl 0 rfl) ?_
  refine lv_iload_n K.1.1 K.1.2.1 dX11_filledOf_5 rfl (lv_at hl 1 rfl) ?_
  refine m_cV (n := 1) (As := [.int k]) (rest := []) K hP hS (MX11_fillOf l G B _ k (MI_finds hI) hk) (by decide) sh_259 rfl q_1363 q_1365 q_54 q_91 q_1366 hv_X11_fillOf ⟨Nat.le_of_ble_eq_true rfl, Nat.le_of_ble_eq_true rfl⟩ rfl hl.1 rfl (Nat.le_of_ble_eq_true rfl) dX11_filledOf_6 ⟨Nat.zero_le _, Nat.zero_le _⟩ (fun H locs hP hS => ?_)
  refine lv_topi (fun r_1 er_1 => ?_)
  exact m_iret K hr hlocks hP hS dX11_filledOf_9 (by subst er_1; rfl) (by subst er_1; rfl)

