set_option maxHeartbeats 4000000 in
set_option maxRecDepth 100000 in
theorem MX11_filled (l : Launch) (G : GG) (B : Nat) (μ : Mm) (x : Int32) (hI : MI μ) : CM l yX11_filled (.code yX11_filled cX11_filled 2 (Option.some FieldType.int)) 7 155 G B [.ref (B + 259), .int x] μ (some (.int ((M_filled μ x).2))) ((M_filled μ x).1) := by
  refine CM.of (by decide) (Nat.le_of_ble_eq_true rfl) ?_
  intro p e s m below meth c ls K hr hlocks hP hl
  have hS : va_S (AA B) s.heap s.heap [] := va_S.rf
  have hl : lv_has ls 2 [(0, .ref (B + 259)), (1, .int x)] := hl
  refine lv_aload_n K.1.1 K.1.2.1 dX11_filled_0 rfl (lv_at hl 0 rfl) ?_
  refine lv_aload_n K.1.1 K.1.2.1 dX11_filled_1 rfl (lv_at hl 0 rfl) ?_
  refine lv_iload_n K.1.1 K.1.2.1 dX11_filled_2 rfl (lv_at hl 1 rfl) ?_
  refine m_cV (n := 1) (As := [.int x]) (rest := [.ref (B + 259)]) K hP hS (MX11_find l G B _ x hI) (by decide) sh_259 rfl q_1303 q_1305 q_40 q_91 q_1306 hv_X11_find ⟨Nat.le_of_ble_eq_true rfl, Nat.le_of_ble_eq_true rfl⟩ rfl hl.1 rfl (Nat.le_of_ble_eq_true rfl) dX11_filled_3 ⟨Nat.zero_le _, Nat.zero_le _⟩ (fun H locs hP hS => ?_)
  refine lv_topi (fun r_1 er_1 => ?_)
  refine lv_if_ge (tgt := 13) K.1.1 K.1.2.1 dX11_filled_6 (by decide) (fun c_6 => ?_) (fun c_6 => ?_)
  · refine lv_iconst (v := 0) K.1.1 K.1.2.1 dX11_filled_13 (by decide) ?_
    refine m_puti K hP hS (by decide) sh_259 rfl tuX11 tyX11 tyX11_ok nmX11 3 (by decide) rfl rfl (by decide +kernel) q_1153 dX11_filled_14 (fun H locs hP hS => ?_)
    refine lv_aload_n K.1.1 K.1.2.1 dX11_filled_17 rfl (lv_at hl 0 rfl) ?_
    refine m_geti K hP (by decide) sh_259 rfl tuX11 3 (by decide) rfl q_1153 dX11_filled_18 ?_
    refine lv_topi (fun g_2 eg_2 => ?_)
    refine lv_if_ne (tgt := 36) K.1.1 K.1.2.1 dX11_filled_21 (by decide) (fun c_21 => ?_) (fun c_21 => ?_)
    · exact absurd c_21 (not_not_intro (by subst er_1 eg_2; rw [up2_s]))
    · refine lv_aload_n K.1.1 K.1.2.1 dX11_filled_24 rfl (lv_at hl 0 rfl) ?_
      refine lv_aload_n K.1.1 K.1.2.1 dX11_filled_25 rfl (lv_at hl 0 rfl) ?_
      refine lv_iload_n K.1.1 K.1.2.1 dX11_filled_26 rfl (lv_at hl 1 rfl) ?_
      refine m_cV (n := 1) (As := [.int x]) (rest := [.ref (B + 259)]) K hP hS (MX11_find l G B _ x (by subst er_1 eg_2; exact MI_ne hI (by decide))) (by decide) sh_259 rfl q_1303 q_1305 q_40 q_91 q_1306 hv_X11_find ⟨Nat.le_of_ble_eq_true rfl, Nat.le_of_ble_eq_true rfl⟩ rfl hl.1 rfl (Nat.le_of_ble_eq_true rfl) dX11_filled_27 ⟨Nat.zero_le _, Nat.zero_le _⟩ (fun H locs hP hS => ?_)
      refine lv_topi (fun r_3 er_3 => ?_)
      refine m_cV (n := 1) (As := [.int r_3]) (rest := []) K hP hS (MX11_filledOf l G B _ r_3 (by subst er_1 eg_2 er_3; exact MI_ne hI (by decide)) (by subst er_1 eg_2 er_3; exact (find_vp (MI_ne hI (by decide)) (by rw [find_260 (up2_k _ _ (by decide))]; exact Int32.not_lt.mpr c_6)))) (by decide) sh_259 rfl q_1458 q_1460 q_70 q_91 q_1461 hv_X11_filledOf ⟨Nat.le_of_ble_eq_true rfl, Nat.le_of_ble_eq_true rfl⟩ rfl hl.1 rfl (Nat.le_of_ble_eq_true rfl) dX11_filled_30 ⟨Nat.zero_le _, Nat.zero_le _⟩ (fun H locs hP hS => ?_)
      refine lv_topi (fun r_4 er_4 => ?_)
      refine lv_goto (tgt := 37) K.1.1 K.1.2.1 dX11_filled_33 (by decide) ?_
      exact m_iret K hr hlocks hP hS dX11_filled_37 (by subst er_1 eg_2 er_3 er_4; rw [M_filled, M_ask, show M_fdErr μ x = 0 from if_neg (Int32.not_lt.mpr c_6), if_pos rfl]; first | done | rfl) (by subst er_1 eg_2 er_3 er_4; rw [M_filled, M_ask, show M_fdErr μ x = 0 from if_neg (Int32.not_lt.mpr c_6), if_pos rfl]; first | done | rfl)
  · refine lv_iconst (v := 1) K.1.1 K.1.2.1 dX11_filled_9 (by decide) ?_
    refine lv_goto (tgt := 14) K.1.1 K.1.2.1 dX11_filled_10 (by decide) ?_
    refine m_puti K hP hS (by decide) sh_259 rfl tuX11 tyX11 tyX11_ok nmX11 3 (by decide) rfl rfl (by decide +kernel) q_1153 dX11_filled_14 (fun H locs hP hS => ?_)
    refine lv_aload_n K.1.1 K.1.2.1 dX11_filled_17 rfl (lv_at hl 0 rfl) ?_
    refine m_geti K hP (by decide) sh_259 rfl tuX11 3 (by decide) rfl q_1153 dX11_filled_18 ?_
    refine lv_topi (fun g_5 eg_5 => ?_)
    refine lv_if_ne (tgt := 36) K.1.1 K.1.2.1 dX11_filled_21 (by decide) (fun c_21 => ?_) (fun c_21 => ?_)
    · refine lv_iconst (v := 0) K.1.1 K.1.2.1 dX11_filled_36 (by decide) ?_
      exact m_iret K hr hlocks hP hS dX11_filled_37 (by subst er_1 eg_5; rw [M_filled, M_ask, show M_fdErr μ x = 1 from if_pos (Int32.not_le.mp c_6)]; rfl) (by subst er_1 eg_5; rw [M_filled, M_ask, show M_fdErr μ x = 1 from if_pos (Int32.not_le.mp c_6)]; rfl)
    · exact absurd c_21 (by subst er_1 eg_5; rw [up2_s]; decide)

set_option maxHeartbeats 4000000 in
set_option maxRecDepth 100000 in
theorem MX11_reason (l : Launch) (G : GG) (B : Nat) (μ : Mm) (x : Int32) (hI : MI μ) : CM l yX11_reason (.code yX11_reason cX11_reason 3 (Option.some FieldType.int)) 7 155 G B [.ref (B + 259), .int x] μ (some (.int ((M_reason μ x).2))) ((M_reason μ x).1) := by
  refine CM.of (by decide) (Nat.le_of_ble_eq_true rfl) ?_
  intro p e s m below meth c ls K hr hlocks hP hl
  have hS : va_S (AA B) s.heap s.heap [] := va_S.rf
  have hl : lv_has ls 3 [(0, .ref (B + 259)), (1, .int x)] := hl
  refine lv_aload_n K.1.1 K.1.2.1 dX11_reason_0 rfl (lv_at hl 0 rfl) ?_
  refine lv_iload_n K.1.1 K.1.2.1 dX11_reason_1 rfl (lv_at hl 1 rfl) ?_
  refine m_cV (n := 1) (As := [.int x]) (rest := []) K hP hS (MX11_find l G B _ x hI) (by decide) sh_259 rfl q_1303 q_1305 q_40 q_91 q_1306 hv_X11_find ⟨Nat.le_of_ble_eq_true rfl, Nat.le_of_ble_eq_true rfl⟩ rfl hl.1 rfl (Nat.le_of_ble_eq_true rfl) dX11_reason_2 ⟨Nat.zero_le _, Nat.zero_le _⟩ (fun H locs hP hS => ?_)
  refine lv_topi (fun r_1 er_1 => ?_)
  refine lv_istore_n (lv' := [(2, .int r_1), (0, .ref (B + 259)), (1, .int x)]) K.1.1 K.1.2.1 dX11_reason_5 rfl hl (by decide) rfl (fun ls hl => ?_)
  refine lv_aload_n K.1.1 K.1.2.1 dX11_reason_6 rfl (lv_at hl 1 rfl) ?_
  refine lv_iload_n K.1.1 K.1.2.1 dX11_reason_7 rfl (lv_at hl 0 rfl) ?_
  refine lv_if_ge (tgt := 15) K.1.1 K.1.2.1 dX11_reason_8 (by decide) (fun c_8 => ?_) (fun c_8 => ?_)
  · refine lv_iconst (v := 0) K.1.1 K.1.2.1 dX11_reason_15 (by decide) ?_
    refine m_puti K hP hS (by decide) sh_259 rfl tuX11 tyX11 tyX11_ok nmX11 3 (by decide) rfl rfl (by decide +kernel) q_1153 dX11_reason_16 (fun H locs hP hS => ?_)
    refine lv_aload_n K.1.1 K.1.2.1 dX11_reason_19 rfl (lv_at hl 1 rfl) ?_
    refine m_geti K hP (by decide) sh_259 rfl tuX11 3 (by decide) rfl q_1153 dX11_reason_20 ?_
    refine lv_topi (fun g_2 eg_2 => ?_)
    refine lv_if_ne (tgt := 40) K.1.1 K.1.2.1 dX11_reason_23 (by decide) (fun c_23 => ?_) (fun c_23 => ?_)
    · exact absurd c_23 (not_not_intro (by subst er_1 eg_2; rw [up2_s]))
    · refine lv_aload_n K.1.1 K.1.2.1 dX11_reason_26 rfl (lv_at hl 1 rfl) ?_
      refine lv_iload_n K.1.1 K.1.2.1 dX11_reason_27 rfl (lv_at hl 0 rfl) ?_
      refine m_cV (n := 1) (As := [.int r_1]) (rest := []) K hP hS (MX11_filledOf l G B _ r_1 (by subst er_1 eg_2; exact MI_ne hI (by decide)) (by subst er_1 eg_2; exact find_vp hI (Int32.not_lt.mpr c_8))) (by decide) sh_259 rfl q_1458 q_1460 q_70 q_91 q_1461 hv_X11_filledOf ⟨Nat.le_of_ble_eq_true rfl, Nat.le_of_ble_eq_true rfl⟩ rfl hl.1 rfl (Nat.le_of_ble_eq_true rfl) dX11_reason_28 ⟨Nat.zero_le _, Nat.zero_le _⟩ (fun H locs hP hS => ?_)
      refine lv_topi (fun r_3 er_3 => ?_)
      refine lv_aload_n K.1.1 K.1.2.1 dX11_reason_31 rfl (lv_at hl 1 rfl) ?_
      refine lv_iload_n K.1.1 K.1.2.1 dX11_reason_32 rfl (lv_at hl 0 rfl) ?_
      refine lv_iconst (v := 3) K.1.1 K.1.2.1 dX11_reason_33 (by decide) ?_
      refine m_cV (n := 2) (As := [.int r_1, .int 3]) (rest := [.int r_3]) K hP hS (MX11_ofO l G B _ r_1 3 (loO (by subst er_1 eg_2 er_3; exact find_vp hI (Int32.not_lt.mpr c_8)) (vpd rfl))) (by decide) sh_259 rfl q_1291 q_1293 q_39 q_91 q_1294 hv_X11_ofO ⟨Nat.le_of_ble_eq_true rfl, Nat.le_of_ble_eq_true rfl⟩ rfl hl.1 rfl (Nat.le_of_ble_eq_true rfl) dX11_reason_34 ⟨Nat.zero_le _, Nat.zero_le _⟩ (fun H locs hP hS => ?_)
      refine lv_topi (fun r_4 er_4 => ?_)
      refine lv_icmp_ne (tgt := 42) K.1.1 K.1.2.1 dX11_reason_37 (by decide) (fun c_37 => ?_) (fun c_37 => ?_)
      · refine lv_aload_n K.1.1 K.1.2.1 dX11_reason_42 rfl (lv_at hl 1 rfl) ?_
        refine m_geti K hP (by decide) sh_259 rfl tuX11 7 (by decide) rfl q_1157 dX11_reason_43 ?_
        refine lv_topi (fun g_5 eg_5 => ?_)
        refine lv_if_ne (tgt := 51) K.1.1 K.1.2.1 dX11_reason_46 (by decide) (fun c_46 => ?_) (fun c_46 => ?_)
        · refine lv_aload_n K.1.1 K.1.2.1 dX11_reason_51 rfl (lv_at hl 1 rfl) ?_
          refine lv_iload_n K.1.1 K.1.2.1 dX11_reason_52 rfl (lv_at hl 0 rfl) ?_
          refine lv_aload_n K.1.1 K.1.2.1 dX11_reason_53 rfl (lv_at hl 1 rfl) ?_
          refine m_geti K hP (by decide) sh_259 rfl tuX11 6 (by decide) rfl q_1156 dX11_reason_54 ?_
          refine lv_topi (fun g_6 eg_6 => ?_)
          refine m_cV (n := 2) (As := [.int r_1, .int g_6]) (rest := []) K hP hS (MX11_isGood l G B _ r_1 g_6 (MI_finds (MI_ne hI (by decide))) (by subst er_1 eg_2 er_3 er_4 eg_5 eg_6; exact find_vp hI (Int32.not_lt.mpr c_8))) (by decide) sh_259 rfl q_1343 q_1345 q_49 q_91 q_1346 hv_X11_isGood ⟨Nat.le_of_ble_eq_true rfl, Nat.le_of_ble_eq_true rfl⟩ rfl hl.1 rfl (Nat.le_of_ble_eq_true rfl) dX11_reason_57 ⟨Nat.zero_le _, Nat.zero_le _⟩ (fun H locs hP hS => ?_)
          refine lv_topi (fun r_7 er_7 => ?_)
          refine lv_if_eq (tgt := 67) K.1.1 K.1.2.1 dX11_reason_60 (by decide) (fun c_60 => ?_) (fun c_60 => ?_)
          · refine lv_iconst (v := 2) K.1.1 K.1.2.1 dX11_reason_67 (by decide) ?_
            exact m_iret K hr hlocks hP hS dX11_reason_68 (by subst er_1 eg_2 er_3 er_4 eg_5 eg_6 er_7; rw [M_reason, M_ask, show M_fdErr μ x = 0 from if_neg (Int32.not_lt.mpr c_8), if_pos rfl]; show some (Value.int (M_whyOf (M_finds (up2 μ 259 3 0)) (M_find μ x))) = _; rw [M_whyOf, if_neg c_37, if_neg c_46, if_pos c_60]) (by subst er_1 eg_2 er_3 er_4 eg_5 eg_6 er_7; rw [M_reason, M_ask, show M_fdErr μ x = 0 from if_neg (Int32.not_lt.mpr c_8), if_pos rfl]; first | done | rfl)
          · refine lv_iconst (v := 3) K.1.1 K.1.2.1 dX11_reason_63 (by decide) ?_
            refine lv_goto (tgt := 68) K.1.1 K.1.2.1 dX11_reason_64 (by decide) ?_
            exact m_iret K hr hlocks hP hS dX11_reason_68 (by subst er_1 eg_2 er_3 er_4 eg_5 eg_6 er_7; rw [M_reason, M_ask, show M_fdErr μ x = 0 from if_neg (Int32.not_lt.mpr c_8), if_pos rfl]; show some (Value.int (M_whyOf (M_finds (up2 μ 259 3 0)) (M_find μ x))) = _; rw [M_whyOf, if_neg c_37, if_neg c_46, if_neg c_60]) (by subst er_1 eg_2 er_3 er_4 eg_5 eg_6 er_7; rw [M_reason, M_ask, show M_fdErr μ x = 0 from if_neg (Int32.not_lt.mpr c_8), if_pos rfl]; first | done | rfl)
        · refine lv_iconst (v := 1) K.1.1 K.1.2.1 dX11_reason_49 (by decide) ?_
          exact m_iret K hr hlocks hP hS dX11_reason_50 (by subst er_1 eg_2 er_3 er_4 eg_5; rw [M_reason, M_ask, show M_fdErr μ x = 0 from if_neg (Int32.not_lt.mpr c_8), if_pos rfl]; show some (Value.int (M_whyOf (M_finds (up2 μ 259 3 0)) (M_find μ x))) = _; rw [M_whyOf, if_neg c_37, if_pos c_46]) (by subst er_1 eg_2 er_3 er_4 eg_5; rw [M_reason, M_ask, show M_fdErr μ x = 0 from if_neg (Int32.not_lt.mpr c_8), if_pos rfl]; first | done | rfl)
      · refine lv_iconst (v := 0) K.1.1 K.1.2.1 dX11_reason_40 (by decide) ?_
        exact m_iret K hr hlocks hP hS dX11_reason_41 (by subst er_1 eg_2 er_3 er_4; rw [M_reason, M_ask, show M_fdErr μ x = 0 from if_neg (Int32.not_lt.mpr c_8), if_pos rfl]; show some (Value.int (M_whyOf (M_finds (up2 μ 259 3 0)) (M_find μ x))) = _; rw [M_whyOf, if_pos c_37]) (by subst er_1 eg_2 er_3 er_4; rw [M_reason, M_ask, show M_fdErr μ x = 0 from if_neg (Int32.not_lt.mpr c_8), if_pos rfl]; first | done | rfl)
  · refine lv_iconst (v := 1) K.1.1 K.1.2.1 dX11_reason_11 (by decide) ?_
    refine lv_goto (tgt := 16) K.1.1 K.1.2.1 dX11_reason_12 (by decide) ?_
    refine m_puti K hP hS (by decide) sh_259 rfl tuX11 tyX11 tyX11_ok nmX11 3 (by decide) rfl rfl (by decide +kernel) q_1153 dX11_reason_16 (fun H locs hP hS => ?_)
    refine lv_aload_n K.1.1 K.1.2.1 dX11_reason_19 rfl (lv_at hl 1 rfl) ?_
    refine m_geti K hP (by decide) sh_259 rfl tuX11 3 (by decide) rfl q_1153 dX11_reason_20 ?_
    refine lv_topi (fun g_8 eg_8 => ?_)
    refine lv_if_ne (tgt := 40) K.1.1 K.1.2.1 dX11_reason_23 (by decide) (fun c_23 => ?_) (fun c_23 => ?_)
    · refine lv_iconst (v := 0) K.1.1 K.1.2.1 dX11_reason_40 (by decide) ?_
      exact m_iret K hr hlocks hP hS dX11_reason_41 (by subst er_1 eg_8; rw [M_reason, M_ask, show M_fdErr μ x = 1 from if_pos (Int32.not_le.mp c_8)]; rfl) (by subst er_1 eg_8; rw [M_reason, M_ask, show M_fdErr μ x = 1 from if_pos (Int32.not_le.mp c_8)]; rfl)
    · exact absurd c_23 (by subst er_1 eg_8; rw [up2_s]; decide)

set_option maxHeartbeats 4000000 in
set_option maxRecDepth 100000 in
theorem MX11_gainBy (l : Launch) (G : GG) (B : Nat) (μ : Mm) (t : Int32) (pr : Int32) (hI : MI μ) (ht : vp_in t 8) (hk : vp_in (μ 260 1) 20) : CM l yX11_gainBy (.code yX11_gainBy cX11_gainBy 4 (Option.some FieldType.int)) 6 134 G B [.ref (B + 259), .int t, .int pr] μ (some (.int ((M_gainBy μ t pr).2))) ((M_gainBy μ t pr).1) := by
  refine CM.of (by decide) (Nat.le_of_ble_eq_true rfl) ?_
  intro p e s m below meth c ls K hr hlocks hP hl
  have hS : va_S (AA B) s.heap s.heap [] := va_S.rf
  have hl : lv_has ls 4 [(0, .ref (B + 259)), (1, .int t), (2, .int pr)] := hl
  refine lv_aload_n K.1.1 K.1.2.1 dX11_gainBy_0 rfl (lv_at hl 0 rfl) ?_
  refine lv_iload_n K.1.1 K.1.2.1 dX11_gainBy_1 rfl (lv_at hl 1 rfl) ?_
  refine lv_iload_n K.1.1 K.1.2.1 dX11_gainBy_2 rfl (lv_at hl 2 rfl) ?_
  refine lv_iconst (v := 1) K.1.1 K.1.2.1 dX11_gainBy_3 (by decide) ?_
  refine m_cV (n := 3) (As := [.int t, .int pr, .int 1]) (rest := []) K hP hS (MX11_places l G B _ t pr 1 hk) (by decide) sh_259 rfl q_1283 q_1285 q_37 q_91 q_1286 hv_X11_places ⟨Nat.le_of_ble_eq_true rfl, Nat.le_of_ble_eq_true rfl⟩ rfl hl.1 rfl (Nat.le_of_ble_eq_true rfl) dX11_gainBy_4 ⟨Nat.zero_le _, Nat.zero_le _⟩ (fun H locs hP hS => ?_)
  refine lv_topi (fun r_1 er_1 => ?_)
  refine lv_pop K.1.1 K.1.2.1 dX11_gainBy_7 rfl ?_
  refine lv_aload_n K.1.1 K.1.2.1 dX11_gainBy_8 rfl (lv_at hl 0 rfl) ?_
  refine m_cV (n := 0) (As := []) (rest := []) K hP hS (MX11_finds l G B _  (MI_places hI ht hk)) (by decide) sh_259 rfl q_1327 q_1329 q_45 q_91 q_1330 hv_X11_finds ⟨Nat.le_of_ble_eq_true rfl, Nat.le_of_ble_eq_true rfl⟩ rfl hl.1 rfl (Nat.le_of_ble_eq_true rfl) dX11_gainBy_9 ⟨Nat.zero_le _, Nat.zero_le _⟩ (fun H locs hP hS => ?_)
  refine W.eq (g2 := F0 m 12 ls []) rfl ?_
  refine lv_aload_n K.1.1 K.1.2.1 dX11_gainBy_12 rfl (lv_at hl 0 rfl) ?_
  refine lv_iload_n K.1.1 K.1.2.1 dX11_gainBy_13 rfl (lv_at hl 1 rfl) ?_
  refine m_cV (n := 1) (As := [.int t]) (rest := []) K hP hS (MX11_gainsOf l G B _ t (MI_finds (MI_places hI ht hk))) (by decide) sh_259 rfl q_1375 q_1377 q_57 q_91 q_1378 hv_X11_gainsOf ⟨Nat.le_of_ble_eq_true rfl, Nat.le_of_ble_eq_true rfl⟩ rfl hl.1 rfl (Nat.le_of_ble_eq_true rfl) dX11_gainBy_14 ⟨Nat.zero_le _, Nat.zero_le _⟩ (fun H locs hP hS => ?_)
  refine lv_topi (fun r_2 er_2 => ?_)
  refine lv_istore_n (lv' := [(3, .int r_2), (0, .ref (B + 259)), (1, .int t), (2, .int pr)]) K.1.1 K.1.2.1 dX11_gainBy_17 rfl hl (by decide) rfl (fun ls hl => ?_)
  refine lv_aload_n K.1.1 K.1.2.1 dX11_gainBy_18 rfl (lv_at hl 1 rfl) ?_
  refine m_getr K hP (by decide) sh_259 rfl tuX11 0 (by decide) rfl q_1150 dX11_gainBy_19 ?_
  refine lv_iconst (v := 1) K.1.1 K.1.2.1 dX11_gainBy_22 (by decide) ?_
  refine lv_dup2_11 K.1.1 K.1.2.1 dX11_gainBy_23 rfl rfl ?_
  refine m_iald K hP (by decide) sh_260 (n := 267) (vpd rfl) dX11_gainBy_24 ?_
  refine lv_topi (fun g_3 eg_3 => ?_)
  have eg_3 : g_3 = (_ : Mm) 260 1 := eg_3
  refine lv_iconst (v := 1) K.1.1 K.1.2.1 dX11_gainBy_25 (by decide) ?_
  refine lv_isub K.1.1 K.1.2.1 dX11_gainBy_26 ?_
  refine m_iast K hP hS (by decide) sh_260 (n := 267) (vpd rfl) dX11_gainBy_27 (fun H locs hP hS => ?_)
  have hP : MP G B (up2 _ 260 1 _) H := hP
  refine lv_aload_n K.1.1 K.1.2.1 dX11_gainBy_28 rfl (lv_at hl 1 rfl) ?_
  refine m_getr K hP (by decide) sh_259 rfl tuX11 0 (by decide) rfl q_1150 dX11_gainBy_29 ?_
  refine lv_iconst (v := 5) K.1.1 K.1.2.1 dX11_gainBy_32 (by decide) ?_
  refine lv_dup2_11 K.1.1 K.1.2.1 dX11_gainBy_33 rfl rfl ?_
  refine m_iald K hP (by decide) sh_260 (n := 267) (vpd rfl) dX11_gainBy_34 ?_
  refine lv_topi (fun g_4 eg_4 => ?_)
  have eg_4 : g_4 = (_ : Mm) 260 5 := eg_4
  refine lv_iconst (v := 1) K.1.1 K.1.2.1 dX11_gainBy_35 (by decide) ?_
  refine lv_isub K.1.1 K.1.2.1 dX11_gainBy_36 ?_
  refine m_iast K hP hS (by decide) sh_260 (n := 267) (vpd rfl) dX11_gainBy_37 (fun H locs hP hS => ?_)
  have hP : MP G B (up2 _ 260 5 _) H := hP
  refine lv_iload_n K.1.1 K.1.2.1 dX11_gainBy_38 rfl (lv_at hl 0 rfl) ?_
  exact m_iret K hr hlocks hP hS dX11_gainBy_39 (by subst er_1 er_2 eg_3 eg_4; rfl) (by subst er_1 er_2 eg_3 eg_4; rfl)

set_option maxHeartbeats 4000000 in
set_option maxRecDepth 100000 in
theorem MX11_gainWith (l : Launch) (G : GG) (B : Nat) (μ : Mm) (t : Int32) (pr : Int32) (hI : MI μ) : CM l yX11_gainWith (.code yX11_gainWith cX11_gainWith 3 (Option.some FieldType.int)) 7 157 G B [.ref (B + 259), .int t, .int pr] μ (some (.int ((M_gainWith μ t pr).2))) ((M_gainWith μ t pr).1) := by
  refine CM.of (by decide) (Nat.le_of_ble_eq_true rfl) ?_
  intro p e s m below meth c ls K hr hlocks hP hl
  have hS : va_S (AA B) s.heap s.heap [] := va_S.rf
  have hl : lv_has ls 3 [(0, .ref (B + 259)), (1, .int t), (2, .int pr)] := hl
  refine lv_aload_n K.1.1 K.1.2.1 dX11_gainWith_0 rfl (lv_at hl 0 rfl) ?_
  refine lv_aload_n K.1.1 K.1.2.1 dX11_gainWith_1 rfl (lv_at hl 0 rfl) ?_
  refine lv_iload_n K.1.1 K.1.2.1 dX11_gainWith_2 rfl (lv_at hl 1 rfl) ?_
  refine m_cV (n := 1) (As := [.int t]) (rest := [.ref (B + 259)]) K hP hS (MX11_isTrader l G B _ t ) (by decide) sh_259 rfl q_1236 q_1238 q_29 q_91 q_1239 hv_X11_isTrader ⟨Nat.le_of_ble_eq_true rfl, Nat.le_of_ble_eq_true rfl⟩ rfl hl.1 rfl (Nat.le_of_ble_eq_true rfl) dX11_gainWith_3 ⟨Nat.zero_le _, Nat.zero_le _⟩ (fun H locs hP hS => ?_)
  refine lv_topi (fun r_1 er_1 => ?_)
  refine lv_if_ne (tgt := 13) K.1.1 K.1.2.1 dX11_gainWith_6 (by decide) (fun c_6 => ?_) (fun c_6 => ?_)
  · refine lv_iload_n K.1.1 K.1.2.1 dX11_gainWith_13 rfl (lv_at hl 2 rfl) ?_
    refine lv_iconst (v := 1) K.1.1 K.1.2.1 dX11_gainWith_14 (by decide) ?_
    refine lv_bipush (v := 120) K.1.1 K.1.2.1 dX11_gainWith_15 (by decide) ?_
    refine m_cS (n := 3) (As := [.int pr, .int 1, .int 120]) (rest := [.ref (B + 259)]) K hP hS (MX11_isIn l G B _ pr 1 120 ) q_1213 q_1214 q_91 q_1215 hv_X11_isIn ⟨Nat.le_of_ble_eq_true rfl, Nat.le_of_ble_eq_true rfl⟩ rfl hl.1 rfl (Nat.le_of_ble_eq_true rfl) dX11_gainWith_17 ⟨Nat.zero_le _, Nat.zero_le _⟩ (fun H locs hP hS => ?_)
    refine lv_topi (fun r_2 er_2 => ?_)
    refine lv_if_eq (tgt := 27) K.1.1 K.1.2.1 dX11_gainWith_20 (by decide) (fun c_20 => ?_) (fun c_20 => ?_)
    · refine lv_iconst (v := 2) K.1.1 K.1.2.1 dX11_gainWith_27 (by decide) ?_
      refine m_puti K hP hS (by decide) sh_259 rfl tuX11 tyX11 tyX11_ok nmX11 3 (by decide) rfl rfl (by decide +kernel) q_1153 dX11_gainWith_28 (fun H locs hP hS => ?_)
      refine lv_aload_n K.1.1 K.1.2.1 dX11_gainWith_31 rfl (lv_at hl 0 rfl) ?_
      refine m_geti K hP (by decide) sh_259 rfl tuX11 3 (by decide) rfl q_1153 dX11_gainWith_32 ?_
      refine lv_topi (fun g_3 eg_3 => ?_)
      refine lv_if_eq (tgt := 40) K.1.1 K.1.2.1 dX11_gainWith_35 (by decide) (fun c_35 => ?_) (fun c_35 => ?_)
      · exact absurd c_35 (by subst er_1 er_2 eg_3; rw [up2_s]; decide)
      · refine lv_iconst (v := 0) K.1.1 K.1.2.1 dX11_gainWith_38 (by decide) ?_
        exact m_iret K hr hlocks hP hS dX11_gainWith_39 (by subst er_1 er_2 eg_3; rw [M_gainWith, M_ask, show M_gwErr μ t pr = 2 from (if_neg c_6).trans (if_pos c_20)]; rfl) (by subst er_1 er_2 eg_3; rw [M_gainWith, M_ask, show M_gwErr μ t pr = 2 from (if_neg c_6).trans (if_pos c_20)]; rfl)
    · refine lv_iconst (v := 0) K.1.1 K.1.2.1 dX11_gainWith_23 (by decide) ?_
      refine lv_goto (tgt := 28) K.1.1 K.1.2.1 dX11_gainWith_24 (by decide) ?_
      refine m_puti K hP hS (by decide) sh_259 rfl tuX11 tyX11 tyX11_ok nmX11 3 (by decide) rfl rfl (by decide +kernel) q_1153 dX11_gainWith_28 (fun H locs hP hS => ?_)
      refine lv_aload_n K.1.1 K.1.2.1 dX11_gainWith_31 rfl (lv_at hl 0 rfl) ?_
      refine m_geti K hP (by decide) sh_259 rfl tuX11 3 (by decide) rfl q_1153 dX11_gainWith_32 ?_
      refine lv_topi (fun g_4 eg_4 => ?_)
      refine lv_if_eq (tgt := 40) K.1.1 K.1.2.1 dX11_gainWith_35 (by decide) (fun c_35 => ?_) (fun c_35 => ?_)
      · refine lv_aload_n K.1.1 K.1.2.1 dX11_gainWith_40 rfl (lv_at hl 0 rfl) ?_
        refine m_getr K hP (by decide) sh_259 rfl tuX11 0 (by decide) rfl q_1150 dX11_gainWith_41 ?_
        refine lv_iconst (v := 1) K.1.1 K.1.2.1 dX11_gainWith_44 (by decide) ?_
        refine m_iald K hP (by decide) sh_260 (n := 267) (vpd rfl) dX11_gainWith_45 ?_
        refine lv_topi (fun g_5 eg_5 => ?_)
        have eg_5 : g_5 = (_ : Mm) 260 1 := eg_5
        refine lv_bipush (v := 20) K.1.1 K.1.2.1 dX11_gainWith_46 (by decide) ?_
        refine lv_icmp_ne (tgt := 57) K.1.1 K.1.2.1 dX11_gainWith_48 (by decide) (fun c_48 => ?_) (fun c_48 => ?_)
        · refine lv_aload_n K.1.1 K.1.2.1 dX11_gainWith_57 rfl (lv_at hl 0 rfl) ?_
          refine lv_iload_n K.1.1 K.1.2.1 dX11_gainWith_58 rfl (lv_at hl 1 rfl) ?_
          refine lv_iload_n K.1.1 K.1.2.1 dX11_gainWith_59 rfl (lv_at hl 2 rfl) ?_
          refine m_cV (n := 2) (As := [.int t, .int pr]) (rest := []) K hP hS (MX11_gainBy l G B _ t pr (by subst er_1 er_2 eg_4 eg_5; exact MI_ne hI (by decide)) (isTrader_vp hI (by subst er_1 er_2 eg_4 eg_5; exact c_6)) (ne_vp hI.2.1 (by subst er_1 er_2 eg_4 eg_5; exact c_48))) (by decide) sh_259 rfl q_1470 q_1472 q_71 q_91 q_1473 hv_X11_gainBy ⟨Nat.le_of_ble_eq_true rfl, Nat.le_of_ble_eq_true rfl⟩ rfl hl.1 rfl (Nat.le_of_ble_eq_true rfl) dX11_gainWith_60 ⟨Nat.zero_le _, Nat.zero_le _⟩ (fun H locs hP hS => ?_)
          refine lv_topi (fun r_6 er_6 => ?_)
          exact m_iret K hr hlocks hP hS dX11_gainWith_63 (by subst er_1 er_2 eg_4 eg_5 er_6; rw [M_gainWith, M_ask, show M_gwErr μ t pr = 0 from (if_neg c_6).trans (if_neg c_20), if_pos rfl]; (try dsimp only); rw [if_neg (show ¬ (M_thr μ 0) 260 1 = 20 from c_48)]; first | done | rfl) (by subst er_1 er_2 eg_4 eg_5 er_6; rw [M_gainWith, M_ask, show M_gwErr μ t pr = 0 from (if_neg c_6).trans (if_neg c_20), if_pos rfl]; (try dsimp only); rw [if_neg (show ¬ (M_thr μ 0) 260 1 = 20 from c_48)]; first | done | rfl)
        · refine lv_sipush (v := (-10000)) K.1.1 K.1.2.1 dX11_gainWith_51 (by decide) ?_
          refine lv_goto (tgt := 63) K.1.1 K.1.2.1 dX11_gainWith_54 (by decide) ?_
          exact m_iret K hr hlocks hP hS dX11_gainWith_63 (by subst er_1 er_2 eg_4 eg_5; rw [M_gainWith, M_ask, show M_gwErr μ t pr = 0 from (if_neg c_6).trans (if_neg c_20), if_pos rfl]; (try dsimp only); rw [if_pos (show (M_thr μ 0) 260 1 = 20 from c_48)]; first | done | rfl) (by subst er_1 er_2 eg_4 eg_5; rw [M_gainWith, M_ask, show M_gwErr μ t pr = 0 from (if_neg c_6).trans (if_neg c_20), if_pos rfl]; (try dsimp only); rw [if_pos (show (M_thr μ 0) 260 1 = 20 from c_48)]; first | done | rfl)
      · exact absurd c_35 (not_not_intro (by subst er_1 er_2 eg_4; rw [up2_s]))
  · refine lv_iconst (v := 1) K.1.1 K.1.2.1 dX11_gainWith_9 (by decide) ?_
    refine lv_goto (tgt := 28) K.1.1 K.1.2.1 dX11_gainWith_10 (by decide) ?_
    refine m_puti K hP hS (by decide) sh_259 rfl tuX11 tyX11 tyX11_ok nmX11 3 (by decide) rfl rfl (by decide +kernel) q_1153 dX11_gainWith_28 (fun H locs hP hS => ?_)
    refine lv_aload_n K.1.1 K.1.2.1 dX11_gainWith_31 rfl (lv_at hl 0 rfl) ?_
    refine m_geti K hP (by decide) sh_259 rfl tuX11 3 (by decide) rfl q_1153 dX11_gainWith_32 ?_
    refine lv_topi (fun g_7 eg_7 => ?_)
    refine lv_if_eq (tgt := 40) K.1.1 K.1.2.1 dX11_gainWith_35 (by decide) (fun c_35 => ?_) (fun c_35 => ?_)
    · exact absurd c_35 (by subst er_1 eg_7; rw [up2_s]; decide)
    · refine lv_iconst (v := 0) K.1.1 K.1.2.1 dX11_gainWith_38 (by decide) ?_
      exact m_iret K hr hlocks hP hS dX11_gainWith_39 (by subst er_1 eg_7; rw [M_gainWith, M_ask, show M_gwErr μ t pr = 1 from if_pos c_6]; rfl) (by subst er_1 eg_7; rw [M_gainWith, M_ask, show M_gwErr μ t pr = 1 from if_pos c_6]; rfl)

set_option maxHeartbeats 4000000 in
set_option maxRecDepth 100000 in
theorem MX11_type (l : Launch) (G : GG) (B : Nat) (μ : Mm) (v : Int32) (hl9 : vp_in (μ 259 9) 151) : CM l yX11_type (.code yX11_type cX11_type 2 (Option.some FieldType.int)) 1 22 G B [.ref (B + 259), .int v] μ (some (.int ((M_type μ v).2))) ((M_type μ v).1) := by
  refine CM.of (by decide) (Nat.le_of_ble_eq_true rfl) ?_
  intro p e s m below meth c ls K hr hlocks hP hl
  have hS : va_S (AA B) s.heap s.heap [] := va_S.rf
  have hl : lv_has ls 2 [(0, .ref (B + 259)), (1, .int v)] := hl
  refine lv_aload_n K.1.1 K.1.2.1 dX11_type_0 rfl (lv_at hl 0 rfl) ?_
  refine lv_iload_n K.1.1 K.1.2.1 dX11_type_1 rfl (lv_at hl 1 rfl) ?_
  refine lv_iconst (v := 0) K.1.1 K.1.2.1 dX11_type_2 (by decide) ?_
  refine lv_bipush (v := 127) K.1.1 K.1.2.1 dX11_type_3 (by decide) ?_
  refine m_cS (n := 3) (As := [.int v, .int 0, .int 127]) (rest := [.ref (B + 259)]) K hP hS (MX11_isIn l G B _ v 0 127 ) q_1213 q_1214 q_91 q_1215 hv_X11_isIn ⟨Nat.le_of_ble_eq_true rfl, Nat.le_of_ble_eq_true rfl⟩ rfl hl.1 rfl (Nat.le_of_ble_eq_true rfl) dX11_type_5 ⟨Nat.zero_le _, Nat.zero_le _⟩ (fun H locs hP hS => ?_)
  refine lv_topi (fun r_1 er_1 => ?_)
  refine lv_if_ne (tgt := 15) K.1.1 K.1.2.1 dX11_type_8 (by decide) (fun c_8 => ?_) (fun c_8 => ?_)
  · refine lv_aload_n K.1.1 K.1.2.1 dX11_type_15 rfl (lv_at hl 0 rfl) ?_
    refine m_geti K hP (by decide) sh_259 rfl tuX11 9 (by decide) rfl q_1159 dX11_type_16 ?_
    refine lv_topi (fun g_2 eg_2 => ?_)
    refine lv_sipush (v := 150) K.1.1 K.1.2.1 dX11_type_19 (by decide) ?_
    refine lv_icmp_ge (tgt := 29) K.1.1 K.1.2.1 dX11_type_22 (by decide) (fun c_22 => ?_) (fun c_22 => ?_)
    · refine lv_iconst (v := 2) K.1.1 K.1.2.1 dX11_type_29 (by decide) ?_
      refine m_puti K hP hS (by decide) sh_259 rfl tuX11 tyX11 tyX11_ok nmX11 3 (by decide) rfl rfl (by decide +kernel) q_1153 dX11_type_30 (fun H locs hP hS => ?_)
      refine lv_aload_n K.1.1 K.1.2.1 dX11_type_33 rfl (lv_at hl 0 rfl) ?_
      refine m_geti K hP (by decide) sh_259 rfl tuX11 3 (by decide) rfl q_1153 dX11_type_34 ?_
      refine lv_topi (fun g_3 eg_3 => ?_)
      refine lv_if_eq (tgt := 42) K.1.1 K.1.2.1 dX11_type_37 (by decide) (fun c_37 => ?_) (fun c_37 => ?_)
      · exact absurd c_37 (by subst er_1 eg_2 eg_3; rw [up2_s]; decide)
      · refine lv_iconst (v := 0) K.1.1 K.1.2.1 dX11_type_40 (by decide) ?_
        exact m_iret K hr hlocks hP hS dX11_type_41 (by subst er_1 eg_2 eg_3; rw [M_type, M_ask, show M_tyErr μ v = 2 from (if_neg c_8).trans (if_neg (Int32.not_lt.mpr c_22))]; rfl) (by subst er_1 eg_2 eg_3; rw [M_type, M_ask, show M_tyErr μ v = 2 from (if_neg c_8).trans (if_neg (Int32.not_lt.mpr c_22))]; rfl)
    · refine lv_iconst (v := 0) K.1.1 K.1.2.1 dX11_type_25 (by decide) ?_
      refine lv_goto (tgt := 30) K.1.1 K.1.2.1 dX11_type_26 (by decide) ?_
      refine m_puti K hP hS (by decide) sh_259 rfl tuX11 tyX11 tyX11_ok nmX11 3 (by decide) rfl rfl (by decide +kernel) q_1153 dX11_type_30 (fun H locs hP hS => ?_)
      refine lv_aload_n K.1.1 K.1.2.1 dX11_type_33 rfl (lv_at hl 0 rfl) ?_
      refine m_geti K hP (by decide) sh_259 rfl tuX11 3 (by decide) rfl q_1153 dX11_type_34 ?_
      refine lv_topi (fun g_4 eg_4 => ?_)
      refine lv_if_eq (tgt := 42) K.1.1 K.1.2.1 dX11_type_37 (by decide) (fun c_37 => ?_) (fun c_37 => ?_)
      · refine lv_aload_n K.1.1 K.1.2.1 dX11_type_42 rfl (lv_at hl 0 rfl) ?_
        refine m_getr K hP (by decide) sh_259 rfl tuX11 8 (by decide) rfl q_1158 dX11_type_43 ?_
        refine lv_aload_n K.1.1 K.1.2.1 dX11_type_46 rfl (lv_at hl 0 rfl) ?_
        refine m_geti K hP (by decide) sh_259 rfl tuX11 9 (by decide) rfl q_1159 dX11_type_47 ?_
        refine lv_topi (fun g_5 eg_5 => ?_)
        refine lv_iload_n K.1.1 K.1.2.1 dX11_type_50 rfl (lv_at hl 1 rfl) ?_
        refine m_iast K hP hS (by decide) sh_262 (n := 150) (by subst er_1 eg_2 eg_4 eg_5; rw [up2k_9]; exact lt_vp hl9 (by decide) (Int32.not_le.mp c_22)) dX11_type_51 (fun H locs hP hS => ?_)
        have hP : MP G B (up2 _ 262 (cn g_5) _) H := hP
        refine lv_aload_n K.1.1 K.1.2.1 dX11_type_52 rfl (lv_at hl 0 rfl) ?_
        refine lv_dup K.1.1 K.1.2.1 dX11_type_53 rfl ?_
        refine m_geti K hP (by decide) sh_259 rfl tuX11 9 (by decide) rfl q_1159 dX11_type_54 ?_
        refine lv_topi (fun g_6 eg_6 => ?_)
        refine lv_iconst (v := 1) K.1.1 K.1.2.1 dX11_type_57 (by decide) ?_
        refine lv_iadd K.1.1 K.1.2.1 dX11_type_58 ?_
        refine m_puti K hP hS (by decide) sh_259 rfl tuX11 tyX11 tyX11_ok nmX11 9 (by decide) rfl rfl (by decide +kernel) q_1159 dX11_type_59 (fun H locs hP hS => ?_)
        refine lv_aload_n K.1.1 K.1.2.1 dX11_type_62 rfl (lv_at hl 0 rfl) ?_
        refine m_geti K hP (by decide) sh_259 rfl tuX11 9 (by decide) rfl q_1159 dX11_type_63 ?_
        refine lv_topi (fun g_7 eg_7 => ?_)
        exact m_iret K hr hlocks hP hS dX11_type_66 (by subst er_1 eg_2 eg_4 eg_5 eg_6 eg_7; rw [M_type, M_ask, show M_tyErr μ v = 0 from (if_neg c_8).trans (if_pos (Int32.not_le.mp c_22)), if_pos rfl]; first | done | rfl) (by subst er_1 eg_2 eg_4 eg_5 eg_6 eg_7; rw [M_type, M_ask, show M_tyErr μ v = 0 from (if_neg c_8).trans (if_pos (Int32.not_le.mp c_22)), if_pos rfl]; first | done | rfl)
      · exact absurd c_37 (not_not_intro (by subst er_1 eg_2 eg_4; rw [up2_s]))
  · refine lv_iconst (v := 1) K.1.1 K.1.2.1 dX11_type_11 (by decide) ?_
    refine lv_goto (tgt := 30) K.1.1 K.1.2.1 dX11_type_12 (by decide) ?_
    refine m_puti K hP hS (by decide) sh_259 rfl tuX11 tyX11 tyX11_ok nmX11 3 (by decide) rfl rfl (by decide +kernel) q_1153 dX11_type_30 (fun H locs hP hS => ?_)
    refine lv_aload_n K.1.1 K.1.2.1 dX11_type_33 rfl (lv_at hl 0 rfl) ?_
    refine m_geti K hP (by decide) sh_259 rfl tuX11 3 (by decide) rfl q_1153 dX11_type_34 ?_
    refine lv_topi (fun g_8 eg_8 => ?_)
    refine lv_if_eq (tgt := 42) K.1.1 K.1.2.1 dX11_type_37 (by decide) (fun c_37 => ?_) (fun c_37 => ?_)
    · exact absurd c_37 (by subst er_1 eg_8; rw [up2_s]; decide)
    · refine lv_iconst (v := 0) K.1.1 K.1.2.1 dX11_type_40 (by decide) ?_
      exact m_iret K hr hlocks hP hS dX11_type_41 (by subst er_1 eg_8; rw [M_type, M_ask, show M_tyErr μ v = 1 from if_pos c_8]; rfl) (by subst er_1 eg_8; rw [M_type, M_ask, show M_tyErr μ v = 1 from if_pos c_8]; rfl)

set_option maxHeartbeats 4000000 in
set_option maxRecDepth 100000 in
theorem MX11_clearCommands (l : Launch) (G : GG) (B : Nat) (μ : Mm) : CM l yX11_clearCommands (.code yX11_clearCommands cX11_clearCommands 2 (Option.some FieldType.int)) 0 0 G B [.ref (B + 259)] μ (some (.int ((M_clearCommands μ).2))) ((M_clearCommands μ).1) := by
  refine CM.of (by decide) (Nat.le_of_ble_eq_true rfl) ?_
  intro p e s m below meth c ls K hr hlocks hP hl
  have hS : va_S (AA B) s.heap s.heap [] := va_S.rf
  have hl : lv_has ls 2 [(0, .ref (B + 259))] := hl
  refine lv_aload_n K.1.1 K.1.2.1 dX11_clearCommands_0 rfl (lv_at hl 0 rfl) ?_
  refine lv_iconst (v := 0) K.1.1 K.1.2.1 dX11_clearCommands_1 (by decide) ?_
  refine m_puti K hP hS (by decide) sh_259 rfl tuX11 tyX11 tyX11_ok nmX11 3 (by decide) rfl rfl (by decide +kernel) q_1153 dX11_clearCommands_2 (fun H locs hP hS => ?_)
  refine lv_aload_n K.1.1 K.1.2.1 dX11_clearCommands_5 rfl (lv_at hl 0 rfl) ?_
  refine m_geti K hP (by decide) sh_259 rfl tuX11 9 (by decide) rfl q_1159 dX11_clearCommands_6 ?_
  refine lv_topi (fun g_1 eg_1 => ?_)
  refine lv_istore_n (lv' := [(1, .int g_1), (0, .ref (B + 259))]) K.1.1 K.1.2.1 dX11_clearCommands_9 rfl hl (by decide) rfl (fun ls hl => ?_)
  refine lv_aload_n K.1.1 K.1.2.1 dX11_clearCommands_10 rfl (lv_at hl 1 rfl) ?_
  refine lv_iconst (v := 0) K.1.1 K.1.2.1 dX11_clearCommands_11 (by decide) ?_
  refine m_puti K hP hS (by decide) sh_259 rfl tuX11 tyX11 tyX11_ok nmX11 9 (by decide) rfl rfl (by decide +kernel) q_1159 dX11_clearCommands_12 (fun H locs hP hS => ?_)
  refine lv_iload_n K.1.1 K.1.2.1 dX11_clearCommands_15 rfl (lv_at hl 0 rfl) ?_
  exact m_iret K hr hlocks hP hS dX11_clearCommands_16 (by subst eg_1; rfl) (by subst eg_1; rfl)

