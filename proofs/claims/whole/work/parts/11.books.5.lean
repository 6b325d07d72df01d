set_option maxHeartbeats 4000000 in
set_option maxRecDepth 100000 in
theorem MX10_faultOfCommand (l : Launch) (G : GG) (B : Nat) (μ : Mm) (hw : ∃ kw : Nat, kw < 8 ∧ μ 254 1 = nI kw) : CM l yX10_faultOfCommand (.code yX10_faultOfCommand cX10_faultOfCommand 5 (Option.some FieldType.int)) 3 67 G B [.ref (B + 0)] μ (some (.int (X_cmdFault μ))) μ := by
  refine CM.of (by decide) (Nat.le_of_ble_eq_true rfl) ?_
  intro p e s m below meth c ls K hr hlocks hP hl
  have hS : va_S (AA B) s.heap s.heap [] := va_S.rf
  have hl : lv_has ls 5 [(0, .ref (B + 0))] := hl
  obtain ⟨t1, hZ1, hT1⟩ := K.2.2.2.2.1
  refine lv_aload_n K.1.1 K.1.2.1 dX10_faultOfCommand_0 rfl (lv_at hl 0 rfl) ?_
  refine m_getr K hP (by decide) sh_0 rfl tuX10 4 (by decide) rfl q_391 dX10_faultOfCommand_1 ?_
  refine m_getw K hP (by decide) sh_254 rfl tuX3 1 (by decide) rfl q_368 dX10_faultOfCommand_4 ?_
  refine m_topw (fun g_1 eg_1 => ?_)
  obtain ⟨kw, hk8, hkw⟩ : ∃ kw : Nat, kw < 8 ∧ g_1 = nI kw := (by subst eg_1; exact hw)
  rw [show wv G g_1 = .ref (G.2.2.2 kw) from (by rw [hkw]; exact wv_nI hk8)]
  refine lv_astore_n (lv' := [(1, .ref (G.2.2.2 kw)), (0, .ref (B + 0))]) K.1.1 K.1.2.1 dX10_faultOfCommand_7 rfl hl (by decide) rfl (fun ls hl => ?_)
  refine lv_aload_n K.1.1 K.1.2.1 dX10_faultOfCommand_8 rfl (lv_at hl 1 rfl) ?_
  refine m_getr K hP (by decide) sh_0 rfl tuX10 4 (by decide) rfl q_391 dX10_faultOfCommand_9 ?_
  refine m_getr K hP (by decide) sh_254 rfl tuX3 2 (by decide) rfl q_370 dX10_faultOfCommand_12 ?_
  refine lv_iconst (v := 0) K.1.1 K.1.2.1 dX10_faultOfCommand_15 (by decide) ?_
  refine m_cV (n := 1) (As := [.int 0]) (rest := []) K hP hS (MX5_get l G B _ 255 3 isR_255 0 ) (Nat.lt_of_succ_lt isR_255.1) isR_255.2.1 rfl q_557 q_436 q_437 q_85 q_438 hv_X5_get ⟨Nat.le_of_ble_eq_true rfl, Nat.le_of_ble_eq_true rfl⟩ rfl hl.1 rfl (Nat.le_of_ble_eq_true rfl) dX10_faultOfCommand_16 ⟨Nat.zero_le _, Nat.zero_le _⟩ (fun H locs hP hS => ?_)
  refine lv_topi (fun r_2 er_2 => ?_)
  refine lv_istore_n (lv' := [(2, .int r_2), (1, .ref (G.2.2.2 kw)), (0, .ref (B + 0))]) K.1.1 K.1.2.1 dX10_faultOfCommand_19 rfl hl (by decide) rfl (fun ls hl => ?_)
  refine lv_aload_n K.1.1 K.1.2.1 dX10_faultOfCommand_20 rfl (lv_at hl 2 rfl) ?_
  refine m_getr K hP (by decide) sh_0 rfl tuX10 4 (by decide) rfl q_391 dX10_faultOfCommand_21 ?_
  refine m_getr K hP (by decide) sh_254 rfl tuX3 2 (by decide) rfl q_370 dX10_faultOfCommand_24 ?_
  refine lv_iconst (v := 1) K.1.1 K.1.2.1 dX10_faultOfCommand_27 (by decide) ?_
  refine m_cV (n := 1) (As := [.int 1]) (rest := []) K hP hS (MX5_get l G B _ 255 3 isR_255 1 ) (Nat.lt_of_succ_lt isR_255.1) isR_255.2.1 rfl q_557 q_436 q_437 q_85 q_438 hv_X5_get ⟨Nat.le_of_ble_eq_true rfl, Nat.le_of_ble_eq_true rfl⟩ rfl hl.1 rfl (Nat.le_of_ble_eq_true rfl) dX10_faultOfCommand_28 ⟨Nat.zero_le _, Nat.zero_le _⟩ (fun H locs hP hS => ?_)
  refine lv_topi (fun r_3 er_3 => ?_)
  refine lv_istore_n (lv' := [(3, .int r_3), (2, .int r_2), (1, .ref (G.2.2.2 kw)), (0, .ref (B + 0))]) K.1.1 K.1.2.1 dX10_faultOfCommand_31 rfl hl (by decide) rfl (fun ls hl => ?_)
  refine lv_aload_n K.1.1 K.1.2.1 dX10_faultOfCommand_32 rfl (lv_at hl 3 rfl) ?_
  refine m_getr K hP (by decide) sh_0 rfl tuX10 4 (by decide) rfl q_391 dX10_faultOfCommand_33 ?_
  refine m_getr K hP (by decide) sh_254 rfl tuX3 2 (by decide) rfl q_370 dX10_faultOfCommand_36 ?_
  refine lv_iconst (v := 2) K.1.1 K.1.2.1 dX10_faultOfCommand_39 (by decide) ?_
  refine m_cV (n := 1) (As := [.int 2]) (rest := []) K hP hS (MX5_get l G B _ 255 3 isR_255 2 ) (Nat.lt_of_succ_lt isR_255.1) isR_255.2.1 rfl q_557 q_436 q_437 q_85 q_438 hv_X5_get ⟨Nat.le_of_ble_eq_true rfl, Nat.le_of_ble_eq_true rfl⟩ rfl hl.1 rfl (Nat.le_of_ble_eq_true rfl) dX10_faultOfCommand_40 ⟨Nat.zero_le _, Nat.zero_le _⟩ (fun H locs hP hS => ?_)
  refine lv_topi (fun r_4 er_4 => ?_)
  refine lv_istore (lv' := [(4, .int r_4), (3, .int r_3), (2, .int r_2), (1, .ref (G.2.2.2 kw)), (0, .ref (B + 0))]) K.1.1 K.1.2.1 dX10_faultOfCommand_43 hl (by decide) rfl (fun ls hl => ?_)
  refine lv_aload_n K.1.1 K.1.2.1 dX10_faultOfCommand_45 rfl (lv_at hl 3 rfl) ?_
  refine lv_ifnonnull (tgt := 51) K.1.1 K.1.2.1 dX10_faultOfCommand_46 (by decide) ?_
  refine va_gets K.1.1 K.1.2.1 hZ1 hS K.1.2.2.2.1 (K.w q_558) (fun _ h => h) dX10_faultOfCommand_51 ?_
  refine lv_aload_n K.1.1 K.1.2.1 dX10_faultOfCommand_54 rfl (lv_at hl 3 rfl) ?_
  refine m_ord K hP hS hk8 hl.1 ⟨Nat.le_of_ble_eq_true rfl, Nat.le_of_ble_eq_true rfl⟩ (Nat.le_of_ble_eq_true rfl) ⟨Nat.zero_le _, Nat.zero_le _⟩ dX10_faultOfCommand_55 (fun H locs hP hS => ?_)
  refine va_ti K.1.1 K.1.2.1 hT1 hS (vp_ofN (by omega) hk8) (v := .int (smN.getD kw 0)) (by rw [nI_clamp (by omega)]) dX10_faultOfCommand_58 ?_
  refine lv_topi (fun xw exw => ?_)
  have exs : X_sw μ = xw := (by rw [X_sw, exw, show μ 254 1 = nI kw from (by subst eg_1 er_2 er_3 er_4; exact hkw), cn_nI (by omega)])
  by_cases w_5 : xw = 1
  · refine lv_tableIn (off := 41) (tgt := 100) K.1.1 K.1.2.1 dX10_faultOfCommand_59 (by rw [w_5]; decide) (by rw [w_5]; decide) (by rw [w_5]; rfl) (by decide) ?_
    refine lv_aload_n K.1.1 K.1.2.1 dX10_faultOfCommand_100 rfl (lv_at hl 4 rfl) ?_
    refine m_getr K hP (by decide) sh_0 rfl tuX10 0 (by decide) rfl q_387 dX10_faultOfCommand_101 ?_
    refine lv_iconst (v := 0) K.1.1 K.1.2.1 dX10_faultOfCommand_104 (by decide) ?_
    refine lv_iload_n K.1.1 K.1.2.1 dX10_faultOfCommand_105 rfl (lv_at hl 2 rfl) ?_
    refine m_cV (n := 2) (As := [.int 0, .int r_2]) (rest := []) K hP hS (MX1_faultOfJoin l G B _ 1 isA_1 0 r_2 ) isA_1.1 isA_1.2.1 rfl q_566 q_567 q_568 q_83 q_569 hv_X1_faultOfJoin ⟨Nat.le_of_ble_eq_true rfl, Nat.le_of_ble_eq_true rfl⟩ rfl hl.1 rfl (Nat.le_of_ble_eq_true rfl) dX10_faultOfCommand_106 ⟨Nat.zero_le _, Nat.zero_le _⟩ (fun H locs hP hS => ?_)
    refine lv_topi (fun r_6 er_6 => ?_)
    exact m_iret K hr hlocks hP hS dX10_faultOfCommand_109 (by rw [X_cmdFault, exs, if_pos w_5]; first | done | (subst eg_1 er_2 er_3 er_4 er_6; first | done | rfl)) rfl
  by_cases w_7 : xw = 2
  · refine lv_tableIn (off := 51) (tgt := 110) K.1.1 K.1.2.1 dX10_faultOfCommand_59 (by rw [w_7]; decide) (by rw [w_7]; decide) (by rw [w_7]; rfl) (by decide) ?_
    refine lv_aload_n K.1.1 K.1.2.1 dX10_faultOfCommand_110 rfl (lv_at hl 4 rfl) ?_
    refine m_getr K hP (by decide) sh_0 rfl tuX10 0 (by decide) rfl q_387 dX10_faultOfCommand_111 ?_
    refine lv_iconst (v := 1) K.1.1 K.1.2.1 dX10_faultOfCommand_114 (by decide) ?_
    refine lv_iload_n K.1.1 K.1.2.1 dX10_faultOfCommand_115 rfl (lv_at hl 2 rfl) ?_
    refine m_cV (n := 2) (As := [.int 1, .int r_2]) (rest := []) K hP hS (MX1_faultOfJoin l G B _ 1 isA_1 1 r_2 ) isA_1.1 isA_1.2.1 rfl q_566 q_567 q_568 q_83 q_569 hv_X1_faultOfJoin ⟨Nat.le_of_ble_eq_true rfl, Nat.le_of_ble_eq_true rfl⟩ rfl hl.1 rfl (Nat.le_of_ble_eq_true rfl) dX10_faultOfCommand_116 ⟨Nat.zero_le _, Nat.zero_le _⟩ (fun H locs hP hS => ?_)
    refine lv_topi (fun r_8 er_8 => ?_)
    exact m_iret K hr hlocks hP hS dX10_faultOfCommand_119 (by rw [X_cmdFault, exs, if_neg w_5, if_pos w_7]; first | done | (subst eg_1 er_2 er_3 er_4 er_8; first | done | rfl)) rfl
  by_cases w_9 : xw = 3
  · refine lv_tableIn (off := 61) (tgt := 120) K.1.1 K.1.2.1 dX10_faultOfCommand_59 (by rw [w_9]; decide) (by rw [w_9]; decide) (by rw [w_9]; rfl) (by decide) ?_
    refine lv_aload_n K.1.1 K.1.2.1 dX10_faultOfCommand_120 rfl (lv_at hl 4 rfl) ?_
    refine m_getr K hP (by decide) sh_0 rfl tuX10 0 (by decide) rfl q_387 dX10_faultOfCommand_121 ?_
    refine lv_iload_n K.1.1 K.1.2.1 dX10_faultOfCommand_124 rfl (lv_at hl 2 rfl) ?_
    refine lv_iload_n K.1.1 K.1.2.1 dX10_faultOfCommand_125 rfl (lv_at hl 1 rfl) ?_
    refine lv_iload K.1.1 K.1.2.1 dX10_faultOfCommand_126 (lv_at hl 0 rfl) ?_
    refine m_cV (n := 3) (As := [.int r_2, .int r_3, .int r_4]) (rest := []) K hP hS (MX1_faultOfShade l G B _ 1 isA_1 r_2 r_3 r_4 ) isA_1.1 isA_1.2.1 rfl q_571 q_572 q_573 q_83 q_574 hv_X1_faultOfShade ⟨Nat.le_of_ble_eq_true rfl, Nat.le_of_ble_eq_true rfl⟩ rfl hl.1 rfl (Nat.le_of_ble_eq_true rfl) dX10_faultOfCommand_128 ⟨Nat.zero_le _, Nat.zero_le _⟩ (fun H locs hP hS => ?_)
    refine lv_topi (fun r_10 er_10 => ?_)
    exact m_iret K hr hlocks hP hS dX10_faultOfCommand_131 (by rw [X_cmdFault, exs, if_neg w_5, if_neg w_7, if_pos w_9]; first | done | (subst eg_1 er_2 er_3 er_4 er_10; first | done | rfl)) rfl
  by_cases w_11 : xw = 4
  · refine lv_tableIn (off := 73) (tgt := 132) K.1.1 K.1.2.1 dX10_faultOfCommand_59 (by rw [w_11]; decide) (by rw [w_11]; decide) (by rw [w_11]; rfl) (by decide) ?_
    refine lv_aload_n K.1.1 K.1.2.1 dX10_faultOfCommand_132 rfl (lv_at hl 4 rfl) ?_
    refine m_getr K hP (by decide) sh_0 rfl tuX10 0 (by decide) rfl q_387 dX10_faultOfCommand_133 ?_
    refine lv_iload_n K.1.1 K.1.2.1 dX10_faultOfCommand_136 rfl (lv_at hl 2 rfl) ?_
    refine lv_iload_n K.1.1 K.1.2.1 dX10_faultOfCommand_137 rfl (lv_at hl 1 rfl) ?_
    refine m_cV (n := 2) (As := [.int r_2, .int r_3]) (rest := []) K hP hS (MX1_faultOfBid l G B _ 1 isA_1 r_2 r_3 ) isA_1.1 isA_1.2.1 rfl q_579 q_580 q_581 q_83 q_582 hv_X1_faultOfBid ⟨Nat.le_of_ble_eq_true rfl, Nat.le_of_ble_eq_true rfl⟩ rfl hl.1 rfl (Nat.le_of_ble_eq_true rfl) dX10_faultOfCommand_138 ⟨Nat.zero_le _, Nat.zero_le _⟩ (fun H locs hP hS => ?_)
    refine lv_topi (fun r_12 er_12 => ?_)
    exact m_iret K hr hlocks hP hS dX10_faultOfCommand_141 (by rw [X_cmdFault, exs, if_neg w_5, if_neg w_7, if_neg w_9, if_pos w_11]; first | done | (subst eg_1 er_2 er_3 er_4 er_12; first | done | rfl)) rfl
  by_cases w_13 : xw = 5
  · refine lv_tableIn (off := 83) (tgt := 142) K.1.1 K.1.2.1 dX10_faultOfCommand_59 (by rw [w_13]; decide) (by rw [w_13]; decide) (by rw [w_13]; rfl) (by decide) ?_
    refine lv_aload_n K.1.1 K.1.2.1 dX10_faultOfCommand_142 rfl (lv_at hl 4 rfl) ?_
    refine m_getr K hP (by decide) sh_0 rfl tuX10 0 (by decide) rfl q_387 dX10_faultOfCommand_143 ?_
    refine lv_iload_n K.1.1 K.1.2.1 dX10_faultOfCommand_146 rfl (lv_at hl 2 rfl) ?_
    refine lv_iload_n K.1.1 K.1.2.1 dX10_faultOfCommand_147 rfl (lv_at hl 1 rfl) ?_
    refine lv_iload K.1.1 K.1.2.1 dX10_faultOfCommand_148 (lv_at hl 0 rfl) ?_
    refine m_cV (n := 3) (As := [.int r_2, .int r_3, .int r_4]) (rest := []) K hP hS (MX1_faultOfOrder l G B _ 1 isA_1 r_2 r_3 r_4 ) isA_1.1 isA_1.2.1 rfl q_591 q_584 q_585 q_83 q_586 hv_X1_faultOfOrder ⟨Nat.le_of_ble_eq_true rfl, Nat.le_of_ble_eq_true rfl⟩ rfl hl.1 rfl (Nat.le_of_ble_eq_true rfl) dX10_faultOfCommand_150 ⟨Nat.zero_le _, Nat.zero_le _⟩ (fun H locs hP hS => ?_)
    refine lv_topi (fun r_14 er_14 => ?_)
    exact m_iret K hr hlocks hP hS dX10_faultOfCommand_153 (by rw [X_cmdFault, exs, if_neg w_5, if_neg w_7, if_neg w_9, if_neg w_11, if_pos w_13]; first | done | (subst eg_1 er_2 er_3 er_4 er_14; first | done | rfl)) rfl
  by_cases w_15 : xw = 6
  · refine lv_tableIn (off := 95) (tgt := 154) K.1.1 K.1.2.1 dX10_faultOfCommand_59 (by rw [w_15]; decide) (by rw [w_15]; decide) (by rw [w_15]; rfl) (by decide) ?_
    refine lv_aload_n K.1.1 K.1.2.1 dX10_faultOfCommand_154 rfl (lv_at hl 4 rfl) ?_
    refine m_getr K hP (by decide) sh_0 rfl tuX10 0 (by decide) rfl q_387 dX10_faultOfCommand_155 ?_
    refine m_getr K hP isA_1.1 isA_1.2.1 rfl tuX1 1 (by decide) rfl q_250 dX10_faultOfCommand_158 ?_
    refine lv_iload_n K.1.1 K.1.2.1 dX10_faultOfCommand_161 rfl (lv_at hl 2 rfl) ?_
    refine m_cV (n := 1) (As := [.int r_2]) (rest := []) K hP hS (MX4_faultOfNumber l G B _ (1 + 16) isA_1.2.2.2.1 r_2 ) isA_1.2.2.2.1.1 isA_1.2.2.2.1.2.1 rfl q_592 q_593 q_594 q_86 q_595 hv_X4_faultOfNumber ⟨Nat.le_of_ble_eq_true rfl, Nat.le_of_ble_eq_true rfl⟩ rfl hl.1 rfl (Nat.le_of_ble_eq_true rfl) dX10_faultOfCommand_162 ⟨Nat.zero_le _, Nat.zero_le _⟩ (fun H locs hP hS => ?_)
    refine lv_topi (fun r_16 er_16 => ?_)
    exact m_iret K hr hlocks hP hS dX10_faultOfCommand_165 (by rw [X_cmdFault, exs, if_neg w_5, if_neg w_7, if_neg w_9, if_neg w_11, if_neg w_13, if_pos w_15]; first | done | (subst eg_1 er_2 er_3 er_4 er_16; first | done | rfl)) rfl
  by_cases w_17 : xw = 7
  · refine lv_tableIn (off := 107) (tgt := 166) K.1.1 K.1.2.1 dX10_faultOfCommand_59 (by rw [w_17]; decide) (by rw [w_17]; decide) (by rw [w_17]; rfl) (by decide) ?_
    refine lv_aload_n K.1.1 K.1.2.1 dX10_faultOfCommand_166 rfl (lv_at hl 4 rfl) ?_
    refine m_getr K hP (by decide) sh_0 rfl tuX10 0 (by decide) rfl q_387 dX10_faultOfCommand_167 ?_
    refine lv_iload_n K.1.1 K.1.2.1 dX10_faultOfCommand_170 rfl (lv_at hl 2 rfl) ?_
    refine lv_iload_n K.1.1 K.1.2.1 dX10_faultOfCommand_171 rfl (lv_at hl 1 rfl) ?_
    refine m_cV (n := 2) (As := [.int r_2, .int r_3]) (rest := []) K hP hS (MX1_faultOfSetting l G B _ 1 isA_1 r_2 r_3 ) isA_1.1 isA_1.2.1 rfl q_601 q_602 q_603 q_83 q_604 hv_X1_faultOfSetting ⟨Nat.le_of_ble_eq_true rfl, Nat.le_of_ble_eq_true rfl⟩ rfl hl.1 rfl (Nat.le_of_ble_eq_true rfl) dX10_faultOfCommand_172 ⟨Nat.zero_le _, Nat.zero_le _⟩ (fun H locs hP hS => ?_)
    refine lv_topi (fun r_18 er_18 => ?_)
    exact m_iret K hr hlocks hP hS dX10_faultOfCommand_175 (by rw [X_cmdFault, exs, if_neg w_5, if_neg w_7, if_neg w_9, if_neg w_11, if_neg w_13, if_neg w_15, if_pos w_17]; first | done | (subst eg_1 er_2 er_3 er_4 er_18; first | done | rfl)) rfl
  refine lv_tableOut (tgt := 176) K.1.1 K.1.2.1 dX10_faultOfCommand_59 (sw_out_1_7 w_5 w_7 w_9 w_11 w_13 w_15 w_17) (by decide) ?_
  refine lv_aload_n K.1.1 K.1.2.1 dX10_faultOfCommand_176 rfl (lv_at hl 4 rfl) ?_
  refine m_getr K hP (by decide) sh_0 rfl tuX10 0 (by decide) rfl q_387 dX10_faultOfCommand_177 ?_
  refine m_cV (n := 0) (As := []) (rest := []) K hP hS (MX1_faultOfRound l G B _ 1 isA_1 ) isA_1.1 isA_1.2.1 rfl q_605 q_606 q_607 q_83 q_608 hv_X1_faultOfRound ⟨Nat.le_of_ble_eq_true rfl, Nat.le_of_ble_eq_true rfl⟩ rfl hl.1 rfl (Nat.le_of_ble_eq_true rfl) dX10_faultOfCommand_180 ⟨Nat.zero_le _, Nat.zero_le _⟩ (fun H locs hP hS => ?_)
  refine lv_topi (fun r_19 er_19 => ?_)
  exact m_iret K hr hlocks hP hS dX10_faultOfCommand_183 (by rw [X_cmdFault, exs, if_neg w_5, if_neg w_7, if_neg w_9, if_neg w_11, if_neg w_13, if_neg w_15, if_neg w_17]; first | done | (subst eg_1 er_2 er_3 er_4 er_19; first | done | rfl)) rfl

set_option maxHeartbeats 4000000 in
set_option maxRecDepth 100000 in
theorem MX10_carryOutCommand (l : Launch) (G : GG) (B : Nat) (μ : Mm) (hw : ∃ kw : Nat, kw < 8 ∧ μ 254 1 = nI kw) (hc : ¬ μ (1 + 16) 0 < 0) : CM l yX10_carryOutCommand (.code yX10_carryOutCommand cX10_carryOutCommand 5 Option.none) 5 114 G B [.ref (B + 0)] μ none (X_cmdDo μ) := by
  refine CM.of (by decide) (Nat.le_of_ble_eq_true rfl) ?_
  intro p e s m below meth c ls K hr hlocks hP hl
  have hS : va_S (AA B) s.heap s.heap [] := va_S.rf
  have hl : lv_has ls 5 [(0, .ref (B + 0))] := hl
  obtain ⟨t1, hZ1, hT1⟩ := K.2.2.2.2.1
  refine lv_aload_n K.1.1 K.1.2.1 dX10_carryOutCommand_0 rfl (lv_at hl 0 rfl) ?_
  refine m_getr K hP (by decide) sh_0 rfl tuX10 4 (by decide) rfl q_391 dX10_carryOutCommand_1 ?_
  refine m_getw K hP (by decide) sh_254 rfl tuX3 1 (by decide) rfl q_368 dX10_carryOutCommand_4 ?_
  refine m_topw (fun g_1 eg_1 => ?_)
  obtain ⟨kw, hk8, hkw⟩ : ∃ kw : Nat, kw < 8 ∧ g_1 = nI kw := (by subst eg_1; exact hw)
  rw [show wv G g_1 = .ref (G.2.2.2 kw) from (by rw [hkw]; exact wv_nI hk8)]
  refine lv_astore_n (lv' := [(1, .ref (G.2.2.2 kw)), (0, .ref (B + 0))]) K.1.1 K.1.2.1 dX10_carryOutCommand_7 rfl hl (by decide) rfl (fun ls hl => ?_)
  refine lv_aload_n K.1.1 K.1.2.1 dX10_carryOutCommand_8 rfl (lv_at hl 1 rfl) ?_
  refine m_getr K hP (by decide) sh_0 rfl tuX10 4 (by decide) rfl q_391 dX10_carryOutCommand_9 ?_
  refine m_getr K hP (by decide) sh_254 rfl tuX3 2 (by decide) rfl q_370 dX10_carryOutCommand_12 ?_
  refine lv_iconst (v := 0) K.1.1 K.1.2.1 dX10_carryOutCommand_15 (by decide) ?_
  refine m_cV (n := 1) (As := [.int 0]) (rest := []) K hP hS (MX5_get l G B _ 255 3 isR_255 0 ) (Nat.lt_of_succ_lt isR_255.1) isR_255.2.1 rfl q_557 q_436 q_437 q_85 q_438 hv_X5_get ⟨Nat.le_of_ble_eq_true rfl, Nat.le_of_ble_eq_true rfl⟩ rfl hl.1 rfl (Nat.le_of_ble_eq_true rfl) dX10_carryOutCommand_16 ⟨Nat.zero_le _, Nat.zero_le _⟩ (fun H locs hP hS => ?_)
  refine lv_topi (fun r_2 er_2 => ?_)
  refine lv_istore_n (lv' := [(2, .int r_2), (1, .ref (G.2.2.2 kw)), (0, .ref (B + 0))]) K.1.1 K.1.2.1 dX10_carryOutCommand_19 rfl hl (by decide) rfl (fun ls hl => ?_)
  refine lv_aload_n K.1.1 K.1.2.1 dX10_carryOutCommand_20 rfl (lv_at hl 2 rfl) ?_
  refine m_getr K hP (by decide) sh_0 rfl tuX10 4 (by decide) rfl q_391 dX10_carryOutCommand_21 ?_
  refine m_getr K hP (by decide) sh_254 rfl tuX3 2 (by decide) rfl q_370 dX10_carryOutCommand_24 ?_
  refine lv_iconst (v := 1) K.1.1 K.1.2.1 dX10_carryOutCommand_27 (by decide) ?_
  refine m_cV (n := 1) (As := [.int 1]) (rest := []) K hP hS (MX5_get l G B _ 255 3 isR_255 1 ) (Nat.lt_of_succ_lt isR_255.1) isR_255.2.1 rfl q_557 q_436 q_437 q_85 q_438 hv_X5_get ⟨Nat.le_of_ble_eq_true rfl, Nat.le_of_ble_eq_true rfl⟩ rfl hl.1 rfl (Nat.le_of_ble_eq_true rfl) dX10_carryOutCommand_28 ⟨Nat.zero_le _, Nat.zero_le _⟩ (fun H locs hP hS => ?_)
  refine lv_topi (fun r_3 er_3 => ?_)
  refine lv_istore_n (lv' := [(3, .int r_3), (2, .int r_2), (1, .ref (G.2.2.2 kw)), (0, .ref (B + 0))]) K.1.1 K.1.2.1 dX10_carryOutCommand_31 rfl hl (by decide) rfl (fun ls hl => ?_)
  refine lv_aload_n K.1.1 K.1.2.1 dX10_carryOutCommand_32 rfl (lv_at hl 3 rfl) ?_
  refine m_getr K hP (by decide) sh_0 rfl tuX10 4 (by decide) rfl q_391 dX10_carryOutCommand_33 ?_
  refine m_getr K hP (by decide) sh_254 rfl tuX3 2 (by decide) rfl q_370 dX10_carryOutCommand_36 ?_
  refine lv_iconst (v := 2) K.1.1 K.1.2.1 dX10_carryOutCommand_39 (by decide) ?_
  refine m_cV (n := 1) (As := [.int 2]) (rest := []) K hP hS (MX5_get l G B _ 255 3 isR_255 2 ) (Nat.lt_of_succ_lt isR_255.1) isR_255.2.1 rfl q_557 q_436 q_437 q_85 q_438 hv_X5_get ⟨Nat.le_of_ble_eq_true rfl, Nat.le_of_ble_eq_true rfl⟩ rfl hl.1 rfl (Nat.le_of_ble_eq_true rfl) dX10_carryOutCommand_40 ⟨Nat.zero_le _, Nat.zero_le _⟩ (fun H locs hP hS => ?_)
  refine lv_topi (fun r_4 er_4 => ?_)
  refine lv_istore (lv' := [(4, .int r_4), (3, .int r_3), (2, .int r_2), (1, .ref (G.2.2.2 kw)), (0, .ref (B + 0))]) K.1.1 K.1.2.1 dX10_carryOutCommand_43 hl (by decide) rfl (fun ls hl => ?_)
  refine lv_aload_n K.1.1 K.1.2.1 dX10_carryOutCommand_45 rfl (lv_at hl 3 rfl) ?_
  refine lv_ifnonnull (tgt := 50) K.1.1 K.1.2.1 dX10_carryOutCommand_46 (by decide) ?_
  refine va_gets K.1.1 K.1.2.1 hZ1 hS K.1.2.2.2.1 (K.w q_558) (fun _ h => h) dX10_carryOutCommand_50 ?_
  refine lv_aload_n K.1.1 K.1.2.1 dX10_carryOutCommand_53 rfl (lv_at hl 3 rfl) ?_
  refine m_ord K hP hS hk8 hl.1 ⟨Nat.le_of_ble_eq_true rfl, Nat.le_of_ble_eq_true rfl⟩ (Nat.le_of_ble_eq_true rfl) ⟨Nat.zero_le _, Nat.zero_le _⟩ dX10_carryOutCommand_54 (fun H locs hP hS => ?_)
  refine va_ti K.1.1 K.1.2.1 hT1 hS (vp_ofN (by omega) hk8) (v := .int (smN.getD kw 0)) (by rw [nI_clamp (by omega)]) dX10_carryOutCommand_57 ?_
  refine lv_topi (fun xw exw => ?_)
  have exs : X_sw μ = xw := (by rw [X_sw, exw, show μ 254 1 = nI kw from (by subst eg_1 er_2 er_3 er_4; exact hkw), cn_nI (by omega)])
  by_cases w_5 : xw = 1
  · refine lv_tableIn (off := 42) (tgt := 100) K.1.1 K.1.2.1 dX10_carryOutCommand_58 (by rw [w_5]; decide) (by rw [w_5]; decide) (by rw [w_5]; rfl) (by decide) ?_
    refine lv_aload_n K.1.1 K.1.2.1 dX10_carryOutCommand_100 rfl (lv_at hl 4 rfl) ?_
    refine m_getr K hP (by decide) sh_0 rfl tuX10 0 (by decide) rfl q_387 dX10_carryOutCommand_101 ?_
    refine m_getr K hP isA_1.1 isA_1.2.1 rfl tuX1 0 (by decide) rfl q_246 dX10_carryOutCommand_104 ?_
    refine lv_iconst (v := 0) K.1.1 K.1.2.1 dX10_carryOutCommand_107 (by decide) ?_
    refine lv_iload_n K.1.1 K.1.2.1 dX10_carryOutCommand_108 rfl (lv_at hl 2 rfl) ?_
    refine m_cV (n := 2) (As := [.int 0, .int r_2]) (rest := []) K hP hS (MX6_join l G B _ (1 + 1) isA_1.2.2.1 0 r_2 ) isA_1.2.2.1.1 isA_1.2.2.1.2.1 rfl q_613 q_614 q_615 q_84 q_616 hv_X6_join ⟨Nat.le_of_ble_eq_true rfl, Nat.le_of_ble_eq_true rfl⟩ rfl hl.1 rfl (Nat.le_of_ble_eq_true rfl) dX10_carryOutCommand_109 ⟨Nat.zero_le _, Nat.zero_le _⟩ (fun H locs hP hS => ?_)
    refine lv_topi (fun r_6 er_6 => ?_)
    refine lv_pop K.1.1 K.1.2.1 dX10_carryOutCommand_112 rfl ?_
    refine lv_goto (tgt := 228) K.1.1 K.1.2.1 dX10_carryOutCommand_113 (by decide) ?_
    exact m_vret K hr hlocks hP hS dX10_carryOutCommand_228 rfl (by rw [X_cmdDo, exs, if_pos w_5]; first | done | (subst eg_1 er_2 er_3 er_4 er_6; first | done | rfl))
  by_cases w_7 : xw = 2
  · refine lv_tableIn (off := 58) (tgt := 116) K.1.1 K.1.2.1 dX10_carryOutCommand_58 (by rw [w_7]; decide) (by rw [w_7]; decide) (by rw [w_7]; rfl) (by decide) ?_
    refine lv_aload_n K.1.1 K.1.2.1 dX10_carryOutCommand_116 rfl (lv_at hl 4 rfl) ?_
    refine m_getr K hP (by decide) sh_0 rfl tuX10 0 (by decide) rfl q_387 dX10_carryOutCommand_117 ?_
    refine m_getr K hP isA_1.1 isA_1.2.1 rfl tuX1 0 (by decide) rfl q_246 dX10_carryOutCommand_120 ?_
    refine lv_iconst (v := 1) K.1.1 K.1.2.1 dX10_carryOutCommand_123 (by decide) ?_
    refine lv_iload_n K.1.1 K.1.2.1 dX10_carryOutCommand_124 rfl (lv_at hl 2 rfl) ?_
    refine m_cV (n := 2) (As := [.int 1, .int r_2]) (rest := []) K hP hS (MX6_join l G B _ (1 + 1) isA_1.2.2.1 1 r_2 ) isA_1.2.2.1.1 isA_1.2.2.1.2.1 rfl q_613 q_614 q_615 q_84 q_616 hv_X6_join ⟨Nat.le_of_ble_eq_true rfl, Nat.le_of_ble_eq_true rfl⟩ rfl hl.1 rfl (Nat.le_of_ble_eq_true rfl) dX10_carryOutCommand_125 ⟨Nat.zero_le _, Nat.zero_le _⟩ (fun H locs hP hS => ?_)
    refine lv_topi (fun r_8 er_8 => ?_)
    refine lv_pop K.1.1 K.1.2.1 dX10_carryOutCommand_128 rfl ?_
    refine lv_goto (tgt := 228) K.1.1 K.1.2.1 dX10_carryOutCommand_129 (by decide) ?_
    exact m_vret K hr hlocks hP hS dX10_carryOutCommand_228 rfl (by rw [X_cmdDo, exs, if_neg w_5, if_pos w_7]; first | done | (subst eg_1 er_2 er_3 er_4 er_8; first | done | rfl))
  by_cases w_9 : xw = 3
  · refine lv_tableIn (off := 74) (tgt := 132) K.1.1 K.1.2.1 dX10_carryOutCommand_58 (by rw [w_9]; decide) (by rw [w_9]; decide) (by rw [w_9]; rfl) (by decide) ?_
    refine lv_aload_n K.1.1 K.1.2.1 dX10_carryOutCommand_132 rfl (lv_at hl 4 rfl) ?_
    refine m_getr K hP (by decide) sh_0 rfl tuX10 0 (by decide) rfl q_387 dX10_carryOutCommand_133 ?_
    refine m_getr K hP isA_1.1 isA_1.2.1 rfl tuX1 0 (by decide) rfl q_246 dX10_carryOutCommand_136 ?_
    refine lv_iload_n K.1.1 K.1.2.1 dX10_carryOutCommand_139 rfl (lv_at hl 2 rfl) ?_
    refine lv_iload_n K.1.1 K.1.2.1 dX10_carryOutCommand_140 rfl (lv_at hl 1 rfl) ?_
    refine lv_iload K.1.1 K.1.2.1 dX10_carryOutCommand_141 (lv_at hl 0 rfl) ?_
    refine m_cV (n := 3) (As := [.int r_2, .int r_3, .int r_4]) (rest := []) K hP hS (MX6_shadeBy l G B _ (1 + 1) isA_1.2.2.1 r_2 r_3 r_4 ) isA_1.2.2.1.1 isA_1.2.2.1.2.1 rfl q_622 q_619 q_620 q_84 q_621 hv_X6_shadeBy ⟨Nat.le_of_ble_eq_true rfl, Nat.le_of_ble_eq_true rfl⟩ rfl hl.1 rfl (Nat.le_of_ble_eq_true rfl) dX10_carryOutCommand_143 ⟨Nat.zero_le _, Nat.zero_le _⟩ (fun H locs hP hS => ?_)
    refine W.eq (g2 := F0 m 146 ls []) rfl ?_
    refine lv_goto (tgt := 228) K.1.1 K.1.2.1 dX10_carryOutCommand_146 (by decide) ?_
    exact m_vret K hr hlocks hP hS dX10_carryOutCommand_228 rfl (by rw [X_cmdDo, exs, if_neg w_5, if_neg w_7, if_pos w_9]; first | done | (subst eg_1 er_2 er_3 er_4; first | done | rfl))
  by_cases w_10 : xw = 4
  · refine lv_tableIn (off := 91) (tgt := 149) K.1.1 K.1.2.1 dX10_carryOutCommand_58 (by rw [w_10]; decide) (by rw [w_10]; decide) (by rw [w_10]; rfl) (by decide) ?_
    refine lv_aload_n K.1.1 K.1.2.1 dX10_carryOutCommand_149 rfl (lv_at hl 4 rfl) ?_
    refine m_getr K hP (by decide) sh_0 rfl tuX10 0 (by decide) rfl q_387 dX10_carryOutCommand_150 ?_
    refine lv_iload_n K.1.1 K.1.2.1 dX10_carryOutCommand_153 rfl (lv_at hl 2 rfl) ?_
    refine lv_aload_n K.1.1 K.1.2.1 dX10_carryOutCommand_154 rfl (lv_at hl 4 rfl) ?_
    refine m_getr K hP (by decide) sh_0 rfl tuX10 0 (by decide) rfl q_387 dX10_carryOutCommand_155 ?_
    refine m_getr K hP isA_1.1 isA_1.2.1 rfl tuX1 0 (by decide) rfl q_246 dX10_carryOutCommand_158 ?_
    refine lv_iload_n K.1.1 K.1.2.1 dX10_carryOutCommand_161 rfl (lv_at hl 2 rfl) ?_
    refine m_cV (n := 1) (As := [.int r_2]) (rest := [.int r_2, .ref (B + 1)]) K hP hS (MX6_bidOf l G B _ (1 + 1) isA_1.2.2.1 r_2 ) isA_1.2.2.1.1 isA_1.2.2.1.2.1 rfl q_623 q_624 q_625 q_84 q_626 hv_X6_bidOf ⟨Nat.le_of_ble_eq_true rfl, Nat.le_of_ble_eq_true rfl⟩ rfl hl.1 rfl (Nat.le_of_ble_eq_true rfl) dX10_carryOutCommand_162 ⟨Nat.zero_le _, Nat.zero_le _⟩ (fun H locs hP hS => ?_)
    refine lv_topi (fun r_11 er_11 => ?_)
    refine lv_iload_n K.1.1 K.1.2.1 dX10_carryOutCommand_165 rfl (lv_at hl 1 rfl) ?_
    refine m_cV (n := 3) (As := [.int r_2, .int r_11, .int r_3]) (rest := []) K hP hS (MX1_place l G B _ 1 isA_1 r_2 r_11 r_3 ) isA_1.1 isA_1.2.1 rfl q_642 q_643 q_644 q_83 q_645 hv_X1_place ⟨Nat.le_of_ble_eq_true rfl, Nat.le_of_ble_eq_true rfl⟩ rfl hl.1 rfl (Nat.le_of_ble_eq_true rfl) dX10_carryOutCommand_166 ⟨Nat.zero_le _, Nat.zero_le _⟩ (fun H locs hP hS => ?_)
    refine lv_topi (fun r_12 er_12 => ?_)
    refine lv_pop K.1.1 K.1.2.1 dX10_carryOutCommand_169 rfl ?_
    refine lv_goto (tgt := 228) K.1.1 K.1.2.1 dX10_carryOutCommand_170 (by decide) ?_
    exact m_vret K hr hlocks hP hS dX10_carryOutCommand_228 rfl (by rw [X_cmdDo, exs, if_neg w_5, if_neg w_7, if_neg w_9, if_pos w_10]; first | done | (subst eg_1 er_2 er_3 er_4 er_11 er_12; first | done | rfl))
  by_cases w_13 : xw = 5
  · refine lv_tableIn (off := 115) (tgt := 173) K.1.1 K.1.2.1 dX10_carryOutCommand_58 (by rw [w_13]; decide) (by rw [w_13]; decide) (by rw [w_13]; rfl) (by decide) ?_
    refine lv_aload_n K.1.1 K.1.2.1 dX10_carryOutCommand_173 rfl (lv_at hl 4 rfl) ?_
    refine m_getr K hP (by decide) sh_0 rfl tuX10 0 (by decide) rfl q_387 dX10_carryOutCommand_174 ?_
    refine lv_iload_n K.1.1 K.1.2.1 dX10_carryOutCommand_177 rfl (lv_at hl 2 rfl) ?_
    refine lv_iload_n K.1.1 K.1.2.1 dX10_carryOutCommand_178 rfl (lv_at hl 1 rfl) ?_
    refine lv_iload K.1.1 K.1.2.1 dX10_carryOutCommand_179 (lv_at hl 0 rfl) ?_
    refine m_cV (n := 3) (As := [.int r_2, .int r_3, .int r_4]) (rest := []) K hP hS (MX1_place l G B _ 1 isA_1 r_2 r_3 r_4 ) isA_1.1 isA_1.2.1 rfl q_642 q_643 q_644 q_83 q_645 hv_X1_place ⟨Nat.le_of_ble_eq_true rfl, Nat.le_of_ble_eq_true rfl⟩ rfl hl.1 rfl (Nat.le_of_ble_eq_true rfl) dX10_carryOutCommand_181 ⟨Nat.zero_le _, Nat.zero_le _⟩ (fun H locs hP hS => ?_)
    refine lv_topi (fun r_14 er_14 => ?_)
    refine lv_pop K.1.1 K.1.2.1 dX10_carryOutCommand_184 rfl ?_
    refine lv_goto (tgt := 228) K.1.1 K.1.2.1 dX10_carryOutCommand_185 (by decide) ?_
    exact m_vret K hr hlocks hP hS dX10_carryOutCommand_228 rfl (by rw [X_cmdDo, exs, if_neg w_5, if_neg w_7, if_neg w_9, if_neg w_10, if_pos w_13]; first | done | (subst eg_1 er_2 er_3 er_4 er_14; first | done | rfl))
  by_cases w_15 : xw = 6
  · refine lv_tableIn (off := 130) (tgt := 188) K.1.1 K.1.2.1 dX10_carryOutCommand_58 (by rw [w_15]; decide) (by rw [w_15]; decide) (by rw [w_15]; rfl) (by decide) ?_
    refine lv_aload_n K.1.1 K.1.2.1 dX10_carryOutCommand_188 rfl (lv_at hl 4 rfl) ?_
    refine m_getr K hP (by decide) sh_0 rfl tuX10 0 (by decide) rfl q_387 dX10_carryOutCommand_189 ?_
    refine m_getr K hP isA_1.1 isA_1.2.1 rfl tuX1 1 (by decide) rfl q_250 dX10_carryOutCommand_192 ?_
    refine lv_iload_n K.1.1 K.1.2.1 dX10_carryOutCommand_195 rfl (lv_at hl 2 rfl) ?_
    refine m_cV (n := 1) (As := [.int r_2]) (rest := []) K hP hS (MX4_withdraw l G B _ (1 + 16) isA_1.2.2.2.1 r_2 ) isA_1.2.2.2.1.1 isA_1.2.2.2.1.2.1 rfl q_652 q_653 q_654 q_86 q_655 hv_X4_withdraw ⟨Nat.le_of_ble_eq_true rfl, Nat.le_of_ble_eq_true rfl⟩ rfl hl.1 rfl (Nat.le_of_ble_eq_true rfl) dX10_carryOutCommand_196 ⟨Nat.zero_le _, Nat.zero_le _⟩ (fun H locs hP hS => ?_)
    refine lv_topi (fun r_16 er_16 => ?_)
    refine lv_pop K.1.1 K.1.2.1 dX10_carryOutCommand_199 rfl ?_
    refine lv_goto (tgt := 228) K.1.1 K.1.2.1 dX10_carryOutCommand_200 (by decide) ?_
    exact m_vret K hr hlocks hP hS dX10_carryOutCommand_228 rfl (by rw [X_cmdDo, exs, if_neg w_5, if_neg w_7, if_neg w_9, if_neg w_10, if_neg w_13, if_pos w_15]; first | done | (subst eg_1 er_2 er_3 er_4 er_16; first | done | rfl))
  by_cases w_17 : xw = 7
  · refine lv_tableIn (off := 145) (tgt := 203) K.1.1 K.1.2.1 dX10_carryOutCommand_58 (by rw [w_17]; decide) (by rw [w_17]; decide) (by rw [w_17]; rfl) (by decide) ?_
    refine lv_aload_n K.1.1 K.1.2.1 dX10_carryOutCommand_203 rfl (lv_at hl 4 rfl) ?_
    refine m_getr K hP (by decide) sh_0 rfl tuX10 0 (by decide) rfl q_387 dX10_carryOutCommand_204 ?_
    refine lv_iload_n K.1.1 K.1.2.1 dX10_carryOutCommand_207 rfl (lv_at hl 2 rfl) ?_
    refine lv_iload_n K.1.1 K.1.2.1 dX10_carryOutCommand_208 rfl (lv_at hl 1 rfl) ?_
    refine m_cV (n := 2) (As := [.int r_2, .int r_3]) (rest := []) K hP hS (MX1_change l G B _ 1 isA_1 r_2 r_3 ) isA_1.1 isA_1.2.1 rfl q_664 q_665 q_666 q_83 q_667 hv_X1_change ⟨Nat.le_of_ble_eq_true rfl, Nat.le_of_ble_eq_true rfl⟩ rfl hl.1 rfl (Nat.le_of_ble_eq_true rfl) dX10_carryOutCommand_209 ⟨Nat.zero_le _, Nat.zero_le _⟩ (fun H locs hP hS => ?_)
    refine lv_topi (fun r_18 er_18 => ?_)
    refine lv_pop K.1.1 K.1.2.1 dX10_carryOutCommand_212 rfl ?_
    refine lv_goto (tgt := 228) K.1.1 K.1.2.1 dX10_carryOutCommand_213 (by decide) ?_
    exact m_vret K hr hlocks hP hS dX10_carryOutCommand_228 rfl (by rw [X_cmdDo, exs, if_neg w_5, if_neg w_7, if_neg w_9, if_neg w_10, if_neg w_13, if_neg w_15, if_pos w_17]; first | done | (subst eg_1 er_2 er_3 er_4 er_18; first | done | rfl))
  refine lv_tableOut (tgt := 216) K.1.1 K.1.2.1 dX10_carryOutCommand_58 (sw_out_1_7 w_5 w_7 w_9 w_10 w_13 w_15 w_17) (by decide) ?_
  refine lv_aload_n K.1.1 K.1.2.1 dX10_carryOutCommand_216 rfl (lv_at hl 4 rfl) ?_
  refine m_getr K hP (by decide) sh_0 rfl tuX10 0 (by decide) rfl q_387 dX10_carryOutCommand_217 ?_
  refine lv_aload_n K.1.1 K.1.2.1 dX10_carryOutCommand_220 rfl (lv_at hl 4 rfl) ?_
  refine m_getr K hP (by decide) sh_0 rfl tuX10 2 (by decide) rfl q_389 dX10_carryOutCommand_221 ?_
  refine m_cV (n := 1) (As := [.ref (B + 81)]) (rest := []) K hP hS (MX1_endRound l G B _ 1 isA_1 hc) isA_1.1 isA_1.2.1 rfl q_668 q_669 q_670 q_83 q_671 hv_X1_endRound ⟨Nat.le_of_ble_eq_true rfl, Nat.le_of_ble_eq_true rfl⟩ rfl hl.1 rfl (Nat.le_of_ble_eq_true rfl) dX10_carryOutCommand_224 ⟨Nat.zero_le _, Nat.zero_le _⟩ (fun H locs hP hS => ?_)
  refine lv_topi (fun r_19 er_19 => ?_)
  refine lv_pop K.1.1 K.1.2.1 dX10_carryOutCommand_227 rfl ?_
  exact m_vret K hr hlocks hP hS dX10_carryOutCommand_228 rfl (by rw [X_cmdDo, exs, if_neg w_5, if_neg w_7, if_neg w_9, if_neg w_10, if_neg w_13, if_neg w_15, if_neg w_17]; first | done | (subst eg_1 er_2 er_3 er_4 er_19; first | done | rfl))

set_option maxHeartbeats 4000000 in
set_option maxRecDepth 100000 in
theorem MX10_runCommands (l : Launch) (G : GG) (B : Nat) (μ : Mm) (hc : ¬ μ (1 + 16) 0 < 0) : CM l yX10_runCommands (.code yX10_runCommands cX10_runCommands 3 (Option.some FieldType.int)) 9 197 G B [.ref (B + 0)] μ (some (.int ((X_run μ).2))) ((X_run μ).1) := by
  refine CM.of (by decide) (Nat.le_of_ble_eq_true rfl) ?_
  intro p e s m below meth c ls K hr hlocks hP hl
  have hS : va_S (AA B) s.heap s.heap [] := va_S.rf
  have hl : lv_has ls 3 [(0, .ref (B + 0))] := hl
  refine lv_aload_n K.1.1 K.1.2.1 dX10_runCommands_0 rfl (lv_at hl 0 rfl) ?_
  refine m_getr K hP (by decide) sh_0 rfl tuX10 4 (by decide) rfl q_391 dX10_runCommands_1 ?_
  refine m_cV (n := 0) (As := []) (rest := []) K hP hS (MX3_findFault l G B _  ) (by decide) sh_254 rfl q_415 q_416 q_417 q_90 q_418 hv_X3_findFault ⟨Nat.le_of_ble_eq_true rfl, Nat.le_of_ble_eq_true rfl⟩ rfl hl.1 rfl (Nat.le_of_ble_eq_true rfl) dX10_runCommands_4 ⟨Nat.zero_le _, Nat.zero_le _⟩ (fun H locs hP hS => ?_)
  refine lv_topi (fun r_1 er_1 => ?_)
  refine lv_istore_n (lv' := [(1, .int r_1), (0, .ref (B + 0))]) K.1.1 K.1.2.1 dX10_runCommands_7 rfl hl (by decide) rfl (fun ls hl => ?_)
  refine lv_iload_n K.1.1 K.1.2.1 dX10_runCommands_8 rfl (lv_at hl 0 rfl) ?_
  refine lv_if_lt (tgt := 17) K.1.1 K.1.2.1 dX10_runCommands_9 (by decide) (fun c_9 => ?_) (fun c_9 => ?_)
  · refine lv_aload_n K.1.1 K.1.2.1 dX10_runCommands_17 rfl (lv_at hl 1 rfl) ?_
    refine m_getr K hP (by decide) sh_0 rfl tuX10 3 (by decide) rfl q_390 dX10_runCommands_18 ?_
    refine lv_aload_n K.1.1 K.1.2.1 dX10_runCommands_21 rfl (lv_at hl 1 rfl) ?_
    refine m_getr K hP (by decide) sh_0 rfl tuX10 0 (by decide) rfl q_387 dX10_runCommands_22 ?_
    refine m_cV (n := 1) (As := [.ref (B + 1)]) (rest := []) K hP hS (MX8_push l G B _ 1 isA_1 ) (by decide) sh_92 rfl q_517 q_518 q_519 q_89 q_520 hv_X8_push ⟨Nat.le_of_ble_eq_true rfl, Nat.le_of_ble_eq_true rfl⟩ rfl hl.1 rfl (Nat.le_of_ble_eq_true rfl) dX10_runCommands_25 ⟨Nat.zero_le _, Nat.zero_le _⟩ (fun H locs hP hS => ?_)
    refine W.eq (g2 := F0 m 28 ls []) rfl ?_
    refine lv_aload_n K.1.1 K.1.2.1 dX10_runCommands_28 rfl (lv_at hl 1 rfl) ?_
    refine m_getr K hP (by decide) sh_0 rfl tuX10 4 (by decide) rfl q_391 dX10_runCommands_29 ?_
    refine m_cV (n := 0) (As := []) (rest := []) K hP hS (MX3_rewind l G B _  ) (by decide) sh_254 rfl q_551 q_420 q_421 q_90 q_422 hv_X3_rewind ⟨Nat.le_of_ble_eq_true rfl, Nat.le_of_ble_eq_true rfl⟩ rfl hl.1 rfl (Nat.le_of_ble_eq_true rfl) dX10_runCommands_32 ⟨Nat.zero_le _, Nat.zero_le _⟩ (fun H locs hP hS => ?_)
    refine W.eq (g2 := F0 m 35 ls []) rfl ?_
    refine lv_iconst (v := 0) K.1.1 K.1.2.1 dX10_runCommands_35 (by decide) ?_
    refine lv_istore_n (lv' := [(2, .int 0), (1, .int r_1), (0, .ref (B + 0))]) K.1.1 K.1.2.1 dX10_runCommands_36 rfl hl (by decide) rfl (fun ls hl => ?_)
    have lp_37 : ∀ n : Nat, ∀ (v2_37 : Int32) (μ_37 : Mm) (H : Heap) (locs : List Loc) (ls : Array Slot), (n ≤ 150) → (v2_37 = nI (150 - n)) → (¬ μ_37 (1 + 16) 0 < 0) → (X_cmds (NN 150) (D_rewind (U_push (D_findFault μ) 1)) 0 = X_cmds n μ_37 v2_37) → MP G B μ_37 H → va_S (AA B) s.heap H locs → lv_has ls 3 [(2, .int v2_37), (1, .int r_1), (0, .ref (B + 0))] → W p l e ({ frames := 9, cells := 0, slots := 0, locals := 197 } : Room) s m ([.ref (B + 0)] : List Value).toArray below meth c H locs 0 0 (MF below G B (some (.int ((X_run μ).2))) ((X_run μ).1) ([.ref (B + 0)] : List Value).toArray s) (F0 m 37 ls []) := by
      intro n
      induction n with
      | zero =>
        intro v2_37 μ_37 H locs ls inv0_37 inv1_37 inv2_37 fin0_37 hP hS hl
        refine lv_iload_n K.1.1 K.1.2.1 dX10_runCommands_37 rfl (lv_at hl 0 rfl) ?_
        refine lv_sipush (v := 150) K.1.1 K.1.2.1 dX10_runCommands_38 (by decide) ?_
        refine lv_icmp_ge (tgt := 73) K.1.1 K.1.2.1 dX10_runCommands_41 (by decide) (fun c_41 => ?_) (fun c_41 => ?_)
        · refine lv_sipush (v := 150) K.1.1 K.1.2.1 dX10_runCommands_73 (by decide) ?_
          exact m_iret K hr hlocks hP hS dX10_runCommands_76 (by subst er_1 inv1_37; rw [X_run, if_pos c_9, fin0_37]; first | done | rfl) (by subst er_1 inv1_37; rw [X_run, if_pos c_9, fin0_37]; first | done | rfl)
        · exact absurd c_41 (not_not_intro (by subst er_1 inv1_37; decide))
      | succ n ih_37 =>
        intro v2_37 μ_37 H locs ls inv0_37 inv1_37 inv2_37 fin0_37 hP hS hl
        refine lv_iload_n K.1.1 K.1.2.1 dX10_runCommands_37 rfl (lv_at hl 0 rfl) ?_
        refine lv_sipush (v := 150) K.1.1 K.1.2.1 dX10_runCommands_38 (by decide) ?_
        refine lv_icmp_ge (tgt := 73) K.1.1 K.1.2.1 dX10_runCommands_41 (by decide) (fun c_41 => ?_) (fun c_41 => ?_)
        · exact absurd c_41 (by subst er_1 inv1_37; exact nI_ge (a := 150 - (n + 1)) (b := 150) (by omega) (by decide))
        · refine lv_aload_n K.1.1 K.1.2.1 dX10_runCommands_44 rfl (lv_at hl 2 rfl) ?_
          refine m_getr K hP (by decide) sh_0 rfl tuX10 4 (by decide) rfl q_391 dX10_runCommands_45 ?_
          refine m_cV (n := 0) (As := []) (rest := []) K hP hS (MX3_readCommand l G B _  ) (by decide) sh_254 rfl q_552 q_424 q_425 q_90 q_426 hv_X3_readCommand ⟨Nat.le_of_ble_eq_true rfl, Nat.le_of_ble_eq_true rfl⟩ rfl hl.1 rfl (Nat.le_of_ble_eq_true rfl) dX10_runCommands_48 ⟨Nat.zero_le _, Nat.zero_le _⟩ (fun H locs hP hS => ?_)
          refine lv_topi (fun r_2 er_2 => ?_)
          refine lv_if_eq (tgt := 61) K.1.1 K.1.2.1 dX10_runCommands_51 (by decide) (fun c_51 => ?_) (fun c_51 => ?_)
          · refine lv_iload_n K.1.1 K.1.2.1 dX10_runCommands_61 rfl (lv_at hl 0 rfl) ?_
            exact m_iret K hr hlocks hP hS dX10_runCommands_62 (by subst er_1 inv1_37 er_2; rw [X_run, if_pos c_9, fin0_37, X_cmds, if_pos c_51]) (by subst er_1 inv1_37 er_2; rw [X_run, if_pos c_9, fin0_37, X_cmds, if_pos c_51])
          · refine lv_aload_n K.1.1 K.1.2.1 dX10_runCommands_54 rfl (lv_at hl 2 rfl) ?_
            refine m_cV (n := 0) (As := []) (rest := []) K hP hS (MX10_faultOfCommand l G B _  (rc_word (by subst er_1 inv1_37 er_2; exact c_51))) (by decide) sh_0 rfl q_553 q_555 q_7 q_82 q_556 hv_X10_faultOfCommand ⟨Nat.le_of_ble_eq_true rfl, Nat.le_of_ble_eq_true rfl⟩ rfl hl.1 rfl (Nat.le_of_ble_eq_true rfl) dX10_runCommands_55 ⟨Nat.zero_le _, Nat.zero_le _⟩ (fun H locs hP hS => ?_)
            refine lv_topi (fun r_3 er_3 => ?_)
            refine lv_if_eq (tgt := 63) K.1.1 K.1.2.1 dX10_runCommands_58 (by decide) (fun c_58 => ?_) (fun c_58 => ?_)
            · refine lv_aload_n K.1.1 K.1.2.1 dX10_runCommands_63 rfl (lv_at hl 2 rfl) ?_
              refine m_cV (n := 0) (As := []) (rest := []) K hP hS (MX10_carryOutCommand l G B _  (rc_word (by subst er_1 inv1_37 er_2 er_3; exact c_51)) (by rw [rc_17]; exact inv2_37)) (by decide) sh_0 rfl q_609 q_611 q_8 q_82 q_612 hv_X10_carryOutCommand ⟨Nat.le_of_ble_eq_true rfl, Nat.le_of_ble_eq_true rfl⟩ rfl hl.1 rfl (Nat.le_of_ble_eq_true rfl) dX10_runCommands_64 ⟨Nat.zero_le _, Nat.zero_le _⟩ (fun H locs hP hS => ?_)
              refine W.eq (g2 := F0 m 67 ls []) rfl ?_
              obtain ⟨x_4, ex_4⟩ : ∃ y : Int32, y = v2_37 + (1) := ⟨_, rfl⟩
              refine lv_iinc (v := x_4) (lv' := [(2, .int x_4), (1, .int r_1), (0, .ref (B + 0))]) K.1.1 K.1.2.1 dX10_runCommands_67 hl (k := 0) rfl (by rw [ex_4]; rfl) (by decide) rfl (fun ls hl => ?_)
              refine lv_goto (tgt := 37) K.1.1 K.1.2.1 dX10_runCommands_70 (by decide) ?_
              exact ih_37 _ _ _ _ _ (by omega) (by subst er_1 inv1_37 er_2 er_3 ex_4; rw [nI_1, show 150 - (n + 1) + 1 = 150 - n by omega]) (by subst er_1 inv1_37 er_2 er_3 ex_4; exact cmdDo_nn (by rw [rc_17]; exact inv2_37) c_58) (by subst er_1 inv1_37 er_2 er_3 ex_4; rw [fin0_37, X_cmds, if_neg c_51, if_pos c_58]) hP hS (lv_sub hl [0, 1, 2] rfl)
            · refine lv_iload_n K.1.1 K.1.2.1 dX10_runCommands_61 rfl (lv_at hl 0 rfl) ?_
              exact m_iret K hr hlocks hP hS dX10_runCommands_62 (by subst er_1 inv1_37 er_2 er_3; rw [X_run, if_pos c_9, fin0_37, X_cmds, if_neg c_51, if_neg c_58]) (by subst er_1 inv1_37 er_2 er_3; rw [X_run, if_pos c_9, fin0_37, X_cmds, if_neg c_51, if_neg c_58])
    exact lp_37 (NN 150) _ _ _ _ _ (by rw [NN_eq]; exact Nat.le_refl _) (by rw [NN_eq]; rfl) (by rw [rw_17, U_push_17, ff_17]; exact hc) (by rfl) hP hS (lv_sub hl [0, 1, 2] rfl)
  · refine lv_bipush (v := (-10)) K.1.1 K.1.2.1 dX10_runCommands_12 (by decide) ?_
    refine lv_iload_n K.1.1 K.1.2.1 dX10_runCommands_14 rfl (lv_at hl 0 rfl) ?_
    refine lv_isub K.1.1 K.1.2.1 dX10_runCommands_15 ?_
    exact m_iret K hr hlocks hP hS dX10_runCommands_16 (by subst er_1; rw [X_run, if_neg c_9]) (by subst er_1; rw [X_run, if_neg c_9])

