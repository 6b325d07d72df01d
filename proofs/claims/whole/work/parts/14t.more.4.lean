set_option maxHeartbeats 4000000 in
set_option maxRecDepth 100000 in
theorem MX11_does (l : Launch) (G : GG) (B : Nat) (μ : Mm) (hI : MI μ) (hok : M_err μ = 0 → M_clok μ) : CM l yX11_does (.code yX11_does cX11_does 3 (Option.some FieldType.int)) 7 166 G B [.ref (B + 259)] μ (some (.int (M_err μ))) (M_does μ) := by
  refine CM.of (by decide) (Nat.le_of_ble_eq_true rfl) ?_
  intro p e s m below meth c ls K hr hlocks hP hl
  have hS : va_S (AA B) s.heap s.heap [] := va_S.rf
  have hl : lv_has ls 3 [(0, .ref (B + 259))] := hl
  refine lv_aload_n K.1.1 K.1.2.1 dX11_does_0 rfl (lv_at hl 0 rfl) ?_
  refine m_geti K hP (by decide) sh_259 rfl tuX11 11 (by decide) rfl q_1161 dX11_does_1 ?_
  refine lv_topi (fun g_1 eg_1 => ?_)
  by_cases w_2 : g_1 = 0
  · refine lv_tableIn (off := 44) (tgt := 48) K.1.1 K.1.2.1 dX11_does_4 (by rw [w_2]; decide) (by rw [w_2]; decide) (by rw [w_2]; rfl) (by decide) ?_
    refine lv_aload_n K.1.1 K.1.2.1 dX11_does_48 rfl (lv_at hl 0 rfl) ?_
    refine lv_aload_n K.1.1 K.1.2.1 dX11_does_49 rfl (lv_at hl 0 rfl) ?_
    refine m_geti K hP (by decide) sh_259 rfl tuX11 11 (by decide) rfl q_1161 dX11_does_50 ?_
    refine lv_topi (fun g_3 eg_3 => ?_)
    refine lv_aload_n K.1.1 K.1.2.1 dX11_does_53 rfl (lv_at hl 0 rfl) ?_
    refine m_getr K hP (by decide) sh_259 rfl tuX11 12 (by decide) rfl q_1162 dX11_does_54 ?_
    refine lv_iconst (v := 0) K.1.1 K.1.2.1 dX11_does_57 (by decide) ?_
    refine m_iald K hP (by decide) sh_263 (n := 3) (vpd rfl) dX11_does_58 ?_
    refine lv_topi (fun g_4 eg_4 => ?_)
    have eg_4 : g_4 = (_ : Mm) 263 0 := eg_4
    refine m_cV (n := 2) (As := [.int g_3, .int g_4]) (rest := []) K hP hS (MX11_traderError l G B _ g_3 g_4 ) (by decide) sh_259 rfl q_1209 q_1211 q_24 q_91 q_1212 hv_X11_traderError ⟨Nat.le_of_ble_eq_true rfl, Nat.le_of_ble_eq_true rfl⟩ rfl hl.1 rfl (Nat.le_of_ble_eq_true rfl) dX11_does_59 ⟨Nat.zero_le _, Nat.zero_le _⟩ (fun H locs hP hS => ?_)
    refine lv_topi (fun r_5 er_5 => ?_)
    refine lv_istore_n (lv' := [(1, .int r_5), (0, .ref (B + 259))]) K.1.1 K.1.2.1 dX11_does_62 rfl hl (by decide) rfl (fun ls hl => ?_)
    refine lv_iload_n K.1.1 K.1.2.1 dX11_does_63 rfl (lv_at hl 0 rfl) ?_
    refine lv_if_eq (tgt := 71) K.1.1 K.1.2.1 dX11_does_64 (by decide) (fun c_64 => ?_) (fun c_64 => ?_)
    · refine lv_aload_n K.1.1 K.1.2.1 dX11_does_71 rfl (lv_at hl 1 rfl) ?_
      refine lv_aload_n K.1.1 K.1.2.1 dX11_does_72 rfl (lv_at hl 1 rfl) ?_
      refine m_geti K hP (by decide) sh_259 rfl tuX11 11 (by decide) rfl q_1161 dX11_does_73 ?_
      refine lv_topi (fun g_6 eg_6 => ?_)
      refine lv_aload_n K.1.1 K.1.2.1 dX11_does_76 rfl (lv_at hl 1 rfl) ?_
      refine m_getr K hP (by decide) sh_259 rfl tuX11 12 (by decide) rfl q_1162 dX11_does_77 ?_
      refine lv_iconst (v := 0) K.1.1 K.1.2.1 dX11_does_80 (by decide) ?_
      refine m_iald K hP (by decide) sh_263 (n := 3) (vpd rfl) dX11_does_81 ?_
      refine lv_topi (fun g_7 eg_7 => ?_)
      have eg_7 : g_7 = (_ : Mm) 263 0 := eg_7
      refine m_cV (n := 2) (As := [.int g_6, .int g_7]) (rest := []) K hP hS (MX11_addsTrader l G B _ g_6 g_7 (by subst eg_1 eg_3 eg_4 er_5 eg_6 eg_7; exact trE_vp hI c_64)) (by decide) sh_259 rfl q_1224 q_1226 q_27 q_91 q_1227 hv_X11_addsTrader ⟨Nat.le_of_ble_eq_true rfl, Nat.le_of_ble_eq_true rfl⟩ rfl hl.1 rfl (Nat.le_of_ble_eq_true rfl) dX11_does_82 ⟨Nat.zero_le _, Nat.zero_le _⟩ (fun H locs hP hS => ?_)
      refine lv_topi (fun r_8 er_8 => ?_)
      refine lv_istore_n (lv' := [(2, .int r_8), (1, .int r_5), (0, .ref (B + 259))]) K.1.1 K.1.2.1 dX11_does_85 rfl hl (by decide) rfl (fun ls hl => ?_)
      refine lv_iload_n K.1.1 K.1.2.1 dX11_does_86 rfl (lv_at hl 1 rfl) ?_
      exact m_iret K hr hlocks hP hS dX11_does_87 (by subst eg_1 eg_3 eg_4 er_5 eg_6 eg_7 er_8; have hE : M_err μ = M_traderError μ (μ 259 11) (μ 263 0) := (by rw [M_err, if_pos w_2]; first | done | rfl); rw [hE]) (by subst eg_1 eg_3 eg_4 er_5 eg_6 eg_7 er_8; have hE : M_err μ = M_traderError μ (μ 259 11) (μ 263 0) := (by rw [M_err, if_pos w_2]; first | done | rfl); rw [does_0 (by rw [hE]; exact c_64), M_deed, if_pos w_2]; first | done | rfl)
    · refine lv_iconst (v := 0) K.1.1 K.1.2.1 dX11_does_67 (by decide) ?_
      refine lv_goto (tgt := 85) K.1.1 K.1.2.1 dX11_does_68 (by decide) ?_
      refine lv_istore_n (lv' := [(2, .int 0), (1, .int r_5), (0, .ref (B + 259))]) K.1.1 K.1.2.1 dX11_does_85 rfl hl (by decide) rfl (fun ls hl => ?_)
      refine lv_iload_n K.1.1 K.1.2.1 dX11_does_86 rfl (lv_at hl 1 rfl) ?_
      exact m_iret K hr hlocks hP hS dX11_does_87 (by subst eg_1 eg_3 eg_4 er_5; have hE : M_err μ = M_traderError μ (μ 259 11) (μ 263 0) := (by rw [M_err, if_pos w_2]; first | done | rfl); rw [hE]) (by subst eg_1 eg_3 eg_4 er_5; have hE : M_err μ = M_traderError μ (μ 259 11) (μ 263 0) := (by rw [M_err, if_pos w_2]; first | done | rfl); exact does_1 (by rw [hE]; exact c_64))
  by_cases w_9 : g_1 = 1
  · refine lv_tableIn (off := 44) (tgt := 48) K.1.1 K.1.2.1 dX11_does_4 (by rw [w_9]; decide) (by rw [w_9]; decide) (by rw [w_9]; rfl) (by decide) ?_
    refine lv_aload_n K.1.1 K.1.2.1 dX11_does_48 rfl (lv_at hl 0 rfl) ?_
    refine lv_aload_n K.1.1 K.1.2.1 dX11_does_49 rfl (lv_at hl 0 rfl) ?_
    refine m_geti K hP (by decide) sh_259 rfl tuX11 11 (by decide) rfl q_1161 dX11_does_50 ?_
    refine lv_topi (fun g_10 eg_10 => ?_)
    refine lv_aload_n K.1.1 K.1.2.1 dX11_does_53 rfl (lv_at hl 0 rfl) ?_
    refine m_getr K hP (by decide) sh_259 rfl tuX11 12 (by decide) rfl q_1162 dX11_does_54 ?_
    refine lv_iconst (v := 0) K.1.1 K.1.2.1 dX11_does_57 (by decide) ?_
    refine m_iald K hP (by decide) sh_263 (n := 3) (vpd rfl) dX11_does_58 ?_
    refine lv_topi (fun g_11 eg_11 => ?_)
    have eg_11 : g_11 = (_ : Mm) 263 0 := eg_11
    refine m_cV (n := 2) (As := [.int g_10, .int g_11]) (rest := []) K hP hS (MX11_traderError l G B _ g_10 g_11 ) (by decide) sh_259 rfl q_1209 q_1211 q_24 q_91 q_1212 hv_X11_traderError ⟨Nat.le_of_ble_eq_true rfl, Nat.le_of_ble_eq_true rfl⟩ rfl hl.1 rfl (Nat.le_of_ble_eq_true rfl) dX11_does_59 ⟨Nat.zero_le _, Nat.zero_le _⟩ (fun H locs hP hS => ?_)
    refine lv_topi (fun r_12 er_12 => ?_)
    refine lv_istore_n (lv' := [(1, .int r_12), (0, .ref (B + 259))]) K.1.1 K.1.2.1 dX11_does_62 rfl hl (by decide) rfl (fun ls hl => ?_)
    refine lv_iload_n K.1.1 K.1.2.1 dX11_does_63 rfl (lv_at hl 0 rfl) ?_
    refine lv_if_eq (tgt := 71) K.1.1 K.1.2.1 dX11_does_64 (by decide) (fun c_64 => ?_) (fun c_64 => ?_)
    · refine lv_aload_n K.1.1 K.1.2.1 dX11_does_71 rfl (lv_at hl 1 rfl) ?_
      refine lv_aload_n K.1.1 K.1.2.1 dX11_does_72 rfl (lv_at hl 1 rfl) ?_
      refine m_geti K hP (by decide) sh_259 rfl tuX11 11 (by decide) rfl q_1161 dX11_does_73 ?_
      refine lv_topi (fun g_13 eg_13 => ?_)
      refine lv_aload_n K.1.1 K.1.2.1 dX11_does_76 rfl (lv_at hl 1 rfl) ?_
      refine m_getr K hP (by decide) sh_259 rfl tuX11 12 (by decide) rfl q_1162 dX11_does_77 ?_
      refine lv_iconst (v := 0) K.1.1 K.1.2.1 dX11_does_80 (by decide) ?_
      refine m_iald K hP (by decide) sh_263 (n := 3) (vpd rfl) dX11_does_81 ?_
      refine lv_topi (fun g_14 eg_14 => ?_)
      have eg_14 : g_14 = (_ : Mm) 263 0 := eg_14
      refine m_cV (n := 2) (As := [.int g_13, .int g_14]) (rest := []) K hP hS (MX11_addsTrader l G B _ g_13 g_14 (by subst eg_1 eg_10 eg_11 er_12 eg_13 eg_14; exact trE_vp hI c_64)) (by decide) sh_259 rfl q_1224 q_1226 q_27 q_91 q_1227 hv_X11_addsTrader ⟨Nat.le_of_ble_eq_true rfl, Nat.le_of_ble_eq_true rfl⟩ rfl hl.1 rfl (Nat.le_of_ble_eq_true rfl) dX11_does_82 ⟨Nat.zero_le _, Nat.zero_le _⟩ (fun H locs hP hS => ?_)
      refine lv_topi (fun r_15 er_15 => ?_)
      refine lv_istore_n (lv' := [(2, .int r_15), (1, .int r_12), (0, .ref (B + 259))]) K.1.1 K.1.2.1 dX11_does_85 rfl hl (by decide) rfl (fun ls hl => ?_)
      refine lv_iload_n K.1.1 K.1.2.1 dX11_does_86 rfl (lv_at hl 1 rfl) ?_
      exact m_iret K hr hlocks hP hS dX11_does_87 (by subst eg_1 eg_10 eg_11 er_12 eg_13 eg_14 er_15; have hE : M_err μ = M_traderError μ (μ 259 11) (μ 263 0) := (by rw [M_err, if_neg w_2, if_pos w_9]; first | done | rfl); rw [hE]) (by subst eg_1 eg_10 eg_11 er_12 eg_13 eg_14 er_15; have hE : M_err μ = M_traderError μ (μ 259 11) (μ 263 0) := (by rw [M_err, if_neg w_2, if_pos w_9]; first | done | rfl); rw [does_0 (by rw [hE]; exact c_64), M_deed, if_neg w_2, if_pos w_9]; first | done | rfl)
    · refine lv_iconst (v := 0) K.1.1 K.1.2.1 dX11_does_67 (by decide) ?_
      refine lv_goto (tgt := 85) K.1.1 K.1.2.1 dX11_does_68 (by decide) ?_
      refine lv_istore_n (lv' := [(2, .int 0), (1, .int r_12), (0, .ref (B + 259))]) K.1.1 K.1.2.1 dX11_does_85 rfl hl (by decide) rfl (fun ls hl => ?_)
      refine lv_iload_n K.1.1 K.1.2.1 dX11_does_86 rfl (lv_at hl 1 rfl) ?_
      exact m_iret K hr hlocks hP hS dX11_does_87 (by subst eg_1 eg_10 eg_11 er_12; have hE : M_err μ = M_traderError μ (μ 259 11) (μ 263 0) := (by rw [M_err, if_neg w_2, if_pos w_9]; first | done | rfl); rw [hE]) (by subst eg_1 eg_10 eg_11 er_12; have hE : M_err μ = M_traderError μ (μ 259 11) (μ 263 0) := (by rw [M_err, if_neg w_2, if_pos w_9]; first | done | rfl); exact does_1 (by rw [hE]; exact c_64))
  by_cases w_16 : g_1 = 2
  · refine lv_tableIn (off := 84) (tgt := 88) K.1.1 K.1.2.1 dX11_does_4 (by rw [w_16]; decide) (by rw [w_16]; decide) (by rw [w_16]; rfl) (by decide) ?_
    refine lv_aload_n K.1.1 K.1.2.1 dX11_does_88 rfl (lv_at hl 0 rfl) ?_
    refine lv_aload_n K.1.1 K.1.2.1 dX11_does_89 rfl (lv_at hl 0 rfl) ?_
    refine m_getr K hP (by decide) sh_259 rfl tuX11 12 (by decide) rfl q_1162 dX11_does_90 ?_
    refine lv_iconst (v := 0) K.1.1 K.1.2.1 dX11_does_93 (by decide) ?_
    refine m_iald K hP (by decide) sh_263 (n := 3) (vpd rfl) dX11_does_94 ?_
    refine lv_topi (fun g_17 eg_17 => ?_)
    have eg_17 : g_17 = (_ : Mm) 263 0 := eg_17
    refine lv_aload_n K.1.1 K.1.2.1 dX11_does_95 rfl (lv_at hl 0 rfl) ?_
    refine m_getr K hP (by decide) sh_259 rfl tuX11 12 (by decide) rfl q_1162 dX11_does_96 ?_
    refine lv_iconst (v := 1) K.1.1 K.1.2.1 dX11_does_99 (by decide) ?_
    refine m_iald K hP (by decide) sh_263 (n := 3) (vpd rfl) dX11_does_100 ?_
    refine lv_topi (fun g_18 eg_18 => ?_)
    have eg_18 : g_18 = (_ : Mm) 263 1 := eg_18
    refine lv_aload_n K.1.1 K.1.2.1 dX11_does_101 rfl (lv_at hl 0 rfl) ?_
    refine m_getr K hP (by decide) sh_259 rfl tuX11 12 (by decide) rfl q_1162 dX11_does_102 ?_
    refine lv_iconst (v := 2) K.1.1 K.1.2.1 dX11_does_105 (by decide) ?_
    refine m_iald K hP (by decide) sh_263 (n := 3) (vpd rfl) dX11_does_106 ?_
    refine lv_topi (fun g_19 eg_19 => ?_)
    have eg_19 : g_19 = (_ : Mm) 263 2 := eg_19
    refine m_cV (n := 3) (As := [.int g_17, .int g_18, .int g_19]) (rest := []) K hP hS (MX11_shadeError l G B _ g_17 g_18 g_19 ) (by decide) sh_259 rfl q_1248 q_1250 q_31 q_91 q_1251 hv_X11_shadeError ⟨Nat.le_of_ble_eq_true rfl, Nat.le_of_ble_eq_true rfl⟩ rfl hl.1 rfl (Nat.le_of_ble_eq_true rfl) dX11_does_107 ⟨Nat.zero_le _, Nat.zero_le _⟩ (fun H locs hP hS => ?_)
    refine lv_topi (fun r_20 er_20 => ?_)
    refine lv_istore_n (lv' := [(1, .int r_20), (0, .ref (B + 259))]) K.1.1 K.1.2.1 dX11_does_110 rfl hl (by decide) rfl (fun ls hl => ?_)
    refine lv_iload_n K.1.1 K.1.2.1 dX11_does_111 rfl (lv_at hl 0 rfl) ?_
    refine lv_if_eq (tgt := 119) K.1.1 K.1.2.1 dX11_does_112 (by decide) (fun c_112 => ?_) (fun c_112 => ?_)
    · refine lv_aload_n K.1.1 K.1.2.1 dX11_does_119 rfl (lv_at hl 1 rfl) ?_
      refine lv_aload_n K.1.1 K.1.2.1 dX11_does_120 rfl (lv_at hl 1 rfl) ?_
      refine m_getr K hP (by decide) sh_259 rfl tuX11 12 (by decide) rfl q_1162 dX11_does_121 ?_
      refine lv_iconst (v := 0) K.1.1 K.1.2.1 dX11_does_124 (by decide) ?_
      refine m_iald K hP (by decide) sh_263 (n := 3) (vpd rfl) dX11_does_125 ?_
      refine lv_topi (fun g_21 eg_21 => ?_)
      have eg_21 : g_21 = (_ : Mm) 263 0 := eg_21
      refine lv_aload_n K.1.1 K.1.2.1 dX11_does_126 rfl (lv_at hl 1 rfl) ?_
      refine m_getr K hP (by decide) sh_259 rfl tuX11 12 (by decide) rfl q_1162 dX11_does_127 ?_
      refine lv_iconst (v := 1) K.1.1 K.1.2.1 dX11_does_130 (by decide) ?_
      refine m_iald K hP (by decide) sh_263 (n := 3) (vpd rfl) dX11_does_131 ?_
      refine lv_topi (fun g_22 eg_22 => ?_)
      have eg_22 : g_22 = (_ : Mm) 263 1 := eg_22
      refine lv_aload_n K.1.1 K.1.2.1 dX11_does_132 rfl (lv_at hl 1 rfl) ?_
      refine m_getr K hP (by decide) sh_259 rfl tuX11 12 (by decide) rfl q_1162 dX11_does_133 ?_
      refine lv_iconst (v := 2) K.1.1 K.1.2.1 dX11_does_136 (by decide) ?_
      refine m_iald K hP (by decide) sh_263 (n := 3) (vpd rfl) dX11_does_137 ?_
      refine lv_topi (fun g_23 eg_23 => ?_)
      have eg_23 : g_23 = (_ : Mm) 263 2 := eg_23
      refine m_cV (n := 3) (As := [.int g_21, .int g_22, .int g_23]) (rest := []) K hP hS (MX11_shades l G B _ g_21 g_22 g_23 (by subst eg_1 eg_17 eg_18 eg_19 er_20 eg_21 eg_22 eg_23; exact isTrader_vp hI (shT c_112))) (by decide) sh_259 rfl q_1252 q_1254 q_32 q_91 q_1255 hv_X11_shades ⟨Nat.le_of_ble_eq_true rfl, Nat.le_of_ble_eq_true rfl⟩ rfl hl.1 rfl (Nat.le_of_ble_eq_true rfl) dX11_does_138 ⟨Nat.zero_le _, Nat.zero_le _⟩ (fun H locs hP hS => ?_)
      refine lv_topi (fun r_24 er_24 => ?_)
      refine lv_istore_n (lv' := [(2, .int r_24), (1, .int r_20), (0, .ref (B + 259))]) K.1.1 K.1.2.1 dX11_does_141 rfl hl (by decide) rfl (fun ls hl => ?_)
      refine lv_iload_n K.1.1 K.1.2.1 dX11_does_142 rfl (lv_at hl 1 rfl) ?_
      exact m_iret K hr hlocks hP hS dX11_does_143 (by subst eg_1 eg_17 eg_18 eg_19 er_20 eg_21 eg_22 eg_23 er_24; have hE : M_err μ = M_shadeError μ (μ 263 0) (μ 263 1) (μ 263 2) := (by rw [M_err, if_neg w_2, if_neg w_9, if_pos w_16]; first | done | rfl); rw [hE]) (by subst eg_1 eg_17 eg_18 eg_19 er_20 eg_21 eg_22 eg_23 er_24; have hE : M_err μ = M_shadeError μ (μ 263 0) (μ 263 1) (μ 263 2) := (by rw [M_err, if_neg w_2, if_neg w_9, if_pos w_16]; first | done | rfl); rw [does_0 (by rw [hE]; exact c_112), M_deed, if_neg w_2, if_neg w_9, if_pos w_16]; first | done | rfl)
    · refine lv_iconst (v := 0) K.1.1 K.1.2.1 dX11_does_115 (by decide) ?_
      refine lv_goto (tgt := 141) K.1.1 K.1.2.1 dX11_does_116 (by decide) ?_
      refine lv_istore_n (lv' := [(2, .int 0), (1, .int r_20), (0, .ref (B + 259))]) K.1.1 K.1.2.1 dX11_does_141 rfl hl (by decide) rfl (fun ls hl => ?_)
      refine lv_iload_n K.1.1 K.1.2.1 dX11_does_142 rfl (lv_at hl 1 rfl) ?_
      exact m_iret K hr hlocks hP hS dX11_does_143 (by subst eg_1 eg_17 eg_18 eg_19 er_20; have hE : M_err μ = M_shadeError μ (μ 263 0) (μ 263 1) (μ 263 2) := (by rw [M_err, if_neg w_2, if_neg w_9, if_pos w_16]; first | done | rfl); rw [hE]) (by subst eg_1 eg_17 eg_18 eg_19 er_20; have hE : M_err μ = M_shadeError μ (μ 263 0) (μ 263 1) (μ 263 2) := (by rw [M_err, if_neg w_2, if_neg w_9, if_pos w_16]; first | done | rfl); exact does_1 (by rw [hE]; exact c_112))
  by_cases w_25 : g_1 = 3
  · refine lv_tableIn (off := 140) (tgt := 144) K.1.1 K.1.2.1 dX11_does_4 (by rw [w_25]; decide) (by rw [w_25]; decide) (by rw [w_25]; rfl) (by decide) ?_
    refine lv_aload_n K.1.1 K.1.2.1 dX11_does_144 rfl (lv_at hl 0 rfl) ?_
    refine lv_aload_n K.1.1 K.1.2.1 dX11_does_145 rfl (lv_at hl 0 rfl) ?_
    refine m_getr K hP (by decide) sh_259 rfl tuX11 12 (by decide) rfl q_1162 dX11_does_146 ?_
    refine lv_iconst (v := 0) K.1.1 K.1.2.1 dX11_does_149 (by decide) ?_
    refine m_iald K hP (by decide) sh_263 (n := 3) (vpd rfl) dX11_does_150 ?_
    refine lv_topi (fun g_26 eg_26 => ?_)
    have eg_26 : g_26 = (_ : Mm) 263 0 := eg_26
    refine lv_iconst (v := 1) K.1.1 K.1.2.1 dX11_does_151 (by decide) ?_
    refine lv_aload_n K.1.1 K.1.2.1 dX11_does_152 rfl (lv_at hl 0 rfl) ?_
    refine m_getr K hP (by decide) sh_259 rfl tuX11 12 (by decide) rfl q_1162 dX11_does_153 ?_
    refine lv_iconst (v := 1) K.1.1 K.1.2.1 dX11_does_156 (by decide) ?_
    refine m_iald K hP (by decide) sh_263 (n := 3) (vpd rfl) dX11_does_157 ?_
    refine lv_topi (fun g_27 eg_27 => ?_)
    have eg_27 : g_27 = (_ : Mm) 263 1 := eg_27
    refine m_cV (n := 3) (As := [.int g_26, .int 1, .int g_27]) (rest := []) K hP hS (MX11_orderError l G B _ g_26 1 g_27 ) (by decide) sh_259 rfl q_1279 q_1281 q_36 q_91 q_1282 hv_X11_orderError ⟨Nat.le_of_ble_eq_true rfl, Nat.le_of_ble_eq_true rfl⟩ rfl hl.1 rfl (Nat.le_of_ble_eq_true rfl) dX11_does_158 ⟨Nat.zero_le _, Nat.zero_le _⟩ (fun H locs hP hS => ?_)
    refine lv_topi (fun r_28 er_28 => ?_)
    refine lv_istore_n (lv' := [(1, .int r_28), (0, .ref (B + 259))]) K.1.1 K.1.2.1 dX11_does_161 rfl hl (by decide) rfl (fun ls hl => ?_)
    refine lv_iload_n K.1.1 K.1.2.1 dX11_does_162 rfl (lv_at hl 0 rfl) ?_
    refine lv_if_eq (tgt := 170) K.1.1 K.1.2.1 dX11_does_163 (by decide) (fun c_163 => ?_) (fun c_163 => ?_)
    · refine lv_aload_n K.1.1 K.1.2.1 dX11_does_170 rfl (lv_at hl 1 rfl) ?_
      refine lv_aload_n K.1.1 K.1.2.1 dX11_does_171 rfl (lv_at hl 1 rfl) ?_
      refine m_getr K hP (by decide) sh_259 rfl tuX11 12 (by decide) rfl q_1162 dX11_does_172 ?_
      refine lv_iconst (v := 0) K.1.1 K.1.2.1 dX11_does_175 (by decide) ?_
      refine m_iald K hP (by decide) sh_263 (n := 3) (vpd rfl) dX11_does_176 ?_
      refine lv_topi (fun g_29 eg_29 => ?_)
      have eg_29 : g_29 = (_ : Mm) 263 0 := eg_29
      refine lv_aload_n K.1.1 K.1.2.1 dX11_does_177 rfl (lv_at hl 1 rfl) ?_
      refine lv_aload_n K.1.1 K.1.2.1 dX11_does_178 rfl (lv_at hl 1 rfl) ?_
      refine m_getr K hP (by decide) sh_259 rfl tuX11 12 (by decide) rfl q_1162 dX11_does_179 ?_
      refine lv_iconst (v := 0) K.1.1 K.1.2.1 dX11_does_182 (by decide) ?_
      refine m_iald K hP (by decide) sh_263 (n := 3) (vpd rfl) dX11_does_183 ?_
      refine lv_topi (fun g_30 eg_30 => ?_)
      have eg_30 : g_30 = (_ : Mm) 263 0 := eg_30
      refine m_cV (n := 1) (As := [.int g_30]) (rest := [.int g_29, .ref (B + 259)]) K hP hS (MX11_bidOf l G B _ g_30 (by subst eg_1 eg_26 eg_27 er_28 eg_29 eg_30; exact isTrader_vp hI (orT c_163))) (by decide) sh_259 rfl q_1256 q_1258 q_33 q_91 q_1259 hv_X11_bidOf ⟨Nat.le_of_ble_eq_true rfl, Nat.le_of_ble_eq_true rfl⟩ rfl hl.1 rfl (Nat.le_of_ble_eq_true rfl) dX11_does_184 ⟨Nat.zero_le _, Nat.zero_le _⟩ (fun H locs hP hS => ?_)
      refine lv_topi (fun r_31 er_31 => ?_)
      refine lv_aload_n K.1.1 K.1.2.1 dX11_does_187 rfl (lv_at hl 1 rfl) ?_
      refine m_getr K hP (by decide) sh_259 rfl tuX11 12 (by decide) rfl q_1162 dX11_does_188 ?_
      refine lv_iconst (v := 1) K.1.1 K.1.2.1 dX11_does_191 (by decide) ?_
      refine m_iald K hP (by decide) sh_263 (n := 3) (vpd rfl) dX11_does_192 ?_
      refine lv_topi (fun g_32 eg_32 => ?_)
      have eg_32 : g_32 = (_ : Mm) 263 1 := eg_32
      refine m_cV (n := 3) (As := [.int g_29, .int r_31, .int g_32]) (rest := []) K hP hS (MX11_places l G B _ g_29 r_31 g_32 (by subst eg_1 eg_26 eg_27 er_28 eg_29 eg_30 er_31 eg_32; exact orK hI c_163)) (by decide) sh_259 rfl q_1283 q_1285 q_37 q_91 q_1286 hv_X11_places ⟨Nat.le_of_ble_eq_true rfl, Nat.le_of_ble_eq_true rfl⟩ rfl hl.1 rfl (Nat.le_of_ble_eq_true rfl) dX11_does_193 ⟨Nat.zero_le _, Nat.zero_le _⟩ (fun H locs hP hS => ?_)
      refine lv_topi (fun r_33 er_33 => ?_)
      refine lv_istore_n (lv' := [(2, .int r_33), (1, .int r_28), (0, .ref (B + 259))]) K.1.1 K.1.2.1 dX11_does_196 rfl hl (by decide) rfl (fun ls hl => ?_)
      refine lv_iload_n K.1.1 K.1.2.1 dX11_does_197 rfl (lv_at hl 1 rfl) ?_
      exact m_iret K hr hlocks hP hS dX11_does_198 (by subst eg_1 eg_26 eg_27 er_28 eg_29 eg_30 er_31 eg_32 er_33; have hE : M_err μ = M_orderError μ (μ 263 0) 1 (μ 263 1) := (by rw [M_err, if_neg w_2, if_neg w_9, if_neg w_16, if_pos w_25]; first | done | rfl); rw [hE]) (by subst eg_1 eg_26 eg_27 er_28 eg_29 eg_30 er_31 eg_32 er_33; have hE : M_err μ = M_orderError μ (μ 263 0) 1 (μ 263 1) := (by rw [M_err, if_neg w_2, if_neg w_9, if_neg w_16, if_pos w_25]; first | done | rfl); rw [does_0 (by rw [hE]; exact c_163), M_deed, if_neg w_2, if_neg w_9, if_neg w_16, if_pos w_25]; first | done | rfl)
    · refine lv_iconst (v := 0) K.1.1 K.1.2.1 dX11_does_166 (by decide) ?_
      refine lv_goto (tgt := 196) K.1.1 K.1.2.1 dX11_does_167 (by decide) ?_
      refine lv_istore_n (lv' := [(2, .int 0), (1, .int r_28), (0, .ref (B + 259))]) K.1.1 K.1.2.1 dX11_does_196 rfl hl (by decide) rfl (fun ls hl => ?_)
      refine lv_iload_n K.1.1 K.1.2.1 dX11_does_197 rfl (lv_at hl 1 rfl) ?_
      exact m_iret K hr hlocks hP hS dX11_does_198 (by subst eg_1 eg_26 eg_27 er_28; have hE : M_err μ = M_orderError μ (μ 263 0) 1 (μ 263 1) := (by rw [M_err, if_neg w_2, if_neg w_9, if_neg w_16, if_pos w_25]; first | done | rfl); rw [hE]) (by subst eg_1 eg_26 eg_27 er_28; have hE : M_err μ = M_orderError μ (μ 263 0) 1 (μ 263 1) := (by rw [M_err, if_neg w_2, if_neg w_9, if_neg w_16, if_pos w_25]; first | done | rfl); exact does_1 (by rw [hE]; exact c_163))
  by_cases w_34 : g_1 = 4
  · refine lv_tableIn (off := 195) (tgt := 199) K.1.1 K.1.2.1 dX11_does_4 (by rw [w_34]; decide) (by rw [w_34]; decide) (by rw [w_34]; rfl) (by decide) ?_
    refine lv_aload_n K.1.1 K.1.2.1 dX11_does_199 rfl (lv_at hl 0 rfl) ?_
    refine lv_aload_n K.1.1 K.1.2.1 dX11_does_200 rfl (lv_at hl 0 rfl) ?_
    refine m_getr K hP (by decide) sh_259 rfl tuX11 12 (by decide) rfl q_1162 dX11_does_201 ?_
    refine lv_iconst (v := 0) K.1.1 K.1.2.1 dX11_does_204 (by decide) ?_
    refine m_iald K hP (by decide) sh_263 (n := 3) (vpd rfl) dX11_does_205 ?_
    refine lv_topi (fun g_35 eg_35 => ?_)
    have eg_35 : g_35 = (_ : Mm) 263 0 := eg_35
    refine lv_aload_n K.1.1 K.1.2.1 dX11_does_206 rfl (lv_at hl 0 rfl) ?_
    refine m_getr K hP (by decide) sh_259 rfl tuX11 12 (by decide) rfl q_1162 dX11_does_207 ?_
    refine lv_iconst (v := 1) K.1.1 K.1.2.1 dX11_does_210 (by decide) ?_
    refine m_iald K hP (by decide) sh_263 (n := 3) (vpd rfl) dX11_does_211 ?_
    refine lv_topi (fun g_36 eg_36 => ?_)
    have eg_36 : g_36 = (_ : Mm) 263 1 := eg_36
    refine lv_aload_n K.1.1 K.1.2.1 dX11_does_212 rfl (lv_at hl 0 rfl) ?_
    refine m_getr K hP (by decide) sh_259 rfl tuX11 12 (by decide) rfl q_1162 dX11_does_213 ?_
    refine lv_iconst (v := 2) K.1.1 K.1.2.1 dX11_does_216 (by decide) ?_
    refine m_iald K hP (by decide) sh_263 (n := 3) (vpd rfl) dX11_does_217 ?_
    refine lv_topi (fun g_37 eg_37 => ?_)
    have eg_37 : g_37 = (_ : Mm) 263 2 := eg_37
    refine m_cV (n := 3) (As := [.int g_35, .int g_36, .int g_37]) (rest := []) K hP hS (MX11_orderError l G B _ g_35 g_36 g_37 ) (by decide) sh_259 rfl q_1279 q_1281 q_36 q_91 q_1282 hv_X11_orderError ⟨Nat.le_of_ble_eq_true rfl, Nat.le_of_ble_eq_true rfl⟩ rfl hl.1 rfl (Nat.le_of_ble_eq_true rfl) dX11_does_218 ⟨Nat.zero_le _, Nat.zero_le _⟩ (fun H locs hP hS => ?_)
    refine lv_topi (fun r_38 er_38 => ?_)
    refine lv_istore_n (lv' := [(1, .int r_38), (0, .ref (B + 259))]) K.1.1 K.1.2.1 dX11_does_221 rfl hl (by decide) rfl (fun ls hl => ?_)
    refine lv_iload_n K.1.1 K.1.2.1 dX11_does_222 rfl (lv_at hl 0 rfl) ?_
    refine lv_if_eq (tgt := 230) K.1.1 K.1.2.1 dX11_does_223 (by decide) (fun c_223 => ?_) (fun c_223 => ?_)
    · refine lv_aload_n K.1.1 K.1.2.1 dX11_does_230 rfl (lv_at hl 1 rfl) ?_
      refine lv_aload_n K.1.1 K.1.2.1 dX11_does_231 rfl (lv_at hl 1 rfl) ?_
      refine m_getr K hP (by decide) sh_259 rfl tuX11 12 (by decide) rfl q_1162 dX11_does_232 ?_
      refine lv_iconst (v := 0) K.1.1 K.1.2.1 dX11_does_235 (by decide) ?_
      refine m_iald K hP (by decide) sh_263 (n := 3) (vpd rfl) dX11_does_236 ?_
      refine lv_topi (fun g_39 eg_39 => ?_)
      have eg_39 : g_39 = (_ : Mm) 263 0 := eg_39
      refine lv_aload_n K.1.1 K.1.2.1 dX11_does_237 rfl (lv_at hl 1 rfl) ?_
      refine m_getr K hP (by decide) sh_259 rfl tuX11 12 (by decide) rfl q_1162 dX11_does_238 ?_
      refine lv_iconst (v := 1) K.1.1 K.1.2.1 dX11_does_241 (by decide) ?_
      refine m_iald K hP (by decide) sh_263 (n := 3) (vpd rfl) dX11_does_242 ?_
      refine lv_topi (fun g_40 eg_40 => ?_)
      have eg_40 : g_40 = (_ : Mm) 263 1 := eg_40
      refine lv_aload_n K.1.1 K.1.2.1 dX11_does_243 rfl (lv_at hl 1 rfl) ?_
      refine m_getr K hP (by decide) sh_259 rfl tuX11 12 (by decide) rfl q_1162 dX11_does_244 ?_
      refine lv_iconst (v := 2) K.1.1 K.1.2.1 dX11_does_247 (by decide) ?_
      refine m_iald K hP (by decide) sh_263 (n := 3) (vpd rfl) dX11_does_248 ?_
      refine lv_topi (fun g_41 eg_41 => ?_)
      have eg_41 : g_41 = (_ : Mm) 263 2 := eg_41
      refine m_cV (n := 3) (As := [.int g_39, .int g_40, .int g_41]) (rest := []) K hP hS (MX11_places l G B _ g_39 g_40 g_41 (by subst eg_1 eg_35 eg_36 eg_37 er_38 eg_39 eg_40 eg_41; exact orK hI c_223)) (by decide) sh_259 rfl q_1283 q_1285 q_37 q_91 q_1286 hv_X11_places ⟨Nat.le_of_ble_eq_true rfl, Nat.le_of_ble_eq_true rfl⟩ rfl hl.1 rfl (Nat.le_of_ble_eq_true rfl) dX11_does_249 ⟨Nat.zero_le _, Nat.zero_le _⟩ (fun H locs hP hS => ?_)
      refine lv_topi (fun r_42 er_42 => ?_)
      refine lv_istore_n (lv' := [(2, .int r_42), (1, .int r_38), (0, .ref (B + 259))]) K.1.1 K.1.2.1 dX11_does_252 rfl hl (by decide) rfl (fun ls hl => ?_)
      refine lv_iload_n K.1.1 K.1.2.1 dX11_does_253 rfl (lv_at hl 1 rfl) ?_
      exact m_iret K hr hlocks hP hS dX11_does_254 (by subst eg_1 eg_35 eg_36 eg_37 er_38 eg_39 eg_40 eg_41 er_42; have hE : M_err μ = M_orderError μ (μ 263 0) (μ 263 1) (μ 263 2) := (by rw [M_err, if_neg w_2, if_neg w_9, if_neg w_16, if_neg w_25, if_pos w_34]; first | done | rfl); rw [hE]) (by subst eg_1 eg_35 eg_36 eg_37 er_38 eg_39 eg_40 eg_41 er_42; have hE : M_err μ = M_orderError μ (μ 263 0) (μ 263 1) (μ 263 2) := (by rw [M_err, if_neg w_2, if_neg w_9, if_neg w_16, if_neg w_25, if_pos w_34]; first | done | rfl); rw [does_0 (by rw [hE]; exact c_223), M_deed, if_neg w_2, if_neg w_9, if_neg w_16, if_neg w_25, if_pos w_34]; first | done | rfl)
    · refine lv_iconst (v := 0) K.1.1 K.1.2.1 dX11_does_226 (by decide) ?_
      refine lv_goto (tgt := 252) K.1.1 K.1.2.1 dX11_does_227 (by decide) ?_
      refine lv_istore_n (lv' := [(2, .int 0), (1, .int r_38), (0, .ref (B + 259))]) K.1.1 K.1.2.1 dX11_does_252 rfl hl (by decide) rfl (fun ls hl => ?_)
      refine lv_iload_n K.1.1 K.1.2.1 dX11_does_253 rfl (lv_at hl 1 rfl) ?_
      exact m_iret K hr hlocks hP hS dX11_does_254 (by subst eg_1 eg_35 eg_36 eg_37 er_38; have hE : M_err μ = M_orderError μ (μ 263 0) (μ 263 1) (μ 263 2) := (by rw [M_err, if_neg w_2, if_neg w_9, if_neg w_16, if_neg w_25, if_pos w_34]; first | done | rfl); rw [hE]) (by subst eg_1 eg_35 eg_36 eg_37 er_38; have hE : M_err μ = M_orderError μ (μ 263 0) (μ 263 1) (μ 263 2) := (by rw [M_err, if_neg w_2, if_neg w_9, if_neg w_16, if_neg w_25, if_pos w_34]; first | done | rfl); exact does_1 (by rw [hE]; exact c_223))
  by_cases w_43 : g_1 = 5
  · refine lv_tableIn (off := 251) (tgt := 255) K.1.1 K.1.2.1 dX11_does_4 (by rw [w_43]; decide) (by rw [w_43]; decide) (by rw [w_43]; rfl) (by decide) ?_
    refine lv_aload_n K.1.1 K.1.2.1 dX11_does_255 rfl (lv_at hl 0 rfl) ?_
    refine lv_aload_n K.1.1 K.1.2.1 dX11_does_256 rfl (lv_at hl 0 rfl) ?_
    refine m_getr K hP (by decide) sh_259 rfl tuX11 12 (by decide) rfl q_1162 dX11_does_257 ?_
    refine lv_iconst (v := 0) K.1.1 K.1.2.1 dX11_does_260 (by decide) ?_
    refine m_iald K hP (by decide) sh_263 (n := 3) (vpd rfl) dX11_does_261 ?_
    refine lv_topi (fun g_44 eg_44 => ?_)
    have eg_44 : g_44 = (_ : Mm) 263 0 := eg_44
    refine m_cV (n := 1) (As := [.int g_44]) (rest := []) K hP hS (MX11_find l G B _ g_44 hI) (by decide) sh_259 rfl q_1303 q_1305 q_40 q_91 q_1306 hv_X11_find ⟨Nat.le_of_ble_eq_true rfl, Nat.le_of_ble_eq_true rfl⟩ rfl hl.1 rfl (Nat.le_of_ble_eq_true rfl) dX11_does_262 ⟨Nat.zero_le _, Nat.zero_le _⟩ (fun H locs hP hS => ?_)
    refine lv_topi (fun r_45 er_45 => ?_)
    refine lv_istore_n (lv' := [(2, .int r_45), (0, .ref (B + 259))]) K.1.1 K.1.2.1 dX11_does_265 rfl hl (by decide) rfl (fun ls hl => ?_)
    refine lv_iload_n K.1.1 K.1.2.1 dX11_does_266 rfl (lv_at hl 0 rfl) ?_
    refine lv_if_ge (tgt := 274) K.1.1 K.1.2.1 dX11_does_267 (by decide) (fun c_267 => ?_) (fun c_267 => ?_)
    · refine lv_iconst (v := 0) K.1.1 K.1.2.1 dX11_does_274 (by decide) ?_
      refine lv_istore_n (lv' := [(1, .int 0), (2, .int r_45), (0, .ref (B + 259))]) K.1.1 K.1.2.1 dX11_does_275 rfl hl (by decide) rfl (fun ls hl => ?_)
      refine lv_iload_n K.1.1 K.1.2.1 dX11_does_276 rfl (lv_at hl 0 rfl) ?_
      refine lv_if_eq (tgt := 284) K.1.1 K.1.2.1 dX11_does_277 (by decide) (fun c_277 => ?_) (fun c_277 => ?_)
      · refine lv_aload_n K.1.1 K.1.2.1 dX11_does_284 rfl (lv_at hl 2 rfl) ?_
        refine lv_iload_n K.1.1 K.1.2.1 dX11_does_285 rfl (lv_at hl 1 rfl) ?_
        refine m_cV (n := 1) (As := [.int r_45]) (rest := []) K hP hS (MX11_cancels l G B _ r_45 hI (by subst eg_1 eg_44 er_45; exact findJ (Int32.not_lt.mpr c_267) hI) (by subst eg_1 eg_44 er_45; exact Int32.not_lt.mpr c_267) (by subst eg_1 eg_44 er_45; exact find_vp hI (Int32.not_lt.mpr c_267))) (by decide) sh_259 rfl q_1307 q_1309 q_41 q_91 q_1310 hv_X11_cancels ⟨Nat.le_of_ble_eq_true rfl, Nat.le_of_ble_eq_true rfl⟩ rfl hl.1 rfl (Nat.le_of_ble_eq_true rfl) dX11_does_286 ⟨Nat.zero_le _, Nat.zero_le _⟩ (fun H locs hP hS => ?_)
        refine lv_topi (fun r_46 er_46 => ?_)
        refine lv_istore_n (lv' := [(2, .int r_46), (1, .int 0), (0, .ref (B + 259))]) K.1.1 K.1.2.1 dX11_does_289 rfl hl (by decide) rfl (fun ls hl => ?_)
        refine lv_iload_n K.1.1 K.1.2.1 dX11_does_290 rfl (lv_at hl 1 rfl) ?_
        exact m_iret K hr hlocks hP hS dX11_does_291 (by subst eg_1 eg_44 er_45 er_46; have hE : M_err μ = (if M_find μ (μ 263 0) < 0 then (1 : Int32) else 0) := (by rw [M_err, if_neg w_2, if_neg w_9, if_neg w_16, if_neg w_25, if_neg w_34, if_pos w_43]; first | done | rfl); rw [if_neg (show ¬ M_find μ (μ 263 0) < 0 from Int32.not_lt.mpr c_267)] at hE; rw [hE]) (by subst eg_1 eg_44 er_45 er_46; have hE : M_err μ = (if M_find μ (μ 263 0) < 0 then (1 : Int32) else 0) := (by rw [M_err, if_neg w_2, if_neg w_9, if_neg w_16, if_neg w_25, if_neg w_34, if_pos w_43]; first | done | rfl); rw [if_neg (show ¬ M_find μ (μ 263 0) < 0 from Int32.not_lt.mpr c_267)] at hE; rw [does_0 (by rw [hE]), M_deed, if_neg w_2, if_neg w_9, if_neg w_16, if_neg w_25, if_neg w_34, if_pos w_43]; first | done | rfl)
      · exact absurd c_277 (not_not_intro rfl)
    · refine lv_iconst (v := 1) K.1.1 K.1.2.1 dX11_does_270 (by decide) ?_
      refine lv_goto (tgt := 275) K.1.1 K.1.2.1 dX11_does_271 (by decide) ?_
      refine lv_istore_n (lv' := [(1, .int 1), (2, .int r_45), (0, .ref (B + 259))]) K.1.1 K.1.2.1 dX11_does_275 rfl hl (by decide) rfl (fun ls hl => ?_)
      refine lv_iload_n K.1.1 K.1.2.1 dX11_does_276 rfl (lv_at hl 0 rfl) ?_
      refine lv_if_eq (tgt := 284) K.1.1 K.1.2.1 dX11_does_277 (by decide) (fun c_277 => ?_) (fun c_277 => ?_)
      · exact absurd c_277 (by decide)
      · refine lv_iconst (v := 0) K.1.1 K.1.2.1 dX11_does_280 (by decide) ?_
        refine lv_goto (tgt := 289) K.1.1 K.1.2.1 dX11_does_281 (by decide) ?_
        refine lv_istore_n (lv' := [(2, .int 0), (1, .int 1), (0, .ref (B + 259))]) K.1.1 K.1.2.1 dX11_does_289 rfl hl (by decide) rfl (fun ls hl => ?_)
        refine lv_iload_n K.1.1 K.1.2.1 dX11_does_290 rfl (lv_at hl 1 rfl) ?_
        exact m_iret K hr hlocks hP hS dX11_does_291 (by subst eg_1 eg_44 er_45; have hE : M_err μ = (if M_find μ (μ 263 0) < 0 then (1 : Int32) else 0) := (by rw [M_err, if_neg w_2, if_neg w_9, if_neg w_16, if_neg w_25, if_neg w_34, if_pos w_43]; first | done | rfl); rw [if_pos (show M_find μ (μ 263 0) < 0 from Int32.not_le.mp c_267)] at hE; rw [hE]) (by subst eg_1 eg_44 er_45; have hE : M_err μ = (if M_find μ (μ 263 0) < 0 then (1 : Int32) else 0) := (by rw [M_err, if_neg w_2, if_neg w_9, if_neg w_16, if_neg w_25, if_neg w_34, if_pos w_43]; first | done | rfl); rw [if_pos (show M_find μ (μ 263 0) < 0 from Int32.not_le.mp c_267)] at hE; exact does_1 (by rw [hE]; decide))
  by_cases w_47 : g_1 = 6
  · refine lv_tableIn (off := 288) (tgt := 292) K.1.1 K.1.2.1 dX11_does_4 (by rw [w_47]; decide) (by rw [w_47]; decide) (by rw [w_47]; rfl) (by decide) ?_
    refine lv_aload_n K.1.1 K.1.2.1 dX11_does_292 rfl (lv_at hl 0 rfl) ?_
    refine m_getr K hP (by decide) sh_259 rfl tuX11 12 (by decide) rfl q_1162 dX11_does_293 ?_
    refine lv_iconst (v := 0) K.1.1 K.1.2.1 dX11_does_296 (by decide) ?_
    refine m_iald K hP (by decide) sh_263 (n := 3) (vpd rfl) dX11_does_297 ?_
    refine lv_topi (fun g_48 eg_48 => ?_)
    have eg_48 : g_48 = (_ : Mm) 263 0 := eg_48
    refine lv_aload_n K.1.1 K.1.2.1 dX11_does_298 rfl (lv_at hl 0 rfl) ?_
    refine m_getr K hP (by decide) sh_259 rfl tuX11 12 (by decide) rfl q_1162 dX11_does_299 ?_
    refine lv_iconst (v := 1) K.1.1 K.1.2.1 dX11_does_302 (by decide) ?_
    refine m_iald K hP (by decide) sh_263 (n := 3) (vpd rfl) dX11_does_303 ?_
    refine lv_topi (fun g_49 eg_49 => ?_)
    have eg_49 : g_49 = (_ : Mm) 263 1 := eg_49
    refine m_cS (n := 2) (As := [.int g_48, .int g_49]) (rest := []) K hP hS (MX11_settingError l G B _ g_48 g_49 ) q_1268 q_1269 q_91 q_1270 hv_X11_settingError ⟨Nat.le_of_ble_eq_true rfl, Nat.le_of_ble_eq_true rfl⟩ rfl hl.1 rfl (Nat.le_of_ble_eq_true rfl) dX11_does_304 ⟨Nat.zero_le _, Nat.zero_le _⟩ (fun H locs hP hS => ?_)
    refine lv_topi (fun r_50 er_50 => ?_)
    refine lv_istore_n (lv' := [(1, .int r_50), (0, .ref (B + 259))]) K.1.1 K.1.2.1 dX11_does_307 rfl hl (by decide) rfl (fun ls hl => ?_)
    refine lv_iload_n K.1.1 K.1.2.1 dX11_does_308 rfl (lv_at hl 0 rfl) ?_
    refine lv_if_eq (tgt := 316) K.1.1 K.1.2.1 dX11_does_309 (by decide) (fun c_309 => ?_) (fun c_309 => ?_)
    · refine lv_aload_n K.1.1 K.1.2.1 dX11_does_316 rfl (lv_at hl 1 rfl) ?_
      refine lv_aload_n K.1.1 K.1.2.1 dX11_does_317 rfl (lv_at hl 1 rfl) ?_
      refine m_getr K hP (by decide) sh_259 rfl tuX11 12 (by decide) rfl q_1162 dX11_does_318 ?_
      refine lv_iconst (v := 0) K.1.1 K.1.2.1 dX11_does_321 (by decide) ?_
      refine m_iald K hP (by decide) sh_263 (n := 3) (vpd rfl) dX11_does_322 ?_
      refine lv_topi (fun g_51 eg_51 => ?_)
      have eg_51 : g_51 = (_ : Mm) 263 0 := eg_51
      refine lv_aload_n K.1.1 K.1.2.1 dX11_does_323 rfl (lv_at hl 1 rfl) ?_
      refine m_getr K hP (by decide) sh_259 rfl tuX11 12 (by decide) rfl q_1162 dX11_does_324 ?_
      refine lv_iconst (v := 1) K.1.1 K.1.2.1 dX11_does_327 (by decide) ?_
      refine m_iald K hP (by decide) sh_263 (n := 3) (vpd rfl) dX11_does_328 ?_
      refine lv_topi (fun g_52 eg_52 => ?_)
      have eg_52 : g_52 = (_ : Mm) 263 1 := eg_52
      refine m_cV (n := 2) (As := [.int g_51, .int g_52]) (rest := []) K hP hS (MX11_sets l G B _ g_51 g_52 (by subst eg_1 eg_48 eg_49 er_50 eg_51 eg_52; exact setting_vp c_309)) (by decide) sh_259 rfl q_1271 q_1273 q_35 q_91 q_1274 hv_X11_sets ⟨Nat.le_of_ble_eq_true rfl, Nat.le_of_ble_eq_true rfl⟩ rfl hl.1 rfl (Nat.le_of_ble_eq_true rfl) dX11_does_329 ⟨Nat.zero_le _, Nat.zero_le _⟩ (fun H locs hP hS => ?_)
      refine lv_topi (fun r_53 er_53 => ?_)
      refine lv_istore_n (lv' := [(2, .int r_53), (1, .int r_50), (0, .ref (B + 259))]) K.1.1 K.1.2.1 dX11_does_332 rfl hl (by decide) rfl (fun ls hl => ?_)
      refine lv_iload_n K.1.1 K.1.2.1 dX11_does_333 rfl (lv_at hl 1 rfl) ?_
      exact m_iret K hr hlocks hP hS dX11_does_334 (by subst eg_1 eg_48 eg_49 er_50 eg_51 eg_52 er_53; have hE : M_err μ = M_settingError (μ 263 0) (μ 263 1) := (by rw [M_err, if_neg w_2, if_neg w_9, if_neg w_16, if_neg w_25, if_neg w_34, if_neg w_43, if_pos w_47]; first | done | rfl); rw [hE]) (by subst eg_1 eg_48 eg_49 er_50 eg_51 eg_52 er_53; have hE : M_err μ = M_settingError (μ 263 0) (μ 263 1) := (by rw [M_err, if_neg w_2, if_neg w_9, if_neg w_16, if_neg w_25, if_neg w_34, if_neg w_43, if_pos w_47]; first | done | rfl); rw [does_0 (by rw [hE]; exact c_309), M_deed, if_neg w_2, if_neg w_9, if_neg w_16, if_neg w_25, if_neg w_34, if_neg w_43, if_pos w_47]; first | done | rfl)
    · refine lv_iconst (v := 0) K.1.1 K.1.2.1 dX11_does_312 (by decide) ?_
      refine lv_goto (tgt := 332) K.1.1 K.1.2.1 dX11_does_313 (by decide) ?_
      refine lv_istore_n (lv' := [(2, .int 0), (1, .int r_50), (0, .ref (B + 259))]) K.1.1 K.1.2.1 dX11_does_332 rfl hl (by decide) rfl (fun ls hl => ?_)
      refine lv_iload_n K.1.1 K.1.2.1 dX11_does_333 rfl (lv_at hl 1 rfl) ?_
      exact m_iret K hr hlocks hP hS dX11_does_334 (by subst eg_1 eg_48 eg_49 er_50; have hE : M_err μ = M_settingError (μ 263 0) (μ 263 1) := (by rw [M_err, if_neg w_2, if_neg w_9, if_neg w_16, if_neg w_25, if_neg w_34, if_neg w_43, if_pos w_47]; first | done | rfl); rw [hE]) (by subst eg_1 eg_48 eg_49 er_50; have hE : M_err μ = M_settingError (μ 263 0) (μ 263 1) := (by rw [M_err, if_neg w_2, if_neg w_9, if_neg w_16, if_neg w_25, if_neg w_34, if_neg w_43, if_pos w_47]; first | done | rfl); exact does_1 (by rw [hE]; exact c_309))
  refine lv_tableOut (tgt := 335) K.1.1 K.1.2.1 dX11_does_4 (sw_out_0_6 w_2 w_9 w_16 w_25 w_34 w_43 w_47) (by decide) ?_
  refine lv_aload_n K.1.1 K.1.2.1 dX11_does_335 rfl (lv_at hl 0 rfl) ?_
  refine m_cV (n := 0) (As := []) (rest := []) K hP hS (MX11_clearError l G B _  ) (by decide) sh_259 rfl q_1319 q_1321 q_43 q_91 q_1322 hv_X11_clearError ⟨Nat.le_of_ble_eq_true rfl, Nat.le_of_ble_eq_true rfl⟩ rfl hl.1 rfl (Nat.le_of_ble_eq_true rfl) dX11_does_336 ⟨Nat.zero_le _, Nat.zero_le _⟩ (fun H locs hP hS => ?_)
  refine lv_topi (fun r_54 er_54 => ?_)
  refine lv_istore_n (lv' := [(1, .int r_54), (0, .ref (B + 259))]) K.1.1 K.1.2.1 dX11_does_339 rfl hl (by decide) rfl (fun ls hl => ?_)
  refine lv_iload_n K.1.1 K.1.2.1 dX11_does_340 rfl (lv_at hl 0 rfl) ?_
  refine lv_if_eq (tgt := 348) K.1.1 K.1.2.1 dX11_does_341 (by decide) (fun c_341 => ?_) (fun c_341 => ?_)
  · refine lv_aload_n K.1.1 K.1.2.1 dX11_does_348 rfl (lv_at hl 1 rfl) ?_
    refine m_cV (n := 0) (As := []) (rest := []) K hP hS (MX11_clears l G B _  hI (hok (by subst eg_1 er_54; rw [M_err, if_neg w_2, if_neg w_9, if_neg w_16, if_neg w_25, if_neg w_34, if_neg w_43, if_neg w_47]; exact c_341))) (by decide) sh_259 rfl q_1323 q_1325 q_44 q_91 q_1326 hv_X11_clears ⟨Nat.le_of_ble_eq_true rfl, Nat.le_of_ble_eq_true rfl⟩ rfl hl.1 rfl (Nat.le_of_ble_eq_true rfl) dX11_does_349 ⟨Nat.zero_le _, Nat.zero_le _⟩ (fun H locs hP hS => ?_)
    refine lv_topi (fun r_55 er_55 => ?_)
    refine lv_istore_n (lv' := [(2, .int r_55), (1, .int r_54), (0, .ref (B + 259))]) K.1.1 K.1.2.1 dX11_does_352 rfl hl (by decide) rfl (fun ls hl => ?_)
    refine lv_iload_n K.1.1 K.1.2.1 dX11_does_353 rfl (lv_at hl 1 rfl) ?_
    exact m_iret K hr hlocks hP hS dX11_does_354 (by subst eg_1 er_54 er_55; have hE : M_err μ = M_clearError μ := (by rw [M_err, if_neg w_2, if_neg w_9, if_neg w_16, if_neg w_25, if_neg w_34, if_neg w_43, if_neg w_47]; first | done | rfl); rw [hE]) (by subst eg_1 er_54 er_55; have hE : M_err μ = M_clearError μ := (by rw [M_err, if_neg w_2, if_neg w_9, if_neg w_16, if_neg w_25, if_neg w_34, if_neg w_43, if_neg w_47]; first | done | rfl); rw [does_0 (by rw [hE]; exact c_341), M_deed, if_neg w_2, if_neg w_9, if_neg w_16, if_neg w_25, if_neg w_34, if_neg w_43, if_neg w_47]; first | done | rfl)
  · refine lv_iconst (v := 0) K.1.1 K.1.2.1 dX11_does_344 (by decide) ?_
    refine lv_goto (tgt := 352) K.1.1 K.1.2.1 dX11_does_345 (by decide) ?_
    refine lv_istore_n (lv' := [(2, .int 0), (1, .int r_54), (0, .ref (B + 259))]) K.1.1 K.1.2.1 dX11_does_352 rfl hl (by decide) rfl (fun ls hl => ?_)
    refine lv_iload_n K.1.1 K.1.2.1 dX11_does_353 rfl (lv_at hl 1 rfl) ?_
    exact m_iret K hr hlocks hP hS dX11_does_354 (by subst eg_1 er_54; have hE : M_err μ = M_clearError μ := (by rw [M_err, if_neg w_2, if_neg w_9, if_neg w_16, if_neg w_25, if_neg w_34, if_neg w_43, if_neg w_47]; first | done | rfl); rw [hE]) (by subst eg_1 er_54; have hE : M_err μ = M_clearError μ := (by rw [M_err, if_neg w_2, if_neg w_9, if_neg w_16, if_neg w_25, if_neg w_34, if_neg w_43, if_neg w_47]; first | done | rfl); exact does_1 (by rw [hE]; exact c_341))

