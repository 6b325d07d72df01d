set_option maxHeartbeats 4000000 in
set_option maxRecDepth 100000 in
theorem MX11_trades (l : Launch) (G : GG) (B : Nat) (μ : Mm) (hI : MI μ) (hok : M_trok μ) : CM l yX11_trades (.code yX11_trades cX11_trades 11 Option.none) 5 114 G B [.ref (B + 259)] μ none (M_trades μ) := by
  refine CM.of (by decide) (Nat.le_of_ble_eq_true rfl) ?_
  intro p e s m below meth c ls K hr hlocks hP hl
  have hS : va_S (AA B) s.heap s.heap [] := va_S.rf
  have hl : lv_has ls 11 [(0, .ref (B + 259))] := hl
  refine lv_aload_n K.1.1 K.1.2.1 dX11_trades_0 rfl (lv_at hl 0 rfl) ?_
  refine m_getr K hP (by decide) sh_259 rfl tuX11 0 (by decide) rfl q_1150 dX11_trades_1 ?_
  refine lv_bipush (v := 9) K.1.1 K.1.2.1 dX11_trades_4 (by decide) ?_
  refine lv_iconst (v := 0) K.1.1 K.1.2.1 dX11_trades_6 (by decide) ?_
  refine m_iast K hP hS (by decide) sh_260 (n := 267) (vpd rfl) dX11_trades_7 (fun H locs hP hS => ?_)
  have hP : MP G B (up2 _ 260 9 _) H := hP
  refine lv_aload_n K.1.1 K.1.2.1 dX11_trades_8 rfl (lv_at hl 0 rfl) ?_
  refine m_geti K hP (by decide) sh_259 rfl tuX11 7 (by decide) rfl q_1157 dX11_trades_9 ?_
  refine lv_topi (fun g_1 eg_1 => ?_)
  refine lv_istore_n (lv' := [(1, .int g_1), (0, .ref (B + 259))]) K.1.1 K.1.2.1 dX11_trades_12 rfl hl (by decide) rfl (fun ls hl => ?_)
  refine lv_iconst (v := 0) K.1.1 K.1.2.1 dX11_trades_13 (by decide) ?_
  refine lv_istore_n (lv' := [(2, .int 0), (1, .int g_1), (0, .ref (B + 259))]) K.1.1 K.1.2.1 dX11_trades_14 rfl hl (by decide) rfl (fun ls hl => ?_)
  refine lv_iconst (v := 0) K.1.1 K.1.2.1 dX11_trades_15 (by decide) ?_
  refine lv_istore_n (lv' := [(3, .int 0), (2, .int 0), (1, .int g_1), (0, .ref (B + 259))]) K.1.1 K.1.2.1 dX11_trades_16 rfl hl (by decide) rfl (fun ls hl => ?_)
  refine lv_iconst (v := 0) K.1.1 K.1.2.1 dX11_trades_17 (by decide) ?_
  refine lv_istore (lv' := [(4, .int 0), (3, .int 0), (2, .int 0), (1, .int g_1), (0, .ref (B + 259))]) K.1.1 K.1.2.1 dX11_trades_18 hl (by decide) rfl (fun ls hl => ?_)
  refine lv_iconst (v := 0) K.1.1 K.1.2.1 dX11_trades_20 (by decide) ?_
  refine lv_istore (lv' := [(5, .int 0), (4, .int 0), (3, .int 0), (2, .int 0), (1, .int g_1), (0, .ref (B + 259))]) K.1.1 K.1.2.1 dX11_trades_21 hl (by decide) rfl (fun ls hl => ?_)
  have lp_23 : ∀ n : Nat, ∀ (v5_23 : Int32) (v4_23 : Int32) (v3_23 : Int32) (v2_23 : Int32) (v1_23 : Int32) (μ_23 : Mm) (H : Heap) (locs : List Loc) (ls : Array Slot), (MI μ_23) → (TRok n μ_23 v1_23 v2_23 v3_23 v4_23 v5_23) → (TR (NN 40) (up2 μ 260 9 0) (up2 μ 260 9 0 259 7) 0 0 0 0 = TR n μ_23 v1_23 v2_23 v3_23 v4_23 v5_23) → MP G B μ_23 H → va_S (AA B) s.heap H locs → lv_has ls 11 [(5, .int v5_23), (4, .int v4_23), (3, .int v3_23), (2, .int v2_23), (1, .int v1_23), (0, .ref (B + 259))] → W p l e ({ frames := 5, cells := 0, slots := 0, locals := 114 } : Room) s m ([.ref (B + 259)] : List Value).toArray below meth c H locs 0 0 (MF below G B none (M_trades μ) ([.ref (B + 259)] : List Value).toArray s) (F0 m 23 ls []) := by
    intro n
    induction n with
    | zero =>
      intro v5_23 v4_23 v3_23 v2_23 v1_23 μ_23 H locs ls inv0_23 inv1_23 fin0_23 hP hS hl
      refine lv_iload_n K.1.1 K.1.2.1 dX11_trades_23 rfl (lv_at hl 4 rfl) ?_
      refine lv_if_le (tgt := 165) K.1.1 K.1.2.1 dX11_trades_24 (by decide) (fun c_24 => ?_) (fun c_24 => ?_)
      · exact m_vret K hr hlocks hP hS dX11_trades_165 rfl (by subst eg_1; rw [M_trades, fin0_23]; first | rfl | rw [TR, if_neg (Int32.not_lt.mpr c_24)])
      · exact absurd c_24 (not_not_intro (Int32.not_lt.mp inv1_23))
    | succ n ih_23 =>
      intro v5_23 v4_23 v3_23 v2_23 v1_23 μ_23 H locs ls inv0_23 inv1_23 fin0_23 hP hS hl
      refine lv_iload_n K.1.1 K.1.2.1 dX11_trades_23 rfl (lv_at hl 4 rfl) ?_
      refine lv_if_le (tgt := 165) K.1.1 K.1.2.1 dX11_trades_24 (by decide) (fun c_24 => ?_) (fun c_24 => ?_)
      · exact m_vret K hr hlocks hP hS dX11_trades_165 rfl (by subst eg_1; rw [M_trades, fin0_23]; first | rfl | rw [TR, if_neg (Int32.not_lt.mpr c_24)])
      · refine lv_aload_n K.1.1 K.1.2.1 dX11_trades_27 rfl (lv_at hl 5 rfl) ?_
        refine lv_iconst (v := 0) K.1.1 K.1.2.1 dX11_trades_28 (by decide) ?_
        refine lv_iload_n K.1.1 K.1.2.1 dX11_trades_29 rfl (lv_at hl 3 rfl) ?_
        refine m_cV (n := 2) (As := [.int 0, .int v2_23]) (rest := []) K hP hS (MX11_orderAt l G B _ 0 v2_23 inv0_23) (by decide) sh_259 rfl q_1351 q_1353 q_51 q_91 q_1354 hv_X11_orderAt ⟨Nat.le_of_ble_eq_true rfl, Nat.le_of_ble_eq_true rfl⟩ rfl hl.1 rfl (Nat.le_of_ble_eq_true rfl) dX11_trades_30 ⟨Nat.zero_le _, Nat.zero_le _⟩ (fun H locs hP hS => ?_)
        refine lv_topi (fun r_2 er_2 => ?_)
        refine lv_istore (lv' := [(6, .int r_2), (5, .int v5_23), (4, .int v4_23), (3, .int v3_23), (2, .int v2_23), (1, .int v1_23), (0, .ref (B + 259))]) K.1.1 K.1.2.1 dX11_trades_33 hl (by decide) rfl (fun ls hl => ?_)
        refine lv_aload_n K.1.1 K.1.2.1 dX11_trades_35 rfl (lv_at hl 6 rfl) ?_
        refine lv_iconst (v := 1) K.1.1 K.1.2.1 dX11_trades_36 (by decide) ?_
        refine lv_iload_n K.1.1 K.1.2.1 dX11_trades_37 rfl (lv_at hl 3 rfl) ?_
        refine m_cV (n := 2) (As := [.int 1, .int v3_23]) (rest := []) K hP hS (MX11_orderAt l G B _ 1 v3_23 inv0_23) (by decide) sh_259 rfl q_1351 q_1353 q_51 q_91 q_1354 hv_X11_orderAt ⟨Nat.le_of_ble_eq_true rfl, Nat.le_of_ble_eq_true rfl⟩ rfl hl.1 rfl (Nat.le_of_ble_eq_true rfl) dX11_trades_38 ⟨Nat.zero_le _, Nat.zero_le _⟩ (fun H locs hP hS => ?_)
        refine lv_topi (fun r_3 er_3 => ?_)
        refine lv_istore (lv' := [(7, .int r_3), (6, .int r_2), (5, .int v5_23), (4, .int v4_23), (3, .int v3_23), (2, .int v2_23), (1, .int v1_23), (0, .ref (B + 259))]) K.1.1 K.1.2.1 dX11_trades_41 hl (by decide) rfl (fun ls hl => ?_)
        refine lv_aload_n K.1.1 K.1.2.1 dX11_trades_43 rfl (lv_at hl 7 rfl) ?_
        refine lv_iload K.1.1 K.1.2.1 dX11_trades_44 (lv_at hl 1 rfl) ?_
        refine m_cV (n := 1) (As := [.int r_2]) (rest := []) K hP hS (MX11_fillOf l G B _ r_2 inv0_23 (by subst eg_1 er_2 er_3; exact orderAt_vp inv0_23 _ _)) (by decide) sh_259 rfl q_1363 q_1365 q_54 q_91 q_1366 hv_X11_fillOf ⟨Nat.le_of_ble_eq_true rfl, Nat.le_of_ble_eq_true rfl⟩ rfl hl.1 rfl (Nat.le_of_ble_eq_true rfl) dX11_trades_46 ⟨Nat.zero_le _, Nat.zero_le _⟩ (fun H locs hP hS => ?_)
        refine lv_topi (fun r_4 er_4 => ?_)
        refine lv_iload K.1.1 K.1.2.1 dX11_trades_49 (lv_at hl 3 rfl) ?_
        refine lv_isub K.1.1 K.1.2.1 dX11_trades_51 ?_
        refine lv_topi (fun x_5 ex_5 => ?_)
        refine lv_istore (lv' := [(8, .int x_5), (7, .int r_3), (6, .int r_2), (5, .int v5_23), (4, .int v4_23), (3, .int v3_23), (2, .int v2_23), (1, .int v1_23), (0, .ref (B + 259))]) K.1.1 K.1.2.1 dX11_trades_52 hl (by decide) rfl (fun ls hl => ?_)
        refine lv_aload_n K.1.1 K.1.2.1 dX11_trades_54 rfl (lv_at hl 8 rfl) ?_
        refine lv_iload K.1.1 K.1.2.1 dX11_trades_55 (lv_at hl 1 rfl) ?_
        refine m_cV (n := 1) (As := [.int r_3]) (rest := []) K hP hS (MX11_fillOf l G B _ r_3 inv0_23 (by subst eg_1 er_2 er_3 er_4 ex_5; exact orderAt_vp inv0_23 _ _)) (by decide) sh_259 rfl q_1363 q_1365 q_54 q_91 q_1366 hv_X11_fillOf ⟨Nat.le_of_ble_eq_true rfl, Nat.le_of_ble_eq_true rfl⟩ rfl hl.1 rfl (Nat.le_of_ble_eq_true rfl) dX11_trades_57 ⟨Nat.zero_le _, Nat.zero_le _⟩ (fun H locs hP hS => ?_)
        refine lv_topi (fun r_6 er_6 => ?_)
        refine lv_iload K.1.1 K.1.2.1 dX11_trades_60 (lv_at hl 3 rfl) ?_
        refine lv_isub K.1.1 K.1.2.1 dX11_trades_62 ?_
        refine lv_topi (fun x_7 ex_7 => ?_)
        refine lv_istore (lv' := [(9, .int x_7), (8, .int x_5), (7, .int r_3), (6, .int r_2), (5, .int v5_23), (4, .int v4_23), (3, .int v3_23), (2, .int v2_23), (1, .int v1_23), (0, .ref (B + 259))]) K.1.1 K.1.2.1 dX11_trades_63 hl (by decide) rfl (fun ls hl => ?_)
        refine lv_iload K.1.1 K.1.2.1 dX11_trades_65 (lv_at hl 1 rfl) ?_
        refine lv_iload K.1.1 K.1.2.1 dX11_trades_67 (lv_at hl 0 rfl) ?_
        refine lv_icmp_ge (tgt := 77) K.1.1 K.1.2.1 dX11_trades_69 (by decide) (fun c_69 => ?_) (fun c_69 => ?_)
        · refine lv_iload K.1.1 K.1.2.1 dX11_trades_77 (lv_at hl 0 rfl) ?_
          refine lv_istore (lv' := [(10, .int x_7), (9, .int x_7), (8, .int x_5), (7, .int r_3), (6, .int r_2), (5, .int v5_23), (4, .int v4_23), (3, .int v3_23), (2, .int v2_23), (1, .int v1_23), (0, .ref (B + 259))]) K.1.1 K.1.2.1 dX11_trades_79 hl (by decide) rfl (fun ls hl => ?_)
          refine lv_aload_n K.1.1 K.1.2.1 dX11_trades_81 rfl (lv_at hl 10 rfl) ?_
          refine lv_iload K.1.1 K.1.2.1 dX11_trades_82 (lv_at hl 4 rfl) ?_
          refine lv_iload K.1.1 K.1.2.1 dX11_trades_84 (lv_at hl 3 rfl) ?_
          refine lv_iload K.1.1 K.1.2.1 dX11_trades_86 (lv_at hl 0 rfl) ?_
          refine m_cV (n := 3) (As := [.int r_2, .int r_3, .int x_7]) (rest := []) K hP hS (MX11_adds l G B _ r_2 r_3 x_7 inv0_23 (inv1_23 (Int32.not_le.mp c_24)).1 (by subst eg_1 er_2 er_3 er_4 ex_5 er_6 ex_7; exact orderAt_vp inv0_23 _ _) (by subst eg_1 er_2 er_3 er_4 ex_5 er_6 ex_7; exact orderAt_vp inv0_23 _ _)) (by decide) sh_259 rfl q_1367 q_1369 q_55 q_91 q_1370 hv_X11_adds ⟨Nat.le_of_ble_eq_true rfl, Nat.le_of_ble_eq_true rfl⟩ rfl hl.1 rfl (Nat.le_of_ble_eq_true rfl) dX11_trades_88 ⟨Nat.zero_le _, Nat.zero_le _⟩ (fun H locs hP hS => ?_)
          refine W.eq (g2 := F0 m 91 ls []) rfl ?_
          refine lv_iload_n K.1.1 K.1.2.1 dX11_trades_91 rfl (lv_at hl 9 rfl) ?_
          refine lv_iload K.1.1 K.1.2.1 dX11_trades_92 (lv_at hl 0 rfl) ?_
          refine lv_isub K.1.1 K.1.2.1 dX11_trades_94 ?_
          refine lv_topi (fun x_8 ex_8 => ?_)
          refine lv_istore_n (lv' := [(1, .int x_8), (10, .int x_7), (9, .int x_7), (8, .int x_5), (7, .int r_3), (6, .int r_2), (5, .int v5_23), (4, .int v4_23), (3, .int v3_23), (2, .int v2_23), (0, .ref (B + 259))]) K.1.1 K.1.2.1 dX11_trades_95 rfl hl (by decide) rfl (fun ls hl => ?_)
          refine lv_iload K.1.1 K.1.2.1 dX11_trades_96 (lv_at hl 1 rfl) ?_
          refine lv_iload K.1.1 K.1.2.1 dX11_trades_98 (lv_at hl 3 rfl) ?_
          refine lv_icmp_ne (tgt := 107) K.1.1 K.1.2.1 dX11_trades_100 (by decide) (fun c_100 => ?_) (fun c_100 => ?_)
          · refine lv_iload K.1.1 K.1.2.1 dX11_trades_107 (lv_at hl 7 rfl) ?_
            refine lv_iload K.1.1 K.1.2.1 dX11_trades_109 (lv_at hl 1 rfl) ?_
            refine lv_iadd K.1.1 K.1.2.1 dX11_trades_111 ?_
            refine lv_topi (fun x_9 ex_9 => ?_)
            refine lv_istore (lv' := [(4, .int x_9), (1, .int x_8), (10, .int x_7), (9, .int x_7), (8, .int x_5), (7, .int r_3), (6, .int r_2), (5, .int v5_23), (3, .int v3_23), (2, .int v2_23), (0, .ref (B + 259))]) K.1.1 K.1.2.1 dX11_trades_112 hl (by decide) rfl (fun ls hl => ?_)
            refine lv_iload_n K.1.1 K.1.2.1 dX11_trades_114 rfl (lv_at hl 9 rfl) ?_
            refine lv_iload K.1.1 K.1.2.1 dX11_trades_115 (lv_at hl 2 rfl) ?_
            refine lv_iload K.1.1 K.1.2.1 dX11_trades_117 (lv_at hl 4 rfl) ?_
            refine lv_icmp_ne (tgt := 126) K.1.1 K.1.2.1 dX11_trades_119 (by decide) (fun c_119 => ?_) (fun c_119 => ?_)
            · refine lv_iconst (v := 0) K.1.1 K.1.2.1 dX11_trades_126 (by decide) ?_
              refine lv_iadd K.1.1 K.1.2.1 dX11_trades_127 ?_
              refine lv_topi (fun x_10 ex_10 => ?_)
              refine lv_istore_n (lv' := [(2, .int x_10), (4, .int x_9), (1, .int x_8), (10, .int x_7), (9, .int x_7), (8, .int x_5), (7, .int r_3), (6, .int r_2), (5, .int v5_23), (3, .int v3_23), (0, .ref (B + 259))]) K.1.1 K.1.2.1 dX11_trades_128 rfl hl (by decide) rfl (fun ls hl => ?_)
              refine lv_iload K.1.1 K.1.2.1 dX11_trades_129 (lv_at hl 3 rfl) ?_
              refine lv_iload K.1.1 K.1.2.1 dX11_trades_131 (lv_at hl 4 rfl) ?_
              refine lv_icmp_ne (tgt := 140) K.1.1 K.1.2.1 dX11_trades_133 (by decide) (fun c_133 => ?_) (fun c_133 => ?_)
              · exact absurd c_133 (not_not_intro (by subst eg_1 er_2 er_3 er_4 ex_5 er_6 ex_7 ex_8 ex_9 ex_10; rfl))
              · refine lv_iconst (v := 0) K.1.1 K.1.2.1 dX11_trades_136 (by decide) ?_
                refine lv_goto (tgt := 145) K.1.1 K.1.2.1 dX11_trades_137 (by decide) ?_
                refine lv_istore (lv' := [(5, .int 0), (2, .int x_10), (4, .int x_9), (1, .int x_8), (10, .int x_7), (9, .int x_7), (8, .int x_5), (7, .int r_3), (6, .int r_2), (3, .int v3_23), (0, .ref (B + 259))]) K.1.1 K.1.2.1 dX11_trades_145 hl (by decide) rfl (fun ls hl => ?_)
                refine lv_iload_n K.1.1 K.1.2.1 dX11_trades_147 rfl (lv_at hl 9 rfl) ?_
                refine lv_iload K.1.1 K.1.2.1 dX11_trades_148 (lv_at hl 4 rfl) ?_
                refine lv_iload K.1.1 K.1.2.1 dX11_trades_150 (lv_at hl 5 rfl) ?_
                refine lv_icmp_ne (tgt := 159) K.1.1 K.1.2.1 dX11_trades_152 (by decide) (fun c_152 => ?_) (fun c_152 => ?_)
                · exact absurd c_152 (not_not_intro (by subst eg_1 er_2 er_3 er_4 ex_5 er_6 ex_7 ex_8 ex_9 ex_10; rfl))
                · refine lv_iconst (v := 1) K.1.1 K.1.2.1 dX11_trades_155 (by decide) ?_
                  refine lv_goto (tgt := 160) K.1.1 K.1.2.1 dX11_trades_156 (by decide) ?_
                  refine lv_iadd K.1.1 K.1.2.1 dX11_trades_160 ?_
                  refine lv_topi (fun x_11 ex_11 => ?_)
                  refine lv_istore_n (lv' := [(3, .int x_11), (5, .int 0), (2, .int x_10), (4, .int x_9), (1, .int x_8), (10, .int x_7), (9, .int x_7), (8, .int x_5), (7, .int r_3), (6, .int r_2), (0, .ref (B + 259))]) K.1.1 K.1.2.1 dX11_trades_161 rfl hl (by decide) rfl (fun ls hl => ?_)
                  refine lv_goto (tgt := 23) K.1.1 K.1.2.1 dX11_trades_162 (by decide) ?_
                  exact ih_23 _ _ _ _ _ _ _ _ _ (by subst eg_1 er_2 er_3 er_4 ex_5 er_6 ex_7 ex_8 ex_9 ex_10 ex_11; exact MI_adds inv0_23 (inv1_23 (Int32.not_le.mp c_24)).1) (by subst eg_1 er_2 er_3 er_4 ex_5 er_6 ex_7 ex_8 ex_9 ex_10 ex_11; exact TRok_next inv1_23 (Int32.not_le.mp c_24) (if_neg (Int32.not_lt.mpr c_69)) (if_neg c_100) (if_pos rfl) (if_neg c_100) (if_pos rfl)) (by subst eg_1 er_2 er_3 er_4 ex_5 er_6 ex_7 ex_8 ex_9 ex_10 ex_11; rw [fin0_23]; exact TR_next (Int32.not_le.mp c_24) (if_neg (Int32.not_lt.mpr c_69)) (if_neg c_100) (if_pos rfl) (if_neg c_100) (if_pos rfl)) hP hS (lv_sub hl [1, 3, 0, 2, 4, 10] rfl)
            · exact absurd c_119 (c_100)
          · refine lv_iconst (v := 0) K.1.1 K.1.2.1 dX11_trades_103 (by decide) ?_
            refine lv_goto (tgt := 112) K.1.1 K.1.2.1 dX11_trades_104 (by decide) ?_
            refine lv_istore (lv' := [(4, .int 0), (1, .int x_8), (10, .int x_7), (9, .int x_7), (8, .int x_5), (7, .int r_3), (6, .int r_2), (5, .int v5_23), (3, .int v3_23), (2, .int v2_23), (0, .ref (B + 259))]) K.1.1 K.1.2.1 dX11_trades_112 hl (by decide) rfl (fun ls hl => ?_)
            refine lv_iload_n K.1.1 K.1.2.1 dX11_trades_114 rfl (lv_at hl 9 rfl) ?_
            refine lv_iload K.1.1 K.1.2.1 dX11_trades_115 (lv_at hl 2 rfl) ?_
            refine lv_iload K.1.1 K.1.2.1 dX11_trades_117 (lv_at hl 4 rfl) ?_
            refine lv_icmp_ne (tgt := 126) K.1.1 K.1.2.1 dX11_trades_119 (by decide) (fun c_119 => ?_) (fun c_119 => ?_)
            · exact absurd c_119 (not_not_intro c_100)
            · refine lv_iconst (v := 1) K.1.1 K.1.2.1 dX11_trades_122 (by decide) ?_
              refine lv_goto (tgt := 127) K.1.1 K.1.2.1 dX11_trades_123 (by decide) ?_
              refine lv_iadd K.1.1 K.1.2.1 dX11_trades_127 ?_
              refine lv_topi (fun x_12 ex_12 => ?_)
              refine lv_istore_n (lv' := [(2, .int x_12), (4, .int 0), (1, .int x_8), (10, .int x_7), (9, .int x_7), (8, .int x_5), (7, .int r_3), (6, .int r_2), (5, .int v5_23), (3, .int v3_23), (0, .ref (B + 259))]) K.1.1 K.1.2.1 dX11_trades_128 rfl hl (by decide) rfl (fun ls hl => ?_)
              refine lv_iload K.1.1 K.1.2.1 dX11_trades_129 (lv_at hl 3 rfl) ?_
              refine lv_iload K.1.1 K.1.2.1 dX11_trades_131 (lv_at hl 4 rfl) ?_
              refine lv_icmp_ne (tgt := 140) K.1.1 K.1.2.1 dX11_trades_133 (by decide) (fun c_133 => ?_) (fun c_133 => ?_)
              · exact absurd c_133 (not_not_intro (by subst eg_1 er_2 er_3 er_4 ex_5 er_6 ex_7 ex_8 ex_12; rfl))
              · refine lv_iconst (v := 0) K.1.1 K.1.2.1 dX11_trades_136 (by decide) ?_
                refine lv_goto (tgt := 145) K.1.1 K.1.2.1 dX11_trades_137 (by decide) ?_
                refine lv_istore (lv' := [(5, .int 0), (2, .int x_12), (4, .int 0), (1, .int x_8), (10, .int x_7), (9, .int x_7), (8, .int x_5), (7, .int r_3), (6, .int r_2), (3, .int v3_23), (0, .ref (B + 259))]) K.1.1 K.1.2.1 dX11_trades_145 hl (by decide) rfl (fun ls hl => ?_)
                refine lv_iload_n K.1.1 K.1.2.1 dX11_trades_147 rfl (lv_at hl 9 rfl) ?_
                refine lv_iload K.1.1 K.1.2.1 dX11_trades_148 (lv_at hl 4 rfl) ?_
                refine lv_iload K.1.1 K.1.2.1 dX11_trades_150 (lv_at hl 5 rfl) ?_
                refine lv_icmp_ne (tgt := 159) K.1.1 K.1.2.1 dX11_trades_152 (by decide) (fun c_152 => ?_) (fun c_152 => ?_)
                · exact absurd c_152 (not_not_intro (by subst eg_1 er_2 er_3 er_4 ex_5 er_6 ex_7 ex_8 ex_12; rfl))
                · refine lv_iconst (v := 1) K.1.1 K.1.2.1 dX11_trades_155 (by decide) ?_
                  refine lv_goto (tgt := 160) K.1.1 K.1.2.1 dX11_trades_156 (by decide) ?_
                  refine lv_iadd K.1.1 K.1.2.1 dX11_trades_160 ?_
                  refine lv_topi (fun x_13 ex_13 => ?_)
                  refine lv_istore_n (lv' := [(3, .int x_13), (5, .int 0), (2, .int x_12), (4, .int 0), (1, .int x_8), (10, .int x_7), (9, .int x_7), (8, .int x_5), (7, .int r_3), (6, .int r_2), (0, .ref (B + 259))]) K.1.1 K.1.2.1 dX11_trades_161 rfl hl (by decide) rfl (fun ls hl => ?_)
                  refine lv_goto (tgt := 23) K.1.1 K.1.2.1 dX11_trades_162 (by decide) ?_
                  exact ih_23 _ _ _ _ _ _ _ _ _ (by subst eg_1 er_2 er_3 er_4 ex_5 er_6 ex_7 ex_8 ex_12 ex_13; exact MI_adds inv0_23 (inv1_23 (Int32.not_le.mp c_24)).1) (by subst eg_1 er_2 er_3 er_4 ex_5 er_6 ex_7 ex_8 ex_12 ex_13; exact TRok_next inv1_23 (Int32.not_le.mp c_24) (if_neg (Int32.not_lt.mpr c_69)) (if_pos c_100) (if_pos rfl) (if_pos c_100) (if_pos rfl)) (by subst eg_1 er_2 er_3 er_4 ex_5 er_6 ex_7 ex_8 ex_12 ex_13; rw [fin0_23]; exact TR_next (Int32.not_le.mp c_24) (if_neg (Int32.not_lt.mpr c_69)) (if_pos c_100) (if_pos rfl) (if_pos c_100) (if_pos rfl)) hP hS (lv_sub hl [1, 3, 0, 2, 4, 10] rfl)
        · refine lv_iload K.1.1 K.1.2.1 dX11_trades_72 (lv_at hl 1 rfl) ?_
          refine lv_goto (tgt := 79) K.1.1 K.1.2.1 dX11_trades_74 (by decide) ?_
          refine lv_istore (lv' := [(10, .int x_5), (9, .int x_7), (8, .int x_5), (7, .int r_3), (6, .int r_2), (5, .int v5_23), (4, .int v4_23), (3, .int v3_23), (2, .int v2_23), (1, .int v1_23), (0, .ref (B + 259))]) K.1.1 K.1.2.1 dX11_trades_79 hl (by decide) rfl (fun ls hl => ?_)
          refine lv_aload_n K.1.1 K.1.2.1 dX11_trades_81 rfl (lv_at hl 10 rfl) ?_
          refine lv_iload K.1.1 K.1.2.1 dX11_trades_82 (lv_at hl 4 rfl) ?_
          refine lv_iload K.1.1 K.1.2.1 dX11_trades_84 (lv_at hl 3 rfl) ?_
          refine lv_iload K.1.1 K.1.2.1 dX11_trades_86 (lv_at hl 0 rfl) ?_
          refine m_cV (n := 3) (As := [.int r_2, .int r_3, .int x_5]) (rest := []) K hP hS (MX11_adds l G B _ r_2 r_3 x_5 inv0_23 (inv1_23 (Int32.not_le.mp c_24)).1 (by subst eg_1 er_2 er_3 er_4 ex_5 er_6 ex_7; exact orderAt_vp inv0_23 _ _) (by subst eg_1 er_2 er_3 er_4 ex_5 er_6 ex_7; exact orderAt_vp inv0_23 _ _)) (by decide) sh_259 rfl q_1367 q_1369 q_55 q_91 q_1370 hv_X11_adds ⟨Nat.le_of_ble_eq_true rfl, Nat.le_of_ble_eq_true rfl⟩ rfl hl.1 rfl (Nat.le_of_ble_eq_true rfl) dX11_trades_88 ⟨Nat.zero_le _, Nat.zero_le _⟩ (fun H locs hP hS => ?_)
          refine W.eq (g2 := F0 m 91 ls []) rfl ?_
          refine lv_iload_n K.1.1 K.1.2.1 dX11_trades_91 rfl (lv_at hl 9 rfl) ?_
          refine lv_iload K.1.1 K.1.2.1 dX11_trades_92 (lv_at hl 0 rfl) ?_
          refine lv_isub K.1.1 K.1.2.1 dX11_trades_94 ?_
          refine lv_topi (fun x_14 ex_14 => ?_)
          refine lv_istore_n (lv' := [(1, .int x_14), (10, .int x_5), (9, .int x_7), (8, .int x_5), (7, .int r_3), (6, .int r_2), (5, .int v5_23), (4, .int v4_23), (3, .int v3_23), (2, .int v2_23), (0, .ref (B + 259))]) K.1.1 K.1.2.1 dX11_trades_95 rfl hl (by decide) rfl (fun ls hl => ?_)
          refine lv_iload K.1.1 K.1.2.1 dX11_trades_96 (lv_at hl 1 rfl) ?_
          refine lv_iload K.1.1 K.1.2.1 dX11_trades_98 (lv_at hl 3 rfl) ?_
          refine lv_icmp_ne (tgt := 107) K.1.1 K.1.2.1 dX11_trades_100 (by decide) (fun c_100 => ?_) (fun c_100 => ?_)
          · exact absurd c_100 (not_not_intro (by subst eg_1 er_2 er_3 er_4 ex_5 er_6 ex_7 ex_14; rfl))
          · refine lv_iconst (v := 0) K.1.1 K.1.2.1 dX11_trades_103 (by decide) ?_
            refine lv_goto (tgt := 112) K.1.1 K.1.2.1 dX11_trades_104 (by decide) ?_
            refine lv_istore (lv' := [(4, .int 0), (1, .int x_14), (10, .int x_5), (9, .int x_7), (8, .int x_5), (7, .int r_3), (6, .int r_2), (5, .int v5_23), (3, .int v3_23), (2, .int v2_23), (0, .ref (B + 259))]) K.1.1 K.1.2.1 dX11_trades_112 hl (by decide) rfl (fun ls hl => ?_)
            refine lv_iload_n K.1.1 K.1.2.1 dX11_trades_114 rfl (lv_at hl 9 rfl) ?_
            refine lv_iload K.1.1 K.1.2.1 dX11_trades_115 (lv_at hl 2 rfl) ?_
            refine lv_iload K.1.1 K.1.2.1 dX11_trades_117 (lv_at hl 4 rfl) ?_
            refine lv_icmp_ne (tgt := 126) K.1.1 K.1.2.1 dX11_trades_119 (by decide) (fun c_119 => ?_) (fun c_119 => ?_)
            · exact absurd c_119 (not_not_intro (by subst eg_1 er_2 er_3 er_4 ex_5 er_6 ex_7 ex_14; rfl))
            · refine lv_iconst (v := 1) K.1.1 K.1.2.1 dX11_trades_122 (by decide) ?_
              refine lv_goto (tgt := 127) K.1.1 K.1.2.1 dX11_trades_123 (by decide) ?_
              refine lv_iadd K.1.1 K.1.2.1 dX11_trades_127 ?_
              refine lv_topi (fun x_15 ex_15 => ?_)
              refine lv_istore_n (lv' := [(2, .int x_15), (4, .int 0), (1, .int x_14), (10, .int x_5), (9, .int x_7), (8, .int x_5), (7, .int r_3), (6, .int r_2), (5, .int v5_23), (3, .int v3_23), (0, .ref (B + 259))]) K.1.1 K.1.2.1 dX11_trades_128 rfl hl (by decide) rfl (fun ls hl => ?_)
              refine lv_iload K.1.1 K.1.2.1 dX11_trades_129 (lv_at hl 3 rfl) ?_
              refine lv_iload K.1.1 K.1.2.1 dX11_trades_131 (lv_at hl 4 rfl) ?_
              refine lv_icmp_ne (tgt := 140) K.1.1 K.1.2.1 dX11_trades_133 (by decide) (fun c_133 => ?_) (fun c_133 => ?_)
              · refine lv_iload K.1.1 K.1.2.1 dX11_trades_140 (lv_at hl 8 rfl) ?_
                refine lv_iload K.1.1 K.1.2.1 dX11_trades_142 (lv_at hl 3 rfl) ?_
                refine lv_iadd K.1.1 K.1.2.1 dX11_trades_144 ?_
                refine lv_topi (fun x_16 ex_16 => ?_)
                refine lv_istore (lv' := [(5, .int x_16), (2, .int x_15), (4, .int 0), (1, .int x_14), (10, .int x_5), (9, .int x_7), (8, .int x_5), (7, .int r_3), (6, .int r_2), (3, .int v3_23), (0, .ref (B + 259))]) K.1.1 K.1.2.1 dX11_trades_145 hl (by decide) rfl (fun ls hl => ?_)
                refine lv_iload_n K.1.1 K.1.2.1 dX11_trades_147 rfl (lv_at hl 9 rfl) ?_
                refine lv_iload K.1.1 K.1.2.1 dX11_trades_148 (lv_at hl 4 rfl) ?_
                refine lv_iload K.1.1 K.1.2.1 dX11_trades_150 (lv_at hl 5 rfl) ?_
                refine lv_icmp_ne (tgt := 159) K.1.1 K.1.2.1 dX11_trades_152 (by decide) (fun c_152 => ?_) (fun c_152 => ?_)
                · refine lv_iconst (v := 0) K.1.1 K.1.2.1 dX11_trades_159 (by decide) ?_
                  refine lv_iadd K.1.1 K.1.2.1 dX11_trades_160 ?_
                  refine lv_topi (fun x_17 ex_17 => ?_)
                  refine lv_istore_n (lv' := [(3, .int x_17), (5, .int x_16), (2, .int x_15), (4, .int 0), (1, .int x_14), (10, .int x_5), (9, .int x_7), (8, .int x_5), (7, .int r_3), (6, .int r_2), (0, .ref (B + 259))]) K.1.1 K.1.2.1 dX11_trades_161 rfl hl (by decide) rfl (fun ls hl => ?_)
                  refine lv_goto (tgt := 23) K.1.1 K.1.2.1 dX11_trades_162 (by decide) ?_
                  exact ih_23 _ _ _ _ _ _ _ _ _ (by subst eg_1 er_2 er_3 er_4 ex_5 er_6 ex_7 ex_14 ex_15 ex_16 ex_17; exact MI_adds inv0_23 (inv1_23 (Int32.not_le.mp c_24)).1) (by subst eg_1 er_2 er_3 er_4 ex_5 er_6 ex_7 ex_14 ex_15 ex_16 ex_17; exact TRok_next inv1_23 (Int32.not_le.mp c_24) (if_pos (Int32.not_le.mp c_69)) (if_pos rfl) (if_neg c_133) (if_pos rfl) (if_neg c_133)) (by subst eg_1 er_2 er_3 er_4 ex_5 er_6 ex_7 ex_14 ex_15 ex_16 ex_17; rw [fin0_23]; exact TR_next (Int32.not_le.mp c_24) (if_pos (Int32.not_le.mp c_69)) (if_pos rfl) (if_neg c_133) (if_pos rfl) (if_neg c_133)) hP hS (lv_sub hl [1, 3, 0, 2, 4, 10] rfl)
                · exact absurd c_152 (c_133)
              · refine lv_iconst (v := 0) K.1.1 K.1.2.1 dX11_trades_136 (by decide) ?_
                refine lv_goto (tgt := 145) K.1.1 K.1.2.1 dX11_trades_137 (by decide) ?_
                refine lv_istore (lv' := [(5, .int 0), (2, .int x_15), (4, .int 0), (1, .int x_14), (10, .int x_5), (9, .int x_7), (8, .int x_5), (7, .int r_3), (6, .int r_2), (3, .int v3_23), (0, .ref (B + 259))]) K.1.1 K.1.2.1 dX11_trades_145 hl (by decide) rfl (fun ls hl => ?_)
                refine lv_iload_n K.1.1 K.1.2.1 dX11_trades_147 rfl (lv_at hl 9 rfl) ?_
                refine lv_iload K.1.1 K.1.2.1 dX11_trades_148 (lv_at hl 4 rfl) ?_
                refine lv_iload K.1.1 K.1.2.1 dX11_trades_150 (lv_at hl 5 rfl) ?_
                refine lv_icmp_ne (tgt := 159) K.1.1 K.1.2.1 dX11_trades_152 (by decide) (fun c_152 => ?_) (fun c_152 => ?_)
                · exact absurd c_152 (not_not_intro c_133)
                · refine lv_iconst (v := 1) K.1.1 K.1.2.1 dX11_trades_155 (by decide) ?_
                  refine lv_goto (tgt := 160) K.1.1 K.1.2.1 dX11_trades_156 (by decide) ?_
                  refine lv_iadd K.1.1 K.1.2.1 dX11_trades_160 ?_
                  refine lv_topi (fun x_18 ex_18 => ?_)
                  refine lv_istore_n (lv' := [(3, .int x_18), (5, .int 0), (2, .int x_15), (4, .int 0), (1, .int x_14), (10, .int x_5), (9, .int x_7), (8, .int x_5), (7, .int r_3), (6, .int r_2), (0, .ref (B + 259))]) K.1.1 K.1.2.1 dX11_trades_161 rfl hl (by decide) rfl (fun ls hl => ?_)
                  refine lv_goto (tgt := 23) K.1.1 K.1.2.1 dX11_trades_162 (by decide) ?_
                  exact ih_23 _ _ _ _ _ _ _ _ _ (by subst eg_1 er_2 er_3 er_4 ex_5 er_6 ex_7 ex_14 ex_15 ex_18; exact MI_adds inv0_23 (inv1_23 (Int32.not_le.mp c_24)).1) (by subst eg_1 er_2 er_3 er_4 ex_5 er_6 ex_7 ex_14 ex_15 ex_18; exact TRok_next inv1_23 (Int32.not_le.mp c_24) (if_pos (Int32.not_le.mp c_69)) (if_pos rfl) (if_pos c_133) (if_pos rfl) (if_pos c_133)) (by subst eg_1 er_2 er_3 er_4 ex_5 er_6 ex_7 ex_14 ex_15 ex_18; rw [fin0_23]; exact TR_next (Int32.not_le.mp c_24) (if_pos (Int32.not_le.mp c_69)) (if_pos rfl) (if_pos c_133) (if_pos rfl) (if_pos c_133)) hP hS (lv_sub hl [1, 3, 0, 2, 4, 10] rfl)
  exact lp_23 (NN 40) _ _ _ _ _ _ _ _ _ (by exact MI_9 hI (vpd rfl)) (by subst eg_1; exact hok) (by subst eg_1; rfl) hP hS (lv_sub hl [0, 1, 2, 3, 4, 5] rfl)

