set_option maxHeartbeats 4000000 in
set_option maxRecDepth 100000 in
theorem MX11_settles (l : Launch) (G : GG) (B : Nat) (μ : Mm) (t : Int32) (hI : MI μ) (ht : vp_in t 8) : CM l yX11_settles (.code yX11_settles cX11_settles 4 Option.none) 5 114 G B [.ref (B + 259), .int t] μ none (M_settles μ t) := by
  refine CM.of (by decide) (Nat.le_of_ble_eq_true rfl) ?_
  intro p e s m below meth c ls K hr hlocks hP hl
  have hS : va_S (AA B) s.heap s.heap [] := va_S.rf
  have hl : lv_has ls 4 [(0, .ref (B + 259)), (1, .int t)] := hl
  refine lv_iconst (v := 0) K.1.1 K.1.2.1 dX11_settles_0 (by decide) ?_
  refine lv_istore_n (lv' := [(2, .int 0), (0, .ref (B + 259)), (1, .int t)]) K.1.1 K.1.2.1 dX11_settles_1 rfl hl (by decide) rfl (fun ls hl => ?_)
  refine lv_iconst (v := 0) K.1.1 K.1.2.1 dX11_settles_2 (by decide) ?_
  refine lv_istore_n (lv' := [(3, .int 0), (2, .int 0), (0, .ref (B + 259)), (1, .int t)]) K.1.1 K.1.2.1 dX11_settles_3 rfl hl (by decide) rfl (fun ls hl => ?_)
  refine up_to (N := cn (μ 260 1)) (P := fun k : Nat => ∀ (v3_4 : Int32) (v2_4 : Int32) (H : Heap) (locs : List Loc) (ls : Array Slot), (v3_4 = nI k) → (v2_4 = sumI (fun k => if M_o μ (nI k) 1 = t then M_fillOf μ (nI k) else 0) k) → MP G B μ H → va_S (AA B) s.heap H locs → lv_has ls 4 [(3, .int v3_4), (2, .int v2_4), (0, .ref (B + 259)), (1, .int t)] → W p l e ({ frames := 5, cells := 0, slots := 0, locals := 114 } : Room) s m ([.ref (B + 259), .int t] : List Value).toArray below meth c H locs 0 0 (MF below G B none (M_settles μ t) ([.ref (B + 259), .int t] : List Value).toArray s) (F0 m 4 ls [])) ?_ ?_ _ _ _ _ _ (by first | rfl | (skip; rfl)) (by first | rfl | (skip; rfl)) hP hS (lv_sub hl [0, 1, 2, 3] rfl)
  · intro v3_4 v2_4 H locs ls ev3_4 ev2_4 hP hS hl
    refine lv_iload_n K.1.1 K.1.2.1 dX11_settles_4 rfl (lv_at hl 0 rfl) ?_
    refine lv_aload_n K.1.1 K.1.2.1 dX11_settles_5 rfl (lv_at hl 2 rfl) ?_
    refine m_getr K hP (by decide) sh_259 rfl tuX11 0 (by decide) rfl q_1150 dX11_settles_6 ?_
    refine lv_iconst (v := 1) K.1.1 K.1.2.1 dX11_settles_9 (by decide) ?_
    refine m_iald K hP (by decide) sh_260 (n := 267) (vpd rfl) dX11_settles_10 ?_
    refine lv_topi (fun g_1 eg_1 => ?_)
    have eg_1 : g_1 = (_ : Mm) 260 1 := eg_1
    refine lv_icmp_ge (tgt := 42) K.1.1 K.1.2.1 dX11_settles_11 (by decide) (fun c_11 => ?_) (fun c_11 => ?_)
    · refine lv_iload_n K.1.1 K.1.2.1 dX11_settles_42 rfl (lv_at hl 1 rfl) ?_
      refine lv_if_ne (tgt := 50) K.1.1 K.1.2.1 dX11_settles_43 (by decide) (fun c_43 => ?_) (fun c_43 => ?_)
      · refine lv_iload_n K.1.1 K.1.2.1 dX11_settles_50 rfl (lv_at hl 1 rfl) ?_
        refine lv_aload_n K.1.1 K.1.2.1 dX11_settles_51 rfl (lv_at hl 2 rfl) ?_
        refine m_geti K hP (by decide) sh_259 rfl tuX11 6 (by decide) rfl q_1156 dX11_settles_52 ?_
        refine lv_topi (fun g_2 eg_2 => ?_)
        refine lv_imul K.1.1 K.1.2.1 dX11_settles_55 ?_
        refine lv_topi (fun x_3 ex_3 => ?_)
        refine lv_istore_n (lv' := [(3, .int x_3), (2, .int v2_4), (0, .ref (B + 259)), (1, .int t)]) K.1.1 K.1.2.1 dX11_settles_56 rfl hl (by decide) rfl (fun ls hl => ?_)
        refine lv_aload_n K.1.1 K.1.2.1 dX11_settles_57 rfl (lv_at hl 2 rfl) ?_
        refine lv_iload_n K.1.1 K.1.2.1 dX11_settles_58 rfl (lv_at hl 3 rfl) ?_
        refine lv_iconst (v := 5) K.1.1 K.1.2.1 dX11_settles_59 (by decide) ?_
        refine lv_aload_n K.1.1 K.1.2.1 dX11_settles_60 rfl (lv_at hl 2 rfl) ?_
        refine lv_iload_n K.1.1 K.1.2.1 dX11_settles_61 rfl (lv_at hl 3 rfl) ?_
        refine lv_iconst (v := 5) K.1.1 K.1.2.1 dX11_settles_62 (by decide) ?_
        refine m_cV (n := 2) (As := [.int t, .int 5]) (rest := [.int 5, .int t, .ref (B + 259)]) K hP hS (MX11_ofT l G B _ t 5 (loT ht (vpd rfl))) (by decide) sh_259 rfl q_1240 q_1242 q_30 q_91 q_1243 hv_X11_ofT ⟨Nat.le_of_ble_eq_true rfl, Nat.le_of_ble_eq_true rfl⟩ rfl hl.1 rfl (Nat.le_of_ble_eq_true rfl) dX11_settles_63 ⟨Nat.zero_le _, Nat.zero_le _⟩ (fun H locs hP hS => ?_)
        refine lv_topi (fun r_4 er_4 => ?_)
        refine lv_aload_n K.1.1 K.1.2.1 dX11_settles_66 rfl (lv_at hl 2 rfl) ?_
        refine lv_iload_n K.1.1 K.1.2.1 dX11_settles_67 rfl (lv_at hl 3 rfl) ?_
        refine m_cV (n := 1) (As := [.int t]) (rest := [.int r_4, .int 5, .int t, .ref (B + 259)]) K hP hS (MX11_gainsOf l G B _ t hI) (by decide) sh_259 rfl q_1375 q_1377 q_57 q_91 q_1378 hv_X11_gainsOf ⟨Nat.le_of_ble_eq_true rfl, Nat.le_of_ble_eq_true rfl⟩ rfl hl.1 rfl (Nat.le_of_ble_eq_true rfl) dX11_settles_68 ⟨Nat.zero_le _, Nat.zero_le _⟩ (fun H locs hP hS => ?_)
        refine lv_topi (fun r_5 er_5 => ?_)
        refine lv_iadd K.1.1 K.1.2.1 dX11_settles_71 ?_
        refine m_cV (n := 3) (As := [.int t, .int 5, .int (r_4 + r_5)]) (rest := []) K hP hS (MX11_setsT l G B _ t 5 (r_4 + r_5) (loT ht (vpd rfl))) (by decide) sh_259 rfl q_1228 q_1230 q_28 q_91 q_1231 hv_X11_setsT ⟨Nat.le_of_ble_eq_true rfl, Nat.le_of_ble_eq_true rfl⟩ rfl hl.1 rfl (Nat.le_of_ble_eq_true rfl) dX11_settles_72 ⟨Nat.zero_le _, Nat.zero_le _⟩ (fun H locs hP hS => ?_)
        refine W.eq (g2 := F0 m 75 ls []) rfl ?_
        refine lv_aload_n K.1.1 K.1.2.1 dX11_settles_75 rfl (lv_at hl 2 rfl) ?_
        refine lv_iload_n K.1.1 K.1.2.1 dX11_settles_76 rfl (lv_at hl 3 rfl) ?_
        refine lv_iconst (v := 4) K.1.1 K.1.2.1 dX11_settles_77 (by decide) ?_
        refine lv_aload_n K.1.1 K.1.2.1 dX11_settles_78 rfl (lv_at hl 2 rfl) ?_
        refine lv_iload_n K.1.1 K.1.2.1 dX11_settles_79 rfl (lv_at hl 3 rfl) ?_
        refine lv_iconst (v := 4) K.1.1 K.1.2.1 dX11_settles_80 (by decide) ?_
        refine m_cV (n := 2) (As := [.int t, .int 4]) (rest := [.int 4, .int t, .ref (B + 259)]) K hP hS (MX11_ofT l G B _ t 4 (loT ht (vpd rfl))) (by decide) sh_259 rfl q_1240 q_1242 q_30 q_91 q_1243 hv_X11_ofT ⟨Nat.le_of_ble_eq_true rfl, Nat.le_of_ble_eq_true rfl⟩ rfl hl.1 rfl (Nat.le_of_ble_eq_true rfl) dX11_settles_81 ⟨Nat.zero_le _, Nat.zero_le _⟩ (fun H locs hP hS => ?_)
        refine lv_topi (fun r_6 er_6 => ?_)
        refine lv_iload_n K.1.1 K.1.2.1 dX11_settles_84 rfl (lv_at hl 1 rfl) ?_
        refine lv_iadd K.1.1 K.1.2.1 dX11_settles_85 ?_
        refine m_cV (n := 3) (As := [.int t, .int 4, .int (r_6 + v2_4)]) (rest := []) K hP hS (MX11_setsT l G B _ t 4 (r_6 + v2_4) (loT ht (vpd rfl))) (by decide) sh_259 rfl q_1228 q_1230 q_28 q_91 q_1231 hv_X11_setsT ⟨Nat.le_of_ble_eq_true rfl, Nat.le_of_ble_eq_true rfl⟩ rfl hl.1 rfl (Nat.le_of_ble_eq_true rfl) dX11_settles_86 ⟨Nat.zero_le _, Nat.zero_le _⟩ (fun H locs hP hS => ?_)
        refine W.eq (g2 := F0 m 89 ls []) rfl ?_
        refine lv_aload_n K.1.1 K.1.2.1 dX11_settles_89 rfl (lv_at hl 2 rfl) ?_
        refine lv_iload_n K.1.1 K.1.2.1 dX11_settles_90 rfl (lv_at hl 3 rfl) ?_
        refine lv_bipush (v := 6) K.1.1 K.1.2.1 dX11_settles_91 (by decide) ?_
        refine lv_aload_n K.1.1 K.1.2.1 dX11_settles_93 rfl (lv_at hl 2 rfl) ?_
        refine lv_iload_n K.1.1 K.1.2.1 dX11_settles_94 rfl (lv_at hl 3 rfl) ?_
        refine lv_bipush (v := 6) K.1.1 K.1.2.1 dX11_settles_95 (by decide) ?_
        refine m_cV (n := 2) (As := [.int t, .int 6]) (rest := [.int 6, .int t, .ref (B + 259)]) K hP hS (MX11_ofT l G B _ t 6 (loT ht (vpd rfl))) (by decide) sh_259 rfl q_1240 q_1242 q_30 q_91 q_1243 hv_X11_ofT ⟨Nat.le_of_ble_eq_true rfl, Nat.le_of_ble_eq_true rfl⟩ rfl hl.1 rfl (Nat.le_of_ble_eq_true rfl) dX11_settles_97 ⟨Nat.zero_le _, Nat.zero_le _⟩ (fun H locs hP hS => ?_)
        refine lv_topi (fun r_7 er_7 => ?_)
        refine lv_aload_n K.1.1 K.1.2.1 dX11_settles_100 rfl (lv_at hl 2 rfl) ?_
        refine lv_iload_n K.1.1 K.1.2.1 dX11_settles_101 rfl (lv_at hl 3 rfl) ?_
        refine lv_iconst (v := 0) K.1.1 K.1.2.1 dX11_settles_102 (by decide) ?_
        refine m_cV (n := 2) (As := [.int t, .int 0]) (rest := [.int r_7, .int 6, .int t, .ref (B + 259)]) K hP hS (MX11_ofT l G B _ t 0 (loT ht (vpd rfl))) (by decide) sh_259 rfl q_1240 q_1242 q_30 q_91 q_1243 hv_X11_ofT ⟨Nat.le_of_ble_eq_true rfl, Nat.le_of_ble_eq_true rfl⟩ rfl hl.1 rfl (Nat.le_of_ble_eq_true rfl) dX11_settles_103 ⟨Nat.zero_le _, Nat.zero_le _⟩ (fun H locs hP hS => ?_)
        refine lv_topi (fun r_8 er_8 => ?_)
        refine lv_if_ne (tgt := 114) K.1.1 K.1.2.1 dX11_settles_106 (by decide) (fun c_106 => ?_) (fun c_106 => ?_)
        · refine lv_iload_n K.1.1 K.1.2.1 dX11_settles_114 rfl (lv_at hl 0 rfl) ?_
          refine lv_iadd K.1.1 K.1.2.1 dX11_settles_115 ?_
          refine m_cV (n := 3) (As := [.int t, .int 6, .int (r_7 + x_3)]) (rest := []) K hP hS (MX11_setsT l G B _ t 6 (r_7 + x_3) (loT ht (vpd rfl))) (by decide) sh_259 rfl q_1228 q_1230 q_28 q_91 q_1231 hv_X11_setsT ⟨Nat.le_of_ble_eq_true rfl, Nat.le_of_ble_eq_true rfl⟩ rfl hl.1 rfl (Nat.le_of_ble_eq_true rfl) dX11_settles_116 ⟨Nat.zero_le _, Nat.zero_le _⟩ (fun H locs hP hS => ?_)
          refine W.eq (g2 := F0 m 119 ls []) rfl ?_
          exact m_vret K hr hlocks hP hS dX11_settles_119 rfl (by subst ev3_4 ev2_4 eg_1 eg_2 ex_3 er_4 er_5 er_6 er_7 er_8; exact settles_e (show M_paid μ t = _ from if_neg c_43) (if_neg c_106))
        · refine lv_iload_n K.1.1 K.1.2.1 dX11_settles_109 rfl (lv_at hl 0 rfl) ?_
          refine lv_ineg K.1.1 K.1.2.1 dX11_settles_110 ?_
          refine lv_goto (tgt := 115) K.1.1 K.1.2.1 dX11_settles_111 (by decide) ?_
          refine lv_iadd K.1.1 K.1.2.1 dX11_settles_115 ?_
          refine m_cV (n := 3) (As := [.int t, .int 6, .int (r_7 + (-x_3))]) (rest := []) K hP hS (MX11_setsT l G B _ t 6 (r_7 + (-x_3)) (loT ht (vpd rfl))) (by decide) sh_259 rfl q_1228 q_1230 q_28 q_91 q_1231 hv_X11_setsT ⟨Nat.le_of_ble_eq_true rfl, Nat.le_of_ble_eq_true rfl⟩ rfl hl.1 rfl (Nat.le_of_ble_eq_true rfl) dX11_settles_116 ⟨Nat.zero_le _, Nat.zero_le _⟩ (fun H locs hP hS => ?_)
          refine W.eq (g2 := F0 m 119 ls []) rfl ?_
          exact m_vret K hr hlocks hP hS dX11_settles_119 rfl (by subst ev3_4 ev2_4 eg_1 eg_2 ex_3 er_4 er_5 er_6 er_7 er_8; exact settles_e (show M_paid μ t = _ from if_neg c_43) (if_pos c_106))
      · refine lv_iconst (v := 0) K.1.1 K.1.2.1 dX11_settles_46 (by decide) ?_
        refine lv_goto (tgt := 56) K.1.1 K.1.2.1 dX11_settles_47 (by decide) ?_
        refine lv_istore_n (lv' := [(3, .int 0), (2, .int v2_4), (0, .ref (B + 259)), (1, .int t)]) K.1.1 K.1.2.1 dX11_settles_56 rfl hl (by decide) rfl (fun ls hl => ?_)
        refine lv_aload_n K.1.1 K.1.2.1 dX11_settles_57 rfl (lv_at hl 2 rfl) ?_
        refine lv_iload_n K.1.1 K.1.2.1 dX11_settles_58 rfl (lv_at hl 3 rfl) ?_
        refine lv_iconst (v := 5) K.1.1 K.1.2.1 dX11_settles_59 (by decide) ?_
        refine lv_aload_n K.1.1 K.1.2.1 dX11_settles_60 rfl (lv_at hl 2 rfl) ?_
        refine lv_iload_n K.1.1 K.1.2.1 dX11_settles_61 rfl (lv_at hl 3 rfl) ?_
        refine lv_iconst (v := 5) K.1.1 K.1.2.1 dX11_settles_62 (by decide) ?_
        refine m_cV (n := 2) (As := [.int t, .int 5]) (rest := [.int 5, .int t, .ref (B + 259)]) K hP hS (MX11_ofT l G B _ t 5 (loT ht (vpd rfl))) (by decide) sh_259 rfl q_1240 q_1242 q_30 q_91 q_1243 hv_X11_ofT ⟨Nat.le_of_ble_eq_true rfl, Nat.le_of_ble_eq_true rfl⟩ rfl hl.1 rfl (Nat.le_of_ble_eq_true rfl) dX11_settles_63 ⟨Nat.zero_le _, Nat.zero_le _⟩ (fun H locs hP hS => ?_)
        refine lv_topi (fun r_9 er_9 => ?_)
        refine lv_aload_n K.1.1 K.1.2.1 dX11_settles_66 rfl (lv_at hl 2 rfl) ?_
        refine lv_iload_n K.1.1 K.1.2.1 dX11_settles_67 rfl (lv_at hl 3 rfl) ?_
        refine m_cV (n := 1) (As := [.int t]) (rest := [.int r_9, .int 5, .int t, .ref (B + 259)]) K hP hS (MX11_gainsOf l G B _ t hI) (by decide) sh_259 rfl q_1375 q_1377 q_57 q_91 q_1378 hv_X11_gainsOf ⟨Nat.le_of_ble_eq_true rfl, Nat.le_of_ble_eq_true rfl⟩ rfl hl.1 rfl (Nat.le_of_ble_eq_true rfl) dX11_settles_68 ⟨Nat.zero_le _, Nat.zero_le _⟩ (fun H locs hP hS => ?_)
        refine lv_topi (fun r_10 er_10 => ?_)
        refine lv_iadd K.1.1 K.1.2.1 dX11_settles_71 ?_
        refine m_cV (n := 3) (As := [.int t, .int 5, .int (r_9 + r_10)]) (rest := []) K hP hS (MX11_setsT l G B _ t 5 (r_9 + r_10) (loT ht (vpd rfl))) (by decide) sh_259 rfl q_1228 q_1230 q_28 q_91 q_1231 hv_X11_setsT ⟨Nat.le_of_ble_eq_true rfl, Nat.le_of_ble_eq_true rfl⟩ rfl hl.1 rfl (Nat.le_of_ble_eq_true rfl) dX11_settles_72 ⟨Nat.zero_le _, Nat.zero_le _⟩ (fun H locs hP hS => ?_)
        refine W.eq (g2 := F0 m 75 ls []) rfl ?_
        refine lv_aload_n K.1.1 K.1.2.1 dX11_settles_75 rfl (lv_at hl 2 rfl) ?_
        refine lv_iload_n K.1.1 K.1.2.1 dX11_settles_76 rfl (lv_at hl 3 rfl) ?_
        refine lv_iconst (v := 4) K.1.1 K.1.2.1 dX11_settles_77 (by decide) ?_
        refine lv_aload_n K.1.1 K.1.2.1 dX11_settles_78 rfl (lv_at hl 2 rfl) ?_
        refine lv_iload_n K.1.1 K.1.2.1 dX11_settles_79 rfl (lv_at hl 3 rfl) ?_
        refine lv_iconst (v := 4) K.1.1 K.1.2.1 dX11_settles_80 (by decide) ?_
        refine m_cV (n := 2) (As := [.int t, .int 4]) (rest := [.int 4, .int t, .ref (B + 259)]) K hP hS (MX11_ofT l G B _ t 4 (loT ht (vpd rfl))) (by decide) sh_259 rfl q_1240 q_1242 q_30 q_91 q_1243 hv_X11_ofT ⟨Nat.le_of_ble_eq_true rfl, Nat.le_of_ble_eq_true rfl⟩ rfl hl.1 rfl (Nat.le_of_ble_eq_true rfl) dX11_settles_81 ⟨Nat.zero_le _, Nat.zero_le _⟩ (fun H locs hP hS => ?_)
        refine lv_topi (fun r_11 er_11 => ?_)
        refine lv_iload_n K.1.1 K.1.2.1 dX11_settles_84 rfl (lv_at hl 1 rfl) ?_
        refine lv_iadd K.1.1 K.1.2.1 dX11_settles_85 ?_
        refine m_cV (n := 3) (As := [.int t, .int 4, .int (r_11 + v2_4)]) (rest := []) K hP hS (MX11_setsT l G B _ t 4 (r_11 + v2_4) (loT ht (vpd rfl))) (by decide) sh_259 rfl q_1228 q_1230 q_28 q_91 q_1231 hv_X11_setsT ⟨Nat.le_of_ble_eq_true rfl, Nat.le_of_ble_eq_true rfl⟩ rfl hl.1 rfl (Nat.le_of_ble_eq_true rfl) dX11_settles_86 ⟨Nat.zero_le _, Nat.zero_le _⟩ (fun H locs hP hS => ?_)
        refine W.eq (g2 := F0 m 89 ls []) rfl ?_
        refine lv_aload_n K.1.1 K.1.2.1 dX11_settles_89 rfl (lv_at hl 2 rfl) ?_
        refine lv_iload_n K.1.1 K.1.2.1 dX11_settles_90 rfl (lv_at hl 3 rfl) ?_
        refine lv_bipush (v := 6) K.1.1 K.1.2.1 dX11_settles_91 (by decide) ?_
        refine lv_aload_n K.1.1 K.1.2.1 dX11_settles_93 rfl (lv_at hl 2 rfl) ?_
        refine lv_iload_n K.1.1 K.1.2.1 dX11_settles_94 rfl (lv_at hl 3 rfl) ?_
        refine lv_bipush (v := 6) K.1.1 K.1.2.1 dX11_settles_95 (by decide) ?_
        refine m_cV (n := 2) (As := [.int t, .int 6]) (rest := [.int 6, .int t, .ref (B + 259)]) K hP hS (MX11_ofT l G B _ t 6 (loT ht (vpd rfl))) (by decide) sh_259 rfl q_1240 q_1242 q_30 q_91 q_1243 hv_X11_ofT ⟨Nat.le_of_ble_eq_true rfl, Nat.le_of_ble_eq_true rfl⟩ rfl hl.1 rfl (Nat.le_of_ble_eq_true rfl) dX11_settles_97 ⟨Nat.zero_le _, Nat.zero_le _⟩ (fun H locs hP hS => ?_)
        refine lv_topi (fun r_12 er_12 => ?_)
        refine lv_aload_n K.1.1 K.1.2.1 dX11_settles_100 rfl (lv_at hl 2 rfl) ?_
        refine lv_iload_n K.1.1 K.1.2.1 dX11_settles_101 rfl (lv_at hl 3 rfl) ?_
        refine lv_iconst (v := 0) K.1.1 K.1.2.1 dX11_settles_102 (by decide) ?_
        refine m_cV (n := 2) (As := [.int t, .int 0]) (rest := [.int r_12, .int 6, .int t, .ref (B + 259)]) K hP hS (MX11_ofT l G B _ t 0 (loT ht (vpd rfl))) (by decide) sh_259 rfl q_1240 q_1242 q_30 q_91 q_1243 hv_X11_ofT ⟨Nat.le_of_ble_eq_true rfl, Nat.le_of_ble_eq_true rfl⟩ rfl hl.1 rfl (Nat.le_of_ble_eq_true rfl) dX11_settles_103 ⟨Nat.zero_le _, Nat.zero_le _⟩ (fun H locs hP hS => ?_)
        refine lv_topi (fun r_13 er_13 => ?_)
        refine lv_if_ne (tgt := 114) K.1.1 K.1.2.1 dX11_settles_106 (by decide) (fun c_106 => ?_) (fun c_106 => ?_)
        · refine lv_iload_n K.1.1 K.1.2.1 dX11_settles_114 rfl (lv_at hl 0 rfl) ?_
          refine lv_iadd K.1.1 K.1.2.1 dX11_settles_115 ?_
          refine m_cV (n := 3) (As := [.int t, .int 6, .int (r_12 + 0)]) (rest := []) K hP hS (MX11_setsT l G B _ t 6 (r_12 + 0) (loT ht (vpd rfl))) (by decide) sh_259 rfl q_1228 q_1230 q_28 q_91 q_1231 hv_X11_setsT ⟨Nat.le_of_ble_eq_true rfl, Nat.le_of_ble_eq_true rfl⟩ rfl hl.1 rfl (Nat.le_of_ble_eq_true rfl) dX11_settles_116 ⟨Nat.zero_le _, Nat.zero_le _⟩ (fun H locs hP hS => ?_)
          refine W.eq (g2 := F0 m 119 ls []) rfl ?_
          exact m_vret K hr hlocks hP hS dX11_settles_119 rfl (by subst ev3_4 ev2_4 eg_1 er_9 er_10 er_11 er_12 er_13; exact settles_e (show M_paid μ t = _ from if_pos c_43) (if_neg c_106))
        · refine lv_iload_n K.1.1 K.1.2.1 dX11_settles_109 rfl (lv_at hl 0 rfl) ?_
          refine lv_ineg K.1.1 K.1.2.1 dX11_settles_110 ?_
          refine lv_goto (tgt := 115) K.1.1 K.1.2.1 dX11_settles_111 (by decide) ?_
          refine lv_iadd K.1.1 K.1.2.1 dX11_settles_115 ?_
          refine m_cV (n := 3) (As := [.int t, .int 6, .int (r_12 + (-0))]) (rest := []) K hP hS (MX11_setsT l G B _ t 6 (r_12 + (-0)) (loT ht (vpd rfl))) (by decide) sh_259 rfl q_1228 q_1230 q_28 q_91 q_1231 hv_X11_setsT ⟨Nat.le_of_ble_eq_true rfl, Nat.le_of_ble_eq_true rfl⟩ rfl hl.1 rfl (Nat.le_of_ble_eq_true rfl) dX11_settles_116 ⟨Nat.zero_le _, Nat.zero_le _⟩ (fun H locs hP hS => ?_)
          refine W.eq (g2 := F0 m 119 ls []) rfl ?_
          exact m_vret K hr hlocks hP hS dX11_settles_119 rfl (by subst ev3_4 ev2_4 eg_1 er_9 er_10 er_11 er_12 er_13; exact settles_e (show M_paid μ t = _ from if_pos c_43) (if_pos c_106))
    · exact absurd c_11 (not_not_intro (by subst ev3_4 ev2_4 eg_1; exact cn_out _))
  · intro k hk ih_4 v3_4 v2_4 H locs ls ev3_4 ev2_4 hP hS hl
    refine lv_iload_n K.1.1 K.1.2.1 dX11_settles_4 rfl (lv_at hl 0 rfl) ?_
    refine lv_aload_n K.1.1 K.1.2.1 dX11_settles_5 rfl (lv_at hl 2 rfl) ?_
    refine m_getr K hP (by decide) sh_259 rfl tuX11 0 (by decide) rfl q_1150 dX11_settles_6 ?_
    refine lv_iconst (v := 1) K.1.1 K.1.2.1 dX11_settles_9 (by decide) ?_
    refine m_iald K hP (by decide) sh_260 (n := 267) (vpd rfl) dX11_settles_10 ?_
    refine lv_topi (fun g_14 eg_14 => ?_)
    have eg_14 : g_14 = (_ : Mm) 260 1 := eg_14
    refine lv_icmp_ge (tgt := 42) K.1.1 K.1.2.1 dX11_settles_11 (by decide) (fun c_11 => ?_) (fun c_11 => ?_)
    · exact absurd c_11 (by subst ev3_4 ev2_4 eg_14; exact cn_in hk)
    · refine lv_iload_n K.1.1 K.1.2.1 dX11_settles_14 rfl (lv_at hl 1 rfl) ?_
      refine lv_aload_n K.1.1 K.1.2.1 dX11_settles_15 rfl (lv_at hl 2 rfl) ?_
      refine lv_iload_n K.1.1 K.1.2.1 dX11_settles_16 rfl (lv_at hl 0 rfl) ?_
      refine lv_iconst (v := 1) K.1.1 K.1.2.1 dX11_settles_17 (by decide) ?_
      refine m_cV (n := 2) (As := [.int v3_4, .int 1]) (rest := [.int v2_4]) K hP hS (MX11_ofO l G B _ v3_4 1 (loO (by subst ev3_4 ev2_4 eg_14; first | assumption | exact MI_k hI (by assumption) | exact MI_w hI (by first | assumption | exact MI_k hI (by assumption)) | exact MI_t hI (by assumption)) (vpd rfl))) (by decide) sh_259 rfl q_1291 q_1293 q_39 q_91 q_1294 hv_X11_ofO ⟨Nat.le_of_ble_eq_true rfl, Nat.le_of_ble_eq_true rfl⟩ rfl hl.1 rfl (Nat.le_of_ble_eq_true rfl) dX11_settles_18 ⟨Nat.zero_le _, Nat.zero_le _⟩ (fun H locs hP hS => ?_)
      refine lv_topi (fun r_15 er_15 => ?_)
      refine lv_iload_n K.1.1 K.1.2.1 dX11_settles_21 rfl (lv_at hl 3 rfl) ?_
      refine lv_icmp_ne (tgt := 33) K.1.1 K.1.2.1 dX11_settles_22 (by decide) (fun c_22 => ?_) (fun c_22 => ?_)
      · refine lv_iconst (v := 0) K.1.1 K.1.2.1 dX11_settles_33 (by decide) ?_
        refine lv_iadd K.1.1 K.1.2.1 dX11_settles_34 ?_
        refine lv_topi (fun x_16 ex_16 => ?_)
        refine lv_istore_n (lv' := [(2, .int x_16), (3, .int v3_4), (0, .ref (B + 259)), (1, .int t)]) K.1.1 K.1.2.1 dX11_settles_35 rfl hl (by decide) rfl (fun ls hl => ?_)
        obtain ⟨x_17, ex_17⟩ : ∃ y : Int32, y = v3_4 + (1) := ⟨_, rfl⟩
        refine lv_iinc (v := x_17) (lv' := [(3, .int x_17), (2, .int x_16), (0, .ref (B + 259)), (1, .int t)]) K.1.1 K.1.2.1 dX11_settles_36 hl (k := 1) rfl (by rw [ex_17]; rfl) (by decide) rfl (fun ls hl => ?_)
        refine lv_goto (tgt := 4) K.1.1 K.1.2.1 dX11_settles_39 (by decide) ?_
        exact ih_4 _ _ _ _ _ (by subst ev3_4 ev2_4 eg_14 er_15 ex_16 ex_17; exact nI_1 _) (by subst ev3_4 ev2_4 eg_14 er_15 ex_16 ex_17; simp only [sumI, if_neg c_11, if_pos (Int32.not_le.mp c_11), if_neg c_22]; try simp only [Int32.add_zero]) hP hS (lv_sub hl [0, 1, 2, 3] rfl)
      · refine lv_aload_n K.1.1 K.1.2.1 dX11_settles_25 rfl (lv_at hl 2 rfl) ?_
        refine lv_iload_n K.1.1 K.1.2.1 dX11_settles_26 rfl (lv_at hl 0 rfl) ?_
        refine m_cV (n := 1) (As := [.int v3_4]) (rest := [.int v2_4]) K hP hS (MX11_fillOf l G B _ v3_4 hI (by subst ev3_4 ev2_4 eg_14 er_15; first | assumption | exact MI_k hI (by assumption) | exact MI_w hI (by first | assumption | exact MI_k hI (by assumption)) | exact MI_t hI (by assumption))) (by decide) sh_259 rfl q_1363 q_1365 q_54 q_91 q_1366 hv_X11_fillOf ⟨Nat.le_of_ble_eq_true rfl, Nat.le_of_ble_eq_true rfl⟩ rfl hl.1 rfl (Nat.le_of_ble_eq_true rfl) dX11_settles_27 ⟨Nat.zero_le _, Nat.zero_le _⟩ (fun H locs hP hS => ?_)
        refine lv_topi (fun r_18 er_18 => ?_)
        refine lv_goto (tgt := 34) K.1.1 K.1.2.1 dX11_settles_30 (by decide) ?_
        refine lv_iadd K.1.1 K.1.2.1 dX11_settles_34 ?_
        refine lv_topi (fun x_19 ex_19 => ?_)
        refine lv_istore_n (lv' := [(2, .int x_19), (3, .int v3_4), (0, .ref (B + 259)), (1, .int t)]) K.1.1 K.1.2.1 dX11_settles_35 rfl hl (by decide) rfl (fun ls hl => ?_)
        obtain ⟨x_20, ex_20⟩ : ∃ y : Int32, y = v3_4 + (1) := ⟨_, rfl⟩
        refine lv_iinc (v := x_20) (lv' := [(3, .int x_20), (2, .int x_19), (0, .ref (B + 259)), (1, .int t)]) K.1.1 K.1.2.1 dX11_settles_36 hl (k := 1) rfl (by rw [ex_20]; rfl) (by decide) rfl (fun ls hl => ?_)
        refine lv_goto (tgt := 4) K.1.1 K.1.2.1 dX11_settles_39 (by decide) ?_
        exact ih_4 _ _ _ _ _ (by subst ev3_4 ev2_4 eg_14 er_15 er_18 ex_19 ex_20; exact nI_1 _) (by subst ev3_4 ev2_4 eg_14 er_15 er_18 ex_19 ex_20; simp only [sumI, if_neg c_11, if_pos (Int32.not_le.mp c_11), if_pos c_22]; try simp only [Int32.add_zero]) hP hS (lv_sub hl [0, 1, 2, 3] rfl)

set_option maxHeartbeats 4000000 in
set_option maxRecDepth 100000 in
theorem MX11_empties (l : Launch) (G : GG) (B : Nat) (μ : Mm) (hI : MI μ) : CM l yX11_empties (.code yX11_empties cX11_empties 2 Option.none) 4 91 G B [.ref (B + 259)] μ none (M_empties μ) := by
  refine CM.of (by decide) (Nat.le_of_ble_eq_true rfl) ?_
  intro p e s m below meth c ls K hr hlocks hP hl
  have hS : va_S (AA B) s.heap s.heap [] := va_S.rf
  have hl : lv_has ls 2 [(0, .ref (B + 259))] := hl
  refine lv_iconst (v := 0) K.1.1 K.1.2.1 dX11_empties_0 (by decide) ?_
  refine lv_istore_n (lv' := [(1, .int 0), (0, .ref (B + 259))]) K.1.1 K.1.2.1 dX11_empties_1 rfl hl (by decide) rfl (fun ls hl => ?_)
  refine up_to (N := cn (μ 260 1)) (P := fun k : Nat => ∀ (v1_2 : Int32) (μ_2 : Mm) (H : Heap) (locs : List Loc) (ls : Array Slot), (v1_2 = nI k) → (μ_2 = M_fillK μ k) → MP G B μ_2 H → va_S (AA B) s.heap H locs → lv_has ls 2 [(1, .int v1_2), (0, .ref (B + 259))] → W p l e ({ frames := 4, cells := 0, slots := 0, locals := 91 } : Room) s m ([.ref (B + 259)] : List Value).toArray below meth c H locs 0 0 (MF below G B none (M_empties μ) ([.ref (B + 259)] : List Value).toArray s) (F0 m 2 ls [])) ?_ ?_ _ _ _ _ _ (by first | rfl | (skip; rfl)) (by exact fillK_0 μ) hP hS (lv_sub hl [0, 1] rfl)
  · intro v1_2 μ_2 H locs ls ev1_2 eμ_2 hP hS hl
    refine lv_iload_n K.1.1 K.1.2.1 dX11_empties_2 rfl (lv_at hl 0 rfl) ?_
    refine lv_aload_n K.1.1 K.1.2.1 dX11_empties_3 rfl (lv_at hl 1 rfl) ?_
    refine m_getr K hP (by decide) sh_259 rfl tuX11 0 (by decide) rfl q_1150 dX11_empties_4 ?_
    refine lv_iconst (v := 1) K.1.1 K.1.2.1 dX11_empties_7 (by decide) ?_
    refine m_iald K hP (by decide) sh_260 (n := 267) (vpd rfl) dX11_empties_8 ?_
    refine lv_topi (fun g_1 eg_1 => ?_)
    have eg_1 : g_1 = (_ : Mm) 260 1 := eg_1
    refine lv_icmp_ge (tgt := 29) K.1.1 K.1.2.1 dX11_empties_9 (by decide) (fun c_9 => ?_) (fun c_9 => ?_)
    · refine lv_aload_n K.1.1 K.1.2.1 dX11_empties_29 rfl (lv_at hl 1 rfl) ?_
      refine m_getr K hP (by decide) sh_259 rfl tuX11 0 (by decide) rfl q_1150 dX11_empties_30 ?_
      refine lv_iconst (v := 1) K.1.1 K.1.2.1 dX11_empties_33 (by decide) ?_
      refine m_iald K hP (by decide) sh_260 (n := 267) (vpd rfl) dX11_empties_34 ?_
      refine lv_topi (fun g_2 eg_2 => ?_)
      have eg_2 : g_2 = (_ : Mm) 260 1 := eg_2
      refine lv_iconst (v := 1) K.1.1 K.1.2.1 dX11_empties_35 (by decide) ?_
      refine lv_isub K.1.1 K.1.2.1 dX11_empties_36 ?_
      refine lv_topi (fun x_3 ex_3 => ?_)
      refine lv_istore_n (lv' := [(1, .int x_3), (0, .ref (B + 259))]) K.1.1 K.1.2.1 dX11_empties_37 rfl hl (by decide) rfl (fun ls hl => ?_)
      have lp_38 : ∀ n : Nat, ∀ (v1_38 : Int32) (μ_38 : Mm) (H : Heap) (locs : List Loc) (ls : Array Slot), (MI μ_38) → (n ≤ cn (μ_38 260 1)) → (v1_38 = nI n - 1) → (M_empties μ = EM n μ_38) → MP G B μ_38 H → va_S (AA B) s.heap H locs → lv_has ls 2 [(1, .int v1_38), (0, .ref (B + 259))] → W p l e ({ frames := 4, cells := 0, slots := 0, locals := 91 } : Room) s m ([.ref (B + 259)] : List Value).toArray below meth c H locs 0 0 (MF below G B none (M_empties μ) ([.ref (B + 259)] : List Value).toArray s) (F0 m 38 ls []) := by
        intro n
        induction n with
        | zero =>
          intro v1_38 μ_38 H locs ls inv0_38 inv1_38 inv2_38 fin0_38 hP hS hl
          refine lv_iload_n K.1.1 K.1.2.1 dX11_empties_38 rfl (lv_at hl 0 rfl) ?_
          refine lv_if_lt (tgt := 81) K.1.1 K.1.2.1 dX11_empties_39 (by decide) (fun c_39 => ?_) (fun c_39 => ?_)
          · exact m_vret K hr hlocks hP hS dX11_empties_81 rfl (by subst ev1_2 eμ_2 eg_1 eg_2 ex_3 inv2_38; exact fin0_38)
          · exact absurd c_39 (not_not_intro (by subst ev1_2 eμ_2 eg_1 eg_2 ex_3 inv2_38; exact nI_lo))
        | succ n ih_38 =>
          intro v1_38 μ_38 H locs ls inv0_38 inv1_38 inv2_38 fin0_38 hP hS hl
          rw [nI_pred] at inv2_38
          have hb := vp_cn inv0_38.2.1
          have hcn : cn (nI n) = n := cn_nI (by omega)
          have hvn : vp_in v1_38 20 := (by rw [inv2_38]; exact vp_in_nI (by omega) (by decide))
          have hE : M_setO μ_38 (nI n) 3 (M_o μ_38 (nI n) 3 - μ_38 264 (cn (nI n))) = EM_set n μ_38 := (by rw [hcn]; rfl)
          refine lv_iload_n K.1.1 K.1.2.1 dX11_empties_38 rfl (lv_at hl 0 rfl) ?_
          refine lv_if_lt (tgt := 81) K.1.1 K.1.2.1 dX11_empties_39 (by decide) (fun c_39 => ?_) (fun c_39 => ?_)
          · exact absurd c_39 (by subst ev1_2 eμ_2 eg_1 eg_2 ex_3 inv2_38; exact nI_pos (by omega))
          · refine lv_aload_n K.1.1 K.1.2.1 dX11_empties_42 rfl (lv_at hl 1 rfl) ?_
            refine lv_iload_n K.1.1 K.1.2.1 dX11_empties_43 rfl (lv_at hl 0 rfl) ?_
            refine lv_iconst (v := 3) K.1.1 K.1.2.1 dX11_empties_44 (by decide) ?_
            refine lv_aload_n K.1.1 K.1.2.1 dX11_empties_45 rfl (lv_at hl 1 rfl) ?_
            refine lv_iload_n K.1.1 K.1.2.1 dX11_empties_46 rfl (lv_at hl 0 rfl) ?_
            refine lv_iconst (v := 3) K.1.1 K.1.2.1 dX11_empties_47 (by decide) ?_
            refine m_cV (n := 2) (As := [.int v1_38, .int 3]) (rest := [.int 3, .int v1_38, .ref (B + 259)]) K hP hS (MX11_ofO l G B _ v1_38 3 (loO hvn (vpd rfl))) (by decide) sh_259 rfl q_1291 q_1293 q_39 q_91 q_1294 hv_X11_ofO ⟨Nat.le_of_ble_eq_true rfl, Nat.le_of_ble_eq_true rfl⟩ rfl hl.1 rfl (Nat.le_of_ble_eq_true rfl) dX11_empties_48 ⟨Nat.zero_le _, Nat.zero_le _⟩ (fun H locs hP hS => ?_)
            refine lv_topi (fun r_4 er_4 => ?_)
            refine lv_aload_n K.1.1 K.1.2.1 dX11_empties_51 rfl (lv_at hl 1 rfl) ?_
            refine m_getr K hP (by decide) sh_259 rfl tuX11 13 (by decide) rfl q_1163 dX11_empties_52 ?_
            refine lv_iload_n K.1.1 K.1.2.1 dX11_empties_55 rfl (lv_at hl 0 rfl) ?_
            refine m_iald K hP (by decide) sh_264 (n := 20) (by subst ev1_2 eμ_2 eg_1 eg_2 ex_3 inv2_38 er_4; exact vp_in_nI (by omega) (by decide)) dX11_empties_56 ?_
            refine lv_topi (fun g_5 eg_5 => ?_)
            have eg_5 : g_5 = (_ : Mm) 264 (cn v1_38) := eg_5
            refine lv_isub K.1.1 K.1.2.1 dX11_empties_57 ?_
            refine m_cV (n := 3) (As := [.int v1_38, .int 3, .int (r_4 - g_5)]) (rest := []) K hP hS (MX11_setsO l G B _ v1_38 3 (r_4 - g_5) (loO hvn (vpd rfl))) (by decide) sh_259 rfl q_1287 q_1289 q_38 q_91 q_1290 hv_X11_setsO ⟨Nat.le_of_ble_eq_true rfl, Nat.le_of_ble_eq_true rfl⟩ rfl hl.1 rfl (Nat.le_of_ble_eq_true rfl) dX11_empties_58 ⟨Nat.zero_le _, Nat.zero_le _⟩ (fun H locs hP hS => ?_)
            refine W.eq (g2 := F0 m 61 ls []) rfl ?_
            refine lv_aload_n K.1.1 K.1.2.1 dX11_empties_61 rfl (lv_at hl 1 rfl) ?_
            refine lv_iload_n K.1.1 K.1.2.1 dX11_empties_62 rfl (lv_at hl 0 rfl) ?_
            refine lv_iconst (v := 3) K.1.1 K.1.2.1 dX11_empties_63 (by decide) ?_
            refine m_cV (n := 2) (As := [.int v1_38, .int 3]) (rest := []) K hP hS (MX11_ofO l G B _ v1_38 3 (loO hvn (vpd rfl))) (by decide) sh_259 rfl q_1291 q_1293 q_39 q_91 q_1294 hv_X11_ofO ⟨Nat.le_of_ble_eq_true rfl, Nat.le_of_ble_eq_true rfl⟩ rfl hl.1 rfl (Nat.le_of_ble_eq_true rfl) dX11_empties_64 ⟨Nat.zero_le _, Nat.zero_le _⟩ (fun H locs hP hS => ?_)
            refine lv_topi (fun r_6 er_6 => ?_)
            refine lv_if_ne (tgt := 75) K.1.1 K.1.2.1 dX11_empties_67 (by decide) (fun c_67 => ?_) (fun c_67 => ?_)
            · obtain ⟨x_7, ex_7⟩ : ∃ y : Int32, y = v1_38 + (-1) := ⟨_, rfl⟩
              refine lv_iinc (v := x_7) (lv' := [(1, .int x_7), (0, .ref (B + 259))]) K.1.1 K.1.2.1 dX11_empties_75 hl (k := 0) rfl (by rw [ex_7]; rfl) (by decide) rfl (fun ls hl => ?_)
              refine lv_goto (tgt := 38) K.1.1 K.1.2.1 dX11_empties_78 (by decide) ?_
              exact ih_38 _ _ _ _ _ (by subst ev1_2 eμ_2 eg_1 eg_2 ex_3 inv2_38 er_4 eg_5 er_6 ex_7; rw [hE]; exact MI_emset inv0_38 (by omega)) (by subst ev1_2 eμ_2 eg_1 eg_2 ex_3 inv2_38 er_4 eg_5 er_6 ex_7; rw [hE]; rw [emset_1 (by omega)]; omega) (by subst ev1_2 eμ_2 eg_1 eg_2 ex_3 inv2_38 er_4 eg_5 er_6 ex_7; exact nI_m1 n) (by subst ev1_2 eμ_2 eg_1 eg_2 ex_3 inv2_38 er_4 eg_5 er_6 ex_7; rw [fin0_38, hE]; exact EM_n (by rw [← hE]; exact c_67)) hP hS (lv_sub hl [0, 1] rfl)
            · refine lv_aload_n K.1.1 K.1.2.1 dX11_empties_70 rfl (lv_at hl 1 rfl) ?_
              refine lv_iload_n K.1.1 K.1.2.1 dX11_empties_71 rfl (lv_at hl 0 rfl) ?_
              refine m_cV (n := 1) (As := [.int v1_38]) (rest := []) K hP hS (MX11_removes l G B _ v1_38 (by subst ev1_2 eμ_2 eg_1 eg_2 ex_3 inv2_38 er_4 eg_5 er_6; rw [hE]; exact MI_emset inv0_38 (by omega)) (by subst ev1_2 eμ_2 eg_1 eg_2 ex_3 inv2_38 er_4 eg_5 er_6; rw [hE, hcn, emset_1 (by omega)]; omega) (by subst ev1_2 eμ_2 eg_1 eg_2 ex_3 inv2_38 er_4 eg_5 er_6; exact nI_pos (by omega))) (by decide) sh_259 rfl q_1311 q_1313 q_42 q_91 q_1314 hv_X11_removes ⟨Nat.le_of_ble_eq_true rfl, Nat.le_of_ble_eq_true rfl⟩ rfl hl.1 rfl (Nat.le_of_ble_eq_true rfl) dX11_empties_72 ⟨Nat.zero_le _, Nat.zero_le _⟩ (fun H locs hP hS => ?_)
              refine W.eq (g2 := F0 m 75 ls []) rfl ?_
              obtain ⟨x_8, ex_8⟩ : ∃ y : Int32, y = v1_38 + (-1) := ⟨_, rfl⟩
              refine lv_iinc (v := x_8) (lv' := [(1, .int x_8), (0, .ref (B + 259))]) K.1.1 K.1.2.1 dX11_empties_75 hl (k := 0) rfl (by rw [ex_8]; rfl) (by decide) rfl (fun ls hl => ?_)
              refine lv_goto (tgt := 38) K.1.1 K.1.2.1 dX11_empties_78 (by decide) ?_
              exact ih_38 _ _ _ _ _ (by subst ev1_2 eμ_2 eg_1 eg_2 ex_3 inv2_38 er_4 eg_5 er_6 ex_8; rw [hE]; exact (MI_em inv0_38 inv1_38).1) (by subst ev1_2 eμ_2 eg_1 eg_2 ex_3 inv2_38 er_4 eg_5 er_6 ex_8; rw [hE]; exact (MI_em inv0_38 inv1_38).2) (by subst ev1_2 eμ_2 eg_1 eg_2 ex_3 inv2_38 er_4 eg_5 er_6 ex_8; exact nI_m1 n) (by subst ev1_2 eμ_2 eg_1 eg_2 ex_3 inv2_38 er_4 eg_5 er_6 ex_8; rw [fin0_38, hE]; exact EM_p (by rw [← hE]; exact c_67)) hP hS (lv_sub hl [0, 1] rfl)
      exact lp_38 (cn (μ 260 1)) _ _ _ _ _ (by subst ev1_2 eμ_2 eg_1 eg_2 ex_3; exact MI_of hI (fillK_260 _ _)) (by subst ev1_2 eμ_2 eg_1 eg_2 ex_3; rw [fillK_260]; exact Nat.le_refl _) (by subst ev1_2 eμ_2 eg_1 eg_2 ex_3; rw [fillK_260]; exact cnt_dn (fun e => hI.2.1 (Or.inl e))) (by subst ev1_2 eμ_2 eg_1 eg_2 ex_3; rfl) hP hS (lv_sub hl [0, 1] rfl)
    · exact absurd c_9 (not_not_intro (by subst ev1_2 eμ_2 eg_1; rw [fillK_260]; exact cn_out _))
  · intro k hk ih_2 v1_2 μ_2 H locs ls ev1_2 eμ_2 hP hS hl
    refine lv_iload_n K.1.1 K.1.2.1 dX11_empties_2 rfl (lv_at hl 0 rfl) ?_
    refine lv_aload_n K.1.1 K.1.2.1 dX11_empties_3 rfl (lv_at hl 1 rfl) ?_
    refine m_getr K hP (by decide) sh_259 rfl tuX11 0 (by decide) rfl q_1150 dX11_empties_4 ?_
    refine lv_iconst (v := 1) K.1.1 K.1.2.1 dX11_empties_7 (by decide) ?_
    refine m_iald K hP (by decide) sh_260 (n := 267) (vpd rfl) dX11_empties_8 ?_
    refine lv_topi (fun g_9 eg_9 => ?_)
    have eg_9 : g_9 = (_ : Mm) 260 1 := eg_9
    refine lv_icmp_ge (tgt := 29) K.1.1 K.1.2.1 dX11_empties_9 (by decide) (fun c_9 => ?_) (fun c_9 => ?_)
    · exact absurd c_9 (by subst ev1_2 eμ_2 eg_9; rw [fillK_260]; exact cn_in hk)
    · refine lv_aload_n K.1.1 K.1.2.1 dX11_empties_12 rfl (lv_at hl 1 rfl) ?_
      refine m_getr K hP (by decide) sh_259 rfl tuX11 13 (by decide) rfl q_1163 dX11_empties_13 ?_
      refine lv_iload_n K.1.1 K.1.2.1 dX11_empties_16 rfl (lv_at hl 0 rfl) ?_
      refine lv_aload_n K.1.1 K.1.2.1 dX11_empties_17 rfl (lv_at hl 1 rfl) ?_
      refine lv_iload_n K.1.1 K.1.2.1 dX11_empties_18 rfl (lv_at hl 0 rfl) ?_
      refine m_cV (n := 1) (As := [.int v1_2]) (rest := [.int v1_2, .ref (B + 264)]) K hP hS (MX11_fillOf l G B _ v1_2 (by subst ev1_2 eμ_2 eg_9; exact MI_of hI (fillK_260 _ _)) (by subst ev1_2 eμ_2 eg_9; exact MI_k hI hk)) (by decide) sh_259 rfl q_1363 q_1365 q_54 q_91 q_1366 hv_X11_fillOf ⟨Nat.le_of_ble_eq_true rfl, Nat.le_of_ble_eq_true rfl⟩ rfl hl.1 rfl (Nat.le_of_ble_eq_true rfl) dX11_empties_19 ⟨Nat.zero_le _, Nat.zero_le _⟩ (fun H locs hP hS => ?_)
      refine lv_topi (fun r_10 er_10 => ?_)
      refine m_iast K hP hS (by decide) sh_264 (n := 20) (by subst ev1_2 eμ_2 eg_9 er_10; exact MI_k hI hk) dX11_empties_22 (fun H locs hP hS => ?_)
      have hP : MP G B (up2 _ 264 (cn v1_2) _) H := hP
      obtain ⟨x_11, ex_11⟩ : ∃ y : Int32, y = v1_2 + (1) := ⟨_, rfl⟩
      refine lv_iinc (v := x_11) (lv' := [(1, .int x_11), (0, .ref (B + 259))]) K.1.1 K.1.2.1 dX11_empties_23 hl (k := 0) rfl (by rw [ex_11]; rfl) (by decide) rfl (fun ls hl => ?_)
      refine lv_goto (tgt := 2) K.1.1 K.1.2.1 dX11_empties_26 (by decide) ?_
      exact ih_2 _ _ _ _ _ (by subst ev1_2 eμ_2 eg_9 er_10 ex_11; exact nI_1 _) (by subst ev1_2 eμ_2 eg_9 er_10 ex_11; have hb := vp_cn hI.2.1; rw [cn_nI (by omega)]; exact fillK_s _ _) hP hS (lv_sub hl [0, 1] rfl)

set_option maxHeartbeats 4000000 in
set_option maxRecDepth 100000 in
theorem MX11_clearError (l : Launch) (G : GG) (B : Nat) (μ : Mm) : CM l yX11_clearError (.code yX11_clearError cX11_clearError 1 (Option.some FieldType.int)) 0 0 G B [.ref (B + 259)] μ (some (.int (M_clearError μ))) μ := by
  refine CM.of (by decide) (Nat.le_of_ble_eq_true rfl) ?_
  intro p e s m below meth c ls K hr hlocks hP hl
  have hS : va_S (AA B) s.heap s.heap [] := va_S.rf
  have hl : lv_has ls 1 [(0, .ref (B + 259))] := hl
  refine lv_aload_n K.1.1 K.1.2.1 dX11_clearError_0 rfl (lv_at hl 0 rfl) ?_
  refine m_getr K hP (by decide) sh_259 rfl tuX11 0 (by decide) rfl q_1150 dX11_clearError_1 ?_
  refine lv_iconst (v := 2) K.1.1 K.1.2.1 dX11_clearError_4 (by decide) ?_
  refine m_iald K hP (by decide) sh_260 (n := 267) (vpd rfl) dX11_clearError_5 ?_
  refine lv_topi (fun g_1 eg_1 => ?_)
  have eg_1 : g_1 = (_ : Mm) 260 2 := eg_1
  refine lv_sipush (v := 9999) K.1.1 K.1.2.1 dX11_clearError_6 (by decide) ?_
  refine lv_icmp_lt (tgt := 16) K.1.1 K.1.2.1 dX11_clearError_9 (by decide) (fun c_9 => ?_) (fun c_9 => ?_)
  · refine lv_iconst (v := 0) K.1.1 K.1.2.1 dX11_clearError_16 (by decide) ?_
    exact m_iret K hr hlocks hP hS dX11_clearError_17 (by subst eg_1; first | (simp only [M_clearError, c_9, Int32.not_le.mpr c_9, if_true, if_false, ite_true, ite_false, reduceIte, not_true, not_false_iff]; done) | simp [M_clearError, c_9, Int32.not_le.mpr c_9]) rfl
  · refine lv_iconst (v := 1) K.1.1 K.1.2.1 dX11_clearError_12 (by decide) ?_
    refine lv_goto (tgt := 17) K.1.1 K.1.2.1 dX11_clearError_13 (by decide) ?_
    exact m_iret K hr hlocks hP hS dX11_clearError_17 (by subst eg_1; first | (simp only [M_clearError, c_9, Int32.not_lt.mp c_9, if_true, if_false, ite_true, ite_false, reduceIte, not_true, not_false_iff]; done) | simp [M_clearError, c_9, Int32.not_lt.mp c_9]) rfl

