set_option maxHeartbeats 4000000 in
set_option maxRecDepth 100000 in
theorem MX11_clears (l : Launch) (G : GG) (B : Nat) (μ : Mm) (hI : MI μ) (hok : M_clok μ) : CM l yX11_clears (.code yX11_clears cX11_clears 3 (Option.some FieldType.int)) 6 144 G B [.ref (B + 259)] μ (some (.int ((M_clears μ).2))) ((M_clears μ).1) := by
  refine CM.of (by decide) (Nat.le_of_ble_eq_true rfl) ?_
  intro p e s m below meth c ls K hr hlocks hP hl
  have hS : va_S (AA B) s.heap s.heap [] := va_S.rf
  have hl : lv_has ls 3 [(0, .ref (B + 259))] := hl
  refine lv_aload_n K.1.1 K.1.2.1 dX11_clears_0 rfl (lv_at hl 0 rfl) ?_
  refine m_cV (n := 0) (As := []) (rest := []) K hP hS (MX11_finds l G B _  hI) (by decide) sh_259 rfl q_1327 q_1329 q_45 q_91 q_1330 hv_X11_finds ⟨Nat.le_of_ble_eq_true rfl, Nat.le_of_ble_eq_true rfl⟩ rfl hl.1 rfl (Nat.le_of_ble_eq_true rfl) dX11_clears_1 ⟨Nat.zero_le _, Nat.zero_le _⟩ (fun H locs hP hS => ?_)
  refine W.eq (g2 := F0 m 4 ls []) rfl ?_
  refine lv_aload_n K.1.1 K.1.2.1 dX11_clears_4 rfl (lv_at hl 0 rfl) ?_
  refine m_cV (n := 0) (As := []) (rest := []) K hP hS (MX11_trades l G B _  (MI_finds hI) hok) (by decide) sh_259 rfl q_1347 q_1349 q_50 q_91 q_1350 hv_X11_trades ⟨Nat.le_of_ble_eq_true rfl, Nat.le_of_ble_eq_true rfl⟩ rfl hl.1 rfl (Nat.le_of_ble_eq_true rfl) dX11_clears_5 ⟨Nat.zero_le _, Nat.zero_le _⟩ (fun H locs hP hS => ?_)
  refine W.eq (g2 := F0 m 8 ls []) rfl ?_
  refine lv_aload_n K.1.1 K.1.2.1 dX11_clears_8 rfl (lv_at hl 0 rfl) ?_
  refine m_getr K hP (by decide) sh_259 rfl tuX11 0 (by decide) rfl q_1150 dX11_clears_9 ?_
  refine lv_bipush (v := 7) K.1.1 K.1.2.1 dX11_clears_12 (by decide) ?_
  refine lv_dup2_11 K.1.1 K.1.2.1 dX11_clears_14 rfl rfl ?_
  refine m_iald K hP (by decide) sh_260 (n := 267) (vpd rfl) dX11_clears_15 ?_
  refine lv_topi (fun g_1 eg_1 => ?_)
  have eg_1 : g_1 = (_ : Mm) 260 7 := eg_1
  refine lv_aload_n K.1.1 K.1.2.1 dX11_clears_16 rfl (lv_at hl 0 rfl) ?_
  refine m_cV (n := 0) (As := []) (rest := [.int g_1, .int 7, .ref (B + 260)]) K hP hS (MX11_surplusNow l G B _  (MI_trades (MI_finds hI) hok)) (by decide) sh_259 rfl q_1371 q_1373 q_56 q_91 q_1374 hv_X11_surplusNow ⟨Nat.le_of_ble_eq_true rfl, Nat.le_of_ble_eq_true rfl⟩ rfl hl.1 rfl (Nat.le_of_ble_eq_true rfl) dX11_clears_17 ⟨Nat.zero_le _, Nat.zero_le _⟩ (fun H locs hP hS => ?_)
  refine lv_topi (fun r_2 er_2 => ?_)
  refine lv_iadd K.1.1 K.1.2.1 dX11_clears_20 ?_
  refine m_iast K hP hS (by decide) sh_260 (n := 267) (vpd rfl) dX11_clears_21 (fun H locs hP hS => ?_)
  have hP : MP G B (up2 _ 260 7 _) H := hP
  refine lv_aload_n K.1.1 K.1.2.1 dX11_clears_22 rfl (lv_at hl 0 rfl) ?_
  refine m_getr K hP (by decide) sh_259 rfl tuX11 0 (by decide) rfl q_1150 dX11_clears_23 ?_
  refine lv_bipush (v := 6) K.1.1 K.1.2.1 dX11_clears_26 (by decide) ?_
  refine lv_dup2_11 K.1.1 K.1.2.1 dX11_clears_28 rfl rfl ?_
  refine m_iald K hP (by decide) sh_260 (n := 267) (vpd rfl) dX11_clears_29 ?_
  refine lv_topi (fun g_3 eg_3 => ?_)
  have eg_3 : g_3 = (_ : Mm) 260 6 := eg_3
  refine lv_aload_n K.1.1 K.1.2.1 dX11_clears_30 rfl (lv_at hl 0 rfl) ?_
  refine m_geti K hP (by decide) sh_259 rfl tuX11 7 (by decide) rfl q_1157 dX11_clears_31 ?_
  refine lv_topi (fun g_4 eg_4 => ?_)
  refine lv_iadd K.1.1 K.1.2.1 dX11_clears_34 ?_
  refine m_iast K hP hS (by decide) sh_260 (n := 267) (vpd rfl) dX11_clears_35 (fun H locs hP hS => ?_)
  have hP : MP G B (up2 _ 260 6 _) H := hP
  refine lv_aload_n K.1.1 K.1.2.1 dX11_clears_36 rfl (lv_at hl 0 rfl) ?_
  refine m_getr K hP (by decide) sh_259 rfl tuX11 0 (by decide) rfl q_1150 dX11_clears_37 ?_
  refine lv_bipush (v := 8) K.1.1 K.1.2.1 dX11_clears_40 (by decide) ?_
  refine lv_aload_n K.1.1 K.1.2.1 dX11_clears_42 rfl (lv_at hl 0 rfl) ?_
  refine m_geti K hP (by decide) sh_259 rfl tuX11 6 (by decide) rfl q_1156 dX11_clears_43 ?_
  refine lv_topi (fun g_5 eg_5 => ?_)
  refine m_iast K hP hS (by decide) sh_260 (n := 267) (vpd rfl) dX11_clears_46 (fun H locs hP hS => ?_)
  have hP : MP G B (up2 _ 260 8 _) H := hP
  refine lv_iconst (v := 0) K.1.1 K.1.2.1 dX11_clears_47 (by decide) ?_
  refine lv_istore_n (lv' := [(1, .int 0), (0, .ref (B + 259))]) K.1.1 K.1.2.1 dX11_clears_48 rfl hl (by decide) rfl (fun ls hl => ?_)
  refine up_to (N := cn (M_cl1 μ 260 0)) (P := fun k : Nat => ∀ (v1_49 : Int32) (μ_49 : Mm) (H : Heap) (locs : List Loc) (ls : Array Slot), (v1_49 = nI k) → (μ_49 = M_cl2 μ k) → MP G B μ_49 H → va_S (AA B) s.heap H locs → lv_has ls 3 [(1, .int v1_49), (0, .ref (B + 259))] → W p l e ({ frames := 6, cells := 0, slots := 0, locals := 144 } : Room) s m ([.ref (B + 259)] : List Value).toArray below meth c H locs 0 0 (MF below G B (some (.int ((M_clears μ).2))) ((M_clears μ).1) ([.ref (B + 259)] : List Value).toArray s) (F0 m 49 ls [])) ?_ ?_ _ _ _ _ _ (by first | rfl | (subst eg_1 er_2 eg_3 eg_4 eg_5; rfl)) (by first | rfl | (subst eg_1 er_2 eg_3 eg_4 eg_5; rfl)) hP hS (lv_sub hl [0, 1] rfl)
  · intro v1_49 μ_49 H locs ls ev1_49 eμ_49 hP hS hl
    refine lv_iload_n K.1.1 K.1.2.1 dX11_clears_49 rfl (lv_at hl 0 rfl) ?_
    refine lv_aload_n K.1.1 K.1.2.1 dX11_clears_50 rfl (lv_at hl 1 rfl) ?_
    refine m_getr K hP (by decide) sh_259 rfl tuX11 0 (by decide) rfl q_1150 dX11_clears_51 ?_
    refine lv_iconst (v := 0) K.1.1 K.1.2.1 dX11_clears_54 (by decide) ?_
    refine m_iald K hP (by decide) sh_260 (n := 267) (vpd rfl) dX11_clears_55 ?_
    refine lv_topi (fun g_6 eg_6 => ?_)
    have eg_6 : g_6 = (_ : Mm) 260 0 := eg_6
    refine lv_icmp_ge (tgt := 75) K.1.1 K.1.2.1 dX11_clears_56 (by decide) (fun c_56 => ?_) (fun c_56 => ?_)
    · refine lv_aload_n K.1.1 K.1.2.1 dX11_clears_75 rfl (lv_at hl 1 rfl) ?_
      refine m_geti K hP (by decide) sh_259 rfl tuX11 7 (by decide) rfl q_1157 dX11_clears_76 ?_
      refine lv_topi (fun g_7 eg_7 => ?_)
      refine lv_istore_n (lv' := [(1, .int g_7), (0, .ref (B + 259))]) K.1.1 K.1.2.1 dX11_clears_79 rfl hl (by decide) rfl (fun ls hl => ?_)
      refine lv_aload_n K.1.1 K.1.2.1 dX11_clears_80 rfl (lv_at hl 1 rfl) ?_
      refine m_cV (n := 0) (As := []) (rest := []) K hP hS (MX11_empties l G B _  (by subst eg_1 er_2 eg_3 eg_4 eg_5 ev1_49 eμ_49 eg_6 eg_7; exact (MI_cl2 hI hok _ (Nat.le_refl _)).1)) (by decide) sh_259 rfl q_1395 q_1397 q_62 q_91 q_1398 hv_X11_empties ⟨Nat.le_of_ble_eq_true rfl, Nat.le_of_ble_eq_true rfl⟩ rfl hl.1 rfl (Nat.le_of_ble_eq_true rfl) dX11_clears_81 ⟨Nat.zero_le _, Nat.zero_le _⟩ (fun H locs hP hS => ?_)
      refine W.eq (g2 := F0 m 84 ls []) rfl ?_
      refine lv_aload_n K.1.1 K.1.2.1 dX11_clears_84 rfl (lv_at hl 1 rfl) ?_
      refine m_getr K hP (by decide) sh_259 rfl tuX11 0 (by decide) rfl q_1150 dX11_clears_85 ?_
      refine lv_iconst (v := 2) K.1.1 K.1.2.1 dX11_clears_88 (by decide) ?_
      refine lv_dup2_11 K.1.1 K.1.2.1 dX11_clears_89 rfl rfl ?_
      refine m_iald K hP (by decide) sh_260 (n := 267) (vpd rfl) dX11_clears_90 ?_
      refine lv_topi (fun g_8 eg_8 => ?_)
      have eg_8 : g_8 = (_ : Mm) 260 2 := eg_8
      refine lv_iconst (v := 1) K.1.1 K.1.2.1 dX11_clears_91 (by decide) ?_
      refine lv_iadd K.1.1 K.1.2.1 dX11_clears_92 ?_
      refine m_iast K hP hS (by decide) sh_260 (n := 267) (vpd rfl) dX11_clears_93 (fun H locs hP hS => ?_)
      have hP : MP G B (up2 _ 260 2 _) H := hP
      refine lv_aload_n K.1.1 K.1.2.1 dX11_clears_94 rfl (lv_at hl 1 rfl) ?_
      refine m_getr K hP (by decide) sh_259 rfl tuX11 0 (by decide) rfl q_1150 dX11_clears_95 ?_
      refine lv_iconst (v := 1) K.1.1 K.1.2.1 dX11_clears_98 (by decide) ?_
      refine m_iald K hP (by decide) sh_260 (n := 267) (vpd rfl) dX11_clears_99 ?_
      refine lv_topi (fun g_9 eg_9 => ?_)
      have eg_9 : g_9 = (_ : Mm) 260 1 := eg_9
      refine lv_iconst (v := 1) K.1.1 K.1.2.1 dX11_clears_100 (by decide) ?_
      refine lv_isub K.1.1 K.1.2.1 dX11_clears_101 ?_
      refine lv_topi (fun x_10 ex_10 => ?_)
      refine lv_istore_n (lv' := [(2, .int x_10), (1, .int g_7), (0, .ref (B + 259))]) K.1.1 K.1.2.1 dX11_clears_102 rfl hl (by decide) rfl (fun ls hl => ?_)
      have lp_103 : ∀ n : Nat, ∀ (v2_103 : Int32) (μ_103 : Mm) (H : Heap) (locs : List Loc) (ls : Array Slot), (MI μ_103) → (n ≤ cn (μ_103 260 1)) → (v2_103 = nI n - 1) → ((M_clears μ).1 = EX n μ_103) → MP G B μ_103 H → va_S (AA B) s.heap H locs → lv_has ls 3 [(2, .int v2_103), (1, .int g_7), (0, .ref (B + 259))] → W p l e ({ frames := 6, cells := 0, slots := 0, locals := 144 } : Room) s m ([.ref (B + 259)] : List Value).toArray below meth c H locs 0 0 (MF below G B (some (.int ((M_clears μ).2))) ((M_clears μ).1) ([.ref (B + 259)] : List Value).toArray s) (F0 m 103 ls []) := by
        intro n
        induction n with
        | zero =>
          intro v2_103 μ_103 H locs ls inv0_103 inv1_103 inv2_103 fin0_103 hP hS hl
          refine lv_iload_n K.1.1 K.1.2.1 dX11_clears_103 rfl (lv_at hl 0 rfl) ?_
          refine lv_if_lt (tgt := 151) K.1.1 K.1.2.1 dX11_clears_104 (by decide) (fun c_104 => ?_) (fun c_104 => ?_)
          · refine lv_iload_n K.1.1 K.1.2.1 dX11_clears_151 rfl (lv_at hl 1 rfl) ?_
            exact m_iret K hr hlocks hP hS dX11_clears_152 (by subst eg_1 er_2 eg_3 eg_4 eg_5 ev1_49 eμ_49 eg_6 eg_7 eg_8 eg_9 ex_10 inv2_103; rfl) (by subst eg_1 er_2 eg_3 eg_4 eg_5 ev1_49 eμ_49 eg_6 eg_7 eg_8 eg_9 ex_10 inv2_103; exact fin0_103)
          · exact absurd c_104 (not_not_intro (by subst eg_1 er_2 eg_3 eg_4 eg_5 ev1_49 eμ_49 eg_6 eg_7 eg_8 eg_9 ex_10 inv2_103; exact nI_lo))
        | succ n ih_103 =>
          intro v2_103 μ_103 H locs ls inv0_103 inv1_103 inv2_103 fin0_103 hP hS hl
          refine lv_iload_n K.1.1 K.1.2.1 dX11_clears_103 rfl (lv_at hl 0 rfl) ?_
          refine lv_if_lt (tgt := 151) K.1.1 K.1.2.1 dX11_clears_104 (by decide) (fun c_104 => ?_) (fun c_104 => ?_)
          · exact absurd c_104 (by subst eg_1 er_2 eg_3 eg_4 eg_5 ev1_49 eμ_49 eg_6 eg_7 eg_8 eg_9 ex_10 inv2_103; exact nI_dn (by have := vp_cn inv0_103.2.1; omega))
          · refine lv_aload_n K.1.1 K.1.2.1 dX11_clears_107 rfl (lv_at hl 2 rfl) ?_
            refine lv_iload_n K.1.1 K.1.2.1 dX11_clears_108 rfl (lv_at hl 0 rfl) ?_
            refine lv_iconst (v := 4) K.1.1 K.1.2.1 dX11_clears_109 (by decide) ?_
            refine m_cV (n := 2) (As := [.int v2_103, .int 4]) (rest := []) K hP hS (MX11_ofO l G B _ v2_103 4 (loO (by subst eg_1 er_2 eg_3 eg_4 eg_5 ev1_49 eμ_49 eg_6 eg_7 eg_8 eg_9 ex_10 inv2_103; rw [nI_pred]; exact vp_in_nI (by have := vp_cn inv0_103.2.1; omega) (by decide)) (vpd rfl))) (by decide) sh_259 rfl q_1291 q_1293 q_39 q_91 q_1294 hv_X11_ofO ⟨Nat.le_of_ble_eq_true rfl, Nat.le_of_ble_eq_true rfl⟩ rfl hl.1 rfl (Nat.le_of_ble_eq_true rfl) dX11_clears_110 ⟨Nat.zero_le _, Nat.zero_le _⟩ (fun H locs hP hS => ?_)
            refine lv_topi (fun r_11 er_11 => ?_)
            refine lv_aload_n K.1.1 K.1.2.1 dX11_clears_113 rfl (lv_at hl 2 rfl) ?_
            refine m_getr K hP (by decide) sh_259 rfl tuX11 0 (by decide) rfl q_1150 dX11_clears_114 ?_
            refine lv_iconst (v := 4) K.1.1 K.1.2.1 dX11_clears_117 (by decide) ?_
            refine m_iald K hP (by decide) sh_260 (n := 267) (vpd rfl) dX11_clears_118 ?_
            refine lv_topi (fun g_12 eg_12 => ?_)
            have eg_12 : g_12 = (_ : Mm) 260 4 := eg_12
            refine lv_iadd K.1.1 K.1.2.1 dX11_clears_119 ?_
            refine lv_aload_n K.1.1 K.1.2.1 dX11_clears_120 rfl (lv_at hl 2 rfl) ?_
            refine m_getr K hP (by decide) sh_259 rfl tuX11 0 (by decide) rfl q_1150 dX11_clears_121 ?_
            refine lv_iconst (v := 2) K.1.1 K.1.2.1 dX11_clears_124 (by decide) ?_
            refine m_iald K hP (by decide) sh_260 (n := 267) (vpd rfl) dX11_clears_125 ?_
            refine lv_topi (fun g_13 eg_13 => ?_)
            have eg_13 : g_13 = (_ : Mm) 260 2 := eg_13
            refine lv_icmp_gt (tgt := 145) K.1.1 K.1.2.1 dX11_clears_126 (by decide) (fun c_126 => ?_) (fun c_126 => ?_)
            · obtain ⟨x_14, ex_14⟩ : ∃ y : Int32, y = v2_103 + (-1) := ⟨_, rfl⟩
              refine lv_iinc (v := x_14) (lv' := [(2, .int x_14), (1, .int g_7), (0, .ref (B + 259))]) K.1.1 K.1.2.1 dX11_clears_145 hl (k := 0) rfl (by rw [ex_14]; rfl) (by decide) rfl (fun ls hl => ?_)
              refine lv_goto (tgt := 103) K.1.1 K.1.2.1 dX11_clears_148 (by decide) ?_
              exact ih_103 _ _ _ _ _ (by subst eg_1 er_2 eg_3 eg_4 eg_5 ev1_49 eμ_49 eg_6 eg_7 eg_8 eg_9 ex_10 inv2_103 er_11 eg_12 eg_13 ex_14; rw [nI_pred] at *; first | exact (MI_exrem inv0_103 inv1_103).1 | exact inv0_103) (by subst eg_1 er_2 eg_3 eg_4 eg_5 ev1_49 eμ_49 eg_6 eg_7 eg_8 eg_9 ex_10 inv2_103 er_11 eg_12 eg_13 ex_14; rw [nI_pred] at *; first | exact (MI_exrem inv0_103 inv1_103).2 | omega) (by subst eg_1 er_2 eg_3 eg_4 eg_5 ev1_49 eμ_49 eg_6 eg_7 eg_8 eg_9 ex_10 inv2_103 er_11 eg_12 eg_13 ex_14; rw [nI_pred]; exact nI_m1 n) (by subst eg_1 er_2 eg_3 eg_4 eg_5 ev1_49 eμ_49 eg_6 eg_7 eg_8 eg_9 ex_10 inv2_103 er_11 eg_12 eg_13 ex_14; rw [nI_pred] at *; rw [fin0_103, EX]; first | (rw [if_pos c_126]; first | done | rfl) | (rw [if_neg c_126]; first | done | rfl) | (rw [if_neg (Int32.not_le.mpr c_126)]; done) | (rw [if_pos (Int32.not_lt.mp c_126)]; first | done | rfl)) hP hS (lv_sub hl [0, 1, 2] rfl)
            · refine lv_aload_n K.1.1 K.1.2.1 dX11_clears_129 rfl (lv_at hl 2 rfl) ?_
              refine lv_iload_n K.1.1 K.1.2.1 dX11_clears_130 rfl (lv_at hl 0 rfl) ?_
              refine m_cV (n := 1) (As := [.int v2_103]) (rest := []) K hP hS (MX11_removes l G B _ v2_103 inv0_103 (by subst eg_1 er_2 eg_3 eg_4 eg_5 ev1_49 eμ_49 eg_6 eg_7 eg_8 eg_9 ex_10 inv2_103 er_11 eg_12 eg_13; rw [nI_pred]; have := vp_cn inv0_103.2.1; rw [cn_nI (by omega)]; omega) (by subst eg_1 er_2 eg_3 eg_4 eg_5 ev1_49 eμ_49 eg_6 eg_7 eg_8 eg_9 ex_10 inv2_103 er_11 eg_12 eg_13; rw [nI_pred]; exact nI_pos (by have := vp_cn inv0_103.2.1; omega))) (by decide) sh_259 rfl q_1311 q_1313 q_42 q_91 q_1314 hv_X11_removes ⟨Nat.le_of_ble_eq_true rfl, Nat.le_of_ble_eq_true rfl⟩ rfl hl.1 rfl (Nat.le_of_ble_eq_true rfl) dX11_clears_131 ⟨Nat.zero_le _, Nat.zero_le _⟩ (fun H locs hP hS => ?_)
              refine W.eq (g2 := F0 m 134 ls []) rfl ?_
              refine lv_aload_n K.1.1 K.1.2.1 dX11_clears_134 rfl (lv_at hl 2 rfl) ?_
              refine m_getr K hP (by decide) sh_259 rfl tuX11 0 (by decide) rfl q_1150 dX11_clears_135 ?_
              refine lv_bipush (v := 10) K.1.1 K.1.2.1 dX11_clears_138 (by decide) ?_
              refine lv_dup2_11 K.1.1 K.1.2.1 dX11_clears_140 rfl rfl ?_
              refine m_iald K hP (by decide) sh_260 (n := 267) (vpd rfl) dX11_clears_141 ?_
              refine lv_topi (fun g_15 eg_15 => ?_)
              have eg_15 : g_15 = (_ : Mm) 260 10 := eg_15
              refine lv_iconst (v := 1) K.1.1 K.1.2.1 dX11_clears_142 (by decide) ?_
              refine lv_iadd K.1.1 K.1.2.1 dX11_clears_143 ?_
              refine m_iast K hP hS (by decide) sh_260 (n := 267) (vpd rfl) dX11_clears_144 (fun H locs hP hS => ?_)
              have hP : MP G B (up2 _ 260 10 _) H := hP
              obtain ⟨x_16, ex_16⟩ : ∃ y : Int32, y = v2_103 + (-1) := ⟨_, rfl⟩
              refine lv_iinc (v := x_16) (lv' := [(2, .int x_16), (1, .int g_7), (0, .ref (B + 259))]) K.1.1 K.1.2.1 dX11_clears_145 hl (k := 0) rfl (by rw [ex_16]; rfl) (by decide) rfl (fun ls hl => ?_)
              refine lv_goto (tgt := 103) K.1.1 K.1.2.1 dX11_clears_148 (by decide) ?_
              exact ih_103 _ _ _ _ _ (by subst eg_1 er_2 eg_3 eg_4 eg_5 ev1_49 eμ_49 eg_6 eg_7 eg_8 eg_9 ex_10 inv2_103 er_11 eg_12 eg_13 eg_15 ex_16; rw [nI_pred] at *; first | exact (MI_exrem inv0_103 inv1_103).1 | exact inv0_103) (by subst eg_1 er_2 eg_3 eg_4 eg_5 ev1_49 eμ_49 eg_6 eg_7 eg_8 eg_9 ex_10 inv2_103 er_11 eg_12 eg_13 eg_15 ex_16; rw [nI_pred] at *; first | exact (MI_exrem inv0_103 inv1_103).2 | omega) (by subst eg_1 er_2 eg_3 eg_4 eg_5 ev1_49 eμ_49 eg_6 eg_7 eg_8 eg_9 ex_10 inv2_103 er_11 eg_12 eg_13 eg_15 ex_16; rw [nI_pred]; exact nI_m1 n) (by subst eg_1 er_2 eg_3 eg_4 eg_5 ev1_49 eμ_49 eg_6 eg_7 eg_8 eg_9 ex_10 inv2_103 er_11 eg_12 eg_13 eg_15 ex_16; rw [nI_pred] at *; rw [fin0_103, EX]; first | (rw [if_pos c_126]; first | done | rfl) | (rw [if_neg c_126]; first | done | rfl) | (rw [if_neg (Int32.not_le.mpr c_126)]; done) | (rw [if_pos (Int32.not_lt.mp c_126)]; first | done | rfl)) hP hS (lv_sub hl [0, 1, 2] rfl)
      exact lp_103 (cn (M_cl3 μ 260 1)) _ _ _ _ _ (by subst eg_1 er_2 eg_3 eg_4 eg_5 ev1_49 eμ_49 eg_6 eg_7 eg_8 eg_9 ex_10; exact MI_cl3 hI hok) (by subst eg_1 er_2 eg_3 eg_4 eg_5 ev1_49 eμ_49 eg_6 eg_7 eg_8 eg_9 ex_10; exact Nat.le_refl _) (by subst eg_1 er_2 eg_3 eg_4 eg_5 ev1_49 eμ_49 eg_6 eg_7 eg_8 eg_9 ex_10; exact cnt_dn (fun e => (MI_cl3 hI hok).2.1 (Or.inl e))) (by subst eg_1 er_2 eg_3 eg_4 eg_5 ev1_49 eμ_49 eg_6 eg_7 eg_8 eg_9 ex_10; rfl) hP hS (lv_sub hl [0, 1, 2] rfl)
    · exact absurd c_56 (not_not_intro (by subst eg_1 er_2 eg_3 eg_4 eg_5 ev1_49 eμ_49 eg_6; rw [(MI_cl2 hI hok _ (Nat.le_refl _)).2 0 (by decide)]; exact cn_out _))
  · intro k hk ih_49 v1_49 μ_49 H locs ls ev1_49 eμ_49 hP hS hl
    refine lv_iload_n K.1.1 K.1.2.1 dX11_clears_49 rfl (lv_at hl 0 rfl) ?_
    refine lv_aload_n K.1.1 K.1.2.1 dX11_clears_50 rfl (lv_at hl 1 rfl) ?_
    refine m_getr K hP (by decide) sh_259 rfl tuX11 0 (by decide) rfl q_1150 dX11_clears_51 ?_
    refine lv_iconst (v := 0) K.1.1 K.1.2.1 dX11_clears_54 (by decide) ?_
    refine m_iald K hP (by decide) sh_260 (n := 267) (vpd rfl) dX11_clears_55 ?_
    refine lv_topi (fun g_17 eg_17 => ?_)
    have eg_17 : g_17 = (_ : Mm) 260 0 := eg_17
    refine lv_icmp_ge (tgt := 75) K.1.1 K.1.2.1 dX11_clears_56 (by decide) (fun c_56 => ?_) (fun c_56 => ?_)
    · exact absurd c_56 (by subst eg_1 er_2 eg_3 eg_4 eg_5 ev1_49 eμ_49 eg_17; rw [(MI_cl2 hI hok _ (Nat.le_of_lt hk)).2 0 (by decide)]; exact cn_in hk)
    · refine lv_aload_n K.1.1 K.1.2.1 dX11_clears_59 rfl (lv_at hl 1 rfl) ?_
      refine lv_iload_n K.1.1 K.1.2.1 dX11_clears_60 rfl (lv_at hl 0 rfl) ?_
      refine m_cV (n := 1) (As := [.int v1_49]) (rest := []) K hP hS (MX11_settles l G B _ v1_49 (by subst eg_1 er_2 eg_3 eg_4 eg_5 ev1_49 eμ_49 eg_17; exact (MI_cl2 hI hok k (Nat.le_of_lt hk)).1) (by subst eg_1 er_2 eg_3 eg_4 eg_5 ev1_49 eμ_49 eg_17; exact MI_t (MI_cl1 hI hok) hk)) (by decide) sh_259 rfl q_1383 q_1385 q_59 q_91 q_1386 hv_X11_settles ⟨Nat.le_of_ble_eq_true rfl, Nat.le_of_ble_eq_true rfl⟩ rfl hl.1 rfl (Nat.le_of_ble_eq_true rfl) dX11_clears_61 ⟨Nat.zero_le _, Nat.zero_le _⟩ (fun H locs hP hS => ?_)
      refine W.eq (g2 := F0 m 64 ls []) rfl ?_
      refine lv_aload_n K.1.1 K.1.2.1 dX11_clears_64 rfl (lv_at hl 1 rfl) ?_
      refine lv_iload_n K.1.1 K.1.2.1 dX11_clears_65 rfl (lv_at hl 0 rfl) ?_
      refine m_cV (n := 1) (As := [.int v1_49]) (rest := []) K hP hS (MX11_learns l G B _ v1_49 (by subst eg_1 er_2 eg_3 eg_4 eg_5 ev1_49 eμ_49 eg_17; exact MI_settles (MI_cl2 hI hok k (Nat.le_of_lt hk)).1 (MI_t (MI_cl1 hI hok) hk)) (by subst eg_1 er_2 eg_3 eg_4 eg_5 ev1_49 eμ_49 eg_17; exact MI_t (MI_cl1 hI hok) hk)) (by decide) sh_259 rfl q_1387 q_1389 q_60 q_91 q_1390 hv_X11_learns ⟨Nat.le_of_ble_eq_true rfl, Nat.le_of_ble_eq_true rfl⟩ rfl hl.1 rfl (Nat.le_of_ble_eq_true rfl) dX11_clears_66 ⟨Nat.zero_le _, Nat.zero_le _⟩ (fun H locs hP hS => ?_)
      refine W.eq (g2 := F0 m 69 ls []) rfl ?_
      obtain ⟨x_18, ex_18⟩ : ∃ y : Int32, y = v1_49 + (1) := ⟨_, rfl⟩
      refine lv_iinc (v := x_18) (lv' := [(1, .int x_18), (0, .ref (B + 259))]) K.1.1 K.1.2.1 dX11_clears_69 hl (k := 0) rfl (by rw [ex_18]; rfl) (by decide) rfl (fun ls hl => ?_)
      refine lv_goto (tgt := 49) K.1.1 K.1.2.1 dX11_clears_72 (by decide) ?_
      exact ih_49 _ _ _ _ _ (by subst eg_1 er_2 eg_3 eg_4 eg_5 ev1_49 eμ_49 eg_17 ex_18; exact nI_1 _) (by subst eg_1 er_2 eg_3 eg_4 eg_5 ev1_49 eμ_49 eg_17 ex_18; rfl) hP hS (lv_sub hl [0, 1] rfl)

set_option maxHeartbeats 4000000 in
set_option maxRecDepth 100000 in
theorem MX11_clear (l : Launch) (G : GG) (B : Nat) (μ : Mm) (hI : MI μ) (hs : vp_in (μ 259 2) 5) (hok : M_clok (M_records (M_thr μ 0))) : CM l yX11_clear (.code yX11_clear cX11_clear 1 (Option.some FieldType.int)) 7 166 G B [.ref (B + 259)] μ (some (.int ((M_clear μ).2))) ((M_clear μ).1) := by
  refine CM.of (by decide) (Nat.le_of_ble_eq_true rfl) ?_
  intro p e s m below meth c ls K hr hlocks hP hl
  have hS : va_S (AA B) s.heap s.heap [] := va_S.rf
  have hl : lv_has ls 1 [(0, .ref (B + 259))] := hl
  refine lv_aload_n K.1.1 K.1.2.1 dX11_clear_0 rfl (lv_at hl 0 rfl) ?_
  refine lv_aload_n K.1.1 K.1.2.1 dX11_clear_1 rfl (lv_at hl 0 rfl) ?_
  refine m_cV (n := 0) (As := []) (rest := [.ref (B + 259)]) K hP hS (MX11_clearError l G B _  ) (by decide) sh_259 rfl q_1319 q_1321 q_43 q_91 q_1322 hv_X11_clearError ⟨Nat.le_of_ble_eq_true rfl, Nat.le_of_ble_eq_true rfl⟩ rfl hl.1 rfl (Nat.le_of_ble_eq_true rfl) dX11_clear_2 ⟨Nat.zero_le _, Nat.zero_le _⟩ (fun H locs hP hS => ?_)
  refine lv_topi (fun r_1 er_1 => ?_)
  refine m_puti K hP hS (by decide) sh_259 rfl tuX11 tyX11 tyX11_ok nmX11 3 (by decide) rfl rfl (by decide +kernel) q_1153 dX11_clear_5 (fun H locs hP hS => ?_)
  refine lv_aload_n K.1.1 K.1.2.1 dX11_clear_8 rfl (lv_at hl 0 rfl) ?_
  refine m_geti K hP (by decide) sh_259 rfl tuX11 3 (by decide) rfl q_1153 dX11_clear_9 ?_
  refine lv_topi (fun g_2 eg_2 => ?_)
  refine lv_if_eq (tgt := 17) K.1.1 K.1.2.1 dX11_clear_12 (by decide) (fun c_12 => ?_) (fun c_12 => ?_)
  · refine lv_aload_n K.1.1 K.1.2.1 dX11_clear_17 rfl (lv_at hl 0 rfl) ?_
    refine m_cV (n := 0) (As := []) (rest := []) K hP hS (MX11_records l G B _  (by subst er_1 eg_2; rw [up2k_states]; exact hs)) (by decide) sh_259 rfl q_1216 q_1218 q_25 q_91 q_1219 hv_X11_records ⟨Nat.le_of_ble_eq_true rfl, Nat.le_of_ble_eq_true rfl⟩ rfl hl.1 rfl (Nat.le_of_ble_eq_true rfl) dX11_clear_18 ⟨Nat.zero_le _, Nat.zero_le _⟩ (fun H locs hP hS => ?_)
    refine W.eq (g2 := F0 m 21 ls []) rfl ?_
    refine lv_aload_n K.1.1 K.1.2.1 dX11_clear_21 rfl (lv_at hl 0 rfl) ?_
    refine m_cV (n := 0) (As := []) (rest := []) K hP hS (MX11_clears l G B _  (by subst er_1 eg_2; exact MI_of hI (rec_260 _ _)) (by subst er_1 eg_2; rw [up2_s] at c_12; rw [c_12]; exact hok)) (by decide) sh_259 rfl q_1323 q_1325 q_44 q_91 q_1326 hv_X11_clears ⟨Nat.le_of_ble_eq_true rfl, Nat.le_of_ble_eq_true rfl⟩ rfl hl.1 rfl (Nat.le_of_ble_eq_true rfl) dX11_clear_22 ⟨Nat.zero_le _, Nat.zero_le _⟩ (fun H locs hP hS => ?_)
    refine lv_topi (fun r_3 er_3 => ?_)
    exact m_iret K hr hlocks hP hS dX11_clear_25 (by subst er_1 eg_2 er_3; rw [up2_s] at c_12; first | (rw [M_clear, M_call, if_pos c_12]; first | done | rfl) | (rw [M_clear, M_call, if_neg c_12]; first | done | rfl)) (by subst er_1 eg_2 er_3; rw [up2_s] at c_12; first | (rw [M_clear, M_call, if_pos c_12]; first | done | rfl) | (rw [M_clear, M_call, if_neg c_12]; first | done | rfl))
  · refine lv_iconst (v := 0) K.1.1 K.1.2.1 dX11_clear_15 (by decide) ?_
    exact m_iret K hr hlocks hP hS dX11_clear_16 (by subst er_1 eg_2; rw [up2_s] at c_12; first | (rw [M_clear, M_call, if_pos c_12]; first | done | rfl) | (rw [M_clear, M_call, if_neg c_12]; first | done | rfl)) (by subst er_1 eg_2; rw [up2_s] at c_12; first | (rw [M_clear, M_call, if_pos c_12]; first | done | rfl) | (rw [M_clear, M_call, if_neg c_12]; first | done | rfl))

set_option maxHeartbeats 4000000 in
set_option maxRecDepth 100000 in
theorem MX11_ordersOf (l : Launch) (G : GG) (B : Nat) (μ : Mm) (t : Int32) (u : Int32) (hI : MI μ) : CM l yX11_ordersOf (.code yX11_ordersOf cX11_ordersOf 5 (Option.some FieldType.int)) 1 22 G B [.ref (B + 259), .int t, .int u] μ (some (.int (M_ordersOf μ t u))) μ := by
  refine CM.of (by decide) (Nat.le_of_ble_eq_true rfl) ?_
  intro p e s m below meth c ls K hr hlocks hP hl
  have hS : va_S (AA B) s.heap s.heap [] := va_S.rf
  have hl : lv_has ls 5 [(0, .ref (B + 259)), (1, .int t), (2, .int u)] := hl
  refine lv_iconst (v := 0) K.1.1 K.1.2.1 dX11_ordersOf_0 (by decide) ?_
  refine lv_istore_n (lv' := [(3, .int 0), (0, .ref (B + 259)), (1, .int t), (2, .int u)]) K.1.1 K.1.2.1 dX11_ordersOf_1 rfl hl (by decide) rfl (fun ls hl => ?_)
  refine lv_iconst (v := 0) K.1.1 K.1.2.1 dX11_ordersOf_2 (by decide) ?_
  refine lv_istore (lv' := [(4, .int 0), (3, .int 0), (0, .ref (B + 259)), (1, .int t), (2, .int u)]) K.1.1 K.1.2.1 dX11_ordersOf_3 hl (by decide) rfl (fun ls hl => ?_)
  refine up_to (N := cn (μ 260 1)) (P := fun k : Nat => ∀ (v4_5 : Int32) (v3_5 : Int32) (H : Heap) (locs : List Loc) (ls : Array Slot), (v4_5 = nI k) → (v3_5 = sumI (fun k => if M_o μ (nI k) 1 = t then (if u = 0 then 1 else M_o μ (nI k) 3) else 0) k) → MP G B μ H → va_S (AA B) s.heap H locs → lv_has ls 5 [(4, .int v4_5), (3, .int v3_5), (0, .ref (B + 259)), (1, .int t), (2, .int u)] → W p l e ({ frames := 1, cells := 0, slots := 0, locals := 22 } : Room) s m ([.ref (B + 259), .int t, .int u] : List Value).toArray below meth c H locs 0 0 (MF below G B (some (.int (M_ordersOf μ t u))) μ ([.ref (B + 259), .int t, .int u] : List Value).toArray s) (F0 m 5 ls [])) ?_ ?_ _ _ _ _ _ (by first | rfl | (skip; rfl)) (by first | rfl | (skip; rfl)) hP hS (lv_sub hl [0, 1, 2, 3, 4] rfl)
  · intro v4_5 v3_5 H locs ls ev4_5 ev3_5 hP hS hl
    refine lv_iload K.1.1 K.1.2.1 dX11_ordersOf_5 (lv_at hl 0 rfl) ?_
    refine lv_aload_n K.1.1 K.1.2.1 dX11_ordersOf_7 rfl (lv_at hl 2 rfl) ?_
    refine m_getr K hP (by decide) sh_259 rfl tuX11 0 (by decide) rfl q_1150 dX11_ordersOf_8 ?_
    refine lv_iconst (v := 1) K.1.1 K.1.2.1 dX11_ordersOf_11 (by decide) ?_
    refine m_iald K hP (by decide) sh_260 (n := 267) (vpd rfl) dX11_ordersOf_12 ?_
    refine lv_topi (fun g_1 eg_1 => ?_)
    have eg_1 : g_1 = (_ : Mm) 260 1 := eg_1
    refine lv_icmp_ge (tgt := 55) K.1.1 K.1.2.1 dX11_ordersOf_13 (by decide) (fun c_13 => ?_) (fun c_13 => ?_)
    · refine lv_iload_n K.1.1 K.1.2.1 dX11_ordersOf_55 rfl (lv_at hl 1 rfl) ?_
      exact m_iret K hr hlocks hP hS dX11_ordersOf_56 (by subst ev4_5 ev3_5 eg_1; rfl) rfl
    · exact absurd c_13 (not_not_intro (by subst ev4_5 ev3_5 eg_1; exact cn_out _))
  · intro k hk ih_5 v4_5 v3_5 H locs ls ev4_5 ev3_5 hP hS hl
    refine lv_iload K.1.1 K.1.2.1 dX11_ordersOf_5 (lv_at hl 0 rfl) ?_
    refine lv_aload_n K.1.1 K.1.2.1 dX11_ordersOf_7 rfl (lv_at hl 2 rfl) ?_
    refine m_getr K hP (by decide) sh_259 rfl tuX11 0 (by decide) rfl q_1150 dX11_ordersOf_8 ?_
    refine lv_iconst (v := 1) K.1.1 K.1.2.1 dX11_ordersOf_11 (by decide) ?_
    refine m_iald K hP (by decide) sh_260 (n := 267) (vpd rfl) dX11_ordersOf_12 ?_
    refine lv_topi (fun g_2 eg_2 => ?_)
    have eg_2 : g_2 = (_ : Mm) 260 1 := eg_2
    refine lv_icmp_ge (tgt := 55) K.1.1 K.1.2.1 dX11_ordersOf_13 (by decide) (fun c_13 => ?_) (fun c_13 => ?_)
    · exact absurd c_13 (by subst ev4_5 ev3_5 eg_2; exact cn_in hk)
    · refine lv_iload_n K.1.1 K.1.2.1 dX11_ordersOf_16 rfl (lv_at hl 1 rfl) ?_
      refine lv_aload_n K.1.1 K.1.2.1 dX11_ordersOf_17 rfl (lv_at hl 2 rfl) ?_
      refine lv_iload K.1.1 K.1.2.1 dX11_ordersOf_18 (lv_at hl 0 rfl) ?_
      refine lv_iconst (v := 1) K.1.1 K.1.2.1 dX11_ordersOf_20 (by decide) ?_
      refine m_cV (n := 2) (As := [.int v4_5, .int 1]) (rest := [.int v3_5]) K hP hS (MX11_ofO l G B _ v4_5 1 (loO (by subst ev4_5 ev3_5 eg_2; first | assumption | exact MI_k hI (by assumption) | exact MI_w hI (by first | assumption | exact MI_k hI (by assumption)) | exact MI_t hI (by assumption)) (vpd rfl))) (by decide) sh_259 rfl q_1291 q_1293 q_39 q_91 q_1294 hv_X11_ofO ⟨Nat.le_of_ble_eq_true rfl, Nat.le_of_ble_eq_true rfl⟩ rfl hl.1 rfl (Nat.le_of_ble_eq_true rfl) dX11_ordersOf_21 ⟨Nat.zero_le _, Nat.zero_le _⟩ (fun H locs hP hS => ?_)
      refine lv_topi (fun r_3 er_3 => ?_)
      refine lv_iload_n K.1.1 K.1.2.1 dX11_ordersOf_24 rfl (lv_at hl 3 rfl) ?_
      refine lv_icmp_eq (tgt := 32) K.1.1 K.1.2.1 dX11_ordersOf_25 (by decide) (fun c_25 => ?_) (fun c_25 => ?_)
      · refine lv_iload_n K.1.1 K.1.2.1 dX11_ordersOf_32 rfl (lv_at hl 4 rfl) ?_
        refine lv_if_eq (tgt := 46) K.1.1 K.1.2.1 dX11_ordersOf_33 (by decide) (fun c_33 => ?_) (fun c_33 => ?_)
        · refine lv_iconst (v := 1) K.1.1 K.1.2.1 dX11_ordersOf_46 (by decide) ?_
          refine lv_iadd K.1.1 K.1.2.1 dX11_ordersOf_47 ?_
          refine lv_topi (fun x_4 ex_4 => ?_)
          refine lv_istore_n (lv' := [(3, .int x_4), (4, .int v4_5), (0, .ref (B + 259)), (1, .int t), (2, .int u)]) K.1.1 K.1.2.1 dX11_ordersOf_48 rfl hl (by decide) rfl (fun ls hl => ?_)
          obtain ⟨x_5, ex_5⟩ : ∃ y : Int32, y = v4_5 + (1) := ⟨_, rfl⟩
          refine lv_iinc (v := x_5) (lv' := [(4, .int x_5), (3, .int x_4), (0, .ref (B + 259)), (1, .int t), (2, .int u)]) K.1.1 K.1.2.1 dX11_ordersOf_49 hl (k := 1) rfl (by rw [ex_5]; rfl) (by decide) rfl (fun ls hl => ?_)
          refine lv_goto (tgt := 5) K.1.1 K.1.2.1 dX11_ordersOf_52 (by decide) ?_
          exact ih_5 _ _ _ _ _ (by subst ev4_5 ev3_5 eg_2 er_3 ex_4 ex_5; exact nI_1 _) (by subst ev4_5 ev3_5 eg_2 er_3 ex_4 ex_5; simp only [sumI, if_neg c_13, if_pos (Int32.not_le.mp c_13), if_pos c_25, if_pos c_33]; try simp only [Int32.add_zero]) hP hS (lv_sub hl [0, 1, 2, 3, 4] rfl)
        · refine lv_aload_n K.1.1 K.1.2.1 dX11_ordersOf_36 rfl (lv_at hl 2 rfl) ?_
          refine lv_iload K.1.1 K.1.2.1 dX11_ordersOf_37 (lv_at hl 0 rfl) ?_
          refine lv_iconst (v := 3) K.1.1 K.1.2.1 dX11_ordersOf_39 (by decide) ?_
          refine m_cV (n := 2) (As := [.int v4_5, .int 3]) (rest := [.int v3_5]) K hP hS (MX11_ofO l G B _ v4_5 3 (loO (by subst ev4_5 ev3_5 eg_2 er_3; first | assumption | exact MI_k hI (by assumption) | exact MI_w hI (by first | assumption | exact MI_k hI (by assumption)) | exact MI_t hI (by assumption)) (vpd rfl))) (by decide) sh_259 rfl q_1291 q_1293 q_39 q_91 q_1294 hv_X11_ofO ⟨Nat.le_of_ble_eq_true rfl, Nat.le_of_ble_eq_true rfl⟩ rfl hl.1 rfl (Nat.le_of_ble_eq_true rfl) dX11_ordersOf_40 ⟨Nat.zero_le _, Nat.zero_le _⟩ (fun H locs hP hS => ?_)
          refine lv_topi (fun r_6 er_6 => ?_)
          refine lv_goto (tgt := 47) K.1.1 K.1.2.1 dX11_ordersOf_43 (by decide) ?_
          refine lv_iadd K.1.1 K.1.2.1 dX11_ordersOf_47 ?_
          refine lv_topi (fun x_7 ex_7 => ?_)
          refine lv_istore_n (lv' := [(3, .int x_7), (4, .int v4_5), (0, .ref (B + 259)), (1, .int t), (2, .int u)]) K.1.1 K.1.2.1 dX11_ordersOf_48 rfl hl (by decide) rfl (fun ls hl => ?_)
          obtain ⟨x_8, ex_8⟩ : ∃ y : Int32, y = v4_5 + (1) := ⟨_, rfl⟩
          refine lv_iinc (v := x_8) (lv' := [(4, .int x_8), (3, .int x_7), (0, .ref (B + 259)), (1, .int t), (2, .int u)]) K.1.1 K.1.2.1 dX11_ordersOf_49 hl (k := 1) rfl (by rw [ex_8]; rfl) (by decide) rfl (fun ls hl => ?_)
          refine lv_goto (tgt := 5) K.1.1 K.1.2.1 dX11_ordersOf_52 (by decide) ?_
          exact ih_5 _ _ _ _ _ (by subst ev4_5 ev3_5 eg_2 er_3 er_6 ex_7 ex_8; exact nI_1 _) (by subst ev4_5 ev3_5 eg_2 er_3 er_6 ex_7 ex_8; simp only [sumI, if_neg c_13, if_pos (Int32.not_le.mp c_13), if_pos c_25, if_neg c_33]; try simp only [Int32.add_zero]) hP hS (lv_sub hl [0, 1, 2, 3, 4] rfl)
      · refine lv_iconst (v := 0) K.1.1 K.1.2.1 dX11_ordersOf_28 (by decide) ?_
        refine lv_goto (tgt := 47) K.1.1 K.1.2.1 dX11_ordersOf_29 (by decide) ?_
        refine lv_iadd K.1.1 K.1.2.1 dX11_ordersOf_47 ?_
        refine lv_topi (fun x_9 ex_9 => ?_)
        refine lv_istore_n (lv' := [(3, .int x_9), (4, .int v4_5), (0, .ref (B + 259)), (1, .int t), (2, .int u)]) K.1.1 K.1.2.1 dX11_ordersOf_48 rfl hl (by decide) rfl (fun ls hl => ?_)
        obtain ⟨x_10, ex_10⟩ : ∃ y : Int32, y = v4_5 + (1) := ⟨_, rfl⟩
        refine lv_iinc (v := x_10) (lv' := [(4, .int x_10), (3, .int x_9), (0, .ref (B + 259)), (1, .int t), (2, .int u)]) K.1.1 K.1.2.1 dX11_ordersOf_49 hl (k := 1) rfl (by rw [ex_10]; rfl) (by decide) rfl (fun ls hl => ?_)
        refine lv_goto (tgt := 5) K.1.1 K.1.2.1 dX11_ordersOf_52 (by decide) ?_
        exact ih_5 _ _ _ _ _ (by subst ev4_5 ev3_5 eg_2 er_3 ex_9 ex_10; exact nI_1 _) (by subst ev4_5 ev3_5 eg_2 er_3 ex_9 ex_10; simp only [sumI, if_neg c_13, if_pos (Int32.not_le.mp c_13), if_neg c_25]; try simp only [Int32.add_zero]) hP hS (lv_sub hl [0, 1, 2, 3, 4] rfl)

set_option maxHeartbeats 4000000 in
set_option maxRecDepth 100000 in
theorem MX11_tellsTrader (l : Launch) (G : GG) (B : Nat) (μ : Mm) (t : Int32) (w : Int32) (hI : MI μ) (ht : vp_in t 8) (hw : vp_in w 10) : CM l yX11_tellsTrader (.code yX11_tellsTrader cX11_tellsTrader 3 (Option.some FieldType.int)) 3 68 G B [.ref (B + 259), .int t, .int w] μ (some (.int (M_tellsTrader μ t w))) μ := by
  refine CM.of (by decide) (Nat.le_of_ble_eq_true rfl) ?_
  intro p e s m below meth c ls K hr hlocks hP hl
  have hS : va_S (AA B) s.heap s.heap [] := va_S.rf
  have hl : lv_has ls 3 [(0, .ref (B + 259)), (1, .int t), (2, .int w)] := hl
  refine lv_iload_n K.1.1 K.1.2.1 dX11_tellsTrader_0 rfl (lv_at hl 2 rfl) ?_
  refine lv_iconst (v := 4) K.1.1 K.1.2.1 dX11_tellsTrader_1 (by decide) ?_
  refine lv_icmp_ge (tgt := 12) K.1.1 K.1.2.1 dX11_tellsTrader_2 (by decide) (fun c_2 => ?_) (fun c_2 => ?_)
  · refine lv_iload_n K.1.1 K.1.2.1 dX11_tellsTrader_12 rfl (lv_at hl 2 rfl) ?_
    refine lv_bipush (v := 6) K.1.1 K.1.2.1 dX11_tellsTrader_13 (by decide) ?_
    refine lv_icmp_le (tgt := 27) K.1.1 K.1.2.1 dX11_tellsTrader_15 (by decide) (fun c_15 => ?_) (fun c_15 => ?_)
    · refine lv_iload_n K.1.1 K.1.2.1 dX11_tellsTrader_27 rfl (lv_at hl 2 rfl) ?_
      refine lv_iconst (v := 4) K.1.1 K.1.2.1 dX11_tellsTrader_28 (by decide) ?_
      refine lv_icmp_ne (tgt := 40) K.1.1 K.1.2.1 dX11_tellsTrader_29 (by decide) (fun c_29 => ?_) (fun c_29 => ?_)
      · refine lv_aload_n K.1.1 K.1.2.1 dX11_tellsTrader_40 rfl (lv_at hl 0 rfl) ?_
        refine lv_iload_n K.1.1 K.1.2.1 dX11_tellsTrader_41 rfl (lv_at hl 1 rfl) ?_
        refine lv_iload_n K.1.1 K.1.2.1 dX11_tellsTrader_42 rfl (lv_at hl 2 rfl) ?_
        refine lv_bipush (v := 6) K.1.1 K.1.2.1 dX11_tellsTrader_43 (by decide) ?_
        refine lv_icmp_ne (tgt := 52) K.1.1 K.1.2.1 dX11_tellsTrader_45 (by decide) (fun c_45 => ?_) (fun c_45 => ?_)
        · refine lv_iconst (v := 0) K.1.1 K.1.2.1 dX11_tellsTrader_52 (by decide) ?_
          refine m_cV (n := 2) (As := [.int t, .int 0]) (rest := []) K hP hS (MX11_ordersOf l G B _ t 0 hI) (by decide) sh_259 rfl q_1407 q_1409 q_64 q_91 q_1410 hv_X11_ordersOf ⟨Nat.le_of_ble_eq_true rfl, Nat.le_of_ble_eq_true rfl⟩ rfl hl.1 rfl (Nat.le_of_ble_eq_true rfl) dX11_tellsTrader_53 ⟨Nat.zero_le _, Nat.zero_le _⟩ (fun H locs hP hS => ?_)
          refine lv_topi (fun r_1 er_1 => ?_)
          exact m_iret K hr hlocks hP hS dX11_tellsTrader_56 (by subst er_1; rw [M_tellsTrader]; simp only [if_pos c_2, if_neg (Int32.not_lt.mpr c_2), if_pos c_15, if_neg (Int32.not_lt.mpr c_15), if_neg c_29, if_neg c_45]) rfl
        · refine lv_iconst (v := 1) K.1.1 K.1.2.1 dX11_tellsTrader_48 (by decide) ?_
          refine lv_goto (tgt := 53) K.1.1 K.1.2.1 dX11_tellsTrader_49 (by decide) ?_
          refine m_cV (n := 2) (As := [.int t, .int 1]) (rest := []) K hP hS (MX11_ordersOf l G B _ t 1 hI) (by decide) sh_259 rfl q_1407 q_1409 q_64 q_91 q_1410 hv_X11_ordersOf ⟨Nat.le_of_ble_eq_true rfl, Nat.le_of_ble_eq_true rfl⟩ rfl hl.1 rfl (Nat.le_of_ble_eq_true rfl) dX11_tellsTrader_53 ⟨Nat.zero_le _, Nat.zero_le _⟩ (fun H locs hP hS => ?_)
          refine lv_topi (fun r_2 er_2 => ?_)
          exact m_iret K hr hlocks hP hS dX11_tellsTrader_56 (by subst er_2; rw [M_tellsTrader]; simp only [if_pos c_2, if_neg (Int32.not_lt.mpr c_2), if_pos c_15, if_neg (Int32.not_lt.mpr c_15), if_neg c_29, if_pos c_45]) rfl
      · refine lv_aload_n K.1.1 K.1.2.1 dX11_tellsTrader_32 rfl (lv_at hl 0 rfl) ?_
        refine lv_iload_n K.1.1 K.1.2.1 dX11_tellsTrader_33 rfl (lv_at hl 1 rfl) ?_
        refine m_cV (n := 1) (As := [.int t]) (rest := []) K hP hS (MX11_bidOf l G B _ t ht) (by decide) sh_259 rfl q_1256 q_1258 q_33 q_91 q_1259 hv_X11_bidOf ⟨Nat.le_of_ble_eq_true rfl, Nat.le_of_ble_eq_true rfl⟩ rfl hl.1 rfl (Nat.le_of_ble_eq_true rfl) dX11_tellsTrader_34 ⟨Nat.zero_le _, Nat.zero_le _⟩ (fun H locs hP hS => ?_)
        refine lv_topi (fun r_3 er_3 => ?_)
        refine lv_goto (tgt := 56) K.1.1 K.1.2.1 dX11_tellsTrader_37 (by decide) ?_
        exact m_iret K hr hlocks hP hS dX11_tellsTrader_56 (by subst er_3; rw [M_tellsTrader]; simp only [if_pos c_2, if_neg (Int32.not_lt.mpr c_2), if_pos c_15, if_neg (Int32.not_lt.mpr c_15), if_pos c_29]) rfl
    · refine lv_aload_n K.1.1 K.1.2.1 dX11_tellsTrader_18 rfl (lv_at hl 0 rfl) ?_
      refine lv_iload_n K.1.1 K.1.2.1 dX11_tellsTrader_19 rfl (lv_at hl 1 rfl) ?_
      refine lv_iload_n K.1.1 K.1.2.1 dX11_tellsTrader_20 rfl (lv_at hl 2 rfl) ?_
      refine lv_iconst (v := 3) K.1.1 K.1.2.1 dX11_tellsTrader_21 (by decide) ?_
      refine lv_isub K.1.1 K.1.2.1 dX11_tellsTrader_22 ?_
      refine m_cV (n := 2) (As := [.int t, .int (w - 3)]) (rest := []) K hP hS (MX11_ofT l G B _ t (w - 3) (loT ht (tt_hi hw c_15))) (by decide) sh_259 rfl q_1240 q_1242 q_30 q_91 q_1243 hv_X11_ofT ⟨Nat.le_of_ble_eq_true rfl, Nat.le_of_ble_eq_true rfl⟩ rfl hl.1 rfl (Nat.le_of_ble_eq_true rfl) dX11_tellsTrader_23 ⟨Nat.zero_le _, Nat.zero_le _⟩ (fun H locs hP hS => ?_)
      refine lv_topi (fun r_4 er_4 => ?_)
      exact m_iret K hr hlocks hP hS dX11_tellsTrader_26 (by subst er_4; rw [M_tellsTrader]; simp only [if_pos c_2, if_neg (Int32.not_lt.mpr c_2), if_neg c_15, if_pos (Int32.not_le.mp c_15)]) rfl
  · refine lv_aload_n K.1.1 K.1.2.1 dX11_tellsTrader_5 rfl (lv_at hl 0 rfl) ?_
    refine lv_iload_n K.1.1 K.1.2.1 dX11_tellsTrader_6 rfl (lv_at hl 1 rfl) ?_
    refine lv_iload_n K.1.1 K.1.2.1 dX11_tellsTrader_7 rfl (lv_at hl 2 rfl) ?_
    refine m_cV (n := 2) (As := [.int t, .int w]) (rest := []) K hP hS (MX11_ofT l G B _ t w (loT ht (tt_lo hw c_2))) (by decide) sh_259 rfl q_1240 q_1242 q_30 q_91 q_1243 hv_X11_ofT ⟨Nat.le_of_ble_eq_true rfl, Nat.le_of_ble_eq_true rfl⟩ rfl hl.1 rfl (Nat.le_of_ble_eq_true rfl) dX11_tellsTrader_8 ⟨Nat.zero_le _, Nat.zero_le _⟩ (fun H locs hP hS => ?_)
    refine lv_topi (fun r_5 er_5 => ?_)
    exact m_iret K hr hlocks hP hS dX11_tellsTrader_11 (by subst er_5; rw [M_tellsTrader]; simp only [if_neg c_2, if_pos (Int32.not_le.mp c_2)]) rfl

set_option maxHeartbeats 4000000 in
set_option maxRecDepth 100000 in
theorem MX11_trader (l : Launch) (G : GG) (B : Nat) (μ : Mm) (t : Int32) (w : Int32) (hI : MI μ) : CM l yX11_trader (.code yX11_trader cX11_trader 3 (Option.some FieldType.int)) 4 90 G B [.ref (B + 259), .int t, .int w] μ (some (.int ((M_trader μ t w).2))) ((M_trader μ t w).1) := by
  refine CM.of (by decide) (Nat.le_of_ble_eq_true rfl) ?_
  intro p e s m below meth c ls K hr hlocks hP hl
  have hS : va_S (AA B) s.heap s.heap [] := va_S.rf
  have hl : lv_has ls 3 [(0, .ref (B + 259)), (1, .int t), (2, .int w)] := hl
  refine lv_aload_n K.1.1 K.1.2.1 dX11_trader_0 rfl (lv_at hl 0 rfl) ?_
  refine lv_aload_n K.1.1 K.1.2.1 dX11_trader_1 rfl (lv_at hl 0 rfl) ?_
  refine lv_iload_n K.1.1 K.1.2.1 dX11_trader_2 rfl (lv_at hl 1 rfl) ?_
  refine m_cV (n := 1) (As := [.int t]) (rest := [.ref (B + 259)]) K hP hS (MX11_isTrader l G B _ t ) (by decide) sh_259 rfl q_1236 q_1238 q_29 q_91 q_1239 hv_X11_isTrader ⟨Nat.le_of_ble_eq_true rfl, Nat.le_of_ble_eq_true rfl⟩ rfl hl.1 rfl (Nat.le_of_ble_eq_true rfl) dX11_trader_3 ⟨Nat.zero_le _, Nat.zero_le _⟩ (fun H locs hP hS => ?_)
  refine lv_topi (fun r_1 er_1 => ?_)
  refine lv_if_ne (tgt := 13) K.1.1 K.1.2.1 dX11_trader_6 (by decide) (fun c_6 => ?_) (fun c_6 => ?_)
  · refine lv_iload_n K.1.1 K.1.2.1 dX11_trader_13 rfl (lv_at hl 2 rfl) ?_
    refine lv_iconst (v := 0) K.1.1 K.1.2.1 dX11_trader_14 (by decide) ?_
    refine lv_bipush (v := 9) K.1.1 K.1.2.1 dX11_trader_15 (by decide) ?_
    refine m_cS (n := 3) (As := [.int w, .int 0, .int 9]) (rest := [.ref (B + 259)]) K hP hS (MX11_isIn l G B _ w 0 9 ) q_1213 q_1214 q_91 q_1215 hv_X11_isIn ⟨Nat.le_of_ble_eq_true rfl, Nat.le_of_ble_eq_true rfl⟩ rfl hl.1 rfl (Nat.le_of_ble_eq_true rfl) dX11_trader_17 ⟨Nat.zero_le _, Nat.zero_le _⟩ (fun H locs hP hS => ?_)
    refine lv_topi (fun r_2 er_2 => ?_)
    refine lv_if_eq (tgt := 27) K.1.1 K.1.2.1 dX11_trader_20 (by decide) (fun c_20 => ?_) (fun c_20 => ?_)
    · refine lv_iconst (v := 2) K.1.1 K.1.2.1 dX11_trader_27 (by decide) ?_
      refine m_puti K hP hS (by decide) sh_259 rfl tuX11 tyX11 tyX11_ok nmX11 3 (by decide) rfl rfl (by decide +kernel) q_1153 dX11_trader_28 (fun H locs hP hS => ?_)
      refine lv_aload_n K.1.1 K.1.2.1 dX11_trader_31 rfl (lv_at hl 0 rfl) ?_
      refine m_geti K hP (by decide) sh_259 rfl tuX11 3 (by decide) rfl q_1153 dX11_trader_32 ?_
      refine lv_topi (fun g_3 eg_3 => ?_)
      refine lv_if_ne (tgt := 47) K.1.1 K.1.2.1 dX11_trader_35 (by decide) (fun c_35 => ?_) (fun c_35 => ?_)
      · refine lv_iconst (v := 0) K.1.1 K.1.2.1 dX11_trader_47 (by decide) ?_
        exact m_iret K hr hlocks hP hS dX11_trader_48 (by subst er_1 er_2 eg_3; rw [M_trader, M_ask, show M_trErr μ t w = 2 from (if_neg c_6).trans (if_pos c_20)]; rfl) (by subst er_1 er_2 eg_3; rw [M_trader, M_ask, show M_trErr μ t w = 2 from (if_neg c_6).trans (if_pos c_20)]; rfl)
      · exact absurd c_35 (by subst er_1 er_2 eg_3; rw [up2_s]; decide)
    · refine lv_iconst (v := 0) K.1.1 K.1.2.1 dX11_trader_23 (by decide) ?_
      refine lv_goto (tgt := 28) K.1.1 K.1.2.1 dX11_trader_24 (by decide) ?_
      refine m_puti K hP hS (by decide) sh_259 rfl tuX11 tyX11 tyX11_ok nmX11 3 (by decide) rfl rfl (by decide +kernel) q_1153 dX11_trader_28 (fun H locs hP hS => ?_)
      refine lv_aload_n K.1.1 K.1.2.1 dX11_trader_31 rfl (lv_at hl 0 rfl) ?_
      refine m_geti K hP (by decide) sh_259 rfl tuX11 3 (by decide) rfl q_1153 dX11_trader_32 ?_
      refine lv_topi (fun g_4 eg_4 => ?_)
      refine lv_if_ne (tgt := 47) K.1.1 K.1.2.1 dX11_trader_35 (by decide) (fun c_35 => ?_) (fun c_35 => ?_)
      · exact absurd c_35 (not_not_intro (by subst er_1 er_2 eg_4; rw [up2_s]))
      · refine lv_aload_n K.1.1 K.1.2.1 dX11_trader_38 rfl (lv_at hl 0 rfl) ?_
        refine lv_iload_n K.1.1 K.1.2.1 dX11_trader_39 rfl (lv_at hl 1 rfl) ?_
        refine lv_iload_n K.1.1 K.1.2.1 dX11_trader_40 rfl (lv_at hl 2 rfl) ?_
        refine m_cV (n := 2) (As := [.int t, .int w]) (rest := []) K hP hS (MX11_tellsTrader l G B _ t w (by subst er_1 er_2 eg_4; exact MI_ne hI (by decide)) (isTrader_vp hI (by subst er_1 er_2 eg_4; exact c_6)) (wI_vp (n := 9) (by subst er_1 er_2 eg_4; exact c_20))) (by decide) sh_259 rfl q_1403 q_1405 q_63 q_91 q_1406 hv_X11_tellsTrader ⟨Nat.le_of_ble_eq_true rfl, Nat.le_of_ble_eq_true rfl⟩ rfl hl.1 rfl (Nat.le_of_ble_eq_true rfl) dX11_trader_41 ⟨Nat.zero_le _, Nat.zero_le _⟩ (fun H locs hP hS => ?_)
        refine lv_topi (fun r_5 er_5 => ?_)
        refine lv_goto (tgt := 48) K.1.1 K.1.2.1 dX11_trader_44 (by decide) ?_
        exact m_iret K hr hlocks hP hS dX11_trader_48 (by subst er_1 er_2 eg_4 er_5; rw [M_trader, M_ask, show M_trErr μ t w = 0 from (if_neg c_6).trans (if_neg c_20), if_pos rfl]; first | done | rfl) (by subst er_1 er_2 eg_4 er_5; rw [M_trader, M_ask, show M_trErr μ t w = 0 from (if_neg c_6).trans (if_neg c_20), if_pos rfl]; first | done | rfl)
  · refine lv_iconst (v := 1) K.1.1 K.1.2.1 dX11_trader_9 (by decide) ?_
    refine lv_goto (tgt := 28) K.1.1 K.1.2.1 dX11_trader_10 (by decide) ?_
    refine m_puti K hP hS (by decide) sh_259 rfl tuX11 tyX11 tyX11_ok nmX11 3 (by decide) rfl rfl (by decide +kernel) q_1153 dX11_trader_28 (fun H locs hP hS => ?_)
    refine lv_aload_n K.1.1 K.1.2.1 dX11_trader_31 rfl (lv_at hl 0 rfl) ?_
    refine m_geti K hP (by decide) sh_259 rfl tuX11 3 (by decide) rfl q_1153 dX11_trader_32 ?_
    refine lv_topi (fun g_6 eg_6 => ?_)
    refine lv_if_ne (tgt := 47) K.1.1 K.1.2.1 dX11_trader_35 (by decide) (fun c_35 => ?_) (fun c_35 => ?_)
    · refine lv_iconst (v := 0) K.1.1 K.1.2.1 dX11_trader_47 (by decide) ?_
      exact m_iret K hr hlocks hP hS dX11_trader_48 (by subst er_1 eg_6; rw [M_trader, M_ask, show M_trErr μ t w = 1 from if_pos c_6]; rfl) (by subst er_1 eg_6; rw [M_trader, M_ask, show M_trErr μ t w = 1 from if_pos c_6]; rfl)
    · exact absurd c_35 (by subst er_1 eg_6; rw [up2_s]; decide)

