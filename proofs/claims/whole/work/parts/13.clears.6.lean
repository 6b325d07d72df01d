set_option maxHeartbeats 4000000 in
set_option maxRecDepth 100000 in
theorem MX11_outcome (l : Launch) (G : GG) (B : Nat) (μ : Mm) (t : Int32) (hI : MI μ) : CM l yX11_outcome (.code yX11_outcome cX11_outcome 6 (Option.some FieldType.int)) 4 91 G B [.ref (B + 259), .int t] μ (some (.int (M_outcome μ t))) μ := by
  refine CM.of (by decide) (Nat.le_of_ble_eq_true rfl) ?_
  intro p e s m below meth c ls K hr hlocks hP hl
  have hS : va_S (AA B) s.heap s.heap [] := va_S.rf
  have hl : lv_has ls 6 [(0, .ref (B + 259)), (1, .int t)] := hl
  refine lv_iconst (v := 0) K.1.1 K.1.2.1 dX11_outcome_0 (by decide) ?_
  refine lv_istore_n (lv' := [(2, .int 0), (0, .ref (B + 259)), (1, .int t)]) K.1.1 K.1.2.1 dX11_outcome_1 rfl hl (by decide) rfl (fun ls hl => ?_)
  refine lv_iconst (v := 0) K.1.1 K.1.2.1 dX11_outcome_2 (by decide) ?_
  refine lv_istore_n (lv' := [(3, .int 0), (2, .int 0), (0, .ref (B + 259)), (1, .int t)]) K.1.1 K.1.2.1 dX11_outcome_3 rfl hl (by decide) rfl (fun ls hl => ?_)
  refine lv_iconst (v := 0) K.1.1 K.1.2.1 dX11_outcome_4 (by decide) ?_
  refine lv_istore (lv' := [(4, .int 0), (3, .int 0), (2, .int 0), (0, .ref (B + 259)), (1, .int t)]) K.1.1 K.1.2.1 dX11_outcome_5 hl (by decide) rfl (fun ls hl => ?_)
  refine lv_iconst (v := 0) K.1.1 K.1.2.1 dX11_outcome_7 (by decide) ?_
  refine lv_istore (lv' := [(5, .int 0), (4, .int 0), (3, .int 0), (2, .int 0), (0, .ref (B + 259)), (1, .int t)]) K.1.1 K.1.2.1 dX11_outcome_8 hl (by decide) rfl (fun ls hl => ?_)
  refine up_to (N := cn (μ 260 1)) (P := fun k : Nat => ∀ (v5_10 : Int32) (v4_10 : Int32) (v3_10 : Int32) (v2_10 : Int32) (H : Heap) (locs : List Loc) (ls : Array Slot), (v5_10 = nI k) → (v4_10 = M_noneOf μ t k) → (v3_10 = M_allOf μ t k) → (v2_10 = M_cntOf μ t k) → MP G B μ H → va_S (AA B) s.heap H locs → lv_has ls 6 [(5, .int v5_10), (4, .int v4_10), (3, .int v3_10), (2, .int v2_10), (0, .ref (B + 259)), (1, .int t)] → W p l e ({ frames := 4, cells := 0, slots := 0, locals := 91 } : Room) s m ([.ref (B + 259), .int t] : List Value).toArray below meth c H locs 0 0 (MF below G B (some (.int (M_outcome μ t))) μ ([.ref (B + 259), .int t] : List Value).toArray s) (F0 m 10 ls [])) ?_ ?_ _ _ _ _ _ _ _ (by first | rfl | (skip; rfl)) (by first | rfl | (skip; rfl)) (by first | rfl | (skip; rfl)) (by first | rfl | (skip; rfl)) hP hS (lv_sub hl [0, 1, 2, 3, 4, 5] rfl)
  · intro v5_10 v4_10 v3_10 v2_10 H locs ls ev5_10 ev4_10 ev3_10 ev2_10 hP hS hl
    refine lv_iload K.1.1 K.1.2.1 dX11_outcome_10 (lv_at hl 0 rfl) ?_
    refine lv_aload_n K.1.1 K.1.2.1 dX11_outcome_12 rfl (lv_at hl 4 rfl) ?_
    refine m_getr K hP (by decide) sh_259 rfl tuX11 0 (by decide) rfl q_1150 dX11_outcome_13 ?_
    refine lv_iconst (v := 1) K.1.1 K.1.2.1 dX11_outcome_16 (by decide) ?_
    refine m_iald K hP (by decide) sh_260 (n := 267) (vpd rfl) dX11_outcome_17 ?_
    refine lv_topi (fun g_1 eg_1 => ?_)
    have eg_1 : g_1 = (_ : Mm) 260 1 := eg_1
    refine lv_icmp_ge (tgt := 84) K.1.1 K.1.2.1 dX11_outcome_18 (by decide) (fun c_18 => ?_) (fun c_18 => ?_)
    · refine lv_iload_n K.1.1 K.1.2.1 dX11_outcome_84 rfl (lv_at hl 3 rfl) ?_
      refine lv_if_ne (tgt := 92) K.1.1 K.1.2.1 dX11_outcome_85 (by decide) (fun c_85 => ?_) (fun c_85 => ?_)
      · refine lv_iload_n K.1.1 K.1.2.1 dX11_outcome_92 rfl (lv_at hl 2 rfl) ?_
        refine lv_iload_n K.1.1 K.1.2.1 dX11_outcome_93 rfl (lv_at hl 3 rfl) ?_
        refine lv_icmp_ne (tgt := 101) K.1.1 K.1.2.1 dX11_outcome_94 (by decide) (fun c_94 => ?_) (fun c_94 => ?_)
        · refine lv_iload K.1.1 K.1.2.1 dX11_outcome_101 (lv_at hl 1 rfl) ?_
          refine lv_iload_n K.1.1 K.1.2.1 dX11_outcome_103 rfl (lv_at hl 3 rfl) ?_
          refine lv_icmp_ne (tgt := 111) K.1.1 K.1.2.1 dX11_outcome_104 (by decide) (fun c_104 => ?_) (fun c_104 => ?_)
          · refine lv_iconst (v := 0) K.1.1 K.1.2.1 dX11_outcome_111 (by decide) ?_
            exact m_iret K hr hlocks hP hS dX11_outcome_112 (by subst ev5_10 ev4_10 ev3_10 ev2_10 eg_1; rw [M_outcome]; simp only [if_pos c_18, if_neg (Int32.not_lt.mpr c_18), if_neg c_85, if_neg c_94, if_neg c_104]) rfl
          · refine lv_iconst (v := (-1)) K.1.1 K.1.2.1 dX11_outcome_107 (by decide) ?_
            refine lv_goto (tgt := 112) K.1.1 K.1.2.1 dX11_outcome_108 (by decide) ?_
            exact m_iret K hr hlocks hP hS dX11_outcome_112 (by subst ev5_10 ev4_10 ev3_10 ev2_10 eg_1; rw [M_outcome]; simp only [if_pos c_18, if_neg (Int32.not_lt.mpr c_18), if_neg c_85, if_neg c_94, if_pos c_104]) rfl
        · refine lv_iconst (v := 1) K.1.1 K.1.2.1 dX11_outcome_97 (by decide) ?_
          refine lv_goto (tgt := 112) K.1.1 K.1.2.1 dX11_outcome_98 (by decide) ?_
          exact m_iret K hr hlocks hP hS dX11_outcome_112 (by subst ev5_10 ev4_10 ev3_10 ev2_10 eg_1; rw [M_outcome]; simp only [if_pos c_18, if_neg (Int32.not_lt.mpr c_18), if_neg c_85, if_pos c_94]) rfl
      · refine lv_iconst (v := 0) K.1.1 K.1.2.1 dX11_outcome_88 (by decide) ?_
        refine lv_goto (tgt := 112) K.1.1 K.1.2.1 dX11_outcome_89 (by decide) ?_
        exact m_iret K hr hlocks hP hS dX11_outcome_112 (by subst ev5_10 ev4_10 ev3_10 ev2_10 eg_1; rw [M_outcome]; simp only [if_pos c_18, if_neg (Int32.not_lt.mpr c_18), if_pos c_85]) rfl
    · exact absurd c_18 (not_not_intro (by subst ev5_10 ev4_10 ev3_10 ev2_10 eg_1; exact cn_out _))
  · intro k hk ih_10 v5_10 v4_10 v3_10 v2_10 H locs ls ev5_10 ev4_10 ev3_10 ev2_10 hP hS hl
    refine lv_iload K.1.1 K.1.2.1 dX11_outcome_10 (lv_at hl 0 rfl) ?_
    refine lv_aload_n K.1.1 K.1.2.1 dX11_outcome_12 rfl (lv_at hl 4 rfl) ?_
    refine m_getr K hP (by decide) sh_259 rfl tuX11 0 (by decide) rfl q_1150 dX11_outcome_13 ?_
    refine lv_iconst (v := 1) K.1.1 K.1.2.1 dX11_outcome_16 (by decide) ?_
    refine m_iald K hP (by decide) sh_260 (n := 267) (vpd rfl) dX11_outcome_17 ?_
    refine lv_topi (fun g_2 eg_2 => ?_)
    have eg_2 : g_2 = (_ : Mm) 260 1 := eg_2
    refine lv_icmp_ge (tgt := 84) K.1.1 K.1.2.1 dX11_outcome_18 (by decide) (fun c_18 => ?_) (fun c_18 => ?_)
    · exact absurd c_18 (by subst ev5_10 ev4_10 ev3_10 ev2_10 eg_2; exact cn_in hk)
    · refine lv_aload_n K.1.1 K.1.2.1 dX11_outcome_21 rfl (lv_at hl 4 rfl) ?_
      refine lv_iload K.1.1 K.1.2.1 dX11_outcome_22 (lv_at hl 0 rfl) ?_
      refine lv_iconst (v := 1) K.1.1 K.1.2.1 dX11_outcome_24 (by decide) ?_
      refine m_cV (n := 2) (As := [.int v5_10, .int 1]) (rest := []) K hP hS (MX11_ofO l G B _ v5_10 1 (loO (by subst ev5_10 ev4_10 ev3_10 ev2_10 eg_2; first | assumption | exact MI_k hI (by assumption) | exact MI_w hI (by first | assumption | exact MI_k hI (by assumption)) | exact MI_t hI (by assumption)) (vpd rfl))) (by decide) sh_259 rfl q_1291 q_1293 q_39 q_91 q_1294 hv_X11_ofO ⟨Nat.le_of_ble_eq_true rfl, Nat.le_of_ble_eq_true rfl⟩ rfl hl.1 rfl (Nat.le_of_ble_eq_true rfl) dX11_outcome_25 ⟨Nat.zero_le _, Nat.zero_le _⟩ (fun H locs hP hS => ?_)
      refine lv_topi (fun r_3 er_3 => ?_)
      refine lv_iload_n K.1.1 K.1.2.1 dX11_outcome_28 rfl (lv_at hl 5 rfl) ?_
      refine lv_icmp_ne (tgt := 78) K.1.1 K.1.2.1 dX11_outcome_29 (by decide) (fun c_29 => ?_) (fun c_29 => ?_)
      · obtain ⟨x_4, ex_4⟩ : ∃ y : Int32, y = v5_10 + (1) := ⟨_, rfl⟩
        refine lv_iinc (v := x_4) (lv' := [(5, .int x_4), (4, .int v4_10), (3, .int v3_10), (2, .int v2_10), (0, .ref (B + 259)), (1, .int t)]) K.1.1 K.1.2.1 dX11_outcome_78 hl (k := 0) rfl (by rw [ex_4]; rfl) (by decide) rfl (fun ls hl => ?_)
        refine lv_goto (tgt := 10) K.1.1 K.1.2.1 dX11_outcome_81 (by decide) ?_
        exact ih_10 _ _ _ _ _ _ _ (by subst ev5_10 ev4_10 ev3_10 ev2_10 eg_2 er_3 ex_4; exact nI_1 _) (by subst ev5_10 ev4_10 ev3_10 ev2_10 eg_2 er_3 ex_4; simp only [M_cntOf, M_allOf, M_noneOf, sumI, if_neg c_18, if_pos (Int32.not_le.mp c_18), if_neg c_29]; try simp only [Int32.add_zero]) (by subst ev5_10 ev4_10 ev3_10 ev2_10 eg_2 er_3 ex_4; simp only [M_cntOf, M_allOf, M_noneOf, sumI, if_neg c_18, if_pos (Int32.not_le.mp c_18), if_neg c_29]; try simp only [Int32.add_zero]) (by subst ev5_10 ev4_10 ev3_10 ev2_10 eg_2 er_3 ex_4; simp only [M_cntOf, M_allOf, M_noneOf, sumI, if_neg c_18, if_pos (Int32.not_le.mp c_18), if_neg c_29]; try simp only [Int32.add_zero]) hP hS (lv_sub hl [0, 1, 2, 3, 4, 5] rfl)
      · obtain ⟨x_5, ex_5⟩ : ∃ y : Int32, y = v2_10 + (1) := ⟨_, rfl⟩
        refine lv_iinc (v := x_5) (lv' := [(2, .int x_5), (5, .int v5_10), (4, .int v4_10), (3, .int v3_10), (0, .ref (B + 259)), (1, .int t)]) K.1.1 K.1.2.1 dX11_outcome_32 hl (k := 3) rfl (by rw [ex_5]; rfl) (by decide) rfl (fun ls hl => ?_)
        refine lv_iload_n K.1.1 K.1.2.1 dX11_outcome_35 rfl (lv_at hl 3 rfl) ?_
        refine lv_aload_n K.1.1 K.1.2.1 dX11_outcome_36 rfl (lv_at hl 4 rfl) ?_
        refine lv_iload K.1.1 K.1.2.1 dX11_outcome_37 (lv_at hl 1 rfl) ?_
        refine m_cV (n := 1) (As := [.int v5_10]) (rest := [.int v3_10]) K hP hS (MX11_fillOf l G B _ v5_10 hI (by subst ev5_10 ev4_10 ev3_10 ev2_10 eg_2 er_3 ex_5; first | assumption | exact MI_k hI (by assumption) | exact MI_w hI (by first | assumption | exact MI_k hI (by assumption)) | exact MI_t hI (by assumption))) (by decide) sh_259 rfl q_1363 q_1365 q_54 q_91 q_1366 hv_X11_fillOf ⟨Nat.le_of_ble_eq_true rfl, Nat.le_of_ble_eq_true rfl⟩ rfl hl.1 rfl (Nat.le_of_ble_eq_true rfl) dX11_outcome_39 ⟨Nat.zero_le _, Nat.zero_le _⟩ (fun H locs hP hS => ?_)
        refine lv_topi (fun r_6 er_6 => ?_)
        refine lv_aload_n K.1.1 K.1.2.1 dX11_outcome_42 rfl (lv_at hl 4 rfl) ?_
        refine lv_iload K.1.1 K.1.2.1 dX11_outcome_43 (lv_at hl 1 rfl) ?_
        refine lv_iconst (v := 3) K.1.1 K.1.2.1 dX11_outcome_45 (by decide) ?_
        refine m_cV (n := 2) (As := [.int v5_10, .int 3]) (rest := [.int r_6, .int v3_10]) K hP hS (MX11_ofO l G B _ v5_10 3 (loO (by subst ev5_10 ev4_10 ev3_10 ev2_10 eg_2 er_3 ex_5 er_6; first | assumption | exact MI_k hI (by assumption) | exact MI_w hI (by first | assumption | exact MI_k hI (by assumption)) | exact MI_t hI (by assumption)) (vpd rfl))) (by decide) sh_259 rfl q_1291 q_1293 q_39 q_91 q_1294 hv_X11_ofO ⟨Nat.le_of_ble_eq_true rfl, Nat.le_of_ble_eq_true rfl⟩ rfl hl.1 rfl (Nat.le_of_ble_eq_true rfl) dX11_outcome_46 ⟨Nat.zero_le _, Nat.zero_le _⟩ (fun H locs hP hS => ?_)
        refine lv_topi (fun r_7 er_7 => ?_)
        refine lv_icmp_ne (tgt := 56) K.1.1 K.1.2.1 dX11_outcome_49 (by decide) (fun c_49 => ?_) (fun c_49 => ?_)
        · refine lv_iconst (v := 0) K.1.1 K.1.2.1 dX11_outcome_56 (by decide) ?_
          refine lv_iadd K.1.1 K.1.2.1 dX11_outcome_57 ?_
          refine lv_topi (fun x_8 ex_8 => ?_)
          refine lv_istore_n (lv' := [(3, .int x_8), (2, .int x_5), (5, .int v5_10), (4, .int v4_10), (0, .ref (B + 259)), (1, .int t)]) K.1.1 K.1.2.1 dX11_outcome_58 rfl hl (by decide) rfl (fun ls hl => ?_)
          refine lv_iload K.1.1 K.1.2.1 dX11_outcome_59 (lv_at hl 3 rfl) ?_
          refine lv_aload_n K.1.1 K.1.2.1 dX11_outcome_61 rfl (lv_at hl 4 rfl) ?_
          refine lv_iload K.1.1 K.1.2.1 dX11_outcome_62 (lv_at hl 2 rfl) ?_
          refine m_cV (n := 1) (As := [.int v5_10]) (rest := [.int v4_10]) K hP hS (MX11_fillOf l G B _ v5_10 hI (by subst ev5_10 ev4_10 ev3_10 ev2_10 eg_2 er_3 ex_5 er_6 er_7 ex_8; first | assumption | exact MI_k hI (by assumption) | exact MI_w hI (by first | assumption | exact MI_k hI (by assumption)) | exact MI_t hI (by assumption))) (by decide) sh_259 rfl q_1363 q_1365 q_54 q_91 q_1366 hv_X11_fillOf ⟨Nat.le_of_ble_eq_true rfl, Nat.le_of_ble_eq_true rfl⟩ rfl hl.1 rfl (Nat.le_of_ble_eq_true rfl) dX11_outcome_64 ⟨Nat.zero_le _, Nat.zero_le _⟩ (fun H locs hP hS => ?_)
          refine lv_topi (fun r_9 er_9 => ?_)
          refine lv_if_ne (tgt := 74) K.1.1 K.1.2.1 dX11_outcome_67 (by decide) (fun c_67 => ?_) (fun c_67 => ?_)
          · refine lv_iconst (v := 0) K.1.1 K.1.2.1 dX11_outcome_74 (by decide) ?_
            refine lv_iadd K.1.1 K.1.2.1 dX11_outcome_75 ?_
            refine lv_topi (fun x_10 ex_10 => ?_)
            refine lv_istore (lv' := [(4, .int x_10), (3, .int x_8), (2, .int x_5), (5, .int v5_10), (0, .ref (B + 259)), (1, .int t)]) K.1.1 K.1.2.1 dX11_outcome_76 hl (by decide) rfl (fun ls hl => ?_)
            obtain ⟨x_11, ex_11⟩ : ∃ y : Int32, y = v5_10 + (1) := ⟨_, rfl⟩
            refine lv_iinc (v := x_11) (lv' := [(5, .int x_11), (4, .int x_10), (3, .int x_8), (2, .int x_5), (0, .ref (B + 259)), (1, .int t)]) K.1.1 K.1.2.1 dX11_outcome_78 hl (k := 3) rfl (by rw [ex_11]; rfl) (by decide) rfl (fun ls hl => ?_)
            refine lv_goto (tgt := 10) K.1.1 K.1.2.1 dX11_outcome_81 (by decide) ?_
            exact ih_10 _ _ _ _ _ _ _ (by subst ev5_10 ev4_10 ev3_10 ev2_10 eg_2 er_3 ex_5 er_6 er_7 ex_8 er_9 ex_10 ex_11; exact nI_1 _) (by subst ev5_10 ev4_10 ev3_10 ev2_10 eg_2 er_3 ex_5 er_6 er_7 ex_8 er_9 ex_10 ex_11; simp only [M_cntOf, M_allOf, M_noneOf, sumI, if_neg c_18, if_pos (Int32.not_le.mp c_18), if_pos c_29, if_neg c_49, if_neg c_67]; try simp only [Int32.add_zero]) (by subst ev5_10 ev4_10 ev3_10 ev2_10 eg_2 er_3 ex_5 er_6 er_7 ex_8 er_9 ex_10 ex_11; simp only [M_cntOf, M_allOf, M_noneOf, sumI, if_neg c_18, if_pos (Int32.not_le.mp c_18), if_pos c_29, if_neg c_49, if_neg c_67]; try simp only [Int32.add_zero]) (by subst ev5_10 ev4_10 ev3_10 ev2_10 eg_2 er_3 ex_5 er_6 er_7 ex_8 er_9 ex_10 ex_11; simp only [M_cntOf, M_allOf, M_noneOf, sumI, if_neg c_18, if_pos (Int32.not_le.mp c_18), if_pos c_29, if_neg c_49, if_neg c_67]; try simp only [Int32.add_zero]) hP hS (lv_sub hl [0, 1, 2, 3, 4, 5] rfl)
          · refine lv_iconst (v := 1) K.1.1 K.1.2.1 dX11_outcome_70 (by decide) ?_
            refine lv_goto (tgt := 75) K.1.1 K.1.2.1 dX11_outcome_71 (by decide) ?_
            refine lv_iadd K.1.1 K.1.2.1 dX11_outcome_75 ?_
            refine lv_topi (fun x_12 ex_12 => ?_)
            refine lv_istore (lv' := [(4, .int x_12), (3, .int x_8), (2, .int x_5), (5, .int v5_10), (0, .ref (B + 259)), (1, .int t)]) K.1.1 K.1.2.1 dX11_outcome_76 hl (by decide) rfl (fun ls hl => ?_)
            obtain ⟨x_13, ex_13⟩ : ∃ y : Int32, y = v5_10 + (1) := ⟨_, rfl⟩
            refine lv_iinc (v := x_13) (lv' := [(5, .int x_13), (4, .int x_12), (3, .int x_8), (2, .int x_5), (0, .ref (B + 259)), (1, .int t)]) K.1.1 K.1.2.1 dX11_outcome_78 hl (k := 3) rfl (by rw [ex_13]; rfl) (by decide) rfl (fun ls hl => ?_)
            refine lv_goto (tgt := 10) K.1.1 K.1.2.1 dX11_outcome_81 (by decide) ?_
            exact ih_10 _ _ _ _ _ _ _ (by subst ev5_10 ev4_10 ev3_10 ev2_10 eg_2 er_3 ex_5 er_6 er_7 ex_8 er_9 ex_12 ex_13; exact nI_1 _) (by subst ev5_10 ev4_10 ev3_10 ev2_10 eg_2 er_3 ex_5 er_6 er_7 ex_8 er_9 ex_12 ex_13; simp only [M_cntOf, M_allOf, M_noneOf, sumI, if_neg c_18, if_pos (Int32.not_le.mp c_18), if_pos c_29, if_neg c_49, if_pos c_67]; try simp only [Int32.add_zero]) (by subst ev5_10 ev4_10 ev3_10 ev2_10 eg_2 er_3 ex_5 er_6 er_7 ex_8 er_9 ex_12 ex_13; simp only [M_cntOf, M_allOf, M_noneOf, sumI, if_neg c_18, if_pos (Int32.not_le.mp c_18), if_pos c_29, if_neg c_49, if_pos c_67]; try simp only [Int32.add_zero]) (by subst ev5_10 ev4_10 ev3_10 ev2_10 eg_2 er_3 ex_5 er_6 er_7 ex_8 er_9 ex_12 ex_13; simp only [M_cntOf, M_allOf, M_noneOf, sumI, if_neg c_18, if_pos (Int32.not_le.mp c_18), if_pos c_29, if_neg c_49, if_pos c_67]; try simp only [Int32.add_zero]) hP hS (lv_sub hl [0, 1, 2, 3, 4, 5] rfl)
        · refine lv_iconst (v := 1) K.1.1 K.1.2.1 dX11_outcome_52 (by decide) ?_
          refine lv_goto (tgt := 57) K.1.1 K.1.2.1 dX11_outcome_53 (by decide) ?_
          refine lv_iadd K.1.1 K.1.2.1 dX11_outcome_57 ?_
          refine lv_topi (fun x_14 ex_14 => ?_)
          refine lv_istore_n (lv' := [(3, .int x_14), (2, .int x_5), (5, .int v5_10), (4, .int v4_10), (0, .ref (B + 259)), (1, .int t)]) K.1.1 K.1.2.1 dX11_outcome_58 rfl hl (by decide) rfl (fun ls hl => ?_)
          refine lv_iload K.1.1 K.1.2.1 dX11_outcome_59 (lv_at hl 3 rfl) ?_
          refine lv_aload_n K.1.1 K.1.2.1 dX11_outcome_61 rfl (lv_at hl 4 rfl) ?_
          refine lv_iload K.1.1 K.1.2.1 dX11_outcome_62 (lv_at hl 2 rfl) ?_
          refine m_cV (n := 1) (As := [.int v5_10]) (rest := [.int v4_10]) K hP hS (MX11_fillOf l G B _ v5_10 hI (by subst ev5_10 ev4_10 ev3_10 ev2_10 eg_2 er_3 ex_5 er_6 er_7 ex_14; first | assumption | exact MI_k hI (by assumption) | exact MI_w hI (by first | assumption | exact MI_k hI (by assumption)) | exact MI_t hI (by assumption))) (by decide) sh_259 rfl q_1363 q_1365 q_54 q_91 q_1366 hv_X11_fillOf ⟨Nat.le_of_ble_eq_true rfl, Nat.le_of_ble_eq_true rfl⟩ rfl hl.1 rfl (Nat.le_of_ble_eq_true rfl) dX11_outcome_64 ⟨Nat.zero_le _, Nat.zero_le _⟩ (fun H locs hP hS => ?_)
          refine lv_topi (fun r_15 er_15 => ?_)
          refine lv_if_ne (tgt := 74) K.1.1 K.1.2.1 dX11_outcome_67 (by decide) (fun c_67 => ?_) (fun c_67 => ?_)
          · refine lv_iconst (v := 0) K.1.1 K.1.2.1 dX11_outcome_74 (by decide) ?_
            refine lv_iadd K.1.1 K.1.2.1 dX11_outcome_75 ?_
            refine lv_topi (fun x_16 ex_16 => ?_)
            refine lv_istore (lv' := [(4, .int x_16), (3, .int x_14), (2, .int x_5), (5, .int v5_10), (0, .ref (B + 259)), (1, .int t)]) K.1.1 K.1.2.1 dX11_outcome_76 hl (by decide) rfl (fun ls hl => ?_)
            obtain ⟨x_17, ex_17⟩ : ∃ y : Int32, y = v5_10 + (1) := ⟨_, rfl⟩
            refine lv_iinc (v := x_17) (lv' := [(5, .int x_17), (4, .int x_16), (3, .int x_14), (2, .int x_5), (0, .ref (B + 259)), (1, .int t)]) K.1.1 K.1.2.1 dX11_outcome_78 hl (k := 3) rfl (by rw [ex_17]; rfl) (by decide) rfl (fun ls hl => ?_)
            refine lv_goto (tgt := 10) K.1.1 K.1.2.1 dX11_outcome_81 (by decide) ?_
            exact ih_10 _ _ _ _ _ _ _ (by subst ev5_10 ev4_10 ev3_10 ev2_10 eg_2 er_3 ex_5 er_6 er_7 ex_14 er_15 ex_16 ex_17; exact nI_1 _) (by subst ev5_10 ev4_10 ev3_10 ev2_10 eg_2 er_3 ex_5 er_6 er_7 ex_14 er_15 ex_16 ex_17; simp only [M_cntOf, M_allOf, M_noneOf, sumI, if_neg c_18, if_pos (Int32.not_le.mp c_18), if_pos c_29, if_pos c_49, if_neg c_67]; try simp only [Int32.add_zero]) (by subst ev5_10 ev4_10 ev3_10 ev2_10 eg_2 er_3 ex_5 er_6 er_7 ex_14 er_15 ex_16 ex_17; simp only [M_cntOf, M_allOf, M_noneOf, sumI, if_neg c_18, if_pos (Int32.not_le.mp c_18), if_pos c_29, if_pos c_49, if_neg c_67]; try simp only [Int32.add_zero]) (by subst ev5_10 ev4_10 ev3_10 ev2_10 eg_2 er_3 ex_5 er_6 er_7 ex_14 er_15 ex_16 ex_17; simp only [M_cntOf, M_allOf, M_noneOf, sumI, if_neg c_18, if_pos (Int32.not_le.mp c_18), if_pos c_29, if_pos c_49, if_neg c_67]; try simp only [Int32.add_zero]) hP hS (lv_sub hl [0, 1, 2, 3, 4, 5] rfl)
          · refine lv_iconst (v := 1) K.1.1 K.1.2.1 dX11_outcome_70 (by decide) ?_
            refine lv_goto (tgt := 75) K.1.1 K.1.2.1 dX11_outcome_71 (by decide) ?_
            refine lv_iadd K.1.1 K.1.2.1 dX11_outcome_75 ?_
            refine lv_topi (fun x_18 ex_18 => ?_)
            refine lv_istore (lv' := [(4, .int x_18), (3, .int x_14), (2, .int x_5), (5, .int v5_10), (0, .ref (B + 259)), (1, .int t)]) K.1.1 K.1.2.1 dX11_outcome_76 hl (by decide) rfl (fun ls hl => ?_)
            obtain ⟨x_19, ex_19⟩ : ∃ y : Int32, y = v5_10 + (1) := ⟨_, rfl⟩
            refine lv_iinc (v := x_19) (lv' := [(5, .int x_19), (4, .int x_18), (3, .int x_14), (2, .int x_5), (0, .ref (B + 259)), (1, .int t)]) K.1.1 K.1.2.1 dX11_outcome_78 hl (k := 3) rfl (by rw [ex_19]; rfl) (by decide) rfl (fun ls hl => ?_)
            refine lv_goto (tgt := 10) K.1.1 K.1.2.1 dX11_outcome_81 (by decide) ?_
            exact ih_10 _ _ _ _ _ _ _ (by subst ev5_10 ev4_10 ev3_10 ev2_10 eg_2 er_3 ex_5 er_6 er_7 ex_14 er_15 ex_18 ex_19; exact nI_1 _) (by subst ev5_10 ev4_10 ev3_10 ev2_10 eg_2 er_3 ex_5 er_6 er_7 ex_14 er_15 ex_18 ex_19; simp only [M_cntOf, M_allOf, M_noneOf, sumI, if_neg c_18, if_pos (Int32.not_le.mp c_18), if_pos c_29, if_pos c_49, if_pos c_67]; try simp only [Int32.add_zero]) (by subst ev5_10 ev4_10 ev3_10 ev2_10 eg_2 er_3 ex_5 er_6 er_7 ex_14 er_15 ex_18 ex_19; simp only [M_cntOf, M_allOf, M_noneOf, sumI, if_neg c_18, if_pos (Int32.not_le.mp c_18), if_pos c_29, if_pos c_49, if_pos c_67]; try simp only [Int32.add_zero]) (by subst ev5_10 ev4_10 ev3_10 ev2_10 eg_2 er_3 ex_5 er_6 er_7 ex_14 er_15 ex_18 ex_19; simp only [M_cntOf, M_allOf, M_noneOf, sumI, if_neg c_18, if_pos (Int32.not_le.mp c_18), if_pos c_29, if_pos c_49, if_pos c_67]; try simp only [Int32.add_zero]) hP hS (lv_sub hl [0, 1, 2, 3, 4, 5] rfl)

set_option maxHeartbeats 4000000 in
set_option maxRecDepth 100000 in
theorem MX11_learns (l : Launch) (G : GG) (B : Nat) (μ : Mm) (t : Int32) (hI : MI μ) (ht : vp_in t 8) : CM l yX11_learns (.code yX11_learns cX11_learns 3 Option.none) 5 116 G B [.ref (B + 259), .int t] μ none (M_learns μ t) := by
  refine CM.of (by decide) (Nat.le_of_ble_eq_true rfl) ?_
  intro p e s m below meth c ls K hr hlocks hP hl
  have hS : va_S (AA B) s.heap s.heap [] := va_S.rf
  have hl : lv_has ls 3 [(0, .ref (B + 259)), (1, .int t)] := hl
  refine lv_aload_n K.1.1 K.1.2.1 dX11_learns_0 rfl (lv_at hl 0 rfl) ?_
  refine lv_iload_n K.1.1 K.1.2.1 dX11_learns_1 rfl (lv_at hl 1 rfl) ?_
  refine lv_iconst (v := 3) K.1.1 K.1.2.1 dX11_learns_2 (by decide) ?_
  refine m_cV (n := 2) (As := [.int t, .int 3]) (rest := []) K hP hS (MX11_ofT l G B _ t 3 (loT ht (vpd rfl))) (by decide) sh_259 rfl q_1240 q_1242 q_30 q_91 q_1243 hv_X11_ofT ⟨Nat.le_of_ble_eq_true rfl, Nat.le_of_ble_eq_true rfl⟩ rfl hl.1 rfl (Nat.le_of_ble_eq_true rfl) dX11_learns_3 ⟨Nat.zero_le _, Nat.zero_le _⟩ (fun H locs hP hS => ?_)
  refine lv_topi (fun r_1 er_1 => ?_)
  refine lv_aload_n K.1.1 K.1.2.1 dX11_learns_6 rfl (lv_at hl 0 rfl) ?_
  refine lv_iload_n K.1.1 K.1.2.1 dX11_learns_7 rfl (lv_at hl 1 rfl) ?_
  refine m_cV (n := 1) (As := [.int t]) (rest := [.int r_1]) K hP hS (MX11_outcome l G B _ t hI) (by decide) sh_259 rfl q_1391 q_1393 q_61 q_91 q_1394 hv_X11_outcome ⟨Nat.le_of_ble_eq_true rfl, Nat.le_of_ble_eq_true rfl⟩ rfl hl.1 rfl (Nat.le_of_ble_eq_true rfl) dX11_learns_8 ⟨Nat.zero_le _, Nat.zero_le _⟩ (fun H locs hP hS => ?_)
  refine lv_topi (fun r_2 er_2 => ?_)
  refine lv_iadd K.1.1 K.1.2.1 dX11_learns_11 ?_
  refine lv_topi (fun x_3 ex_3 => ?_)
  refine lv_istore_n (lv' := [(2, .int x_3), (0, .ref (B + 259)), (1, .int t)]) K.1.1 K.1.2.1 dX11_learns_12 rfl hl (by decide) rfl (fun ls hl => ?_)
  refine lv_aload_n K.1.1 K.1.2.1 dX11_learns_13 rfl (lv_at hl 1 rfl) ?_
  refine lv_iload_n K.1.1 K.1.2.1 dX11_learns_14 rfl (lv_at hl 2 rfl) ?_
  refine lv_iconst (v := 2) K.1.1 K.1.2.1 dX11_learns_15 (by decide) ?_
  refine m_cV (n := 2) (As := [.int t, .int 2]) (rest := []) K hP hS (MX11_ofT l G B _ t 2 (loT ht (vpd rfl))) (by decide) sh_259 rfl q_1240 q_1242 q_30 q_91 q_1243 hv_X11_ofT ⟨Nat.le_of_ble_eq_true rfl, Nat.le_of_ble_eq_true rfl⟩ rfl hl.1 rfl (Nat.le_of_ble_eq_true rfl) dX11_learns_16 ⟨Nat.zero_le _, Nat.zero_le _⟩ (fun H locs hP hS => ?_)
  refine lv_topi (fun r_4 er_4 => ?_)
  refine lv_iconst (v := 3) K.1.1 K.1.2.1 dX11_learns_19 (by decide) ?_
  refine lv_icmp_ne (tgt := 40) K.1.1 K.1.2.1 dX11_learns_20 (by decide) (fun c_20 => ?_) (fun c_20 => ?_)
  · exact m_vret K hr hlocks hP hS dX11_learns_40 rfl (by subst er_1 er_2 ex_3 er_4; rw [M_learns]; simp only [if_neg c_20])
  · refine lv_iload_n K.1.1 K.1.2.1 dX11_learns_23 rfl (lv_at hl 0 rfl) ?_
    refine lv_iconst (v := 0) K.1.1 K.1.2.1 dX11_learns_24 (by decide) ?_
    refine lv_bipush (v := 50) K.1.1 K.1.2.1 dX11_learns_25 (by decide) ?_
    refine m_cS (n := 3) (As := [.int x_3, .int 0, .int 50]) (rest := []) K hP hS (MX11_isIn l G B _ x_3 0 50 ) q_1213 q_1214 q_91 q_1215 hv_X11_isIn ⟨Nat.le_of_ble_eq_true rfl, Nat.le_of_ble_eq_true rfl⟩ rfl hl.1 rfl (Nat.le_of_ble_eq_true rfl) dX11_learns_27 ⟨Nat.zero_le _, Nat.zero_le _⟩ (fun H locs hP hS => ?_)
    refine lv_topi (fun r_5 er_5 => ?_)
    refine lv_if_eq (tgt := 40) K.1.1 K.1.2.1 dX11_learns_30 (by decide) (fun c_30 => ?_) (fun c_30 => ?_)
    · exact m_vret K hr hlocks hP hS dX11_learns_40 rfl (by subst er_1 er_2 ex_3 er_4 er_5; rw [M_learns]; simp only [if_pos c_20, if_pos c_30])
    · refine lv_aload_n K.1.1 K.1.2.1 dX11_learns_33 rfl (lv_at hl 1 rfl) ?_
      refine lv_iload_n K.1.1 K.1.2.1 dX11_learns_34 rfl (lv_at hl 2 rfl) ?_
      refine lv_iconst (v := 3) K.1.1 K.1.2.1 dX11_learns_35 (by decide) ?_
      refine lv_iload_n K.1.1 K.1.2.1 dX11_learns_36 rfl (lv_at hl 0 rfl) ?_
      refine m_cV (n := 3) (As := [.int t, .int 3, .int x_3]) (rest := []) K hP hS (MX11_setsT l G B _ t 3 x_3 (loT ht (vpd rfl))) (by decide) sh_259 rfl q_1228 q_1230 q_28 q_91 q_1231 hv_X11_setsT ⟨Nat.le_of_ble_eq_true rfl, Nat.le_of_ble_eq_true rfl⟩ rfl hl.1 rfl (Nat.le_of_ble_eq_true rfl) dX11_learns_37 ⟨Nat.zero_le _, Nat.zero_le _⟩ (fun H locs hP hS => ?_)
      refine W.eq (g2 := F0 m 40 ls []) rfl ?_
      exact m_vret K hr hlocks hP hS dX11_learns_40 rfl (by subst er_1 er_2 ex_3 er_4 er_5; rw [M_learns]; simp only [if_pos c_20, if_neg c_30])

def M_st2 (μ : Mm) (t u : Int32) : Mm := M_setT (M_setT μ t 5 (M_t μ t 5 + M_gainsOf μ t)) t 4 (M_t (M_setT μ t 5 (M_t μ t 5 + M_gainsOf μ t)) t 4 + u)
theorem settles_e {μ : Mm} {t p q : Int32} (hp : M_paid μ t = p) (hq : (if M_t (M_st2 μ t (M_takenOf μ t)) t 0 = 0 then -p else p) = q) : M_settles μ t = M_setT (M_st2 μ t (M_takenOf μ t)) t 6 (M_t (M_st2 μ t (M_takenOf μ t)) t 6 + q) := by
  subst hp
  subst hq
  rfl
theorem EM_p {n : Nat} {μ : Mm} (h : M_o (EM_set n μ) (nI n) 3 = 0) : EM (n + 1) μ = EM n (M_removes (EM_set n μ) (nI n)) := by rw [EM, if_pos h]
theorem EM_n {n : Nat} {μ : Mm} (h : ¬ M_o (EM_set n μ) (nI n) 3 = 0) : EM (n + 1) μ = EM n (EM_set n μ) := by rw [EM, if_neg h]

