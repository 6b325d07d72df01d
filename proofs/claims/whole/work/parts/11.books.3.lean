set_option maxHeartbeats 4000000 in
set_option maxRecDepth 100000 in
theorem MX10_bestShade (l : Launch) (G : GG) (B : Nat) (μ : Mm) (t : Int32) (h1 : T_faultOfNumber μ (1 + 1) t = 0) : CM l yX10_bestShade (.code yX10_bestShade cX10_bestShade 2 (Option.some FieldType.int)) 5 117 G B [.ref (B + 0), .int t] μ (some (.int (X_bestShade μ t))) (X_bestShadeM μ t) := by
  refine CM.of (by decide) (Nat.le_of_ble_eq_true rfl) ?_
  intro p e s m below meth c ls K hr hlocks hP hl
  have hS : va_S (AA B) s.heap s.heap [] := va_S.rf
  have hl : lv_has ls 2 [(0, .ref (B + 0)), (1, .int t)] := hl
  refine lv_aload_n K.1.1 K.1.2.1 dX10_bestShade_0 rfl (lv_at hl 0 rfl) ?_
  refine m_getr K hP (by decide) sh_0 rfl tuX10 0 (by decide) rfl q_387 dX10_bestShade_1 ?_
  refine m_getr K hP isA_1.1 isA_1.2.1 rfl tuX1 0 (by decide) rfl q_246 dX10_bestShade_4 ?_
  refine lv_iload_n K.1.1 K.1.2.1 dX10_bestShade_7 rfl (lv_at hl 1 rfl) ?_
  refine m_cV (n := 1) (As := [.int t]) (rest := []) K hP hS (MX6_faultOfNumber l G B _ (1 + 1) isA_1.2.2.1 t ) isA_1.2.2.1.1 isA_1.2.2.1.2.1 rfl q_996 q_997 q_998 q_84 q_999 hv_X6_faultOfNumber ⟨Nat.le_of_ble_eq_true rfl, Nat.le_of_ble_eq_true rfl⟩ rfl hl.1 rfl (Nat.le_of_ble_eq_true rfl) dX10_bestShade_8 ⟨Nat.zero_le _, Nat.zero_le _⟩ (fun H locs hP hS => ?_)
  refine lv_topi (fun r_1 er_1 => ?_)
  have hz_11 : r_1 = 0 := (by subst er_1; exact h1)
  subst hz_11
  refine m_cS (n := 1) (As := [.int 0]) (rest := []) K hP hS (MX10_refuse l G B _  ) q_831 q_832 q_82 q_833 hv_X10_refuse ⟨Nat.le_of_ble_eq_true rfl, Nat.le_of_ble_eq_true rfl⟩ rfl hl.1 rfl (Nat.le_of_ble_eq_true rfl) dX10_bestShade_11 ⟨Nat.zero_le _, Nat.zero_le _⟩ (fun H locs hP hS => ?_)
  refine W.eq (g2 := F0 m 14 ls []) rfl ?_
  refine lv_aload_n K.1.1 K.1.2.1 dX10_bestShade_14 rfl (lv_at hl 0 rfl) ?_
  refine m_getr K hP (by decide) sh_0 rfl tuX10 0 (by decide) rfl q_387 dX10_bestShade_15 ?_
  refine m_getr K hP isA_1.1 isA_1.2.1 rfl tuX1 1 (by decide) rfl q_250 dX10_bestShade_18 ?_
  refine m_cV (n := 0) (As := []) (rest := []) K hP hS (MX4_isFull l G B _ (1 + 16) isA_1.2.2.2.1 ) isA_1.2.2.2.1.1 isA_1.2.2.2.1.2.1 rfl q_1083 q_588 q_589 q_86 q_590 hv_X4_isFull ⟨Nat.le_of_ble_eq_true rfl, Nat.le_of_ble_eq_true rfl⟩ rfl hl.1 rfl (Nat.le_of_ble_eq_true rfl) dX10_bestShade_21 ⟨Nat.zero_le _, Nat.zero_le _⟩ (fun H locs hP hS => ?_)
  refine lv_topi (fun r_2 er_2 => ?_)
  refine lv_if_eq (tgt := 31) K.1.1 K.1.2.1 dX10_bestShade_24 (by decide) (fun c_24 => ?_) (fun c_24 => ?_)
  · refine lv_aload_n K.1.1 K.1.2.1 dX10_bestShade_31 rfl (lv_at hl 0 rfl) ?_
    refine m_getr K hP (by decide) sh_0 rfl tuX10 1 (by decide) rfl q_388 dX10_bestShade_32 ?_
    refine lv_aload_n K.1.1 K.1.2.1 dX10_bestShade_35 rfl (lv_at hl 0 rfl) ?_
    refine m_getr K hP (by decide) sh_0 rfl tuX10 0 (by decide) rfl q_387 dX10_bestShade_36 ?_
    refine m_cV (n := 1) (As := [.ref (B + 1)]) (rest := []) K hP hS (MX1_copyFrom l G B _ 41 isA_41 1 isA_1 ) isA_41.1 isA_41.2.1 rfl q_1084 q_529 q_530 q_83 q_531 hv_X1_copyFrom ⟨Nat.le_of_ble_eq_true rfl, Nat.le_of_ble_eq_true rfl⟩ rfl hl.1 rfl (Nat.le_of_ble_eq_true rfl) dX10_bestShade_39 ⟨Nat.zero_le _, Nat.zero_le _⟩ (fun H locs hP hS => ?_)
    refine W.eq (g2 := F0 m 42 ls []) rfl ?_
    refine lv_aload_n K.1.1 K.1.2.1 dX10_bestShade_42 rfl (lv_at hl 0 rfl) ?_
    refine m_getr K hP (by decide) sh_0 rfl tuX10 1 (by decide) rfl q_388 dX10_bestShade_43 ?_
    refine lv_iload_n K.1.1 K.1.2.1 dX10_bestShade_46 rfl (lv_at hl 1 rfl) ?_
    refine lv_iconst (v := 1) K.1.1 K.1.2.1 dX10_bestShade_47 (by decide) ?_
    refine lv_iconst (v := 1) K.1.1 K.1.2.1 dX10_bestShade_48 (by decide) ?_
    refine m_cV (n := 3) (As := [.int t, .int 1, .int 1]) (rest := []) K hP hS (MX1_place l G B _ 41 isA_41 t 1 1 ) isA_41.1 isA_41.2.1 rfl q_642 q_643 q_644 q_83 q_645 hv_X1_place ⟨Nat.le_of_ble_eq_true rfl, Nat.le_of_ble_eq_true rfl⟩ rfl hl.1 rfl (Nat.le_of_ble_eq_true rfl) dX10_bestShade_49 ⟨Nat.zero_le _, Nat.zero_le _⟩ (fun H locs hP hS => ?_)
    refine lv_topi (fun r_3 er_3 => ?_)
    refine lv_pop K.1.1 K.1.2.1 dX10_bestShade_52 rfl ?_
    refine lv_aload_n K.1.1 K.1.2.1 dX10_bestShade_53 rfl (lv_at hl 0 rfl) ?_
    refine lv_iload_n K.1.1 K.1.2.1 dX10_bestShade_54 rfl (lv_at hl 1 rfl) ?_
    refine m_cV (n := 1) (As := [.int t]) (rest := []) K hP hS (MX10_bestShadeOfLastOrder l G B _ t ) (by decide) sh_0 rfl q_1098 q_1100 q_22 q_82 q_1101 hv_X10_bestShadeOfLastOrder ⟨Nat.le_of_ble_eq_true rfl, Nat.le_of_ble_eq_true rfl⟩ rfl hl.1 rfl (Nat.le_of_ble_eq_true rfl) dX10_bestShade_55 ⟨Nat.zero_le _, Nat.zero_le _⟩ (fun H locs hP hS => ?_)
    refine lv_topi (fun r_4 er_4 => ?_)
    exact m_iret K hr hlocks hP hS dX10_bestShade_58 (by subst er_2 er_3 er_4; first | (rw [X_bestShade, if_pos c_24]; done) | (rw [X_bestShade, if_pos c_24]; rfl) | (rw [X_bestShade, if_neg c_24]; done) | (rw [X_bestShade, if_neg c_24]; rfl)) (by subst er_2 er_3 er_4; first | (rw [X_bestShadeM, if_pos c_24]; done) | (rw [X_bestShadeM, if_pos c_24]; rfl) | (rw [X_bestShadeM, if_neg c_24]; done) | (rw [X_bestShadeM, if_neg c_24]; rfl))
  · refine lv_sipush (v := (-10000)) K.1.1 K.1.2.1 dX10_bestShade_27 (by decide) ?_
    exact m_iret K hr hlocks hP hS dX10_bestShade_30 (by subst er_2; first | (rw [X_bestShade, if_pos c_24]; done) | (rw [X_bestShade, if_pos c_24]; rfl) | (rw [X_bestShade, if_neg c_24]; done) | (rw [X_bestShade, if_neg c_24]; rfl)) (by subst er_2; first | (rw [X_bestShadeM, if_pos c_24]; done) | (rw [X_bestShadeM, if_pos c_24]; rfl) | (rw [X_bestShadeM, if_neg c_24]; done) | (rw [X_bestShadeM, if_neg c_24]; rfl))

set_option maxHeartbeats 4000000 in
set_option maxRecDepth 100000 in
theorem MX10_bestSplit (l : Launch) (G : GG) (B : Nat) (μ : Mm) (t : Int32) (h1 : T_faultOfNumber μ (1 + 1) t = 0) : CM l yX10_bestSplit (.code yX10_bestSplit cX10_bestSplit 6 (Option.some FieldType.int)) 4 91 G B [.ref (B + 0), .int t] μ (some (.int (X_bestSplit μ t))) (C_settle μ 1) := by
  refine CM.of (by decide) (Nat.le_of_ble_eq_true rfl) ?_
  intro p e s m below meth c ls K hr hlocks hP hl
  have hS : va_S (AA B) s.heap s.heap [] := va_S.rf
  have hl : lv_has ls 6 [(0, .ref (B + 0)), (1, .int t)] := hl
  refine lv_aload_n K.1.1 K.1.2.1 dX10_bestSplit_0 rfl (lv_at hl 0 rfl) ?_
  refine m_getr K hP (by decide) sh_0 rfl tuX10 0 (by decide) rfl q_387 dX10_bestSplit_1 ?_
  refine m_getr K hP isA_1.1 isA_1.2.1 rfl tuX1 0 (by decide) rfl q_246 dX10_bestSplit_4 ?_
  refine lv_iload_n K.1.1 K.1.2.1 dX10_bestSplit_7 rfl (lv_at hl 1 rfl) ?_
  refine m_cV (n := 1) (As := [.int t]) (rest := []) K hP hS (MX6_faultOfNumber l G B _ (1 + 1) isA_1.2.2.1 t ) isA_1.2.2.1.1 isA_1.2.2.1.2.1 rfl q_996 q_997 q_998 q_84 q_999 hv_X6_faultOfNumber ⟨Nat.le_of_ble_eq_true rfl, Nat.le_of_ble_eq_true rfl⟩ rfl hl.1 rfl (Nat.le_of_ble_eq_true rfl) dX10_bestSplit_8 ⟨Nat.zero_le _, Nat.zero_le _⟩ (fun H locs hP hS => ?_)
  refine lv_topi (fun r_1 er_1 => ?_)
  have hz_11 : r_1 = 0 := (by subst er_1; exact h1)
  subst hz_11
  refine m_cS (n := 1) (As := [.int 0]) (rest := []) K hP hS (MX10_refuse l G B _  ) q_831 q_832 q_82 q_833 hv_X10_refuse ⟨Nat.le_of_ble_eq_true rfl, Nat.le_of_ble_eq_true rfl⟩ rfl hl.1 rfl (Nat.le_of_ble_eq_true rfl) dX10_bestSplit_11 ⟨Nat.zero_le _, Nat.zero_le _⟩ (fun H locs hP hS => ?_)
  refine W.eq (g2 := F0 m 14 ls []) rfl ?_
  refine lv_aload_n K.1.1 K.1.2.1 dX10_bestSplit_14 rfl (lv_at hl 0 rfl) ?_
  refine m_getr K hP (by decide) sh_0 rfl tuX10 2 (by decide) rfl q_389 dX10_bestSplit_15 ?_
  refine lv_aload_n K.1.1 K.1.2.1 dX10_bestSplit_18 rfl (lv_at hl 0 rfl) ?_
  refine m_getr K hP (by decide) sh_0 rfl tuX10 0 (by decide) rfl q_387 dX10_bestSplit_19 ?_
  refine m_cV (n := 1) (As := [.ref (B + 1)]) (rest := []) K hP hS (MX2_settle l G B _ 1 isA_1 ) (by decide) sh_81 rfl q_771 q_673 q_674 q_88 q_675 hv_X2_settle ⟨Nat.le_of_ble_eq_true rfl, Nat.le_of_ble_eq_true rfl⟩ rfl hl.1 rfl (Nat.le_of_ble_eq_true rfl) dX10_bestSplit_22 ⟨Nat.zero_le _, Nat.zero_le _⟩ (fun H locs hP hS => ?_)
  refine W.eq (g2 := F0 m 25 ls []) rfl ?_
  refine lv_aload_n K.1.1 K.1.2.1 dX10_bestSplit_25 rfl (lv_at hl 0 rfl) ?_
  refine m_getr K hP (by decide) sh_0 rfl tuX10 2 (by decide) rfl q_389 dX10_bestSplit_26 ?_
  refine m_geti K hP (by decide) sh_81 rfl tuX2 3 (by decide) rfl q_300 dX10_bestSplit_29 ?_
  refine lv_topi (fun g_2 eg_2 => ?_)
  refine lv_if_ne (tgt := 39) K.1.1 K.1.2.1 dX10_bestSplit_32 (by decide) (fun c_32 => ?_) (fun c_32 => ?_)
  · refine lv_iconst (v := 0) K.1.1 K.1.2.1 dX10_bestSplit_39 (by decide) ?_
    refine lv_istore_n (lv' := [(2, .int 0), (0, .ref (B + 0)), (1, .int t)]) K.1.1 K.1.2.1 dX10_bestSplit_40 rfl hl (by decide) rfl (fun ls hl => ?_)
    refine lv_aload_n K.1.1 K.1.2.1 dX10_bestSplit_41 rfl (lv_at hl 1 rfl) ?_
    refine m_getr K hP (by decide) sh_0 rfl tuX10 2 (by decide) rfl q_389 dX10_bestSplit_42 ?_
    refine lv_aload_n K.1.1 K.1.2.1 dX10_bestSplit_45 rfl (lv_at hl 1 rfl) ?_
    refine m_getr K hP (by decide) sh_0 rfl tuX10 0 (by decide) rfl q_387 dX10_bestSplit_46 ?_
    refine lv_iload_n K.1.1 K.1.2.1 dX10_bestSplit_49 rfl (lv_at hl 2 rfl) ?_
    refine lv_aload_n K.1.1 K.1.2.1 dX10_bestSplit_50 rfl (lv_at hl 1 rfl) ?_
    refine m_getr K hP (by decide) sh_0 rfl tuX10 2 (by decide) rfl q_389 dX10_bestSplit_51 ?_
    refine lv_iconst (v := 0) K.1.1 K.1.2.1 dX10_bestSplit_54 (by decide) ?_
    refine m_cV (n := 1) (As := [.int 0]) (rest := [.int t, .ref (B + 1), .ref (B + 81)]) K hP hS (MX2_priceWith l G B _ 0 ) (by decide) sh_81 rfl q_1110 q_703 q_704 q_88 q_705 hv_X2_priceWith ⟨Nat.le_of_ble_eq_true rfl, Nat.le_of_ble_eq_true rfl⟩ rfl hl.1 rfl (Nat.le_of_ble_eq_true rfl) dX10_bestSplit_55 ⟨Nat.zero_le _, Nat.zero_le _⟩ (fun H locs hP hS => ?_)
    refine lv_topi (fun r_3 er_3 => ?_)
    refine m_cV (n := 3) (As := [.ref (B + 1), .int t, .int r_3]) (rest := []) K hP hS (MX2_gainOf l G B _ 1 isA_1 t r_3 ) (by decide) sh_81 rfl q_1085 q_1086 q_1087 q_88 q_1088 hv_X2_gainOf ⟨Nat.le_of_ble_eq_true rfl, Nat.le_of_ble_eq_true rfl⟩ rfl hl.1 rfl (Nat.le_of_ble_eq_true rfl) dX10_bestSplit_58 ⟨Nat.zero_le _, Nat.zero_le _⟩ (fun H locs hP hS => ?_)
    refine lv_topi (fun r_4 er_4 => ?_)
    refine lv_istore_n (lv' := [(3, .int r_4), (2, .int 0), (0, .ref (B + 0)), (1, .int t)]) K.1.1 K.1.2.1 dX10_bestSplit_61 rfl hl (by decide) rfl (fun ls hl => ?_)
    refine lv_iconst (v := 1) K.1.1 K.1.2.1 dX10_bestSplit_62 (by decide) ?_
    refine lv_istore (lv' := [(4, .int 1), (3, .int r_4), (2, .int 0), (0, .ref (B + 0)), (1, .int t)]) K.1.1 K.1.2.1 dX10_bestSplit_63 hl (by decide) rfl (fun ls hl => ?_)
    refine up_to (N := NN 10) (P := fun k : Nat => ∀ (v4_65 : Int32) (v3_65 : Int32) (v2_65 : Int32) (μ_65 : Mm) (H : Heap) (locs : List Loc) (ls : Array Slot), (v4_65 = nI (k + 1)) → (v3_65 = (SP_run (C_settle μ 1) t k).2) → (v2_65 = (SP_run (C_settle μ 1) t k).1) → (μ_65 = C_settle μ 1) → MP G B μ_65 H → va_S (AA B) s.heap H locs → lv_has ls 6 [(4, .int v4_65), (3, .int v3_65), (2, .int v2_65), (0, .ref (B + 0)), (1, .int t)] → W p l e ({ frames := 4, cells := 0, slots := 0, locals := 91 } : Room) s m ([.ref (B + 0), .int t] : List Value).toArray below meth c H locs 0 0 (MF below G B (some (.int (X_bestSplit μ t))) (C_settle μ 1) ([.ref (B + 0), .int t] : List Value).toArray s) (F0 m 65 ls [])) ?_ ?_ _ _ _ _ _ _ _ (by first | rfl | (subst eg_2 er_3 er_4; rfl)) (by first | rfl | (subst eg_2 er_3 er_4; rfl)) (by first | rfl | (subst eg_2 er_3 er_4; rfl)) (by first | rfl | (subst eg_2 er_3 er_4; rfl)) hP hS (lv_sub hl [0, 1, 2, 3, 4] rfl)
    · intro v4_65 v3_65 v2_65 μ_65 H locs ls ev4_65 ev3_65 ev2_65 eμ_65 hP hS hl
      refine lv_iload K.1.1 K.1.2.1 dX10_bestSplit_65 (lv_at hl 0 rfl) ?_
      refine lv_bipush (v := 10) K.1.1 K.1.2.1 dX10_bestSplit_67 (by decide) ?_
      refine lv_icmp_gt (tgt := 113) K.1.1 K.1.2.1 dX10_bestSplit_69 (by decide) (fun c_69 => ?_) (fun c_69 => ?_)
      · refine lv_iload_n K.1.1 K.1.2.1 dX10_bestSplit_113 rfl (lv_at hl 2 rfl) ?_
        exact m_iret K hr hlocks hP hS dX10_bestSplit_114 (by subst eg_2 er_3 er_4 ev4_65 ev3_65 ev2_65 eμ_65; first | (rw [X_bestSplit, if_pos c_32]; done) | (rw [X_bestSplit, if_pos c_32]; rfl) | (rw [X_bestSplit, if_neg c_32]; done) | (rw [X_bestSplit, if_neg c_32]; rfl)) (by subst eg_2 er_3 er_4 ev4_65 ev3_65 ev2_65 eμ_65; rfl)
      · exact absurd c_69 (not_not_intro (by subst eg_2 er_3 er_4 ev4_65 ev3_65 ev2_65 eμ_65; rw [NN_eq]; decide))
    · intro k hk ih_65 v4_65 v3_65 v2_65 μ_65 H locs ls ev4_65 ev3_65 ev2_65 eμ_65 hP hS hl
      rw [NN_eq] at hk
      refine lv_iload K.1.1 K.1.2.1 dX10_bestSplit_65 (lv_at hl 0 rfl) ?_
      refine lv_bipush (v := 10) K.1.1 K.1.2.1 dX10_bestSplit_67 (by decide) ?_
      refine lv_icmp_gt (tgt := 113) K.1.1 K.1.2.1 dX10_bestSplit_69 (by decide) (fun c_69 => ?_) (fun c_69 => ?_)
      · exact absurd c_69 (by subst eg_2 er_3 er_4 ev4_65 ev3_65 ev2_65 eμ_65; exact Int32.not_lt.mpr (nI_le (a := k + 1) (b := 10) (by omega) (by decide)))
      · refine lv_aload_n K.1.1 K.1.2.1 dX10_bestSplit_72 rfl (lv_at hl 3 rfl) ?_
        refine m_getr K hP (by decide) sh_0 rfl tuX10 2 (by decide) rfl q_389 dX10_bestSplit_73 ?_
        refine lv_aload_n K.1.1 K.1.2.1 dX10_bestSplit_76 rfl (lv_at hl 3 rfl) ?_
        refine m_getr K hP (by decide) sh_0 rfl tuX10 0 (by decide) rfl q_387 dX10_bestSplit_77 ?_
        refine lv_iload_n K.1.1 K.1.2.1 dX10_bestSplit_80 rfl (lv_at hl 4 rfl) ?_
        refine lv_aload_n K.1.1 K.1.2.1 dX10_bestSplit_81 rfl (lv_at hl 3 rfl) ?_
        refine m_getr K hP (by decide) sh_0 rfl tuX10 2 (by decide) rfl q_389 dX10_bestSplit_82 ?_
        refine lv_iload K.1.1 K.1.2.1 dX10_bestSplit_85 (lv_at hl 0 rfl) ?_
        refine m_cV (n := 1) (As := [.int v4_65]) (rest := [.int t, .ref (B + 1), .ref (B + 81)]) K hP hS (MX2_priceWith l G B _ v4_65 ) (by decide) sh_81 rfl q_1110 q_703 q_704 q_88 q_705 hv_X2_priceWith ⟨Nat.le_of_ble_eq_true rfl, Nat.le_of_ble_eq_true rfl⟩ rfl hl.1 rfl (Nat.le_of_ble_eq_true rfl) dX10_bestSplit_87 ⟨Nat.zero_le _, Nat.zero_le _⟩ (fun H locs hP hS => ?_)
        refine lv_topi (fun r_5 er_5 => ?_)
        refine m_cV (n := 3) (As := [.ref (B + 1), .int t, .int r_5]) (rest := []) K hP hS (MX2_gainOf l G B _ 1 isA_1 t r_5 ) (by decide) sh_81 rfl q_1085 q_1086 q_1087 q_88 q_1088 hv_X2_gainOf ⟨Nat.le_of_ble_eq_true rfl, Nat.le_of_ble_eq_true rfl⟩ rfl hl.1 rfl (Nat.le_of_ble_eq_true rfl) dX10_bestSplit_90 ⟨Nat.zero_le _, Nat.zero_le _⟩ (fun H locs hP hS => ?_)
        refine lv_topi (fun r_6 er_6 => ?_)
        refine lv_istore (lv' := [(5, .int r_6), (4, .int v4_65), (3, .int v3_65), (2, .int v2_65), (0, .ref (B + 0)), (1, .int t)]) K.1.1 K.1.2.1 dX10_bestSplit_93 hl (by decide) rfl (fun ls hl => ?_)
        refine lv_iload K.1.1 K.1.2.1 dX10_bestSplit_95 (lv_at hl 0 rfl) ?_
        refine lv_iload_n K.1.1 K.1.2.1 dX10_bestSplit_97 rfl (lv_at hl 2 rfl) ?_
        refine lv_icmp_le (tgt := 107) K.1.1 K.1.2.1 dX10_bestSplit_98 (by decide) (fun c_98 => ?_) (fun c_98 => ?_)
        · obtain ⟨x_7, ex_7⟩ : ∃ y : Int32, y = v4_65 + (1) := ⟨_, rfl⟩
          refine lv_iinc (v := x_7) (lv' := [(4, .int x_7), (5, .int r_6), (3, .int v3_65), (2, .int v2_65), (0, .ref (B + 0)), (1, .int t)]) K.1.1 K.1.2.1 dX10_bestSplit_107 hl (k := 1) rfl (by rw [ex_7]; rfl) (by decide) rfl (fun ls hl => ?_)
          refine lv_goto (tgt := 65) K.1.1 K.1.2.1 dX10_bestSplit_110 (by decide) ?_
          exact ih_65 _ _ _ _ _ _ _ (by subst eg_2 er_3 er_4 ev4_65 ev3_65 ev2_65 eμ_65 er_5 er_6 ex_7; exact nI_1 _) (by subst eg_2 er_3 er_4 ev4_65 ev3_65 ev2_65 eμ_65 er_5 er_6 ex_7; rw [SP_run_s]; first | (rw [if_pos (show (SP_run (C_settle μ 1) t k).2 < SP_gain (C_settle μ 1) t (k + 1) from Int32.not_le.mp c_98)]; first | done | rfl) | (rw [if_neg (show ¬ (SP_run (C_settle μ 1) t k).2 < SP_gain (C_settle μ 1) t (k + 1) from Int32.not_lt.mpr c_98)]; first | done | rfl)) (by subst eg_2 er_3 er_4 ev4_65 ev3_65 ev2_65 eμ_65 er_5 er_6 ex_7; rw [SP_run_s]; first | (rw [if_pos (show (SP_run (C_settle μ 1) t k).2 < SP_gain (C_settle μ 1) t (k + 1) from Int32.not_le.mp c_98)]; first | done | rfl) | (rw [if_neg (show ¬ (SP_run (C_settle μ 1) t k).2 < SP_gain (C_settle μ 1) t (k + 1) from Int32.not_lt.mpr c_98)]; first | done | rfl)) (by subst eg_2 er_3 er_4 ev4_65 ev3_65 ev2_65 eμ_65 er_5 er_6 ex_7; rfl) hP hS (lv_sub hl [0, 2, 3, 4, 5] rfl)
        · refine lv_iload K.1.1 K.1.2.1 dX10_bestSplit_101 (lv_at hl 0 rfl) ?_
          refine lv_istore_n (lv' := [(3, .int r_6), (5, .int r_6), (4, .int v4_65), (2, .int v2_65), (0, .ref (B + 0)), (1, .int t)]) K.1.1 K.1.2.1 dX10_bestSplit_103 rfl hl (by decide) rfl (fun ls hl => ?_)
          refine lv_iload K.1.1 K.1.2.1 dX10_bestSplit_104 (lv_at hl 2 rfl) ?_
          refine lv_istore_n (lv' := [(2, .int v4_65), (3, .int r_6), (5, .int r_6), (4, .int v4_65), (0, .ref (B + 0)), (1, .int t)]) K.1.1 K.1.2.1 dX10_bestSplit_106 rfl hl (by decide) rfl (fun ls hl => ?_)
          obtain ⟨x_8, ex_8⟩ : ∃ y : Int32, y = v4_65 + (1) := ⟨_, rfl⟩
          refine lv_iinc (v := x_8) (lv' := [(4, .int x_8), (2, .int v4_65), (3, .int r_6), (5, .int r_6), (0, .ref (B + 0)), (1, .int t)]) K.1.1 K.1.2.1 dX10_bestSplit_107 hl (k := 3) rfl (by rw [ex_8]; rfl) (by decide) rfl (fun ls hl => ?_)
          refine lv_goto (tgt := 65) K.1.1 K.1.2.1 dX10_bestSplit_110 (by decide) ?_
          exact ih_65 _ _ _ _ _ _ _ (by subst eg_2 er_3 er_4 ev4_65 ev3_65 ev2_65 eμ_65 er_5 er_6 ex_8; exact nI_1 _) (by subst eg_2 er_3 er_4 ev4_65 ev3_65 ev2_65 eμ_65 er_5 er_6 ex_8; rw [SP_run_s]; first | (rw [if_pos (show (SP_run (C_settle μ 1) t k).2 < SP_gain (C_settle μ 1) t (k + 1) from Int32.not_le.mp c_98)]; first | done | rfl) | (rw [if_neg (show ¬ (SP_run (C_settle μ 1) t k).2 < SP_gain (C_settle μ 1) t (k + 1) from Int32.not_lt.mpr c_98)]; first | done | rfl)) (by subst eg_2 er_3 er_4 ev4_65 ev3_65 ev2_65 eμ_65 er_5 er_6 ex_8; rw [SP_run_s]; first | (rw [if_pos (show (SP_run (C_settle μ 1) t k).2 < SP_gain (C_settle μ 1) t (k + 1) from Int32.not_le.mp c_98)]; first | done | rfl) | (rw [if_neg (show ¬ (SP_run (C_settle μ 1) t k).2 < SP_gain (C_settle μ 1) t (k + 1) from Int32.not_lt.mpr c_98)]; first | done | rfl)) (by subst eg_2 er_3 er_4 ev4_65 ev3_65 ev2_65 eμ_65 er_5 er_6 ex_8; rfl) hP hS (lv_sub hl [0, 2, 1, 4, 5] rfl)
  · refine lv_sipush (v := (-10000)) K.1.1 K.1.2.1 dX10_bestSplit_35 (by decide) ?_
    exact m_iret K hr hlocks hP hS dX10_bestSplit_38 (by subst eg_2; first | (rw [X_bestSplit, if_pos c_32]; done) | (rw [X_bestSplit, if_pos c_32]; rfl) | (rw [X_bestSplit, if_neg c_32]; done) | (rw [X_bestSplit, if_neg c_32]; rfl)) (by subst eg_2; rfl)

set_option maxHeartbeats 4000000 in
set_option maxRecDepth 100000 in
theorem MX10_goneIn (l : Launch) (G : GG) (B : Nat) (μ : Mm) (n : Int32) (h1 : O_faultOfNumber μ (1 + 16) n = 0) (hc : ¬ A_copy μ 41 1 (41 + 16) 0 < 0) : CM l yX10_goneIn (.code yX10_goneIn cX10_goneIn 3 (Option.some FieldType.int)) 5 114 G B [.ref (B + 0), .int n] μ (some (.int ((X_goneIn μ n).2))) ((X_goneIn μ n).1) := by
  refine CM.of (by decide) (Nat.le_of_ble_eq_true rfl) ?_
  intro p e s m below meth c ls K hr hlocks hP hl
  have hS : va_S (AA B) s.heap s.heap [] := va_S.rf
  have hl : lv_has ls 3 [(0, .ref (B + 0)), (1, .int n)] := hl
  refine lv_aload_n K.1.1 K.1.2.1 dX10_goneIn_0 rfl (lv_at hl 0 rfl) ?_
  refine m_getr K hP (by decide) sh_0 rfl tuX10 0 (by decide) rfl q_387 dX10_goneIn_1 ?_
  refine m_getr K hP isA_1.1 isA_1.2.1 rfl tuX1 1 (by decide) rfl q_250 dX10_goneIn_4 ?_
  refine lv_iload_n K.1.1 K.1.2.1 dX10_goneIn_7 rfl (lv_at hl 1 rfl) ?_
  refine m_cV (n := 1) (As := [.int n]) (rest := []) K hP hS (MX4_faultOfNumber l G B _ (1 + 16) isA_1.2.2.2.1 n ) isA_1.2.2.2.1.1 isA_1.2.2.2.1.2.1 rfl q_592 q_593 q_594 q_86 q_595 hv_X4_faultOfNumber ⟨Nat.le_of_ble_eq_true rfl, Nat.le_of_ble_eq_true rfl⟩ rfl hl.1 rfl (Nat.le_of_ble_eq_true rfl) dX10_goneIn_8 ⟨Nat.zero_le _, Nat.zero_le _⟩ (fun H locs hP hS => ?_)
  refine lv_topi (fun r_1 er_1 => ?_)
  have hz_11 : r_1 = 0 := (by subst er_1; exact h1)
  subst hz_11
  refine m_cS (n := 1) (As := [.int 0]) (rest := []) K hP hS (MX10_refuse l G B _  ) q_831 q_832 q_82 q_833 hv_X10_refuse ⟨Nat.le_of_ble_eq_true rfl, Nat.le_of_ble_eq_true rfl⟩ rfl hl.1 rfl (Nat.le_of_ble_eq_true rfl) dX10_goneIn_11 ⟨Nat.zero_le _, Nat.zero_le _⟩ (fun H locs hP hS => ?_)
  refine W.eq (g2 := F0 m 14 ls []) rfl ?_
  refine lv_aload_n K.1.1 K.1.2.1 dX10_goneIn_14 rfl (lv_at hl 0 rfl) ?_
  refine m_getr K hP (by decide) sh_0 rfl tuX10 1 (by decide) rfl q_388 dX10_goneIn_15 ?_
  refine lv_aload_n K.1.1 K.1.2.1 dX10_goneIn_18 rfl (lv_at hl 0 rfl) ?_
  refine m_getr K hP (by decide) sh_0 rfl tuX10 0 (by decide) rfl q_387 dX10_goneIn_19 ?_
  refine m_cV (n := 1) (As := [.ref (B + 1)]) (rest := []) K hP hS (MX1_copyFrom l G B _ 41 isA_41 1 isA_1 ) isA_41.1 isA_41.2.1 rfl q_1084 q_529 q_530 q_83 q_531 hv_X1_copyFrom ⟨Nat.le_of_ble_eq_true rfl, Nat.le_of_ble_eq_true rfl⟩ rfl hl.1 rfl (Nat.le_of_ble_eq_true rfl) dX10_goneIn_22 ⟨Nat.zero_le _, Nat.zero_le _⟩ (fun H locs hP hS => ?_)
  refine W.eq (g2 := F0 m 25 ls []) rfl ?_
  refine lv_iconst (v := 1) K.1.1 K.1.2.1 dX10_goneIn_25 (by decide) ?_
  refine lv_istore_n (lv' := [(2, .int 1), (0, .ref (B + 0)), (1, .int n)]) K.1.1 K.1.2.1 dX10_goneIn_26 rfl hl (by decide) rfl (fun ls hl => ?_)
  have lp_27 : ∀ f : Nat, ∀ (v2_27 : Int32) (μ_27 : Mm) (H : Heap) (locs : List Loc) (ls : Array Slot), (f ≤ 8) → (¬ μ_27 (41 + 16) 0 < 0) → (v2_27 = nI (9 - f)) → (GI n (NN 8) (A_copy μ 41 1) 1 = GI n f μ_27 v2_27) → MP G B μ_27 H → va_S (AA B) s.heap H locs → lv_has ls 3 [(2, .int v2_27), (0, .ref (B + 0)), (1, .int n)] → W p l e ({ frames := 5, cells := 0, slots := 0, locals := 114 } : Room) s m ([.ref (B + 0), .int n] : List Value).toArray below meth c H locs 0 0 (MF below G B (some (.int ((X_goneIn μ n).2))) ((X_goneIn μ n).1) ([.ref (B + 0), .int n] : List Value).toArray s) (F0 m 27 ls []) := by
    intro f
    induction f with
    | zero =>
      intro v2_27 μ_27 H locs ls inv0_27 inv1_27 inv2_27 fin0_27 hP hS hl
      refine lv_iload_n K.1.1 K.1.2.1 dX10_goneIn_27 rfl (lv_at hl 0 rfl) ?_
      refine lv_bipush (v := 9) K.1.1 K.1.2.1 dX10_goneIn_28 (by decide) ?_
      refine lv_icmp_ge (tgt := 67) K.1.1 K.1.2.1 dX10_goneIn_30 (by decide) (fun c_30 => ?_) (fun c_30 => ?_)
      · refine lv_bipush (v := 9) K.1.1 K.1.2.1 dX10_goneIn_67 (by decide) ?_
        exact m_iret K hr hlocks hP hS dX10_goneIn_69 (by subst inv2_27; rw [X_goneIn, fin0_27]; first | rfl | (rw [GI, if_pos (Int32.not_le.mp c_56)])) (by subst inv2_27; rw [X_goneIn, fin0_27]; first | rfl | (rw [GI, if_pos (Int32.not_le.mp c_56)]))
      · exact absurd c_30 (not_not_intro (by subst inv2_27; decide))
    | succ f ih_27 =>
      intro v2_27 μ_27 H locs ls inv0_27 inv1_27 inv2_27 fin0_27 hP hS hl
      refine lv_iload_n K.1.1 K.1.2.1 dX10_goneIn_27 rfl (lv_at hl 0 rfl) ?_
      refine lv_bipush (v := 9) K.1.1 K.1.2.1 dX10_goneIn_28 (by decide) ?_
      refine lv_icmp_ge (tgt := 67) K.1.1 K.1.2.1 dX10_goneIn_30 (by decide) (fun c_30 => ?_) (fun c_30 => ?_)
      · exact absurd c_30 (by subst inv2_27; exact nI_ge (a := 9 - (f + 1)) (b := 9) (by omega) (by decide))
      · refine lv_aload_n K.1.1 K.1.2.1 dX10_goneIn_33 rfl (lv_at hl 1 rfl) ?_
        refine m_getr K hP (by decide) sh_0 rfl tuX10 1 (by decide) rfl q_388 dX10_goneIn_34 ?_
        refine lv_aload_n K.1.1 K.1.2.1 dX10_goneIn_37 rfl (lv_at hl 1 rfl) ?_
        refine m_getr K hP (by decide) sh_0 rfl tuX10 2 (by decide) rfl q_389 dX10_goneIn_38 ?_
        refine m_cV (n := 1) (As := [.ref (B + 81)]) (rest := []) K hP hS (MX1_endRound l G B _ 41 isA_41 inv1_27) isA_41.1 isA_41.2.1 rfl q_668 q_669 q_670 q_83 q_671 hv_X1_endRound ⟨Nat.le_of_ble_eq_true rfl, Nat.le_of_ble_eq_true rfl⟩ rfl hl.1 rfl (Nat.le_of_ble_eq_true rfl) dX10_goneIn_41 ⟨Nat.zero_le _, Nat.zero_le _⟩ (fun H locs hP hS => ?_)
        refine lv_topi (fun r_2 er_2 => ?_)
        refine lv_pop K.1.1 K.1.2.1 dX10_goneIn_44 rfl ?_
        refine lv_aload_n K.1.1 K.1.2.1 dX10_goneIn_45 rfl (lv_at hl 1 rfl) ?_
        refine m_getr K hP (by decide) sh_0 rfl tuX10 1 (by decide) rfl q_388 dX10_goneIn_46 ?_
        refine m_getr K hP isA_41.1 isA_41.2.1 rfl tuX1 1 (by decide) rfl q_250 dX10_goneIn_49 ?_
        refine lv_iload_n K.1.1 K.1.2.1 dX10_goneIn_52 rfl (lv_at hl 2 rfl) ?_
        refine m_cV (n := 1) (As := [.int n]) (rest := []) K hP hS (MX4_indexOf l G B _ (41 + 16) isA_41.2.2.2.1 n ) isA_41.2.2.2.1.1 isA_41.2.2.2.1.2.1 rfl q_1012 q_597 q_598 q_86 q_599 hv_X4_indexOf ⟨Nat.le_of_ble_eq_true rfl, Nat.le_of_ble_eq_true rfl⟩ rfl hl.1 rfl (Nat.le_of_ble_eq_true rfl) dX10_goneIn_53 ⟨Nat.zero_le _, Nat.zero_le _⟩ (fun H locs hP hS => ?_)
        refine lv_topi (fun r_3 er_3 => ?_)
        refine lv_if_ge (tgt := 61) K.1.1 K.1.2.1 dX10_goneIn_56 (by decide) (fun c_56 => ?_) (fun c_56 => ?_)
        · obtain ⟨x_4, ex_4⟩ : ∃ y : Int32, y = v2_27 + (1) := ⟨_, rfl⟩
          refine lv_iinc (v := x_4) (lv' := [(2, .int x_4), (0, .ref (B + 0)), (1, .int n)]) K.1.1 K.1.2.1 dX10_goneIn_61 hl (k := 0) rfl (by rw [ex_4]; rfl) (by decide) rfl (fun ls hl => ?_)
          refine lv_goto (tgt := 27) K.1.1 K.1.2.1 dX10_goneIn_64 (by decide) ?_
          exact ih_27 _ _ _ _ _ (by omega) (by subst inv2_27 er_2 er_3 ex_4; exact A_endM_nn isA_41.2.2.2.1 inv1_27) (by subst inv2_27 er_2 er_3 ex_4; rw [nI_1, show 9 - (f + 1) + 1 = 9 - f by omega]) (by subst inv2_27 er_2 er_3 ex_4; rw [fin0_27, GI, if_neg (Int32.not_lt.mpr c_56)]) hP hS (lv_sub hl [0, 1, 2] rfl)
        · refine lv_iload_n K.1.1 K.1.2.1 dX10_goneIn_59 rfl (lv_at hl 0 rfl) ?_
          exact m_iret K hr hlocks hP hS dX10_goneIn_60 (by subst inv2_27 er_2 er_3; rw [X_goneIn, fin0_27]; first | rfl | (rw [GI, if_pos (Int32.not_le.mp c_56)])) (by subst inv2_27 er_2 er_3; rw [X_goneIn, fin0_27]; first | rfl | (rw [GI, if_pos (Int32.not_le.mp c_56)]))
  exact lp_27 (NN 8) _ _ _ _ _ (by rw [NN_eq]; exact Nat.le_refl _) (by exact hc) (by rw [NN_eq]; rfl) (by rfl) hP hS (lv_sub hl [0, 1, 2] rfl)

set_option maxHeartbeats 4000000 in
set_option maxRecDepth 100000 in
theorem MX10_type (l : Launch) (G : GG) (B : Nat) (μ : Mm) (v : Int32) (h1 : D_faultOfByte μ v = 0) : CM l yX10_type (.code yX10_type cX10_type 2 (Option.some FieldType.int)) 2 43 G B [.ref (B + 0), .int v] μ (some (.int (D_appendM μ v 254 0))) (D_appendM μ v) := by
  refine CM.of (by decide) (Nat.le_of_ble_eq_true rfl) ?_
  intro p e s m below meth c ls K hr hlocks hP hl
  have hS : va_S (AA B) s.heap s.heap [] := va_S.rf
  have hl : lv_has ls 2 [(0, .ref (B + 0)), (1, .int v)] := hl
  refine lv_aload_n K.1.1 K.1.2.1 dX10_type_0 rfl (lv_at hl 0 rfl) ?_
  refine m_getr K hP (by decide) sh_0 rfl tuX10 4 (by decide) rfl q_391 dX10_type_1 ?_
  refine lv_iload_n K.1.1 K.1.2.1 dX10_type_4 rfl (lv_at hl 1 rfl) ?_
  refine m_cV (n := 1) (As := [.int v]) (rest := []) K hP hS (MX3_faultOfByte l G B _ v ) (by decide) sh_254 rfl q_1125 q_1126 q_1127 q_90 q_1128 hv_X3_faultOfByte ⟨Nat.le_of_ble_eq_true rfl, Nat.le_of_ble_eq_true rfl⟩ rfl hl.1 rfl (Nat.le_of_ble_eq_true rfl) dX10_type_5 ⟨Nat.zero_le _, Nat.zero_le _⟩ (fun H locs hP hS => ?_)
  refine lv_topi (fun r_1 er_1 => ?_)
  have hz_8 : r_1 = 0 := (by subst er_1; exact h1)
  subst hz_8
  refine m_cS (n := 1) (As := [.int 0]) (rest := []) K hP hS (MX10_refuse l G B _  ) q_831 q_832 q_82 q_833 hv_X10_refuse ⟨Nat.le_of_ble_eq_true rfl, Nat.le_of_ble_eq_true rfl⟩ rfl hl.1 rfl (Nat.le_of_ble_eq_true rfl) dX10_type_8 ⟨Nat.zero_le _, Nat.zero_le _⟩ (fun H locs hP hS => ?_)
  refine W.eq (g2 := F0 m 11 ls []) rfl ?_
  refine lv_aload_n K.1.1 K.1.2.1 dX10_type_11 rfl (lv_at hl 0 rfl) ?_
  refine m_getr K hP (by decide) sh_0 rfl tuX10 4 (by decide) rfl q_391 dX10_type_12 ?_
  refine lv_iload_n K.1.1 K.1.2.1 dX10_type_15 rfl (lv_at hl 1 rfl) ?_
  refine m_cV (n := 1) (As := [.int v]) (rest := []) K hP hS (MX3_append l G B _ v ) (by decide) sh_254 rfl q_1129 q_1130 q_1131 q_90 q_1132 hv_X3_append ⟨Nat.le_of_ble_eq_true rfl, Nat.le_of_ble_eq_true rfl⟩ rfl hl.1 rfl (Nat.le_of_ble_eq_true rfl) dX10_type_16 ⟨Nat.zero_le _, Nat.zero_le _⟩ (fun H locs hP hS => ?_)
  refine lv_topi (fun r_2 er_2 => ?_)
  exact m_iret K hr hlocks hP hS dX10_type_19 (by subst er_2; rfl) (by subst er_2; rfl)

set_option maxHeartbeats 4000000 in
set_option maxRecDepth 100000 in
theorem MX10_clearCommands (l : Launch) (G : GG) (B : Nat) (μ : Mm) : CM l yX10_clearCommands (.code yX10_clearCommands cX10_clearCommands 1 (Option.some FieldType.int)) 1 21 G B [.ref (B + 0)] μ (some (.int (μ 254 0))) (up2 μ 254 0 0) := by
  refine CM.of (by decide) (Nat.le_of_ble_eq_true rfl) ?_
  intro p e s m below meth c ls K hr hlocks hP hl
  have hS : va_S (AA B) s.heap s.heap [] := va_S.rf
  have hl : lv_has ls 1 [(0, .ref (B + 0))] := hl
  refine lv_aload_n K.1.1 K.1.2.1 dX10_clearCommands_0 rfl (lv_at hl 0 rfl) ?_
  refine m_getr K hP (by decide) sh_0 rfl tuX10 4 (by decide) rfl q_391 dX10_clearCommands_1 ?_
  refine m_cV (n := 0) (As := []) (rest := []) K hP hS (MX3_empty l G B _  ) (by decide) sh_254 rfl q_407 q_408 q_409 q_90 q_410 hv_X3_empty ⟨Nat.le_of_ble_eq_true rfl, Nat.le_of_ble_eq_true rfl⟩ rfl hl.1 rfl (Nat.le_of_ble_eq_true rfl) dX10_clearCommands_4 ⟨Nat.zero_le _, Nat.zero_le _⟩ (fun H locs hP hS => ?_)
  refine lv_topi (fun r_1 er_1 => ?_)
  exact m_iret K hr hlocks hP hS dX10_clearCommands_7 (by subst er_1; rfl) (by subst er_1; rfl)

set_option maxHeartbeats 4000000 in
set_option maxRecDepth 100000 in
theorem MX10_undo (l : Launch) (G : GG) (B : Nat) (μ : Mm) (h1 : ¬ μ 92 0 = 0) : CM l yX10_undo (.code yX10_undo cX10_undo 1 (Option.some FieldType.int)) 5 107 G B [.ref (B + 0)] μ (some (.int (U_pop μ 1 92 0))) (U_pop μ 1) := by
  refine CM.of (by decide) (Nat.le_of_ble_eq_true rfl) ?_
  intro p e s m below meth c ls K hr hlocks hP hl
  have hS : va_S (AA B) s.heap s.heap [] := va_S.rf
  have hl : lv_has ls 1 [(0, .ref (B + 0))] := hl
  refine lv_aload_n K.1.1 K.1.2.1 dX10_undo_0 rfl (lv_at hl 0 rfl) ?_
  refine m_getr K hP (by decide) sh_0 rfl tuX10 3 (by decide) rfl q_390 dX10_undo_1 ?_
  refine m_geti K hP (by decide) sh_92 rfl tuX8 0 (by decide) rfl q_347 dX10_undo_4 ?_
  refine lv_topi (fun g_1 eg_1 => ?_)
  refine lv_if_ne (tgt := 14) K.1.1 K.1.2.1 dX10_undo_7 (by decide) (fun c_7 => ?_) (fun c_7 => ?_)
  · refine lv_iconst (v := 0) K.1.1 K.1.2.1 dX10_undo_14 (by decide) ?_
    refine m_cS (n := 1) (As := [.int 0]) (rest := []) K hP hS (MX10_refuse l G B _  ) q_831 q_832 q_82 q_833 hv_X10_refuse ⟨Nat.le_of_ble_eq_true rfl, Nat.le_of_ble_eq_true rfl⟩ rfl hl.1 rfl (Nat.le_of_ble_eq_true rfl) dX10_undo_15 ⟨Nat.zero_le _, Nat.zero_le _⟩ (fun H locs hP hS => ?_)
    refine W.eq (g2 := F0 m 18 ls []) rfl ?_
    refine lv_aload_n K.1.1 K.1.2.1 dX10_undo_18 rfl (lv_at hl 0 rfl) ?_
    refine m_getr K hP (by decide) sh_0 rfl tuX10 3 (by decide) rfl q_390 dX10_undo_19 ?_
    refine lv_aload_n K.1.1 K.1.2.1 dX10_undo_22 rfl (lv_at hl 0 rfl) ?_
    refine m_getr K hP (by decide) sh_0 rfl tuX10 0 (by decide) rfl q_387 dX10_undo_23 ?_
    refine m_cV (n := 1) (As := [.ref (B + 1)]) (rest := []) K hP hS (MX8_pop l G B _ 1 isA_1 ) (by decide) sh_92 rfl q_1140 q_1141 q_1142 q_89 q_1143 hv_X8_pop ⟨Nat.le_of_ble_eq_true rfl, Nat.le_of_ble_eq_true rfl⟩ rfl hl.1 rfl (Nat.le_of_ble_eq_true rfl) dX10_undo_26 ⟨Nat.zero_le _, Nat.zero_le _⟩ (fun H locs hP hS => ?_)
    refine W.eq (g2 := F0 m 29 ls []) rfl ?_
    refine lv_aload_n K.1.1 K.1.2.1 dX10_undo_29 rfl (lv_at hl 0 rfl) ?_
    refine m_getr K hP (by decide) sh_0 rfl tuX10 3 (by decide) rfl q_390 dX10_undo_30 ?_
    refine m_geti K hP (by decide) sh_92 rfl tuX8 0 (by decide) rfl q_347 dX10_undo_33 ?_
    refine lv_topi (fun g_2 eg_2 => ?_)
    exact m_iret K hr hlocks hP hS dX10_undo_36 (by subst eg_1 eg_2; rfl) (by subst eg_1 eg_2; rfl)
  · exact absurd c_7 (by subst eg_1; exact h1)

set_option maxHeartbeats 4000000 in
set_option maxRecDepth 100000 in
theorem MX10_mixTraders (l : Launch) (G : GG) (B : Nat) (μ : Mm) (h : Int64) : CM l yX10_mixTraders (.code yX10_mixTraders cX10_mixTraders 7 (Option.some FieldType.long)) 4 86 G B [.ref (B + 0), .long h] μ (some (.long (X_mixTraders μ h (cn (μ (1 + 1) 0))))) μ := by
  refine CM.of (by decide) (Nat.le_of_ble_eq_true rfl) ?_
  intro p e s m below meth c ls K hr hlocks hP hl
  have hS : va_S (AA B) s.heap s.heap [] := va_S.rf
  have hl : lv_has ls 7 [(0, .ref (B + 0)), (1, .long h)] := hl
  refine lv_lload_n K.1.1 K.1.2.1 dX10_mixTraders_0 rfl (lv_at hl 1 rfl) ?_
  refine lv_lstore_n (lv' := [(3, .long h), (0, .ref (B + 0)), (1, .long h)]) K.1.1 K.1.2.1 dX10_mixTraders_1 rfl hl (by decide) rfl (fun ls hl => ?_)
  refine lv_iconst (v := 0) K.1.1 K.1.2.1 dX10_mixTraders_2 (by decide) ?_
  refine lv_istore (lv' := [(5, .int 0), (3, .long h), (0, .ref (B + 0)), (1, .long h)]) K.1.1 K.1.2.1 dX10_mixTraders_3 hl (by decide) rfl (fun ls hl => ?_)
  refine up_to (N := cn (μ (1 + 1) 0)) (P := fun t : Nat => ∀ (v5_5 : Int32) (v3_5 : Int64) (H : Heap) (locs : List Loc) (ls : Array Slot), (v5_5 = nI t) → (v3_5 = X_mixTraders μ h t) → MP G B μ H → va_S (AA B) s.heap H locs → lv_has ls 7 [(5, .int v5_5), (3, .long v3_5), (0, .ref (B + 0)), (1, .long h)] → W p l e ({ frames := 4, cells := 0, slots := 0, locals := 86 } : Room) s m ([.ref (B + 0), .long h] : List Value).toArray below meth c H locs 0 0 (MF below G B (some (.long (X_mixTraders μ h (cn (μ (1 + 1) 0))))) μ ([.ref (B + 0), .long h] : List Value).toArray s) (F0 m 5 ls [])) ?_ ?_ _ _ _ _ _ (by first | rfl | (skip; rfl)) (by first | rfl | (skip; rfl)) hP hS (lv_sub hl [0, 1, 2, 3] rfl)
  · intro v5_5 v3_5 H locs ls ev5_5 ev3_5 hP hS hl
    refine lv_iload K.1.1 K.1.2.1 dX10_mixTraders_5 (lv_at hl 0 rfl) ?_
    refine lv_aload_n K.1.1 K.1.2.1 dX10_mixTraders_7 rfl (lv_at hl 2 rfl) ?_
    refine m_getr K hP (by decide) sh_0 rfl tuX10 0 (by decide) rfl q_387 dX10_mixTraders_8 ?_
    refine m_getr K hP isA_1.1 isA_1.2.1 rfl tuX1 0 (by decide) rfl q_246 dX10_mixTraders_11 ?_
    refine m_geti K hP isA_1.2.2.1.1 isA_1.2.2.1.2.1 rfl tuX6 0 (by decide) rfl q_139 dX10_mixTraders_14 ?_
    refine lv_topi (fun g_1 eg_1 => ?_)
    refine lv_icmp_ge (tgt := 59) K.1.1 K.1.2.1 dX10_mixTraders_17 (by decide) (fun c_17 => ?_) (fun c_17 => ?_)
    · refine lv_lload_n K.1.1 K.1.2.1 dX10_mixTraders_59 rfl (lv_at hl 1 rfl) ?_
      exact m_lret K hr hlocks hP hS dX10_mixTraders_60 (by subst ev5_5 ev3_5 eg_1; rfl) rfl
    · exact absurd c_17 (not_not_intro (by subst ev5_5 ev3_5 eg_1; exact cn_out _))
  · intro t ht ih_5 v5_5 v3_5 H locs ls ev5_5 ev3_5 hP hS hl
    refine lv_iload K.1.1 K.1.2.1 dX10_mixTraders_5 (lv_at hl 0 rfl) ?_
    refine lv_aload_n K.1.1 K.1.2.1 dX10_mixTraders_7 rfl (lv_at hl 2 rfl) ?_
    refine m_getr K hP (by decide) sh_0 rfl tuX10 0 (by decide) rfl q_387 dX10_mixTraders_8 ?_
    refine m_getr K hP isA_1.1 isA_1.2.1 rfl tuX1 0 (by decide) rfl q_246 dX10_mixTraders_11 ?_
    refine m_geti K hP isA_1.2.2.1.1 isA_1.2.2.1.2.1 rfl tuX6 0 (by decide) rfl q_139 dX10_mixTraders_14 ?_
    refine lv_topi (fun g_2 eg_2 => ?_)
    refine lv_icmp_ge (tgt := 59) K.1.1 K.1.2.1 dX10_mixTraders_17 (by decide) (fun c_17 => ?_) (fun c_17 => ?_)
    · exact absurd c_17 (by subst ev5_5 ev3_5 eg_2; exact cn_in ht)
    · refine lv_iconst (v := 0) K.1.1 K.1.2.1 dX10_mixTraders_20 (by decide) ?_
      refine lv_istore (lv' := [(6, .int 0), (5, .int v5_5), (3, .long v3_5), (0, .ref (B + 0)), (1, .long h)]) K.1.1 K.1.2.1 dX10_mixTraders_21 hl (by decide) rfl (fun ls hl => ?_)
      refine up_to (N := NN 10) (P := fun w : Nat => ∀ (v6_23 : Int32) (v3_23 : Int64) (H : Heap) (locs : List Loc) (ls : Array Slot), (v6_23 = nI w) → (v3_23 = X_mixTr μ t (X_mixTraders μ h t) w) → MP G B μ H → va_S (AA B) s.heap H locs → lv_has ls 7 [(6, .int v6_23), (5, .int v5_5), (3, .long v3_23), (0, .ref (B + 0)), (1, .long h)] → W p l e ({ frames := 4, cells := 0, slots := 0, locals := 86 } : Room) s m ([.ref (B + 0), .long h] : List Value).toArray below meth c H locs 0 0 (MF below G B (some (.long (X_mixTraders μ h (cn (μ (1 + 1) 0))))) μ ([.ref (B + 0), .long h] : List Value).toArray s) (F0 m 23 ls [])) ?_ ?_ _ _ _ _ _ (by first | rfl | (subst ev5_5 ev3_5 eg_2; rfl)) (by first | rfl | (subst ev5_5 ev3_5 eg_2; rfl)) hP hS (lv_sub hl [0, 1, 2, 3, 4] rfl)
      · intro v6_23 v3_23 H locs ls ev6_23 ev3_23 hP hS hl
        refine lv_iload K.1.1 K.1.2.1 dX10_mixTraders_23 (lv_at hl 0 rfl) ?_
        refine lv_bipush (v := 10) K.1.1 K.1.2.1 dX10_mixTraders_25 (by decide) ?_
        refine lv_icmp_ge (tgt := 53) K.1.1 K.1.2.1 dX10_mixTraders_27 (by decide) (fun c_27 => ?_) (fun c_27 => ?_)
        · obtain ⟨x_3, ex_3⟩ : ∃ y : Int32, y = v5_5 + (1) := ⟨_, rfl⟩
          refine lv_iinc (v := x_3) (lv' := [(5, .int x_3), (6, .int v6_23), (3, .long v3_23), (0, .ref (B + 0)), (1, .long h)]) K.1.1 K.1.2.1 dX10_mixTraders_53 hl (k := 1) rfl (by rw [ex_3]; rfl) (by decide) rfl (fun ls hl => ?_)
          refine lv_goto (tgt := 5) K.1.1 K.1.2.1 dX10_mixTraders_56 (by decide) ?_
          exact ih_5 _ _ _ _ _ (by subst ev5_5 ev3_5 eg_2 ev6_23 ev3_23 ex_3; exact nI_1 _) (by subst ev5_5 ev3_5 eg_2 ev6_23 ev3_23 ex_3; rfl) hP hS (lv_sub hl [0, 2, 3, 4] rfl)
        · exact absurd c_27 (not_not_intro (by subst ev5_5 ev3_5 eg_2 ev6_23 ev3_23; rw [NN_eq]; decide))
      · intro w hw ih_23 v6_23 v3_23 H locs ls ev6_23 ev3_23 hP hS hl
        rw [NN_eq] at hw
        refine lv_iload K.1.1 K.1.2.1 dX10_mixTraders_23 (lv_at hl 0 rfl) ?_
        refine lv_bipush (v := 10) K.1.1 K.1.2.1 dX10_mixTraders_25 (by decide) ?_
        refine lv_icmp_ge (tgt := 53) K.1.1 K.1.2.1 dX10_mixTraders_27 (by decide) (fun c_27 => ?_) (fun c_27 => ?_)
        · exact absurd c_27 (by subst ev5_5 ev3_5 eg_2 ev6_23 ev3_23; exact nI_ge (a := w) (b := 10) hw (by decide))
        · refine lv_lload_n K.1.1 K.1.2.1 dX10_mixTraders_30 rfl (lv_at hl 2 rfl) ?_
          refine lv_aload_n K.1.1 K.1.2.1 dX10_mixTraders_31 rfl (lv_at hl 3 rfl) ?_
          refine m_getr K hP (by decide) sh_0 rfl tuX10 0 (by decide) rfl q_387 dX10_mixTraders_32 ?_
          refine lv_iload K.1.1 K.1.2.1 dX10_mixTraders_35 (lv_at hl 1 rfl) ?_
          refine lv_iload K.1.1 K.1.2.1 dX10_mixTraders_37 (lv_at hl 0 rfl) ?_
          refine m_cV (n := 2) (As := [.int v5_5, .int v6_23]) (rest := [.long v3_23]) K hP hS (MX1_traderValue l G B _ 1 isA_1 v5_5 v6_23 ) isA_1.1 isA_1.2.1 rfl q_792 q_793 q_794 q_83 q_795 hv_X1_traderValue ⟨Nat.le_of_ble_eq_true rfl, Nat.le_of_ble_eq_true rfl⟩ rfl hl.1 rfl (Nat.le_of_ble_eq_true rfl) dX10_mixTraders_39 ⟨Nat.zero_le _, Nat.zero_le _⟩ (fun H locs hP hS => ?_)
          refine lv_topi (fun r_4 er_4 => ?_)
          refine lv_i2l K.1.1 K.1.2.1 dX10_mixTraders_42 rfl ?_
          refine m_cS (n := 2) (As := [.long v3_23, .long (r_4.toInt64)]) (rest := []) K hP hS (MX10_mix l G B _ v3_23 (r_4.toInt64) ) q_759 q_760 q_82 q_761 hv_X10_mix ⟨Nat.le_of_ble_eq_true rfl, Nat.le_of_ble_eq_true rfl⟩ rfl hl.1 rfl (Nat.le_of_ble_eq_true rfl) dX10_mixTraders_43 ⟨Nat.zero_le _, Nat.zero_le _⟩ (fun H locs hP hS => ?_)
          refine lv_topl (fun r_5 er_5 => ?_)
          refine lv_lstore_n (lv' := [(3, .long r_5), (6, .int v6_23), (5, .int v5_5), (0, .ref (B + 0)), (1, .long h)]) K.1.1 K.1.2.1 dX10_mixTraders_46 rfl hl (by decide) rfl (fun ls hl => ?_)
          obtain ⟨x_6, ex_6⟩ : ∃ y : Int32, y = v6_23 + (1) := ⟨_, rfl⟩
          refine lv_iinc (v := x_6) (lv' := [(6, .int x_6), (3, .long r_5), (5, .int v5_5), (0, .ref (B + 0)), (1, .long h)]) K.1.1 K.1.2.1 dX10_mixTraders_47 hl (k := 1) rfl (by rw [ex_6]; rfl) (by decide) rfl (fun ls hl => ?_)
          refine lv_goto (tgt := 23) K.1.1 K.1.2.1 dX10_mixTraders_50 (by decide) ?_
          exact ih_23 _ _ _ _ _ (by subst ev5_5 ev3_5 eg_2 ev6_23 ev3_23 er_4 er_5 ex_6; exact nI_1 _) (by subst ev5_5 ev3_5 eg_2 ev6_23 ev3_23 er_4 er_5 ex_6; rfl) hP hS (lv_sub hl [0, 2, 1, 3, 4] rfl)

