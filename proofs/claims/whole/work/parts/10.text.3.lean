set_option maxHeartbeats 4000000 in
set_option maxRecDepth 100000 in
theorem MX3_readNumber (l : Launch) (G : GG) (B : Nat) (μ : Mm) (i : Int32) : CM l yX3_readNumber (.code yX3_readNumber cX3_readNumber 4 (Option.some FieldType.boolean)) 3 63 G B [.ref (B + 254), .int i] μ (some (.int (D_readNumber μ))) (D_readNumberM μ i) := by
  refine CM.of (by decide) (Nat.le_of_ble_eq_true rfl) ?_
  intro p e s m below meth c ls K hr hlocks hP hl
  have hS : va_S (AA B) s.heap s.heap [] := va_S.rf
  have hl : lv_has ls 4 [(0, .ref (B + 254)), (1, .int i)] := hl
  refine lv_aload_n K.1.1 K.1.2.1 dX3_readNumber_0 rfl (lv_at hl 0 rfl) ?_
  refine lv_bipush (v := 32) K.1.1 K.1.2.1 dX3_readNumber_1 (by decide) ?_
  refine m_cV (n := 1) (As := [.int 32]) (rest := []) K hP hS (MX3_readByte l G B _ 32 ) (by decide) sh_254 rfl q_509 q_511 q_5 q_90 q_512 hv_X3_readByte ⟨Nat.le_of_ble_eq_true rfl, Nat.le_of_ble_eq_true rfl⟩ rfl hl.1 rfl (Nat.le_of_ble_eq_true rfl) dX3_readNumber_3 ⟨Nat.zero_le _, Nat.zero_le _⟩ (fun H locs hP hS => ?_)
  refine lv_topi (fun r_1 er_1 => ?_)
  refine lv_if_ne (tgt := 11) K.1.1 K.1.2.1 dX3_readNumber_6 (by decide) (fun c_6 => ?_) (fun c_6 => ?_)
  · refine lv_aload_n K.1.1 K.1.2.1 dX3_readNumber_11 rfl (lv_at hl 0 rfl) ?_
    refine m_cV (n := 0) (As := []) (rest := []) K hP hS (MX3_skipSpaces l G B _  ) (by decide) sh_254 rfl q_427 q_429 q_0 q_90 q_430 hv_X3_skipSpaces ⟨Nat.le_of_ble_eq_true rfl, Nat.le_of_ble_eq_true rfl⟩ rfl hl.1 rfl (Nat.le_of_ble_eq_true rfl) dX3_readNumber_12 ⟨Nat.zero_le _, Nat.zero_le _⟩ (fun H locs hP hS => ?_)
    refine W.eq (g2 := F0 m 15 ls []) rfl ?_
    refine lv_iconst (v := 0) K.1.1 K.1.2.1 dX3_readNumber_15 (by decide) ?_
    refine lv_istore_n (lv' := [(2, .int 0), (0, .ref (B + 254)), (1, .int i)]) K.1.1 K.1.2.1 dX3_readNumber_16 rfl hl (by decide) rfl (fun ls hl => ?_)
    refine lv_iconst (v := 0) K.1.1 K.1.2.1 dX3_readNumber_17 (by decide) ?_
    refine lv_istore_n (lv' := [(3, .int 0), (2, .int 0), (0, .ref (B + 254)), (1, .int i)]) K.1.1 K.1.2.1 dX3_readNumber_18 rfl hl (by decide) rfl (fun ls hl => ?_)
    have lp_19 : ∀ n : Nat, ∀ (v3_19 : Int32) (v2_19 : Int32) (μ_19 : Mm) (H : Heap) (locs : List Loc) (ls : Array Slot), (n ≤ 3) → (v3_19 = nI (3 - n)) → (D_dig 3 (D_skipSpaces (D_readByteM μ 32)) 0 0 = D_dig n μ_19 v2_19 v3_19) → MP G B μ_19 H → va_S (AA B) s.heap H locs → lv_has ls 4 [(3, .int v3_19), (2, .int v2_19), (0, .ref (B + 254)), (1, .int i)] → W p l e ({ frames := 3, cells := 0, slots := 0, locals := 63 } : Room) s m ([.ref (B + 254), .int i] : List Value).toArray below meth c H locs 0 0 (MF below G B (some (.int (D_readNumber μ))) (D_readNumberM μ i) ([.ref (B + 254), .int i] : List Value).toArray s) (F0 m 19 ls []) := by
      intro n
      induction n with
      | zero =>
        intro v3_19 v2_19 μ_19 H locs ls inv0_19 inv1_19 fin0_19 hP hS hl
        refine lv_iload_n K.1.1 K.1.2.1 dX3_readNumber_19 rfl (lv_at hl 0 rfl) ?_
        refine lv_iconst (v := 3) K.1.1 K.1.2.1 dX3_readNumber_20 (by decide) ?_
        refine lv_icmp_ge (tgt := 75) K.1.1 K.1.2.1 dX3_readNumber_21 (by decide) (fun c_21 => ?_) (fun c_21 => ?_)
        · refine lv_aload_n K.1.1 K.1.2.1 dX3_readNumber_75 rfl (lv_at hl 2 rfl) ?_
          refine m_getr K hP (by decide) sh_254 rfl tuX3 2 (by decide) rfl q_369 dX3_readNumber_76 ?_
          refine lv_iload_n K.1.1 K.1.2.1 dX3_readNumber_79 rfl (lv_at hl 3 rfl) ?_
          refine lv_iload_n K.1.1 K.1.2.1 dX3_readNumber_80 rfl (lv_at hl 1 rfl) ?_
          refine m_cV (n := 2) (As := [.int i, .int v2_19]) (rest := []) K hP hS (MX5_put l G B _ 255 3 isR_255 i v2_19 ) (Nat.lt_of_succ_lt isR_255.1) isR_255.2.1 rfl q_513 q_514 q_515 q_85 q_516 hv_X5_put ⟨Nat.le_of_ble_eq_true rfl, Nat.le_of_ble_eq_true rfl⟩ rfl hl.1 rfl (Nat.le_of_ble_eq_true rfl) dX3_readNumber_81 ⟨Nat.zero_le _, Nat.zero_le _⟩ (fun H locs hP hS => ?_)
          refine W.eq (g2 := F0 m 84 ls []) rfl ?_
          refine lv_iload_n K.1.1 K.1.2.1 dX3_readNumber_84 rfl (lv_at hl 0 rfl) ?_
          refine lv_if_ne (tgt := 96) K.1.1 K.1.2.1 dX3_readNumber_85 (by decide) (fun c_85 => ?_) (fun c_85 => ?_)
          · refine lv_iload_n K.1.1 K.1.2.1 dX3_readNumber_96 rfl (lv_at hl 0 rfl) ?_
            refine lv_if_le (tgt := 104) K.1.1 K.1.2.1 dX3_readNumber_97 (by decide) (fun c_97 => ?_) (fun c_97 => ?_)
            · refine lv_iconst (v := 0) K.1.1 K.1.2.1 dX3_readNumber_104 (by decide) ?_
              exact m_zret K hr hlocks hP hS dX3_readNumber_105 (by first | rfl | (subst er_1 inv1_19; rfl)) (by subst er_1 inv1_19; first | (rw [D_readNumber, if_pos c_6]; done) | (have hN : D_numAt μ = (μ_19, v2_19, nI (3 - (n + 1))) := (by rw [D_numAt_eq, fin0_19, D_dig, if_pos c_39]); rw [D_readNumber, if_neg c_6, hN]; dsimp only; first | rw [if_pos (Int32.not_le.mp c_97)] | rw [if_neg (Int32.not_lt.mpr c_97)]) | (have hN : D_numAt μ = (μ_19, v2_19, nI (3 - 0)) := (by rw [D_numAt_eq, fin0_19]; rfl); rw [D_readNumber, if_neg c_6, hN]; dsimp only; first | rw [if_pos (Int32.not_le.mp c_97)] | rw [if_neg (Int32.not_lt.mpr c_97)])) (by subst er_1 inv1_19; first | (rw [D_readNumberM, if_pos c_6]; done) | (have hN : D_numAt μ = (μ_19, v2_19, nI (3 - (n + 1))) := (by rw [D_numAt_eq, fin0_19, D_dig, if_pos c_39]); rw [D_readNumberM, if_neg c_6, hN]; dsimp only; first | rw [if_pos c_85] | rw [if_neg c_85]) | (have hN : D_numAt μ = (μ_19, v2_19, nI (3 - 0)) := (by rw [D_numAt_eq, fin0_19]; rfl); rw [D_readNumberM, if_neg c_6, hN]; dsimp only; first | rw [if_pos c_85] | rw [if_neg c_85]))
            · refine lv_iconst (v := 1) K.1.1 K.1.2.1 dX3_readNumber_100 (by decide) ?_
              refine lv_goto (tgt := 105) K.1.1 K.1.2.1 dX3_readNumber_101 (by decide) ?_
              exact m_zret K hr hlocks hP hS dX3_readNumber_105 (by first | rfl | (subst er_1 inv1_19; rfl)) (by subst er_1 inv1_19; first | (rw [D_readNumber, if_pos c_6]; done) | (have hN : D_numAt μ = (μ_19, v2_19, nI (3 - (n + 1))) := (by rw [D_numAt_eq, fin0_19, D_dig, if_pos c_39]); rw [D_readNumber, if_neg c_6, hN]; dsimp only; first | rw [if_pos (Int32.not_le.mp c_97)] | rw [if_neg (Int32.not_lt.mpr c_97)]) | (have hN : D_numAt μ = (μ_19, v2_19, nI (3 - 0)) := (by rw [D_numAt_eq, fin0_19]; rfl); rw [D_readNumber, if_neg c_6, hN]; dsimp only; first | rw [if_pos (Int32.not_le.mp c_97)] | rw [if_neg (Int32.not_lt.mpr c_97)])) (by subst er_1 inv1_19; first | (rw [D_readNumberM, if_pos c_6]; done) | (have hN : D_numAt μ = (μ_19, v2_19, nI (3 - (n + 1))) := (by rw [D_numAt_eq, fin0_19, D_dig, if_pos c_39]); rw [D_readNumberM, if_neg c_6, hN]; dsimp only; first | rw [if_pos c_85] | rw [if_neg c_85]) | (have hN : D_numAt μ = (μ_19, v2_19, nI (3 - 0)) := (by rw [D_numAt_eq, fin0_19]; rfl); rw [D_readNumberM, if_neg c_6, hN]; dsimp only; first | rw [if_pos c_85] | rw [if_neg c_85]))
          · refine lv_aload_n K.1.1 K.1.2.1 dX3_readNumber_88 rfl (lv_at hl 2 rfl) ?_
            refine lv_aload_n K.1.1 K.1.2.1 dX3_readNumber_89 rfl (lv_at hl 2 rfl) ?_
            refine m_geti K hP (by decide) sh_254 rfl tuX3 4 (by decide) rfl q_372 dX3_readNumber_90 ?_
            refine lv_topi (fun g_2 eg_2 => ?_)
            refine m_puti K hP hS (by decide) sh_254 rfl tuX3 tyX3 tyX3_ok nmX3 5 (by decide) rfl rfl (by decide +kernel) q_373 dX3_readNumber_93 (fun H locs hP hS => ?_)
            refine lv_iload_n K.1.1 K.1.2.1 dX3_readNumber_96 rfl (lv_at hl 0 rfl) ?_
            refine lv_if_le (tgt := 104) K.1.1 K.1.2.1 dX3_readNumber_97 (by decide) (fun c_97 => ?_) (fun c_97 => ?_)
            · refine lv_iconst (v := 0) K.1.1 K.1.2.1 dX3_readNumber_104 (by decide) ?_
              exact m_zret K hr hlocks hP hS dX3_readNumber_105 (by first | rfl | (subst er_1 inv1_19 eg_2; rfl)) (by subst er_1 inv1_19 eg_2; first | (rw [D_readNumber, if_pos c_6]; done) | (have hN : D_numAt μ = (μ_19, v2_19, nI (3 - (n + 1))) := (by rw [D_numAt_eq, fin0_19, D_dig, if_pos c_39]); rw [D_readNumber, if_neg c_6, hN]; dsimp only; first | rw [if_pos (Int32.not_le.mp c_97)] | rw [if_neg (Int32.not_lt.mpr c_97)]) | (have hN : D_numAt μ = (μ_19, v2_19, nI (3 - 0)) := (by rw [D_numAt_eq, fin0_19]; rfl); rw [D_readNumber, if_neg c_6, hN]; dsimp only; first | rw [if_pos (Int32.not_le.mp c_97)] | rw [if_neg (Int32.not_lt.mpr c_97)])) (by subst er_1 inv1_19 eg_2; first | (rw [D_readNumberM, if_pos c_6]; done) | (have hN : D_numAt μ = (μ_19, v2_19, nI (3 - (n + 1))) := (by rw [D_numAt_eq, fin0_19, D_dig, if_pos c_39]); rw [D_readNumberM, if_neg c_6, hN]; dsimp only; first | rw [if_pos c_85] | rw [if_neg c_85]) | (have hN : D_numAt μ = (μ_19, v2_19, nI (3 - 0)) := (by rw [D_numAt_eq, fin0_19]; rfl); rw [D_readNumberM, if_neg c_6, hN]; dsimp only; first | rw [if_pos c_85] | rw [if_neg c_85]))
            · refine lv_iconst (v := 1) K.1.1 K.1.2.1 dX3_readNumber_100 (by decide) ?_
              refine lv_goto (tgt := 105) K.1.1 K.1.2.1 dX3_readNumber_101 (by decide) ?_
              exact m_zret K hr hlocks hP hS dX3_readNumber_105 (by first | rfl | (subst er_1 inv1_19 eg_2; rfl)) (by subst er_1 inv1_19 eg_2; first | (rw [D_readNumber, if_pos c_6]; done) | (have hN : D_numAt μ = (μ_19, v2_19, nI (3 - (n + 1))) := (by rw [D_numAt_eq, fin0_19, D_dig, if_pos c_39]); rw [D_readNumber, if_neg c_6, hN]; dsimp only; first | rw [if_pos (Int32.not_le.mp c_97)] | rw [if_neg (Int32.not_lt.mpr c_97)]) | (have hN : D_numAt μ = (μ_19, v2_19, nI (3 - 0)) := (by rw [D_numAt_eq, fin0_19]; rfl); rw [D_readNumber, if_neg c_6, hN]; dsimp only; first | rw [if_pos (Int32.not_le.mp c_97)] | rw [if_neg (Int32.not_lt.mpr c_97)])) (by subst er_1 inv1_19 eg_2; first | (rw [D_readNumberM, if_pos c_6]; done) | (have hN : D_numAt μ = (μ_19, v2_19, nI (3 - (n + 1))) := (by rw [D_numAt_eq, fin0_19, D_dig, if_pos c_39]); rw [D_readNumberM, if_neg c_6, hN]; dsimp only; first | rw [if_pos c_85] | rw [if_neg c_85]) | (have hN : D_numAt μ = (μ_19, v2_19, nI (3 - 0)) := (by rw [D_numAt_eq, fin0_19]; rfl); rw [D_readNumberM, if_neg c_6, hN]; dsimp only; first | rw [if_pos c_85] | rw [if_neg c_85]))
        · exact absurd c_21 (not_not_intro (by subst er_1 inv1_19; decide))
      | succ n ih_19 =>
        intro v3_19 v2_19 μ_19 H locs ls inv0_19 inv1_19 fin0_19 hP hS hl
        refine lv_iload_n K.1.1 K.1.2.1 dX3_readNumber_19 rfl (lv_at hl 0 rfl) ?_
        refine lv_iconst (v := 3) K.1.1 K.1.2.1 dX3_readNumber_20 (by decide) ?_
        refine lv_icmp_ge (tgt := 75) K.1.1 K.1.2.1 dX3_readNumber_21 (by decide) (fun c_21 => ?_) (fun c_21 => ?_)
        · exact absurd c_21 (by subst er_1 inv1_19; exact nI_ge (a := 3 - (n + 1)) (b := 3) (by omega) (by decide))
        · refine lv_aload_n K.1.1 K.1.2.1 dX3_readNumber_24 rfl (lv_at hl 2 rfl) ?_
          refine lv_aload_n K.1.1 K.1.2.1 dX3_readNumber_25 rfl (lv_at hl 2 rfl) ?_
          refine m_geti K hP (by decide) sh_254 rfl tuX3 4 (by decide) rfl q_372 dX3_readNumber_26 ?_
          refine lv_topi (fun g_3 eg_3 => ?_)
          refine m_cV (n := 1) (As := [.int g_3]) (rest := []) K hP hS (MX3_byteAt l G B _ g_3 ) (by decide) sh_254 rfl q_431 q_433 q_1 q_90 q_434 hv_X3_byteAt ⟨Nat.le_of_ble_eq_true rfl, Nat.le_of_ble_eq_true rfl⟩ rfl hl.1 rfl (Nat.le_of_ble_eq_true rfl) dX3_readNumber_29 ⟨Nat.zero_le _, Nat.zero_le _⟩ (fun H locs hP hS => ?_)
          refine lv_topi (fun r_4 er_4 => ?_)
          refine lv_bipush (v := 48) K.1.1 K.1.2.1 dX3_readNumber_32 (by decide) ?_
          refine lv_bipush (v := 57) K.1.1 K.1.2.1 dX3_readNumber_34 (by decide) ?_
          refine m_cSN (n := 3) (As := [.int r_4, .int 48, .int 57]) (rest := []) K hP hS (MX10_isWithin l G B _ r_4 48 57 ) K.2.2.1.1 q_444 q_82 q_445 hn_X10_isWithin ⟨Nat.le_of_ble_eq_true rfl, Nat.le_of_ble_eq_true rfl⟩ rfl hl.1 rfl (Nat.le_of_ble_eq_true rfl) dX3_readNumber_36 ⟨Nat.zero_le _, Nat.zero_le _⟩ (fun H locs hP hS => ?_)
          refine lv_topi (fun r_5 er_5 => ?_)
          refine lv_if_eq (tgt := 75) K.1.1 K.1.2.1 dX3_readNumber_39 (by decide) (fun c_39 => ?_) (fun c_39 => ?_)
          · refine lv_aload_n K.1.1 K.1.2.1 dX3_readNumber_75 rfl (lv_at hl 2 rfl) ?_
            refine m_getr K hP (by decide) sh_254 rfl tuX3 2 (by decide) rfl q_369 dX3_readNumber_76 ?_
            refine lv_iload_n K.1.1 K.1.2.1 dX3_readNumber_79 rfl (lv_at hl 3 rfl) ?_
            refine lv_iload_n K.1.1 K.1.2.1 dX3_readNumber_80 rfl (lv_at hl 1 rfl) ?_
            refine m_cV (n := 2) (As := [.int i, .int v2_19]) (rest := []) K hP hS (MX5_put l G B _ 255 3 isR_255 i v2_19 ) (Nat.lt_of_succ_lt isR_255.1) isR_255.2.1 rfl q_513 q_514 q_515 q_85 q_516 hv_X5_put ⟨Nat.le_of_ble_eq_true rfl, Nat.le_of_ble_eq_true rfl⟩ rfl hl.1 rfl (Nat.le_of_ble_eq_true rfl) dX3_readNumber_81 ⟨Nat.zero_le _, Nat.zero_le _⟩ (fun H locs hP hS => ?_)
            refine W.eq (g2 := F0 m 84 ls []) rfl ?_
            refine lv_iload_n K.1.1 K.1.2.1 dX3_readNumber_84 rfl (lv_at hl 0 rfl) ?_
            refine lv_if_ne (tgt := 96) K.1.1 K.1.2.1 dX3_readNumber_85 (by decide) (fun c_85 => ?_) (fun c_85 => ?_)
            · refine lv_iload_n K.1.1 K.1.2.1 dX3_readNumber_96 rfl (lv_at hl 0 rfl) ?_
              refine lv_if_le (tgt := 104) K.1.1 K.1.2.1 dX3_readNumber_97 (by decide) (fun c_97 => ?_) (fun c_97 => ?_)
              · refine lv_iconst (v := 0) K.1.1 K.1.2.1 dX3_readNumber_104 (by decide) ?_
                exact m_zret K hr hlocks hP hS dX3_readNumber_105 (by first | rfl | (subst er_1 inv1_19 eg_3 er_4 er_5; rfl)) (by subst er_1 inv1_19 eg_3 er_4 er_5; first | (rw [D_readNumber, if_pos c_6]; done) | (have hN : D_numAt μ = (μ_19, v2_19, nI (3 - (n + 1))) := (by rw [D_numAt_eq, fin0_19, D_dig, if_pos c_39]); rw [D_readNumber, if_neg c_6, hN]; dsimp only; first | rw [if_pos (Int32.not_le.mp c_97)] | rw [if_neg (Int32.not_lt.mpr c_97)]) | (have hN : D_numAt μ = (μ_19, v2_19, nI (3 - 0)) := (by rw [D_numAt_eq, fin0_19]; rfl); rw [D_readNumber, if_neg c_6, hN]; dsimp only; first | rw [if_pos (Int32.not_le.mp c_97)] | rw [if_neg (Int32.not_lt.mpr c_97)])) (by subst er_1 inv1_19 eg_3 er_4 er_5; first | (rw [D_readNumberM, if_pos c_6]; done) | (have hN : D_numAt μ = (μ_19, v2_19, nI (3 - (n + 1))) := (by rw [D_numAt_eq, fin0_19, D_dig, if_pos c_39]); rw [D_readNumberM, if_neg c_6, hN]; dsimp only; first | rw [if_pos c_85] | rw [if_neg c_85]) | (have hN : D_numAt μ = (μ_19, v2_19, nI (3 - 0)) := (by rw [D_numAt_eq, fin0_19]; rfl); rw [D_readNumberM, if_neg c_6, hN]; dsimp only; first | rw [if_pos c_85] | rw [if_neg c_85]))
              · refine lv_iconst (v := 1) K.1.1 K.1.2.1 dX3_readNumber_100 (by decide) ?_
                refine lv_goto (tgt := 105) K.1.1 K.1.2.1 dX3_readNumber_101 (by decide) ?_
                exact m_zret K hr hlocks hP hS dX3_readNumber_105 (by first | rfl | (subst er_1 inv1_19 eg_3 er_4 er_5; rfl)) (by subst er_1 inv1_19 eg_3 er_4 er_5; first | (rw [D_readNumber, if_pos c_6]; done) | (have hN : D_numAt μ = (μ_19, v2_19, nI (3 - (n + 1))) := (by rw [D_numAt_eq, fin0_19, D_dig, if_pos c_39]); rw [D_readNumber, if_neg c_6, hN]; dsimp only; first | rw [if_pos (Int32.not_le.mp c_97)] | rw [if_neg (Int32.not_lt.mpr c_97)]) | (have hN : D_numAt μ = (μ_19, v2_19, nI (3 - 0)) := (by rw [D_numAt_eq, fin0_19]; rfl); rw [D_readNumber, if_neg c_6, hN]; dsimp only; first | rw [if_pos (Int32.not_le.mp c_97)] | rw [if_neg (Int32.not_lt.mpr c_97)])) (by subst er_1 inv1_19 eg_3 er_4 er_5; first | (rw [D_readNumberM, if_pos c_6]; done) | (have hN : D_numAt μ = (μ_19, v2_19, nI (3 - (n + 1))) := (by rw [D_numAt_eq, fin0_19, D_dig, if_pos c_39]); rw [D_readNumberM, if_neg c_6, hN]; dsimp only; first | rw [if_pos c_85] | rw [if_neg c_85]) | (have hN : D_numAt μ = (μ_19, v2_19, nI (3 - 0)) := (by rw [D_numAt_eq, fin0_19]; rfl); rw [D_readNumberM, if_neg c_6, hN]; dsimp only; first | rw [if_pos c_85] | rw [if_neg c_85]))
            · refine lv_aload_n K.1.1 K.1.2.1 dX3_readNumber_88 rfl (lv_at hl 2 rfl) ?_
              refine lv_aload_n K.1.1 K.1.2.1 dX3_readNumber_89 rfl (lv_at hl 2 rfl) ?_
              refine m_geti K hP (by decide) sh_254 rfl tuX3 4 (by decide) rfl q_372 dX3_readNumber_90 ?_
              refine lv_topi (fun g_6 eg_6 => ?_)
              refine m_puti K hP hS (by decide) sh_254 rfl tuX3 tyX3 tyX3_ok nmX3 5 (by decide) rfl rfl (by decide +kernel) q_373 dX3_readNumber_93 (fun H locs hP hS => ?_)
              refine lv_iload_n K.1.1 K.1.2.1 dX3_readNumber_96 rfl (lv_at hl 0 rfl) ?_
              refine lv_if_le (tgt := 104) K.1.1 K.1.2.1 dX3_readNumber_97 (by decide) (fun c_97 => ?_) (fun c_97 => ?_)
              · refine lv_iconst (v := 0) K.1.1 K.1.2.1 dX3_readNumber_104 (by decide) ?_
                exact m_zret K hr hlocks hP hS dX3_readNumber_105 (by first | rfl | (subst er_1 inv1_19 eg_3 er_4 er_5 eg_6; rfl)) (by subst er_1 inv1_19 eg_3 er_4 er_5 eg_6; first | (rw [D_readNumber, if_pos c_6]; done) | (have hN : D_numAt μ = (μ_19, v2_19, nI (3 - (n + 1))) := (by rw [D_numAt_eq, fin0_19, D_dig, if_pos c_39]); rw [D_readNumber, if_neg c_6, hN]; dsimp only; first | rw [if_pos (Int32.not_le.mp c_97)] | rw [if_neg (Int32.not_lt.mpr c_97)]) | (have hN : D_numAt μ = (μ_19, v2_19, nI (3 - 0)) := (by rw [D_numAt_eq, fin0_19]; rfl); rw [D_readNumber, if_neg c_6, hN]; dsimp only; first | rw [if_pos (Int32.not_le.mp c_97)] | rw [if_neg (Int32.not_lt.mpr c_97)])) (by subst er_1 inv1_19 eg_3 er_4 er_5 eg_6; first | (rw [D_readNumberM, if_pos c_6]; done) | (have hN : D_numAt μ = (μ_19, v2_19, nI (3 - (n + 1))) := (by rw [D_numAt_eq, fin0_19, D_dig, if_pos c_39]); rw [D_readNumberM, if_neg c_6, hN]; dsimp only; first | rw [if_pos c_85] | rw [if_neg c_85]) | (have hN : D_numAt μ = (μ_19, v2_19, nI (3 - 0)) := (by rw [D_numAt_eq, fin0_19]; rfl); rw [D_readNumberM, if_neg c_6, hN]; dsimp only; first | rw [if_pos c_85] | rw [if_neg c_85]))
              · refine lv_iconst (v := 1) K.1.1 K.1.2.1 dX3_readNumber_100 (by decide) ?_
                refine lv_goto (tgt := 105) K.1.1 K.1.2.1 dX3_readNumber_101 (by decide) ?_
                exact m_zret K hr hlocks hP hS dX3_readNumber_105 (by first | rfl | (subst er_1 inv1_19 eg_3 er_4 er_5 eg_6; rfl)) (by subst er_1 inv1_19 eg_3 er_4 er_5 eg_6; first | (rw [D_readNumber, if_pos c_6]; done) | (have hN : D_numAt μ = (μ_19, v2_19, nI (3 - (n + 1))) := (by rw [D_numAt_eq, fin0_19, D_dig, if_pos c_39]); rw [D_readNumber, if_neg c_6, hN]; dsimp only; first | rw [if_pos (Int32.not_le.mp c_97)] | rw [if_neg (Int32.not_lt.mpr c_97)]) | (have hN : D_numAt μ = (μ_19, v2_19, nI (3 - 0)) := (by rw [D_numAt_eq, fin0_19]; rfl); rw [D_readNumber, if_neg c_6, hN]; dsimp only; first | rw [if_pos (Int32.not_le.mp c_97)] | rw [if_neg (Int32.not_lt.mpr c_97)])) (by subst er_1 inv1_19 eg_3 er_4 er_5 eg_6; first | (rw [D_readNumberM, if_pos c_6]; done) | (have hN : D_numAt μ = (μ_19, v2_19, nI (3 - (n + 1))) := (by rw [D_numAt_eq, fin0_19, D_dig, if_pos c_39]); rw [D_readNumberM, if_neg c_6, hN]; dsimp only; first | rw [if_pos c_85] | rw [if_neg c_85]) | (have hN : D_numAt μ = (μ_19, v2_19, nI (3 - 0)) := (by rw [D_numAt_eq, fin0_19]; rfl); rw [D_readNumberM, if_neg c_6, hN]; dsimp only; first | rw [if_pos c_85] | rw [if_neg c_85]))
          · refine lv_iload_n K.1.1 K.1.2.1 dX3_readNumber_42 rfl (lv_at hl 1 rfl) ?_
            refine lv_bipush (v := 10) K.1.1 K.1.2.1 dX3_readNumber_43 (by decide) ?_
            refine lv_imul K.1.1 K.1.2.1 dX3_readNumber_45 ?_
            refine lv_aload_n K.1.1 K.1.2.1 dX3_readNumber_46 rfl (lv_at hl 2 rfl) ?_
            refine lv_aload_n K.1.1 K.1.2.1 dX3_readNumber_47 rfl (lv_at hl 2 rfl) ?_
            refine m_geti K hP (by decide) sh_254 rfl tuX3 4 (by decide) rfl q_372 dX3_readNumber_48 ?_
            refine lv_topi (fun g_7 eg_7 => ?_)
            refine m_cV (n := 1) (As := [.int g_7]) (rest := [.int (v2_19 * 10)]) K hP hS (MX3_byteAt l G B _ g_7 ) (by decide) sh_254 rfl q_431 q_433 q_1 q_90 q_434 hv_X3_byteAt ⟨Nat.le_of_ble_eq_true rfl, Nat.le_of_ble_eq_true rfl⟩ rfl hl.1 rfl (Nat.le_of_ble_eq_true rfl) dX3_readNumber_51 ⟨Nat.zero_le _, Nat.zero_le _⟩ (fun H locs hP hS => ?_)
            refine lv_topi (fun r_8 er_8 => ?_)
            refine lv_iadd K.1.1 K.1.2.1 dX3_readNumber_54 ?_
            refine lv_bipush (v := 48) K.1.1 K.1.2.1 dX3_readNumber_55 (by decide) ?_
            refine lv_isub K.1.1 K.1.2.1 dX3_readNumber_57 ?_
            refine lv_topi (fun x_9 ex_9 => ?_)
            refine lv_istore_n (lv' := [(2, .int x_9), (3, .int v3_19), (0, .ref (B + 254)), (1, .int i)]) K.1.1 K.1.2.1 dX3_readNumber_58 rfl hl (by decide) rfl (fun ls hl => ?_)
            obtain ⟨x_10, ex_10⟩ : ∃ y : Int32, y = v3_19 + (1) := ⟨_, rfl⟩
            refine lv_iinc (v := x_10) (lv' := [(3, .int x_10), (2, .int x_9), (0, .ref (B + 254)), (1, .int i)]) K.1.1 K.1.2.1 dX3_readNumber_59 hl (k := 1) rfl (by rw [ex_10]; rfl) (by decide) rfl (fun ls hl => ?_)
            refine lv_aload_n K.1.1 K.1.2.1 dX3_readNumber_62 rfl (lv_at hl 2 rfl) ?_
            refine lv_dup K.1.1 K.1.2.1 dX3_readNumber_63 rfl ?_
            refine m_geti K hP (by decide) sh_254 rfl tuX3 4 (by decide) rfl q_372 dX3_readNumber_64 ?_
            refine lv_topi (fun g_11 eg_11 => ?_)
            refine lv_iconst (v := 1) K.1.1 K.1.2.1 dX3_readNumber_67 (by decide) ?_
            refine lv_iadd K.1.1 K.1.2.1 dX3_readNumber_68 ?_
            refine m_puti K hP hS (by decide) sh_254 rfl tuX3 tyX3 tyX3_ok nmX3 4 (by decide) rfl rfl (by decide +kernel) q_372 dX3_readNumber_69 (fun H locs hP hS => ?_)
            refine lv_goto (tgt := 19) K.1.1 K.1.2.1 dX3_readNumber_72 (by decide) ?_
            exact ih_19 _ _ _ _ _ _ (by omega) (by subst er_1 inv1_19 eg_3 er_4 er_5 eg_7 er_8 ex_9 ex_10 eg_11; rw [nI_1, show 3 - (n + 1) + 1 = 3 - n by omega]) (by subst er_1 inv1_19 eg_3 er_4 er_5 eg_7 er_8 ex_9 ex_10 eg_11; rw [fin0_19, D_dig, if_neg c_39]; rfl) hP hS (lv_sub hl [0, 1, 2, 3] rfl)
    exact lp_19 (3) _ _ _ _ _ _ (by exact Nat.le_refl _) (by rfl) (by rfl) hP hS (lv_sub hl [0, 1, 2, 3] rfl)
  · refine lv_iconst (v := 0) K.1.1 K.1.2.1 dX3_readNumber_9 (by decide) ?_
    exact m_zret K hr hlocks hP hS dX3_readNumber_10 (by first | rfl | (subst er_1; rfl)) (by subst er_1; rw [D_readNumber, if_pos c_6]) (by subst er_1; rw [D_readNumberM, if_pos c_6])

