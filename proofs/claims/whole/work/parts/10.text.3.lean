set_option maxHeartbeats 4000000 in
set_option maxRecDepth 100000 in
theorem MX3_readNumber (l : Launch) (G : GG) (B : Nat) (μ : Mm) (i : Int32) : CM l yX3_readNumber (.code yX3_readNumber cX3_readNumber 4 (Option.some FieldType.boolean)) 3 63 G B [.ref (B + 254), .int i] μ (some (.int (D_readNumber μ))) (D_readNumberM μ i) := by
  refine CM.of (by decide) (Nat.le_of_ble_eq_true rfl) ?_
  intro p e s m below meth c ls K hr hlocks hP hl
  have hS : va_S (AA B) s.heap s.heap [] := va_S.rf
  have hl : lv_has ls 4 [(0, .ref (B + 254)), (1, .int i)] := hl
  refine lv_aload_n K.1.1 K.1.2.1 dX3_readNumber_0 rfl (lv_at hl 0 rfl) ?_
  refine lv_bipush (v := 32) K.1.1 K.1.2.1 dX3_readNumber_1 (by decide) ?_
  refine m_cV (n := 1) (As := [.int 32]) (rest := []) K hP hS (MX3_readByte l G B _ 32 ) (by decide) sh_254 rfl q_509 q_511 q_5 q_90 q_512 hv_X3_readByte ⟨Nat.le_of_ble_eq_true rfl, Nat.le_of_ble_eq_true rfl⟩ rfl hl.1 rfl (Nat.le_of_ble_eq_true rfl) dX3_readNumber_3 ⟨Nat.zero_le _, Nat.zero_le _⟩ (fun H locs hP hS => ?_)
  refine lv_topi (fun r_1 er_1 => ?_)
  refine lv_if_ne (tgt := 11) K.1.1 K.1.2.1 dX3_readNumber_6 (by decide) (fun c_6 => ?_) (fun c_6 => ?_)
  · refine lv_aload_n K.1.1 K.1.2.1 dX3_readNumber_11 rfl (lv_at hl 0 rfl) ?_
    refine m_cV (n := 0) (As := []) (rest := []) K hP hS (MX3_skipSpaces l G B _  ) (by decide) sh_254 rfl q_427 q_429 q_0 q_90 q_430 hv_X3_skipSpaces ⟨Nat.le_of_ble_eq_true rfl, Nat.le_of_ble_eq_true rfl⟩ rfl hl.1 rfl (Nat.le_of_ble_eq_true rfl) dX3_readNumber_12 ⟨Nat.zero_le _, Nat.zero_le _⟩ (fun H locs hP hS => ?_)
    refine W.eq (g2 := F0 m 15 ls []) rfl ?_
    refine lv_iconst (v := 0) K.1.1 K.1.2.1 dX3_readNumber_15 (by decide) ?_
    refine lv_istore_n (lv' := [(2, .int 0), (0, .ref (B + 254)), (1, .int i)]) K.1.1 K.1.2.1 dX3_readNumber_16 rfl hl (by decide) rfl (fun ls hl => ?_)
    refine lv_iconst (v := 0) K.1.1 K.1.2.1 dX3_readNumber_17 (by decide) ?_
    refine lv_istore_n (lv' := [(3, .int 0), (2, .int 0), (0, .ref (B + 254)), (1, .int i)]) K.1.1 K.1.2.1 dX3_readNumber_18 rfl hl (by decide) rfl (fun ls hl => ?_)
    have lp_19 : ∀ n : Nat, ∀ (v3_19 : Int32) (v2_19 : Int32) (μ_19 : Mm) (H : Heap) (locs : List Loc) (ls : Array Slot), (n ≤ 3) → (v3_19 = nI (3 - n)) → (D_dig 3 (D_skipSpaces (D_readByteM μ 32)) 0 0 = D_dig n μ_19 v2_19 v3_19) → MP G B μ_19 H → va_S (AA B) s.heap H locs → lv_has ls 4 [(3, .int v3_19), (2, .int v2_19), (0, .ref (B + 254)), (1, .int i)] → W p l e ({ frames := 3, cells := 0, slots := 0, locals := 63 } : Room) s m ([.ref (B + 254), .int i] : List Value).toArray below meth c H locs 0 0 (MF below G B (some (.int (D_readNumber μ))) (D_readNumberM μ i) ([.ref (B + 254), .int i] : List Value).toArray s) (F0 m 19 ls []) := by
      intro n
      induction n with
      | zero =>
        intro v3_19 v2_19 μ_19 H locs ls inv0_19 inv1_19 fin0_19 hP hS hl
        refine lv_iload_n K.1.1 K.1.2.1 dX3_readNumber_19 rfl (lv_at hl 0 rfl) ?_
        refine lv_iconst (v := 3) K.1.1 K.1.2.1 dX3_readNumber_20 (by decide) ?_
        refine lv_icmp_ge (tgt := 75) K.1.1 K.1.2.1 dX3_readNumber_21 (by decide) (fun c_21 => ?_) (fun c_21 => ?_)
        · refine lv_aload_n K.1.1 K.1.2.1 dX3_readNumber_75 rfl (lv_at hl 2 rfl) ?_
          refine m_getr K hP (by decide) sh_254 rfl tuX3 2 (by decide) rfl q_369 dX3_readNumber_76 ?_
          refine lv_iload_n K.1.1 K.1.2.1 dX3_readNumber_79 rfl (lv_at hl 3 rfl) ?_
          refine lv_iload_n K.1.1 K.1.2.1 dX3_readNumber_80 rfl (lv_at hl 1 rfl) ?_
          refine m_cV (n := 2) (As := [.int i, .int v2_19]) (rest := []) K hP hS (MX5_put l G B _ 255 3 isR_255 i v2_19 ) (Nat.lt_of_succ_lt isR_255.1) isR_255.2.1 rfl q_513 q_514 q_515 q_85 q_516 hv_X5_put ⟨Nat.le_of_ble_eq_true rfl, Nat.le_of_ble_eq_true rfl⟩ rfl hl.1 rfl (Nat.le_of_ble_eq_true rfl) dX3_readNumber_81 ⟨Nat.zero_le _, Nat.zero_le _⟩ (fun H locs hP hS => ?_)
          refine W.eq (g2 := F0 m 84 ls []) rfl ?_
          refine lv_iload_n K.1.1 K.1.2.1 dX3_readNumber_84 rfl (lv_at hl 0 rfl) ?_
          refine lv_if_ne (tgt := 96) K.1.1 K.1.2.1 dX3_readNumber_85 (by decide) (fun c_85 => ?_) (fun c_85 => ?_)
          · refine lv_iload_n K.1.1 K.1.2.1 dX3_readNumber_96 rfl (lv_at hl 0 rfl) ?_
            refine lv_if_le (tgt := 104) K.1.1 K.1.2.1 dX3_readNumber_97 (by decide) (fun c_97 => ?_) (fun c_97 => ?_)
            · refine lv_iconst (v := 0) K.1.1 K.1.2.1 dX3_readNumber_104 (by decide) ?_
              exact m_zret K hr hlocks hP hS dX3_readNumber_105 (by first | rfl | (subst er_1 inv1_19; rfl)) (by subst er_1 inv1_19; first | (rw [D_readNumber, if_pos c_6]; done) | (have hN : D_numAt μ = (μ_19, v2_19, nI (3 - (n + 1))) := (by rw [D_numAt, fin0_19, D_dig, if_pos c_39]); rw [D_readNumber, if_neg c_6, hN]; dsimp only; first | rw [if_pos (Int32.not_le.mp c_97)] | rw [if_neg (Int32.not_lt.mpr c_97)]) | (have hN : D_numAt μ = (μ_19, v2_19, nI (3 - 0)) := (by rw [D_numAt, fin0_19]; rfl); rw [D_readNumber, if_neg c_6, hN]; dsimp only; first | rw [if_pos (Int32.not_le.mp c_97)] | rw [if_neg (Int32.not_lt.mpr c_97)])) (by subst er_1 inv1_19; first | (rw [D_readNumberM, if_pos c_6]; done) | (have hN : D_numAt μ = (μ_19, v2_19, nI (3 - (n + 1))) := (by rw [D_numAt, fin0_19, D_dig, if_pos c_39]); rw [D_readNumberM, if_neg c_6, hN]; dsimp only; first | rw [if_pos c_85] | rw [if_neg c_85]) | (have hN : D_numAt μ = (μ_19, v2_19, nI (3 - 0)) := (by rw [D_numAt, fin0_19]; rfl); rw [D_readNumberM, if_neg c_6, hN]; dsimp only; first | rw [if_pos c_85] | rw [if_neg c_85]))
            · refine lv_iconst (v := 1) K.1.1 K.1.2.1 dX3_readNumber_100 (by decide) ?_
              refine lv_goto (tgt := 105) K.1.1 K.1.2.1 dX3_readNumber_101 (by decide) ?_
              exact m_zret K hr hlocks hP hS dX3_readNumber_105 (by first | rfl | (subst er_1 inv1_19; rfl)) (by subst er_1 inv1_19; first | (rw [D_readNumber, if_pos c_6]; done) | (have hN : D_numAt μ = (μ_19, v2_19, nI (3 - (n + 1))) := (by rw [D_numAt, fin0_19, D_dig, if_pos c_39]); rw [D_readNumber, if_neg c_6, hN]; dsimp only; first | rw [if_pos (Int32.not_le.mp c_97)] | rw [if_neg (Int32.not_lt.mpr c_97)]) | (have hN : D_numAt μ = (μ_19, v2_19, nI (3 - 0)) := (by rw [D_numAt, fin0_19]; rfl); rw [D_readNumber, if_neg c_6, hN]; dsimp only; first | rw [if_pos (Int32.not_le.mp c_97)] | rw [if_neg (Int32.not_lt.mpr c_97)])) (by subst er_1 inv1_19; first | (rw [D_readNumberM, if_pos c_6]; done) | (have hN : D_numAt μ = (μ_19, v2_19, nI (3 - (n + 1))) := (by rw [D_numAt, fin0_19, D_dig, if_pos c_39]); rw [D_readNumberM, if_neg c_6, hN]; dsimp only; first | rw [if_pos c_85] | rw [if_neg c_85]) | (have hN : D_numAt μ = (μ_19, v2_19, nI (3 - 0)) := (by rw [D_numAt, fin0_19]; rfl); rw [D_readNumberM, if_neg c_6, hN]; dsimp only; first | rw [if_pos c_85] | rw [if_neg c_85]))
          · refine lv_aload_n K.1.1 K.1.2.1 dX3_readNumber_88 rfl (lv_at hl 2 rfl) ?_
            refine lv_aload_n K.1.1 K.1.2.1 dX3_readNumber_89 rfl (lv_at hl 2 rfl) ?_
            refine m_geti K hP (by decide) sh_254 rfl tuX3 4 (by decide) rfl q_372 dX3_readNumber_90 ?_
            refine lv_topi (fun g_2 eg_2 => ?_)
            refine m_puti K hP hS (by decide) sh_254 rfl tuX3 tyX3 tyX3_ok nmX3 5 (by decide) rfl rfl (by decide +kernel) q_373 dX3_readNumber_93 (fun H locs hP hS => ?_)
            refine lv_iload_n K.1.1 K.1.2.1 dX3_readNumber_96 rfl (lv_at hl 0 rfl) ?_
            refine lv_if_le (tgt := 104) K.1.1 K.1.2.1 dX3_readNumber_97 (by decide) (fun c_97 => ?_) (fun c_97 => ?_)
            · refine lv_iconst (v := 0) K.1.1 K.1.2.1 dX3_readNumber_104 (by decide) ?_
              exact m_zret K hr hlocks hP hS dX3_readNumber_105 (by first | rfl | (subst er_1 inv1_19 eg_2; rfl)) (by subst er_1 inv1_19 eg_2; first | (rw [D_readNumber, if_pos c_6]; done) | (have hN : D_numAt μ = (μ_19, v2_19, nI (3 - (n + 1))) := (by rw [D_numAt, fin0_19, D_dig, if_pos c_39]); rw [D_readNumber, if_neg c_6, hN]; dsimp only; first | rw [if_pos (Int32.not_le.mp c_97)] | rw [if_neg (Int32.not_lt.mpr c_97)]) | (have hN : D_numAt μ = (μ_19, v2_19, nI (3 - 0)) := (by rw [D_numAt, fin0_19]; rfl); rw [D_readNumber, if_neg c_6, hN]; dsimp only; first | rw [if_pos (Int32.not_le.mp c_97)] | rw [if_neg (Int32.not_lt.mpr c_97)])) (by subst er_1 inv1_19 eg_2; first | (rw [D_readNumberM, if_pos c_6]; done) | (have hN : D_numAt μ = (μ_19, v2_19, nI (3 - (n + 1))) := (by rw [D_numAt, fin0_19, D_dig, if_pos c_39]); rw [D_readNumberM, if_neg c_6, hN]; dsimp only; first | rw [if_pos c_85] | rw [if_neg c_85]) | (have hN : D_numAt μ = (μ_19, v2_19, nI (3 - 0)) := (by rw [D_numAt, fin0_19]; rfl); rw [D_readNumberM, if_neg c_6, hN]; dsimp only; first | rw [if_pos c_85] | rw [if_neg c_85]))
            · refine lv_iconst (v := 1) K.1.1 K.1.2.1 dX3_readNumber_100 (by decide) ?_
              refine lv_goto (tgt := 105) K.1.1 K.1.2.1 dX3_readNumber_101 (by decide) ?_
              exact m_zret K hr hlocks hP hS dX3_readNumber_105 (by first | rfl | (subst er_1 inv1_19 eg_2; rfl)) (by subst er_1 inv1_19 eg_2; first | (rw [D_readNumber, if_pos c_6]; done) | (have hN : D_numAt μ = (μ_19, v2_19, nI (3 - (n + 1))) := (by rw [D_numAt, fin0_19, D_dig, if_pos c_39]); rw [D_readNumber, if_neg c_6, hN]; dsimp only; first | rw [if_pos (Int32.not_le.mp c_97)] | rw [if_neg (Int32.not_lt.mpr c_97)]) | (have hN : D_numAt μ = (μ_19, v2_19, nI (3 - 0)) := (by rw [D_numAt, fin0_19]; rfl); rw [D_readNumber, if_neg c_6, hN]; dsimp only; first | rw [if_pos (Int32.not_le.mp c_97)] | rw [if_neg (Int32.not_lt.mpr c_97)])) (by subst er_1 inv1_19 eg_2; first | (rw [D_readNumberM, if_pos c_6]; done) | (have hN : D_numAt μ = (μ_19, v2_19, nI (3 - (n + 1))) := (by rw [D_numAt, fin0_19, D_dig, if_pos c_39]); rw [D_readNumberM, if_neg c_6, hN]; dsimp only; first | rw [if_pos c_85] | rw [if_neg c_85]) | (have hN : D_numAt μ = (μ_19, v2_19, nI (3 - 0)) := (by rw [D_numAt, fin0_19]; rfl); rw [D_readNumberM, if_neg c_6, hN]; dsimp only; first | rw [if_pos c_85] | rw [if_neg c_85]))
        · exact absurd c_21 (not_not_intro (by subst er_1 inv1_19; decide))
      | succ n ih_19 =>
        intro v3_19 v2_19 μ_19 H locs ls inv0_19 inv1_19 fin0_19 hP hS hl
        refine lv_iload_n K.1.1 K.1.2.1 dX3_readNumber_19 rfl (lv_at hl 0 rfl) ?_
        refine lv_iconst (v := 3) K.1.1 K.1.2.1 dX3_readNumber_20 (by decide) ?_
        refine lv_icmp_ge (tgt := 75) K.1.1 K.1.2.1 dX3_readNumber_21 (by decide) (fun c_21 => ?_) (fun c_21 => ?_)
        · exact absurd c_21 (by subst er_1 inv1_19; exact nI_ge (a := 3 - (n + 1)) (b := 3) (by omega) (by decide))
        · refine lv_aload_n K.1.1 K.1.2.1 dX3_readNumber_24 rfl (lv_at hl 2 rfl) ?_
          refine lv_aload_n K.1.1 K.1.2.1 dX3_readNumber_25 rfl (lv_at hl 2 rfl) ?_
          refine m_geti K hP (by decide) sh_254 rfl tuX3 4 (by decide) rfl q_372 dX3_readNumber_26 ?_
          refine lv_topi (fun g_3 eg_3 => ?_)
          refine m_cV (n := 1) (As := [.int g_3]) (rest := []) K hP hS (MX3_byteAt l G B _ g_3 ) (by decide) sh_254 rfl q_431 q_433 q_1 q_90 q_434 hv_X3_byteAt ⟨Nat.le_of_ble_eq_true rfl, Nat.le_of_ble_eq_true rfl⟩ rfl hl.1 rfl (Nat.le_of_ble_eq_true rfl) dX3_readNumber_29 ⟨Nat.zero_le _, Nat.zero_le _⟩ (fun H locs hP hS => ?_)
          refine lv_topi (fun r_4 er_4 => ?_)
          refine lv_bipush (v := 48) K.1.1 K.1.2.1 dX3_readNumber_32 (by decide) ?_
          refine lv_bipush (v := 57) K.1.1 K.1.2.1 dX3_readNumber_34 (by decide) ?_
          refine m_cSN (n := 3) (As := [.int r_4, .int 48, .int 57]) (rest := []) K hP hS (MX10_isWithin l G B _ r_4 48 57 ) K.2.2.1.1 q_444 q_82 q_445 hn_X10_isWithin ⟨Nat.le_of_ble_eq_true rfl, Nat.le_of_ble_eq_true rfl⟩ rfl hl.1 rfl (Nat.le_of_ble_eq_true rfl) dX3_readNumber_36 ⟨Nat.zero_le _, Nat.zero_le _⟩ (fun H locs hP hS => ?_)
          refine lv_topi (fun r_5 er_5 => ?_)
          refine lv_if_eq (tgt := 75) K.1.1 K.1.2.1 dX3_readNumber_39 (by decide) (fun c_39 => ?_) (fun c_39 => ?_)
          · refine lv_aload_n K.1.1 K.1.2.1 dX3_readNumber_75 rfl (lv_at hl 2 rfl) ?_
            refine m_getr K hP (by decide) sh_254 rfl tuX3 2 (by decide) rfl q_369 dX3_readNumber_76 ?_
            refine lv_iload_n K.1.1 K.1.2.1 dX3_readNumber_79 rfl (lv_at hl 3 rfl) ?_
            refine lv_iload_n K.1.1 K.1.2.1 dX3_readNumber_80 rfl (lv_at hl 1 rfl) ?_
            refine m_cV (n := 2) (As := [.int i, .int v2_19]) (rest := []) K hP hS (MX5_put l G B _ 255 3 isR_255 i v2_19 ) (Nat.lt_of_succ_lt isR_255.1) isR_255.2.1 rfl q_513 q_514 q_515 q_85 q_516 hv_X5_put ⟨Nat.le_of_ble_eq_true rfl, Nat.le_of_ble_eq_true rfl⟩ rfl hl.1 rfl (Nat.le_of_ble_eq_true rfl) dX3_readNumber_81 ⟨Nat.zero_le _, Nat.zero_le _⟩ (fun H locs hP hS => ?_)
            refine W.eq (g2 := F0 m 84 ls []) rfl ?_
            refine lv_iload_n K.1.1 K.1.2.1 dX3_readNumber_84 rfl (lv_at hl 0 rfl) ?_
            refine lv_if_ne (tgt := 96) K.1.1 K.1.2.1 dX3_readNumber_85 (by decide) (fun c_85 => ?_) (fun c_85 => ?_)
            · refine lv_iload_n K.1.1 K.1.2.1 dX3_readNumber_96 rfl (lv_at hl 0 rfl) ?_
              refine lv_if_le (tgt := 104) K.1.1 K.1.2.1 dX3_readNumber_97 (by decide) (fun c_97 => ?_) (fun c_97 => ?_)
              · refine lv_iconst (v := 0) K.1.1 K.1.2.1 dX3_readNumber_104 (by decide) ?_
                exact m_zret K hr hlocks hP hS dX3_readNumber_105 (by first | rfl | (subst er_1 inv1_19 eg_3 er_4 er_5; rfl)) (by subst er_1 inv1_19 eg_3 er_4 er_5; first | (rw [D_readNumber, if_pos c_6]; done) | (have hN : D_numAt μ = (μ_19, v2_19, nI (3 - (n + 1))) := (by rw [D_numAt, fin0_19, D_dig, if_pos c_39]); rw [D_readNumber, if_neg c_6, hN]; dsimp only; first | rw [if_pos (Int32.not_le.mp c_97)] | rw [if_neg (Int32.not_lt.mpr c_97)]) | (have hN : D_numAt μ = (μ_19, v2_19, nI (3 - 0)) := (by rw [D_numAt, fin0_19]; rfl); rw [D_readNumber, if_neg c_6, hN]; dsimp only; first | rw [if_pos (Int32.not_le.mp c_97)] | rw [if_neg (Int32.not_lt.mpr c_97)])) (by subst er_1 inv1_19 eg_3 er_4 er_5; first | (rw [D_readNumberM, if_pos c_6]; done) | (have hN : D_numAt μ = (μ_19, v2_19, nI (3 - (n + 1))) := (by rw [D_numAt, fin0_19, D_dig, if_pos c_39]); rw [D_readNumberM, if_neg c_6, hN]; dsimp only; first | rw [if_pos c_85] | rw [if_neg c_85]) | (have hN : D_numAt μ = (μ_19, v2_19, nI (3 - 0)) := (by rw [D_numAt, fin0_19]; rfl); rw [D_readNumberM, if_neg c_6, hN]; dsimp only; first | rw [if_pos c_85] | rw [if_neg c_85]))
              · refine lv_iconst (v := 1) K.1.1 K.1.2.1 dX3_readNumber_100 (by decide) ?_
                refine lv_goto (tgt := 105) K.1.1 K.1.2.1 dX3_readNumber_101 (by decide) ?_
                exact m_zret K hr hlocks hP hS dX3_readNumber_105 (by first | rfl | (subst er_1 inv1_19 eg_3 er_4 er_5; rfl)) (by subst er_1 inv1_19 eg_3 er_4 er_5; first | (rw [D_readNumber, if_pos c_6]; done) | (have hN : D_numAt μ = (μ_19, v2_19, nI (3 - (n + 1))) := (by rw [D_numAt, fin0_19, D_dig, if_pos c_39]); rw [D_readNumber, if_neg c_6, hN]; dsimp only; first | rw [if_pos (Int32.not_le.mp c_97)] | rw [if_neg (Int32.not_lt.mpr c_97)]) | (have hN : D_numAt μ = (μ_19, v2_19, nI (3 - 0)) := (by rw [D_numAt, fin0_19]; rfl); rw [D_readNumber, if_neg c_6, hN]; dsimp only; first | rw [if_pos (Int32.not_le.mp c_97)] | rw [if_neg (Int32.not_lt.mpr c_97)])) (by subst er_1 inv1_19 eg_3 er_4 er_5; first | (rw [D_readNumberM, if_pos c_6]; done) | (have hN : D_numAt μ = (μ_19, v2_19, nI (3 - (n + 1))) := (by rw [D_numAt, fin0_19, D_dig, if_pos c_39]); rw [D_readNumberM, if_neg c_6, hN]; dsimp only; first | rw [if_pos c_85] | rw [if_neg c_85]) | (have hN : D_numAt μ = (μ_19, v2_19, nI (3 - 0)) := (by rw [D_numAt, fin0_19]; rfl); rw [D_readNumberM, if_neg c_6, hN]; dsimp only; first | rw [if_pos c_85] | rw [if_neg c_85]))
            · refine lv_aload_n K.1.1 K.1.2.1 dX3_readNumber_88 rfl (lv_at hl 2 rfl) ?_
              refine lv_aload_n K.1.1 K.1.2.1 dX3_readNumber_89 rfl (lv_at hl 2 rfl) ?_
              refine m_geti K hP (by decide) sh_254 rfl tuX3 4 (by decide) rfl q_372 dX3_readNumber_90 ?_
              refine lv_topi (fun g_6 eg_6 => ?_)
              refine m_puti K hP hS (by decide) sh_254 rfl tuX3 tyX3 tyX3_ok nmX3 5 (by decide) rfl rfl (by decide +kernel) q_373 dX3_readNumber_93 (fun H locs hP hS => ?_)
              refine lv_iload_n K.1.1 K.1.2.1 dX3_readNumber_96 rfl (lv_at hl 0 rfl) ?_
              refine lv_if_le (tgt := 104) K.1.1 K.1.2.1 dX3_readNumber_97 (by decide) (fun c_97 => ?_) (fun c_97 => ?_)
              · refine lv_iconst (v := 0) K.1.1 K.1.2.1 dX3_readNumber_104 (by decide) ?_
                exact m_zret K hr hlocks hP hS dX3_readNumber_105 (by first | rfl | (subst er_1 inv1_19 eg_3 er_4 er_5 eg_6; rfl)) (by subst er_1 inv1_19 eg_3 er_4 er_5 eg_6; first | (rw [D_readNumber, if_pos c_6]; done) | (have hN : D_numAt μ = (μ_19, v2_19, nI (3 - (n + 1))) := (by rw [D_numAt, fin0_19, D_dig, if_pos c_39]); rw [D_readNumber, if_neg c_6, hN]; dsimp only; first | rw [if_pos (Int32.not_le.mp c_97)] | rw [if_neg (Int32.not_lt.mpr c_97)]) | (have hN : D_numAt μ = (μ_19, v2_19, nI (3 - 0)) := (by rw [D_numAt, fin0_19]; rfl); rw [D_readNumber, if_neg c_6, hN]; dsimp only; first | rw [if_pos (Int32.not_le.mp c_97)] | rw [if_neg (Int32.not_lt.mpr c_97)])) (by subst er_1 inv1_19 eg_3 er_4 er_5 eg_6; first | (rw [D_readNumberM, if_pos c_6]; done) | (have hN : D_numAt μ = (μ_19, v2_19, nI (3 - (n + 1))) := (by rw [D_numAt, fin0_19, D_dig, if_pos c_39]); rw [D_readNumberM, if_neg c_6, hN]; dsimp only; first | rw [if_pos c_85] | rw [if_neg c_85]) | (have hN : D_numAt μ = (μ_19, v2_19, nI (3 - 0)) := (by rw [D_numAt, fin0_19]; rfl); rw [D_readNumberM, if_neg c_6, hN]; dsimp only; first | rw [if_pos c_85] | rw [if_neg c_85]))
              · refine lv_iconst (v := 1) K.1.1 K.1.2.1 dX3_readNumber_100 (by decide) ?_
                refine lv_goto (tgt := 105) K.1.1 K.1.2.1 dX3_readNumber_101 (by decide) ?_
                exact m_zret K hr hlocks hP hS dX3_readNumber_105 (by first | rfl | (subst er_1 inv1_19 eg_3 er_4 er_5 eg_6; rfl)) (by subst er_1 inv1_19 eg_3 er_4 er_5 eg_6; first | (rw [D_readNumber, if_pos c_6]; done) | (have hN : D_numAt μ = (μ_19, v2_19, nI (3 - (n + 1))) := (by rw [D_numAt, fin0_19, D_dig, if_pos c_39]); rw [D_readNumber, if_neg c_6, hN]; dsimp only; first | rw [if_pos (Int32.not_le.mp c_97)] | rw [if_neg (Int32.not_lt.mpr c_97)]) | (have hN : D_numAt μ = (μ_19, v2_19, nI (3 - 0)) := (by rw [D_numAt, fin0_19]; rfl); rw [D_readNumber, if_neg c_6, hN]; dsimp only; first | rw [if_pos (Int32.not_le.mp c_97)] | rw [if_neg (Int32.not_lt.mpr c_97)])) (by subst er_1 inv1_19 eg_3 er_4 er_5 eg_6; first | (rw [D_readNumberM, if_pos c_6]; done) | (have hN : D_numAt μ = (μ_19, v2_19, nI (3 - (n + 1))) := (by rw [D_numAt, fin0_19, D_dig, if_pos c_39]); rw [D_readNumberM, if_neg c_6, hN]; dsimp only; first | rw [if_pos c_85] | rw [if_neg c_85]) | (have hN : D_numAt μ = (μ_19, v2_19, nI (3 - 0)) := (by rw [D_numAt, fin0_19]; rfl); rw [D_readNumberM, if_neg c_6, hN]; dsimp only; first | rw [if_pos c_85] | rw [if_neg c_85]))
          · refine lv_iload_n K.1.1 K.1.2.1 dX3_readNumber_42 rfl (lv_at hl 1 rfl) ?_
            refine lv_bipush (v := 10) K.1.1 K.1.2.1 dX3_readNumber_43 (by decide) ?_
            refine lv_imul K.1.1 K.1.2.1 dX3_readNumber_45 ?_
            refine lv_aload_n K.1.1 K.1.2.1 dX3_readNumber_46 rfl (lv_at hl 2 rfl) ?_
            refine lv_aload_n K.1.1 K.1.2.1 dX3_readNumber_47 rfl (lv_at hl 2 rfl) ?_
            refine m_geti K hP (by decide) sh_254 rfl tuX3 4 (by decide) rfl q_372 dX3_readNumber_48 ?_
            refine lv_topi (fun g_7 eg_7 => ?_)
            refine m_cV (n := 1) (As := [.int g_7]) (rest := [.int (v2_19 * 10)]) K hP hS (MX3_byteAt l G B _ g_7 ) (by decide) sh_254 rfl q_431 q_433 q_1 q_90 q_434 hv_X3_byteAt ⟨Nat.le_of_ble_eq_true rfl, Nat.le_of_ble_eq_true rfl⟩ rfl hl.1 rfl (Nat.le_of_ble_eq_true rfl) dX3_readNumber_51 ⟨Nat.zero_le _, Nat.zero_le _⟩ (fun H locs hP hS => ?_)
            refine lv_topi (fun r_8 er_8 => ?_)
            refine lv_iadd K.1.1 K.1.2.1 dX3_readNumber_54 ?_
            refine lv_bipush (v := 48) K.1.1 K.1.2.1 dX3_readNumber_55 (by decide) ?_
            refine lv_isub K.1.1 K.1.2.1 dX3_readNumber_57 ?_
            refine lv_topi (fun x_9 ex_9 => ?_)
            refine lv_istore_n (lv' := [(2, .int x_9), (3, .int v3_19), (0, .ref (B + 254)), (1, .int i)]) K.1.1 K.1.2.1 dX3_readNumber_58 rfl hl (by decide) rfl (fun ls hl => ?_)
            obtain ⟨x_10, ex_10⟩ : ∃ y : Int32, y = v3_19 + (1) := ⟨_, rfl⟩
            refine lv_iinc (v := x_10) (lv' := [(3, .int x_10), (2, .int x_9), (0, .ref (B + 254)), (1, .int i)]) K.1.1 K.1.2.1 dX3_readNumber_59 hl (k := 1) rfl (by rw [ex_10]; rfl) (by decide) rfl (fun ls hl => ?_)
            refine lv_aload_n K.1.1 K.1.2.1 dX3_readNumber_62 rfl (lv_at hl 2 rfl) ?_
            refine lv_dup K.1.1 K.1.2.1 dX3_readNumber_63 rfl ?_
            refine m_geti K hP (by decide) sh_254 rfl tuX3 4 (by decide) rfl q_372 dX3_readNumber_64 ?_
            refine lv_topi (fun g_11 eg_11 => ?_)
            refine lv_iconst (v := 1) K.1.1 K.1.2.1 dX3_readNumber_67 (by decide) ?_
            refine lv_iadd K.1.1 K.1.2.1 dX3_readNumber_68 ?_
            refine m_puti K hP hS (by decide) sh_254 rfl tuX3 tyX3 tyX3_ok nmX3 4 (by decide) rfl rfl (by decide +kernel) q_372 dX3_readNumber_69 (fun H locs hP hS => ?_)
            refine lv_goto (tgt := 19) K.1.1 K.1.2.1 dX3_readNumber_72 (by decide) ?_
            exact ih_19 _ _ _ _ _ _ (by omega) (by subst er_1 inv1_19 eg_3 er_4 er_5 eg_7 er_8 ex_9 ex_10 eg_11; rw [nI_1, show 3 - (n + 1) + 1 = 3 - n by omega]) (by subst er_1 inv1_19 eg_3 er_4 er_5 eg_7 er_8 ex_9 ex_10 eg_11; rw [fin0_19, D_dig, if_neg c_39]; rfl) hP hS (lv_sub hl [0, 1, 2, 3] rfl)
    exact lp_19 (3) _ _ _ _ _ _ (by exact Nat.le_refl _) (by rfl) (by rfl) hP hS (lv_sub hl [0, 1, 2, 3] rfl)
  · refine lv_iconst (v := 0) K.1.1 K.1.2.1 dX3_readNumber_9 (by decide) ?_
    exact m_zret K hr hlocks hP hS dX3_readNumber_10 (by first | rfl | (subst er_1; rfl)) (by subst er_1; rw [D_readNumber, if_pos c_6]) (by subst er_1; rw [D_readNumberM, if_pos c_6])

set_option maxHeartbeats 4000000 in
set_option maxRecDepth 100000 in
theorem MX3_readCommand (l : Launch) (G : GG) (B : Nat) (μ : Mm) : CM l yX3_readCommand (.code yX3_readCommand cX3_readCommand 3 (Option.some FieldType.boolean)) 7 154 G B [.ref (B + 254)] μ (some (.int ((D_readCommand μ).2))) ((D_readCommand μ).1) := by
  refine CM.of (by decide) (Nat.le_of_ble_eq_true rfl) ?_
  intro p e s m below meth c ls K hr hlocks hP hl
  have hS : va_S (AA B) s.heap s.heap [] := va_S.rf
  have hl : lv_has ls 3 [(0, .ref (B + 254))] := hl
  refine lv_aload_n K.1.1 K.1.2.1 dX3_readCommand_0 rfl (lv_at hl 0 rfl) ?_
  refine m_cV (n := 0) (As := []) (rest := []) K hP hS (MX3_skipSpaces l G B _  ) (by decide) sh_254 rfl q_427 q_429 q_0 q_90 q_430 hv_X3_skipSpaces ⟨Nat.le_of_ble_eq_true rfl, Nat.le_of_ble_eq_true rfl⟩ rfl hl.1 rfl (Nat.le_of_ble_eq_true rfl) dX3_readCommand_1 ⟨Nat.zero_le _, Nat.zero_le _⟩ (fun H locs hP hS => ?_)
  refine W.eq (g2 := F0 m 4 ls []) rfl ?_
  refine lv_aload_n K.1.1 K.1.2.1 dX3_readCommand_4 rfl (lv_at hl 0 rfl) ?_
  refine m_geti K hP (by decide) sh_254 rfl tuX3 4 (by decide) rfl q_372 dX3_readCommand_5 ?_
  refine lv_topi (fun g_1 eg_1 => ?_)
  refine lv_aload_n K.1.1 K.1.2.1 dX3_readCommand_8 rfl (lv_at hl 0 rfl) ?_
  refine m_geti K hP (by decide) sh_254 rfl tuX3 0 (by decide) rfl q_365 dX3_readCommand_9 ?_
  refine lv_topi (fun g_2 eg_2 => ?_)
  refine lv_icmp_eq (tgt := 22) K.1.1 K.1.2.1 dX3_readCommand_12 (by decide) (fun c_12 => ?_) (fun c_12 => ?_)
  · refine lv_iconst (v := 0) K.1.1 K.1.2.1 dX3_readCommand_22 (by decide) ?_
    exact m_zret K hr hlocks hP hS dX3_readCommand_23 (by first | rfl | (subst eg_1 eg_2; rfl)) (by subst eg_1 eg_2; exact congrArg (fun z : Mm × Int32 => some (Value.int z.2)) (rcmd_end c_12)) (by subst eg_1 eg_2; exact congrArg (fun z : Mm × Int32 => z.1) (rcmd_end c_12))
  · refine lv_aload_n K.1.1 K.1.2.1 dX3_readCommand_15 rfl (lv_at hl 0 rfl) ?_
    refine m_cV (n := 0) (As := []) (rest := []) K hP hS (MX3_readWord l G B _  ) (by decide) sh_254 rfl q_439 q_441 q_2 q_90 q_442 hv_X3_readWord ⟨Nat.le_of_ble_eq_true rfl, Nat.le_of_ble_eq_true rfl⟩ rfl hl.1 rfl (Nat.le_of_ble_eq_true rfl) dX3_readCommand_16 ⟨Nat.zero_le _, Nat.zero_le _⟩ (fun H locs hP hS => ?_)
    refine lv_topi (fun r_3 er_3 => ?_)
    refine lv_if_ne (tgt := 24) K.1.1 K.1.2.1 dX3_readCommand_19 (by decide) (fun c_19 => ?_) (fun c_19 => ?_)
    · refine lv_aload_n K.1.1 K.1.2.1 dX3_readCommand_24 rfl (lv_at hl 0 rfl) ?_
      refine m_getw K hP (by decide) sh_254 rfl tuX3 1 (by decide) rfl q_367 dX3_readCommand_25 ?_
      refine m_topw (fun g_4 eg_4 => ?_)
      by_cases c_28 : g_4 < 0
      · exact absurd c_28 (by subst eg_1 eg_2 er_3 eg_4; obtain ⟨kw, hk8, hkw⟩ := rw_word (μ := D_skipSpaces μ) c_19; rw [hkw]; exact nI_pos (by omega))
      · rw [show wv G g_4 = .ref (G.2.2.2 g_4.toNatClampNeg) from if_neg c_28]
        refine lv_ifnonnull (tgt := 35) K.1.1 K.1.2.1 dX3_readCommand_28 (by decide) ?_
        refine lv_aload_n K.1.1 K.1.2.1 dX3_readCommand_35 rfl (lv_at hl 0 rfl) ?_
        refine m_getw K hP (by decide) sh_254 rfl tuX3 1 (by decide) rfl q_367 dX3_readCommand_36 ?_
        refine m_topw (fun g_5 eg_5 => ?_)
        obtain ⟨kw, hk8, hkw⟩ := rw_word (μ := D_skipSpaces μ) (by subst eg_1 eg_2 er_3 eg_4 eg_5; exact c_19)
        rw [show wv G g_5 = .ref (G.2.2.2 kw) from (by rw [eg_5, hkw]; exact wv_nI hk8)]
        refine m_wnum K hS hk8 dX3_readCommand_39 ?_
        obtain ⟨j3, hj3, ej3⟩ := wdN_le kw hk8
        refine lv_topi (fun xw exw => ?_)
        have hx : xw = nI j3 := exw.trans ej3
        have hw : D_wanted (D_readWordM (D_skipSpaces μ) 254 1) = nI j3 := (by rw [D_wanted, hkw, cn_nI (by omega), ej3])
        refine lv_istore_n (lv' := [(1, .int xw), (0, .ref (B + 254))]) K.1.1 K.1.2.1 dX3_readCommand_42 rfl hl (by decide) rfl (fun ls hl => ?_)
        refine lv_iconst (v := 0) K.1.1 K.1.2.1 dX3_readCommand_43 (by decide) ?_
        refine lv_istore_n (lv' := [(2, .int 0), (1, .int xw), (0, .ref (B + 254))]) K.1.1 K.1.2.1 dX3_readCommand_44 rfl hl (by decide) rfl (fun ls hl => ?_)
        have lp_45 : ∀ n : Nat, ∀ (v2_45 : Int32) (μ_45 : Mm) (H : Heap) (locs : List Loc) (ls : Array Slot), (n ≤ j3) → (v2_45 = nI (j3 - n)) → (D_nums (cn (D_wanted (D_readWordM (D_skipSpaces μ) 254 1))) (D_readWordM (D_skipSpaces μ)) 0 = D_nums n μ_45 v2_45) → MP G B μ_45 H → va_S (AA B) s.heap H locs → lv_has ls 3 [(2, .int v2_45), (1, .int xw), (0, .ref (B + 254))] → W p l e ({ frames := 7, cells := 0, slots := 0, locals := 154 } : Room) s m ([.ref (B + 254)] : List Value).toArray below meth c H locs 0 0 (MF below G B (some (.int ((D_readCommand μ).2))) ((D_readCommand μ).1) ([.ref (B + 254)] : List Value).toArray s) (F0 m 45 ls []) := by
          intro n
          induction n with
          | zero =>
            intro v2_45 μ_45 H locs ls inv0_45 inv1_45 fin0_45 hP hS hl
            refine lv_iload_n K.1.1 K.1.2.1 dX3_readCommand_45 rfl (lv_at hl 0 rfl) ?_
            refine lv_iload_n K.1.1 K.1.2.1 dX3_readCommand_46 rfl (lv_at hl 1 rfl) ?_
            refine lv_icmp_ge (tgt := 66) K.1.1 K.1.2.1 dX3_readCommand_47 (by decide) (fun c_47 => ?_) (fun c_47 => ?_)
            · refine lv_aload_n K.1.1 K.1.2.1 dX3_readCommand_66 rfl (lv_at hl 2 rfl) ?_
              refine m_cV (n := 0) (As := []) (rest := []) K hP hS (MX3_skipSpaces l G B _  ) (by decide) sh_254 rfl q_427 q_429 q_0 q_90 q_430 hv_X3_skipSpaces ⟨Nat.le_of_ble_eq_true rfl, Nat.le_of_ble_eq_true rfl⟩ rfl hl.1 rfl (Nat.le_of_ble_eq_true rfl) dX3_readCommand_67 ⟨Nat.zero_le _, Nat.zero_le _⟩ (fun H locs hP hS => ?_)
              refine W.eq (g2 := F0 m 70 ls []) rfl ?_
              refine lv_aload_n K.1.1 K.1.2.1 dX3_readCommand_70 rfl (lv_at hl 2 rfl) ?_
              refine lv_bipush (v := 59) K.1.1 K.1.2.1 dX3_readCommand_71 (by decide) ?_
              refine m_cV (n := 1) (As := [.int 59]) (rest := []) K hP hS (MX3_readByte l G B _ 59 ) (by decide) sh_254 rfl q_509 q_511 q_5 q_90 q_512 hv_X3_readByte ⟨Nat.le_of_ble_eq_true rfl, Nat.le_of_ble_eq_true rfl⟩ rfl hl.1 rfl (Nat.le_of_ble_eq_true rfl) dX3_readCommand_73 ⟨Nat.zero_le _, Nat.zero_le _⟩ (fun H locs hP hS => ?_)
              refine lv_topi (fun r_6 er_6 => ?_)
              exact m_zret K hr hlocks hP hS dX3_readCommand_76 (by subst eg_1 eg_2 er_3 eg_4 eg_5 inv1_45 er_6; unfold D_readByte; split <;> rfl) (by subst eg_1 eg_2 er_3 eg_4 eg_5 inv1_45 er_6; exact congrArg (fun z : Mm × Int32 => some (Value.int z.2)) (rcmd_ok c_12 c_19 (by rw [D_cmd3, fin0_45, D_nums]))) (by subst eg_1 eg_2 er_3 eg_4 eg_5 inv1_45 er_6; exact congrArg (fun z : Mm × Int32 => z.1) (rcmd_ok c_12 c_19 (by rw [D_cmd3, fin0_45, D_nums])))
            · exact absurd c_47 (not_not_intro (by rw [hx, inv1_45]; exact Int32.le_refl _))
          | succ n ih_45 =>
            intro v2_45 μ_45 H locs ls inv0_45 inv1_45 fin0_45 hP hS hl
            refine lv_iload_n K.1.1 K.1.2.1 dX3_readCommand_45 rfl (lv_at hl 0 rfl) ?_
            refine lv_iload_n K.1.1 K.1.2.1 dX3_readCommand_46 rfl (lv_at hl 1 rfl) ?_
            refine lv_icmp_ge (tgt := 66) K.1.1 K.1.2.1 dX3_readCommand_47 (by decide) (fun c_47 => ?_) (fun c_47 => ?_)
            · exact absurd c_47 (by rw [hx, inv1_45]; exact nI_ge (by omega) (by omega))
            · refine lv_aload_n K.1.1 K.1.2.1 dX3_readCommand_50 rfl (lv_at hl 2 rfl) ?_
              refine lv_iload_n K.1.1 K.1.2.1 dX3_readCommand_51 rfl (lv_at hl 0 rfl) ?_
              refine m_cV (n := 1) (As := [.int v2_45]) (rest := []) K hP hS (MX3_readNumber l G B _ v2_45 ) (by decide) sh_254 rfl q_505 q_507 q_4 q_90 q_508 hv_X3_readNumber ⟨Nat.le_of_ble_eq_true rfl, Nat.le_of_ble_eq_true rfl⟩ rfl hl.1 rfl (Nat.le_of_ble_eq_true rfl) dX3_readCommand_52 ⟨Nat.zero_le _, Nat.zero_le _⟩ (fun H locs hP hS => ?_)
              refine lv_topi (fun r_7 er_7 => ?_)
              refine lv_if_ne (tgt := 60) K.1.1 K.1.2.1 dX3_readCommand_55 (by decide) (fun c_55 => ?_) (fun c_55 => ?_)
              · obtain ⟨x_8, ex_8⟩ : ∃ y : Int32, y = v2_45 + (1) := ⟨_, rfl⟩
                refine lv_iinc (v := x_8) (lv' := [(2, .int x_8), (1, .int xw), (0, .ref (B + 254))]) K.1.1 K.1.2.1 dX3_readCommand_60 hl (k := 0) rfl (by rw [ex_8]; rfl) (by decide) rfl (fun ls hl => ?_)
                refine lv_goto (tgt := 45) K.1.1 K.1.2.1 dX3_readCommand_63 (by decide) ?_
                exact ih_45 _ _ _ _ _ (by omega) (by subst eg_1 eg_2 er_3 eg_4 eg_5 inv1_45 er_7 ex_8; rw [nI_1, show j3 - (n + 1) + 1 = j3 - n by omega]) (by subst eg_1 eg_2 er_3 eg_4 eg_5 inv1_45 er_7 ex_8; rw [fin0_45, D_nums, if_neg c_55, nI_1, show j3 - (n + 1) + 1 = j3 - n by omega]) hP hS (lv_sub hl [0, 1, 2] rfl)
              · refine lv_iconst (v := 0) K.1.1 K.1.2.1 dX3_readCommand_58 (by decide) ?_
                exact m_zret K hr hlocks hP hS dX3_readCommand_59 (by first | rfl | (subst eg_1 eg_2 er_3 eg_4 eg_5 inv1_45 er_7; rfl)) (by subst eg_1 eg_2 er_3 eg_4 eg_5 inv1_45 er_7; exact congrArg (fun z : Mm × Int32 => some (Value.int z.2)) (rcmd_no c_12 c_19 (by rw [D_cmd3, fin0_45, D_nums, if_pos c_55]))) (by subst eg_1 eg_2 er_3 eg_4 eg_5 inv1_45 er_7; exact congrArg (fun z : Mm × Int32 => z.1) (rcmd_no c_12 c_19 (by rw [D_cmd3, fin0_45, D_nums, if_pos c_55])))
        exact lp_45 (j3) _ _ _ _ _ (by exact Nat.le_refl _) (by rw [Nat.sub_self]; rfl) (by rw [hw, cn_nI (by omega)]) hP hS (lv_sub hl [0, 1, 2] rfl)
    · refine lv_iconst (v := 0) K.1.1 K.1.2.1 dX3_readCommand_22 (by decide) ?_
      exact m_zret K hr hlocks hP hS dX3_readCommand_23 (by first | rfl | (subst eg_1 eg_2 er_3; rfl)) (by subst eg_1 eg_2 er_3; exact congrArg (fun z : Mm × Int32 => some (Value.int z.2)) (rcmd_w c_12 c_19)) (by subst eg_1 eg_2 er_3; exact congrArg (fun z : Mm × Int32 => z.1) (rcmd_w c_12 c_19))

set_option maxHeartbeats 4000000 in
set_option maxRecDepth 100000 in
theorem MX3_findFault (l : Launch) (G : GG) (B : Nat) (μ : Mm) : CM l yX3_findFault (.code yX3_findFault cX3_findFault 2 (Option.some FieldType.int)) 8 176 G B [.ref (B + 254)] μ (some (.int (D_findFault μ 254 5))) (D_findFault μ) := by
  refine CM.of (by decide) (Nat.le_of_ble_eq_true rfl) ?_
  intro p e s m below meth c ls K hr hlocks hP hl
  have hS : va_S (AA B) s.heap s.heap [] := va_S.rf
  have hl : lv_has ls 2 [(0, .ref (B + 254))] := hl
  refine lv_aload_n K.1.1 K.1.2.1 dX3_findFault_0 rfl (lv_at hl 0 rfl) ?_
  refine m_cV (n := 0) (As := []) (rest := []) K hP hS (MX3_rewind l G B _  ) (by decide) sh_254 rfl q_419 q_420 q_421 q_90 q_422 hv_X3_rewind ⟨Nat.le_of_ble_eq_true rfl, Nat.le_of_ble_eq_true rfl⟩ rfl hl.1 rfl (Nat.le_of_ble_eq_true rfl) dX3_findFault_1 ⟨Nat.zero_le _, Nat.zero_le _⟩ (fun H locs hP hS => ?_)
  refine W.eq (g2 := F0 m 4 ls []) rfl ?_
  refine lv_iconst (v := 0) K.1.1 K.1.2.1 dX3_findFault_4 (by decide) ?_
  refine lv_istore_n (lv' := [(1, .int 0), (0, .ref (B + 254))]) K.1.1 K.1.2.1 dX3_findFault_5 rfl hl (by decide) rfl (fun ls hl => ?_)
  have lp_6 : ∀ n : Nat, ∀ (v1_6 : Int32) (μ_6 : Mm) (H : Heap) (locs : List Loc) (ls : Array Slot), (n ≤ 150) → (v1_6 = nI (150 - n)) → (D_ff (NN 150) (D_rewind μ) = D_ff n μ_6) → MP G B μ_6 H → va_S (AA B) s.heap H locs → lv_has ls 2 [(1, .int v1_6), (0, .ref (B + 254))] → W p l e ({ frames := 8, cells := 0, slots := 0, locals := 176 } : Room) s m ([.ref (B + 254)] : List Value).toArray below meth c H locs 0 0 (MF below G B (some (.int (D_findFault μ 254 5))) (D_findFault μ) ([.ref (B + 254)] : List Value).toArray s) (F0 m 6 ls []) := by
    intro n
    induction n with
    | zero =>
      intro v1_6 μ_6 H locs ls inv0_6 inv1_6 fin0_6 hP hS hl
      refine lv_iload_n K.1.1 K.1.2.1 dX3_findFault_6 rfl (lv_at hl 0 rfl) ?_
      refine lv_sipush (v := 150) K.1.1 K.1.2.1 dX3_findFault_7 (by decide) ?_
      refine lv_icmp_ge (tgt := 31) K.1.1 K.1.2.1 dX3_findFault_10 (by decide) (fun c_10 => ?_) (fun c_10 => ?_)
      · refine lv_aload_n K.1.1 K.1.2.1 dX3_findFault_31 rfl (lv_at hl 1 rfl) ?_
        refine m_geti K hP (by decide) sh_254 rfl tuX3 5 (by decide) rfl q_373 dX3_findFault_32 ?_
        refine lv_topi (fun g_1 eg_1 => ?_)
        exact m_iret K hr hlocks hP hS dX3_findFault_35 (by subst inv1_6 eg_1; rw [D_findFault, fin0_6]; first | rfl | rw [D_ff, if_pos c_17]) (by subst inv1_6 eg_1; rw [D_findFault, fin0_6]; first | rfl | rw [D_ff, if_pos c_17])
      · exact absurd c_10 (not_not_intro (by subst inv1_6; decide))
    | succ n ih_6 =>
      intro v1_6 μ_6 H locs ls inv0_6 inv1_6 fin0_6 hP hS hl
      refine lv_iload_n K.1.1 K.1.2.1 dX3_findFault_6 rfl (lv_at hl 0 rfl) ?_
      refine lv_sipush (v := 150) K.1.1 K.1.2.1 dX3_findFault_7 (by decide) ?_
      refine lv_icmp_ge (tgt := 31) K.1.1 K.1.2.1 dX3_findFault_10 (by decide) (fun c_10 => ?_) (fun c_10 => ?_)
      · exact absurd c_10 (by subst inv1_6; exact nI_ge (a := 150 - (n + 1)) (b := 150) (by omega) (by decide))
      · refine lv_aload_n K.1.1 K.1.2.1 dX3_findFault_13 rfl (lv_at hl 1 rfl) ?_
        refine m_cV (n := 0) (As := []) (rest := []) K hP hS (MX3_readCommand l G B _  ) (by decide) sh_254 rfl q_423 q_424 q_425 q_90 q_426 hv_X3_readCommand ⟨Nat.le_of_ble_eq_true rfl, Nat.le_of_ble_eq_true rfl⟩ rfl hl.1 rfl (Nat.le_of_ble_eq_true rfl) dX3_findFault_14 ⟨Nat.zero_le _, Nat.zero_le _⟩ (fun H locs hP hS => ?_)
        refine lv_topi (fun r_2 er_2 => ?_)
        refine lv_if_ne (tgt := 25) K.1.1 K.1.2.1 dX3_findFault_17 (by decide) (fun c_17 => ?_) (fun c_17 => ?_)
        · obtain ⟨x_3, ex_3⟩ : ∃ y : Int32, y = v1_6 + (1) := ⟨_, rfl⟩
          refine lv_iinc (v := x_3) (lv' := [(1, .int x_3), (0, .ref (B + 254))]) K.1.1 K.1.2.1 dX3_findFault_25 hl (k := 0) rfl (by rw [ex_3]; rfl) (by decide) rfl (fun ls hl => ?_)
          refine lv_goto (tgt := 6) K.1.1 K.1.2.1 dX3_findFault_28 (by decide) ?_
          exact ih_6 _ _ _ _ _ (by omega) (by subst inv1_6 er_2 ex_3; rw [nI_1, show 150 - (n + 1) + 1 = 150 - n by omega]) (by subst inv1_6 er_2 ex_3; rw [fin0_6, D_ff, if_neg c_17]) hP hS (lv_sub hl [0, 1] rfl)
        · refine lv_aload_n K.1.1 K.1.2.1 dX3_findFault_20 rfl (lv_at hl 1 rfl) ?_
          refine m_geti K hP (by decide) sh_254 rfl tuX3 5 (by decide) rfl q_373 dX3_findFault_21 ?_
          refine lv_topi (fun g_4 eg_4 => ?_)
          exact m_iret K hr hlocks hP hS dX3_findFault_24 (by subst inv1_6 er_2 eg_4; rw [D_findFault, fin0_6]; first | rfl | rw [D_ff, if_pos c_17]) (by subst inv1_6 er_2 eg_4; rw [D_findFault, fin0_6]; first | rfl | rw [D_ff, if_pos c_17])
  exact lp_6 (NN 150) _ _ _ _ _ (by rw [NN_eq]; exact Nat.le_refl _) (by rw [NN_eq]; rfl) (by rfl) hP hS (lv_sub hl [0, 1] rfl)

