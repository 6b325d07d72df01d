set_option maxHeartbeats 4000000 in
set_option maxRecDepth 100000 in
theorem MX3_readByte (l : Launch) (G : GG) (B : Nat) (μ : Mm) (w : Int32) : CM l yX3_readByte (.code yX3_readByte cX3_readByte 2 (Option.some FieldType.boolean)) 2 42 G B [.ref (B + 254), .int w] μ (some (.int (D_readByte μ w))) (D_readByteM μ w) := by
  refine CM.of (by decide) (Nat.le_of_ble_eq_true rfl) ?_
  intro p e s m below meth c ls K hr hlocks hP hl
  have hS : va_S (AA B) s.heap s.heap [] := va_S.rf
  have hl : lv_has ls 2 [(0, .ref (B + 254)), (1, .int w)] := hl
  refine lv_aload_n K.1.1 K.1.2.1 dX3_readByte_0 rfl (lv_at hl 0 rfl) ?_
  refine lv_aload_n K.1.1 K.1.2.1 dX3_readByte_1 rfl (lv_at hl 0 rfl) ?_
  refine m_geti K hP (by decide) sh_254 rfl tuX3 4 (by decide) rfl q_372 dX3_readByte_2 ?_
  refine lv_topi (fun g_1 eg_1 => ?_)
  refine m_cV (n := 1) (As := [.int g_1]) (rest := []) K hP hS (MX3_byteAt l G B _ g_1 ) (by decide) sh_254 rfl q_431 q_433 q_1 q_90 q_434 hv_X3_byteAt ⟨Nat.le_of_ble_eq_true rfl, Nat.le_of_ble_eq_true rfl⟩ rfl hl.1 rfl (Nat.le_of_ble_eq_true rfl) dX3_readByte_5 ⟨Nat.zero_le _, Nat.zero_le _⟩ (fun H locs hP hS => ?_)
  refine lv_topi (fun r_2 er_2 => ?_)
  refine lv_iload_n K.1.1 K.1.2.1 dX3_readByte_8 rfl (lv_at hl 1 rfl) ?_
  refine lv_icmp_eq (tgt := 22) K.1.1 K.1.2.1 dX3_readByte_9 (by decide) (fun c_9 => ?_) (fun c_9 => ?_)
  · refine lv_aload_n K.1.1 K.1.2.1 dX3_readByte_22 rfl (lv_at hl 0 rfl) ?_
    refine lv_dup K.1.1 K.1.2.1 dX3_readByte_23 rfl ?_
    refine m_geti K hP (by decide) sh_254 rfl tuX3 4 (by decide) rfl q_372 dX3_readByte_24 ?_
    refine lv_topi (fun g_3 eg_3 => ?_)
    refine lv_iconst (v := 1) K.1.1 K.1.2.1 dX3_readByte_27 (by decide) ?_
    refine lv_iadd K.1.1 K.1.2.1 dX3_readByte_28 ?_
    refine m_puti K hP hS (by decide) sh_254 rfl tuX3 tyX3 tyX3_ok nmX3 4 (by decide) rfl rfl (by decide +kernel) q_372 dX3_readByte_29 (fun H locs hP hS => ?_)
    refine lv_iconst (v := 1) K.1.1 K.1.2.1 dX3_readByte_32 (by decide) ?_
    exact m_zret K hr hlocks hP hS dX3_readByte_33 (by first | rfl | (subst eg_1 er_2 eg_3; rfl)) (by subst eg_1 er_2 eg_3; first | (simp only [D_readByte, D_readByteM, D_next, c_9, if_true, if_false, ite_true, ite_false, reduceIte, not_true, not_false_iff]; done) | simp [D_readByte, D_readByteM, D_next, c_9]) (by subst eg_1 er_2 eg_3; first | (simp only [D_readByte, D_readByteM, D_next, c_9, if_true, if_false, ite_true, ite_false, reduceIte, not_true, not_false_iff]; done) | simp [D_readByte, D_readByteM, D_next, c_9])
  · refine lv_aload_n K.1.1 K.1.2.1 dX3_readByte_12 rfl (lv_at hl 0 rfl) ?_
    refine lv_aload_n K.1.1 K.1.2.1 dX3_readByte_13 rfl (lv_at hl 0 rfl) ?_
    refine m_geti K hP (by decide) sh_254 rfl tuX3 4 (by decide) rfl q_372 dX3_readByte_14 ?_
    refine lv_topi (fun g_4 eg_4 => ?_)
    refine m_puti K hP hS (by decide) sh_254 rfl tuX3 tyX3 tyX3_ok nmX3 5 (by decide) rfl rfl (by decide +kernel) q_373 dX3_readByte_17 (fun H locs hP hS => ?_)
    refine lv_iconst (v := 0) K.1.1 K.1.2.1 dX3_readByte_20 (by decide) ?_
    exact m_zret K hr hlocks hP hS dX3_readByte_21 (by first | rfl | (subst eg_1 er_2 eg_4; rfl)) (by subst eg_1 er_2 eg_4; first | (simp only [D_readByte, D_readByteM, D_next, c_9, if_true, if_false, ite_true, ite_false, reduceIte, not_true, not_false_iff]; done) | simp [D_readByte, D_readByteM, D_next, c_9]) (by subst eg_1 er_2 eg_4; first | (simp only [D_readByte, D_readByteM, D_next, c_9, if_true, if_false, ite_true, ite_false, reduceIte, not_true, not_false_iff]; done) | simp [D_readByte, D_readByteM, D_next, c_9])

set_option maxHeartbeats 4000000 in
set_option maxRecDepth 100000 in
theorem MX3_readWord (l : Launch) (G : GG) (B : Nat) (μ : Mm) : CM l yX3_readWord (.code yX3_readWord cX3_readWord 2 (Option.some FieldType.boolean)) 6 133 G B [.ref (B + 254)] μ (some (.int (D_readWord μ))) (D_readWordM μ) := by
  refine CM.of (by decide) (Nat.le_of_ble_eq_true rfl) ?_
  intro p e s m below meth c ls K hr hlocks hP hl
  have hS : va_S (AA B) s.heap s.heap [] := va_S.rf
  have hl : lv_has ls 2 [(0, .ref (B + 254))] := hl
  refine lv_aload_n K.1.1 K.1.2.1 dX3_readWord_0 rfl (lv_at hl 0 rfl) ?_
  refine m_geti K hP (by decide) sh_254 rfl tuX3 4 (by decide) rfl q_372 dX3_readWord_1 ?_
  refine lv_topi (fun g_1 eg_1 => ?_)
  refine lv_istore_n (lv' := [(1, .int g_1), (0, .ref (B + 254))]) K.1.1 K.1.2.1 dX3_readWord_4 rfl hl (by decide) rfl (fun ls hl => ?_)
  have lp_5 : ∀ n : Nat, ∀ (μ_5 : Mm) (H : Heap) (locs : List Loc) (ls : Array Slot), (cn (μ_5 254 0) ≤ cn (μ_5 254 4) + n) → (D_let (cn (μ 254 0)) μ = D_let n μ_5) → MP G B μ_5 H → va_S (AA B) s.heap H locs → lv_has ls 2 [(1, .int g_1), (0, .ref (B + 254))] → W p l e ({ frames := 6, cells := 0, slots := 0, locals := 133 } : Room) s m ([.ref (B + 254)] : List Value).toArray below meth c H locs 0 0 (MF below G B (some (.int (D_readWord μ))) (D_readWordM μ) ([.ref (B + 254)] : List Value).toArray s) (F0 m 5 ls []) := by
    intro n
    induction n with
    | zero =>
      intro μ_5 H locs ls inv0_5 fin0_5 hP hS hl
      refine lv_aload_n K.1.1 K.1.2.1 dX3_readWord_5 rfl (lv_at hl 1 rfl) ?_
      refine m_geti K hP (by decide) sh_254 rfl tuX3 4 (by decide) rfl q_372 dX3_readWord_6 ?_
      refine lv_topi (fun g_2 eg_2 => ?_)
      refine lv_aload_n K.1.1 K.1.2.1 dX3_readWord_9 rfl (lv_at hl 1 rfl) ?_
      refine m_geti K hP (by decide) sh_254 rfl tuX3 0 (by decide) rfl q_365 dX3_readWord_10 ?_
      refine lv_topi (fun g_3 eg_3 => ?_)
      refine lv_icmp_ge (tgt := 47) K.1.1 K.1.2.1 dX3_readWord_13 (by decide) (fun c_13 => ?_) (fun c_13 => ?_)
      · refine lv_aload_n K.1.1 K.1.2.1 dX3_readWord_47 rfl (lv_at hl 1 rfl) ?_
        refine lv_aload_n K.1.1 K.1.2.1 dX3_readWord_48 rfl (lv_at hl 1 rfl) ?_
        refine m_getr K hP (by decide) sh_254 rfl tuX3 3 (by decide) rfl q_371 dX3_readWord_49 ?_
        refine lv_iload_n K.1.1 K.1.2.1 dX3_readWord_52 rfl (lv_at hl 0 rfl) ?_
        refine lv_aload_n K.1.1 K.1.2.1 dX3_readWord_53 rfl (lv_at hl 1 rfl) ?_
        refine m_geti K hP (by decide) sh_254 rfl tuX3 4 (by decide) rfl q_372 dX3_readWord_54 ?_
        refine lv_topi (fun g_4 eg_4 => ?_)
        refine lv_iload_n K.1.1 K.1.2.1 dX3_readWord_57 rfl (lv_at hl 0 rfl) ?_
        refine lv_isub K.1.1 K.1.2.1 dX3_readWord_58 ?_
        refine m_cSX (n := 3) (As := [.ref (B + 257), .int g_1, .int (g_4 - g_1)]) (rest := [.ref (B + 254)]) K hP hS (MX9_of l G B _ 257 150 isR_257 g_1 (g_4 - g_1) ) q_446 q_447 q_100 q_448 hv_X9_of.2 ⟨Nat.le_of_ble_eq_true rfl, Nat.le_of_ble_eq_true rfl⟩ rfl hl.1 rfl (Nat.le_of_ble_eq_true rfl) dX3_readWord_59 ⟨Nat.zero_le _, Nat.zero_le _⟩ (fun H locs hP hS => ?_)
        refine m_topw (fun r_6 er_6 => ?_)
        refine m_putw (E := "ShadedBooks$Word") K hP hS (by decide) sh_254 rfl tuX3 tyX3 tyX3_ok nmX3 1 (by decide) rfl rfl (by decide +kernel) q_367 dX3_readWord_62 (fun H locs hP hS => ?_)
        refine lv_aload_n K.1.1 K.1.2.1 dX3_readWord_65 rfl (lv_at hl 1 rfl) ?_
        refine m_getw K hP (by decide) sh_254 rfl tuX3 1 (by decide) rfl q_367 dX3_readWord_66 ?_
        refine m_topw (fun g_7 eg_7 => ?_)
        by_cases c_69 : g_7 < 0
        · rw [show wv G g_7 = .null from if_pos c_69]
          refine lv_ifnonnullN K.1.1 K.1.2.1 dX3_readWord_69 ?_
          refine lv_aload_n K.1.1 K.1.2.1 dX3_readWord_72 rfl (lv_at hl 1 rfl) ?_
          refine lv_iload_n K.1.1 K.1.2.1 dX3_readWord_73 rfl (lv_at hl 0 rfl) ?_
          refine m_puti K hP hS (by decide) sh_254 rfl tuX3 tyX3 tyX3_ok nmX3 5 (by decide) rfl rfl (by decide +kernel) q_373 dX3_readWord_74 (fun H locs hP hS => ?_)
          refine lv_aload_n K.1.1 K.1.2.1 dX3_readWord_77 rfl (lv_at hl 1 rfl) ?_
          refine m_getw K hP (by decide) sh_254 rfl tuX3 1 (by decide) rfl q_367 dX3_readWord_78 ?_
          refine m_topw (fun g_8 eg_8 => ?_)
          by_cases c_81 : g_8 < 0
          · rw [show wv G g_8 = .null from if_pos c_81]
            refine lv_ifnullN (tgt := 88) K.1.1 K.1.2.1 dX3_readWord_81 (by decide) ?_
            refine lv_iconst (v := 0) K.1.1 K.1.2.1 dX3_readWord_88 (by decide) ?_
            exact m_zret K hr hlocks hP hS dX3_readWord_89 (by first | rfl | decide) (by subst eg_1 eg_2 eg_3 eg_4 er_6 eg_7 eg_8; have hD : D_letters μ = μ_5 := (by rw [D_letters_eq, fin0_5]; first | rfl | rw [D_let, if_neg (Int32.not_lt.mpr c_13)] | rw [D_let, if_pos (Int32.not_le.mp c_13), if_pos c_31]); simp only [up2_s, up2, and_self, if_true, and_false, false_and, if_false, Nat.reduceEqDiff, reduceCtorEq] at c_69 c_81; first | exact absurd c_69 c_81 | exact absurd c_81 c_69 | (rw [D_readWord, D_word_eq, hD]; first | rw [if_pos c_69] | rw [if_neg c_69])) (by subst eg_1 eg_2 eg_3 eg_4 er_6 eg_7 eg_8; have hD : D_letters μ = μ_5 := (by rw [D_letters_eq, fin0_5]; first | rfl | rw [D_let, if_neg (Int32.not_lt.mpr c_13)] | rw [D_let, if_pos (Int32.not_le.mp c_13), if_pos c_31]); simp only [up2_s, up2, and_self, if_true, and_false, false_and, if_false, Nat.reduceEqDiff, reduceCtorEq] at c_69 c_81; first | exact absurd c_69 c_81 | exact absurd c_81 c_69 | (rw [D_readWordM, D_word_eq, hD]; first | rw [if_pos c_69] | rw [if_neg c_69]))
          · rw [show wv G g_8 = .ref (G.2.2.2 g_8.toNatClampNeg) from if_neg c_81]
            refine lv_ifnull K.1.1 K.1.2.1 dX3_readWord_81 ?_
            refine lv_iconst (v := 1) K.1.1 K.1.2.1 dX3_readWord_84 (by decide) ?_
            refine lv_goto (tgt := 89) K.1.1 K.1.2.1 dX3_readWord_85 (by decide) ?_
            exact m_zret K hr hlocks hP hS dX3_readWord_89 (by first | rfl | decide) (by subst eg_1 eg_2 eg_3 eg_4 er_6 eg_7 eg_8; have hD : D_letters μ = μ_5 := (by rw [D_letters_eq, fin0_5]; first | rfl | rw [D_let, if_neg (Int32.not_lt.mpr c_13)] | rw [D_let, if_pos (Int32.not_le.mp c_13), if_pos c_31]); simp only [up2_s, up2, and_self, if_true, and_false, false_and, if_false, Nat.reduceEqDiff, reduceCtorEq] at c_69 c_81; first | exact absurd c_69 c_81 | exact absurd c_81 c_69 | (rw [D_readWord, D_word_eq, hD]; first | rw [if_pos c_69] | rw [if_neg c_69])) (by subst eg_1 eg_2 eg_3 eg_4 er_6 eg_7 eg_8; have hD : D_letters μ = μ_5 := (by rw [D_letters_eq, fin0_5]; first | rfl | rw [D_let, if_neg (Int32.not_lt.mpr c_13)] | rw [D_let, if_pos (Int32.not_le.mp c_13), if_pos c_31]); simp only [up2_s, up2, and_self, if_true, and_false, false_and, if_false, Nat.reduceEqDiff, reduceCtorEq] at c_69 c_81; first | exact absurd c_69 c_81 | exact absurd c_81 c_69 | (rw [D_readWordM, D_word_eq, hD]; first | rw [if_pos c_69] | rw [if_neg c_69]))
        · rw [show wv G g_7 = .ref (G.2.2.2 g_7.toNatClampNeg) from if_neg c_69]
          refine lv_ifnonnull (tgt := 77) K.1.1 K.1.2.1 dX3_readWord_69 (by decide) ?_
          refine lv_aload_n K.1.1 K.1.2.1 dX3_readWord_77 rfl (lv_at hl 1 rfl) ?_
          refine m_getw K hP (by decide) sh_254 rfl tuX3 1 (by decide) rfl q_367 dX3_readWord_78 ?_
          refine m_topw (fun g_9 eg_9 => ?_)
          by_cases c_81 : g_9 < 0
          · rw [show wv G g_9 = .null from if_pos c_81]
            refine lv_ifnullN (tgt := 88) K.1.1 K.1.2.1 dX3_readWord_81 (by decide) ?_
            refine lv_iconst (v := 0) K.1.1 K.1.2.1 dX3_readWord_88 (by decide) ?_
            exact m_zret K hr hlocks hP hS dX3_readWord_89 (by first | rfl | decide) (by subst eg_1 eg_2 eg_3 eg_4 er_6 eg_7 eg_9; have hD : D_letters μ = μ_5 := (by rw [D_letters_eq, fin0_5]; first | rfl | rw [D_let, if_neg (Int32.not_lt.mpr c_13)] | rw [D_let, if_pos (Int32.not_le.mp c_13), if_pos c_31]); simp only [up2_s, up2, and_self, if_true, and_false, false_and, if_false, Nat.reduceEqDiff, reduceCtorEq] at c_69 c_81; first | exact absurd c_69 c_81 | exact absurd c_81 c_69 | (rw [D_readWord, D_word_eq, hD]; first | rw [if_pos c_69] | rw [if_neg c_69])) (by subst eg_1 eg_2 eg_3 eg_4 er_6 eg_7 eg_9; have hD : D_letters μ = μ_5 := (by rw [D_letters_eq, fin0_5]; first | rfl | rw [D_let, if_neg (Int32.not_lt.mpr c_13)] | rw [D_let, if_pos (Int32.not_le.mp c_13), if_pos c_31]); simp only [up2_s, up2, and_self, if_true, and_false, false_and, if_false, Nat.reduceEqDiff, reduceCtorEq] at c_69 c_81; first | exact absurd c_69 c_81 | exact absurd c_81 c_69 | (rw [D_readWordM, D_word_eq, hD]; first | rw [if_pos c_69] | rw [if_neg c_69]))
          · rw [show wv G g_9 = .ref (G.2.2.2 g_9.toNatClampNeg) from if_neg c_81]
            refine lv_ifnull K.1.1 K.1.2.1 dX3_readWord_81 ?_
            refine lv_iconst (v := 1) K.1.1 K.1.2.1 dX3_readWord_84 (by decide) ?_
            refine lv_goto (tgt := 89) K.1.1 K.1.2.1 dX3_readWord_85 (by decide) ?_
            exact m_zret K hr hlocks hP hS dX3_readWord_89 (by first | rfl | decide) (by subst eg_1 eg_2 eg_3 eg_4 er_6 eg_7 eg_9; have hD : D_letters μ = μ_5 := (by rw [D_letters_eq, fin0_5]; first | rfl | rw [D_let, if_neg (Int32.not_lt.mpr c_13)] | rw [D_let, if_pos (Int32.not_le.mp c_13), if_pos c_31]); simp only [up2_s, up2, and_self, if_true, and_false, false_and, if_false, Nat.reduceEqDiff, reduceCtorEq] at c_69 c_81; first | exact absurd c_69 c_81 | exact absurd c_81 c_69 | (rw [D_readWord, D_word_eq, hD]; first | rw [if_pos c_69] | rw [if_neg c_69])) (by subst eg_1 eg_2 eg_3 eg_4 er_6 eg_7 eg_9; have hD : D_letters μ = μ_5 := (by rw [D_letters_eq, fin0_5]; first | rfl | rw [D_let, if_neg (Int32.not_lt.mpr c_13)] | rw [D_let, if_pos (Int32.not_le.mp c_13), if_pos c_31]); simp only [up2_s, up2, and_self, if_true, and_false, false_and, if_false, Nat.reduceEqDiff, reduceCtorEq] at c_69 c_81; first | exact absurd c_69 c_81 | exact absurd c_81 c_69 | (rw [D_readWordM, D_word_eq, hD]; first | rw [if_pos c_69] | rw [if_neg c_69]))
      · refine lv_aload_n K.1.1 K.1.2.1 dX3_readWord_16 rfl (lv_at hl 1 rfl) ?_
        refine lv_aload_n K.1.1 K.1.2.1 dX3_readWord_17 rfl (lv_at hl 1 rfl) ?_
        refine m_geti K hP (by decide) sh_254 rfl tuX3 4 (by decide) rfl q_372 dX3_readWord_18 ?_
        refine lv_topi (fun g_10 eg_10 => ?_)
        refine m_cV (n := 1) (As := [.int g_10]) (rest := []) K hP hS (MX3_byteAt l G B _ g_10 ) (by decide) sh_254 rfl q_431 q_433 q_1 q_90 q_434 hv_X3_byteAt ⟨Nat.le_of_ble_eq_true rfl, Nat.le_of_ble_eq_true rfl⟩ rfl hl.1 rfl (Nat.le_of_ble_eq_true rfl) dX3_readWord_21 ⟨Nat.zero_le _, Nat.zero_le _⟩ (fun H locs hP hS => ?_)
        refine lv_topi (fun r_11 er_11 => ?_)
        refine lv_bipush (v := 97) K.1.1 K.1.2.1 dX3_readWord_24 (by decide) ?_
        refine lv_bipush (v := 122) K.1.1 K.1.2.1 dX3_readWord_26 (by decide) ?_
        refine m_cSN (n := 3) (As := [.int r_11, .int 97, .int 122]) (rest := []) K hP hS (MX10_isWithin l G B _ r_11 97 122 ) K.2.2.1.1 q_444 q_82 q_445 hn_X10_isWithin ⟨Nat.le_of_ble_eq_true rfl, Nat.le_of_ble_eq_true rfl⟩ rfl hl.1 rfl (Nat.le_of_ble_eq_true rfl) dX3_readWord_28 ⟨Nat.zero_le _, Nat.zero_le _⟩ (fun H locs hP hS => ?_)
        refine lv_topi (fun r_12 er_12 => ?_)
        refine lv_if_eq (tgt := 47) K.1.1 K.1.2.1 dX3_readWord_31 (by decide) (fun c_31 => ?_) (fun c_31 => ?_)
        · refine lv_aload_n K.1.1 K.1.2.1 dX3_readWord_47 rfl (lv_at hl 1 rfl) ?_
          refine lv_aload_n K.1.1 K.1.2.1 dX3_readWord_48 rfl (lv_at hl 1 rfl) ?_
          refine m_getr K hP (by decide) sh_254 rfl tuX3 3 (by decide) rfl q_371 dX3_readWord_49 ?_
          refine lv_iload_n K.1.1 K.1.2.1 dX3_readWord_52 rfl (lv_at hl 0 rfl) ?_
          refine lv_aload_n K.1.1 K.1.2.1 dX3_readWord_53 rfl (lv_at hl 1 rfl) ?_
          refine m_geti K hP (by decide) sh_254 rfl tuX3 4 (by decide) rfl q_372 dX3_readWord_54 ?_
          refine lv_topi (fun g_13 eg_13 => ?_)
          refine lv_iload_n K.1.1 K.1.2.1 dX3_readWord_57 rfl (lv_at hl 0 rfl) ?_
          refine lv_isub K.1.1 K.1.2.1 dX3_readWord_58 ?_
          refine m_cSX (n := 3) (As := [.ref (B + 257), .int g_1, .int (g_13 - g_1)]) (rest := [.ref (B + 254)]) K hP hS (MX9_of l G B _ 257 150 isR_257 g_1 (g_13 - g_1) ) q_446 q_447 q_100 q_448 hv_X9_of.2 ⟨Nat.le_of_ble_eq_true rfl, Nat.le_of_ble_eq_true rfl⟩ rfl hl.1 rfl (Nat.le_of_ble_eq_true rfl) dX3_readWord_59 ⟨Nat.zero_le _, Nat.zero_le _⟩ (fun H locs hP hS => ?_)
          refine m_topw (fun r_15 er_15 => ?_)
          refine m_putw (E := "ShadedBooks$Word") K hP hS (by decide) sh_254 rfl tuX3 tyX3 tyX3_ok nmX3 1 (by decide) rfl rfl (by decide +kernel) q_367 dX3_readWord_62 (fun H locs hP hS => ?_)
          refine lv_aload_n K.1.1 K.1.2.1 dX3_readWord_65 rfl (lv_at hl 1 rfl) ?_
          refine m_getw K hP (by decide) sh_254 rfl tuX3 1 (by decide) rfl q_367 dX3_readWord_66 ?_
          refine m_topw (fun g_16 eg_16 => ?_)
          by_cases c_69 : g_16 < 0
          · rw [show wv G g_16 = .null from if_pos c_69]
            refine lv_ifnonnullN K.1.1 K.1.2.1 dX3_readWord_69 ?_
            refine lv_aload_n K.1.1 K.1.2.1 dX3_readWord_72 rfl (lv_at hl 1 rfl) ?_
            refine lv_iload_n K.1.1 K.1.2.1 dX3_readWord_73 rfl (lv_at hl 0 rfl) ?_
            refine m_puti K hP hS (by decide) sh_254 rfl tuX3 tyX3 tyX3_ok nmX3 5 (by decide) rfl rfl (by decide +kernel) q_373 dX3_readWord_74 (fun H locs hP hS => ?_)
            refine lv_aload_n K.1.1 K.1.2.1 dX3_readWord_77 rfl (lv_at hl 1 rfl) ?_
            refine m_getw K hP (by decide) sh_254 rfl tuX3 1 (by decide) rfl q_367 dX3_readWord_78 ?_
            refine m_topw (fun g_17 eg_17 => ?_)
            by_cases c_81 : g_17 < 0
            · rw [show wv G g_17 = .null from if_pos c_81]
              refine lv_ifnullN (tgt := 88) K.1.1 K.1.2.1 dX3_readWord_81 (by decide) ?_
              refine lv_iconst (v := 0) K.1.1 K.1.2.1 dX3_readWord_88 (by decide) ?_
              exact m_zret K hr hlocks hP hS dX3_readWord_89 (by first | rfl | decide) (by subst eg_1 eg_2 eg_3 eg_10 er_11 er_12 eg_13 er_15 eg_16 eg_17; have hD : D_letters μ = μ_5 := (by rw [D_letters_eq, fin0_5]; first | rfl | rw [D_let, if_neg (Int32.not_lt.mpr c_13)] | rw [D_let, if_pos (Int32.not_le.mp c_13), if_pos c_31]); simp only [up2_s, up2, and_self, if_true, and_false, false_and, if_false, Nat.reduceEqDiff, reduceCtorEq] at c_69 c_81; first | exact absurd c_69 c_81 | exact absurd c_81 c_69 | (rw [D_readWord, D_word_eq, hD]; first | rw [if_pos c_69] | rw [if_neg c_69])) (by subst eg_1 eg_2 eg_3 eg_10 er_11 er_12 eg_13 er_15 eg_16 eg_17; have hD : D_letters μ = μ_5 := (by rw [D_letters_eq, fin0_5]; first | rfl | rw [D_let, if_neg (Int32.not_lt.mpr c_13)] | rw [D_let, if_pos (Int32.not_le.mp c_13), if_pos c_31]); simp only [up2_s, up2, and_self, if_true, and_false, false_and, if_false, Nat.reduceEqDiff, reduceCtorEq] at c_69 c_81; first | exact absurd c_69 c_81 | exact absurd c_81 c_69 | (rw [D_readWordM, D_word_eq, hD]; first | rw [if_pos c_69] | rw [if_neg c_69]))
            · rw [show wv G g_17 = .ref (G.2.2.2 g_17.toNatClampNeg) from if_neg c_81]
              refine lv_ifnull K.1.1 K.1.2.1 dX3_readWord_81 ?_
              refine lv_iconst (v := 1) K.1.1 K.1.2.1 dX3_readWord_84 (by decide) ?_
              refine lv_goto (tgt := 89) K.1.1 K.1.2.1 dX3_readWord_85 (by decide) ?_
              exact m_zret K hr hlocks hP hS dX3_readWord_89 (by first | rfl | decide) (by subst eg_1 eg_2 eg_3 eg_10 er_11 er_12 eg_13 er_15 eg_16 eg_17; have hD : D_letters μ = μ_5 := (by rw [D_letters_eq, fin0_5]; first | rfl | rw [D_let, if_neg (Int32.not_lt.mpr c_13)] | rw [D_let, if_pos (Int32.not_le.mp c_13), if_pos c_31]); simp only [up2_s, up2, and_self, if_true, and_false, false_and, if_false, Nat.reduceEqDiff, reduceCtorEq] at c_69 c_81; first | exact absurd c_69 c_81 | exact absurd c_81 c_69 | (rw [D_readWord, D_word_eq, hD]; first | rw [if_pos c_69] | rw [if_neg c_69])) (by subst eg_1 eg_2 eg_3 eg_10 er_11 er_12 eg_13 er_15 eg_16 eg_17; have hD : D_letters μ = μ_5 := (by rw [D_letters_eq, fin0_5]; first | rfl | rw [D_let, if_neg (Int32.not_lt.mpr c_13)] | rw [D_let, if_pos (Int32.not_le.mp c_13), if_pos c_31]); simp only [up2_s, up2, and_self, if_true, and_false, false_and, if_false, Nat.reduceEqDiff, reduceCtorEq] at c_69 c_81; first | exact absurd c_69 c_81 | exact absurd c_81 c_69 | (rw [D_readWordM, D_word_eq, hD]; first | rw [if_pos c_69] | rw [if_neg c_69]))
          · rw [show wv G g_16 = .ref (G.2.2.2 g_16.toNatClampNeg) from if_neg c_69]
            refine lv_ifnonnull (tgt := 77) K.1.1 K.1.2.1 dX3_readWord_69 (by decide) ?_
            refine lv_aload_n K.1.1 K.1.2.1 dX3_readWord_77 rfl (lv_at hl 1 rfl) ?_
            refine m_getw K hP (by decide) sh_254 rfl tuX3 1 (by decide) rfl q_367 dX3_readWord_78 ?_
            refine m_topw (fun g_18 eg_18 => ?_)
            by_cases c_81 : g_18 < 0
            · rw [show wv G g_18 = .null from if_pos c_81]
              refine lv_ifnullN (tgt := 88) K.1.1 K.1.2.1 dX3_readWord_81 (by decide) ?_
              refine lv_iconst (v := 0) K.1.1 K.1.2.1 dX3_readWord_88 (by decide) ?_
              exact m_zret K hr hlocks hP hS dX3_readWord_89 (by first | rfl | decide) (by subst eg_1 eg_2 eg_3 eg_10 er_11 er_12 eg_13 er_15 eg_16 eg_18; have hD : D_letters μ = μ_5 := (by rw [D_letters_eq, fin0_5]; first | rfl | rw [D_let, if_neg (Int32.not_lt.mpr c_13)] | rw [D_let, if_pos (Int32.not_le.mp c_13), if_pos c_31]); simp only [up2_s, up2, and_self, if_true, and_false, false_and, if_false, Nat.reduceEqDiff, reduceCtorEq] at c_69 c_81; first | exact absurd c_69 c_81 | exact absurd c_81 c_69 | (rw [D_readWord, D_word_eq, hD]; first | rw [if_pos c_69] | rw [if_neg c_69])) (by subst eg_1 eg_2 eg_3 eg_10 er_11 er_12 eg_13 er_15 eg_16 eg_18; have hD : D_letters μ = μ_5 := (by rw [D_letters_eq, fin0_5]; first | rfl | rw [D_let, if_neg (Int32.not_lt.mpr c_13)] | rw [D_let, if_pos (Int32.not_le.mp c_13), if_pos c_31]); simp only [up2_s, up2, and_self, if_true, and_false, false_and, if_false, Nat.reduceEqDiff, reduceCtorEq] at c_69 c_81; first | exact absurd c_69 c_81 | exact absurd c_81 c_69 | (rw [D_readWordM, D_word_eq, hD]; first | rw [if_pos c_69] | rw [if_neg c_69]))
            · rw [show wv G g_18 = .ref (G.2.2.2 g_18.toNatClampNeg) from if_neg c_81]
              refine lv_ifnull K.1.1 K.1.2.1 dX3_readWord_81 ?_
              refine lv_iconst (v := 1) K.1.1 K.1.2.1 dX3_readWord_84 (by decide) ?_
              refine lv_goto (tgt := 89) K.1.1 K.1.2.1 dX3_readWord_85 (by decide) ?_
              exact m_zret K hr hlocks hP hS dX3_readWord_89 (by first | rfl | decide) (by subst eg_1 eg_2 eg_3 eg_10 er_11 er_12 eg_13 er_15 eg_16 eg_18; have hD : D_letters μ = μ_5 := (by rw [D_letters_eq, fin0_5]; first | rfl | rw [D_let, if_neg (Int32.not_lt.mpr c_13)] | rw [D_let, if_pos (Int32.not_le.mp c_13), if_pos c_31]); simp only [up2_s, up2, and_self, if_true, and_false, false_and, if_false, Nat.reduceEqDiff, reduceCtorEq] at c_69 c_81; first | exact absurd c_69 c_81 | exact absurd c_81 c_69 | (rw [D_readWord, D_word_eq, hD]; first | rw [if_pos c_69] | rw [if_neg c_69])) (by subst eg_1 eg_2 eg_3 eg_10 er_11 er_12 eg_13 er_15 eg_16 eg_18; have hD : D_letters μ = μ_5 := (by rw [D_letters_eq, fin0_5]; first | rfl | rw [D_let, if_neg (Int32.not_lt.mpr c_13)] | rw [D_let, if_pos (Int32.not_le.mp c_13), if_pos c_31]); simp only [up2_s, up2, and_self, if_true, and_false, false_and, if_false, Nat.reduceEqDiff, reduceCtorEq] at c_69 c_81; first | exact absurd c_69 c_81 | exact absurd c_81 c_69 | (rw [D_readWordM, D_word_eq, hD]; first | rw [if_pos c_69] | rw [if_neg c_69]))
        · exact absurd c_31 (by subst eg_1 eg_2 eg_3 eg_10 er_11 er_12; exact fun h => cur_end inv0_5 (Int32.not_le.mp c_13) (byte_wnn (lo := 97) (hi := 122) h (by decide)))
    | succ n ih_5 =>
      intro μ_5 H locs ls inv0_5 fin0_5 hP hS hl
      refine lv_aload_n K.1.1 K.1.2.1 dX3_readWord_5 rfl (lv_at hl 1 rfl) ?_
      refine m_geti K hP (by decide) sh_254 rfl tuX3 4 (by decide) rfl q_372 dX3_readWord_6 ?_
      refine lv_topi (fun g_19 eg_19 => ?_)
      refine lv_aload_n K.1.1 K.1.2.1 dX3_readWord_9 rfl (lv_at hl 1 rfl) ?_
      refine m_geti K hP (by decide) sh_254 rfl tuX3 0 (by decide) rfl q_365 dX3_readWord_10 ?_
      refine lv_topi (fun g_20 eg_20 => ?_)
      refine lv_icmp_ge (tgt := 47) K.1.1 K.1.2.1 dX3_readWord_13 (by decide) (fun c_13 => ?_) (fun c_13 => ?_)
      · refine lv_aload_n K.1.1 K.1.2.1 dX3_readWord_47 rfl (lv_at hl 1 rfl) ?_
        refine lv_aload_n K.1.1 K.1.2.1 dX3_readWord_48 rfl (lv_at hl 1 rfl) ?_
        refine m_getr K hP (by decide) sh_254 rfl tuX3 3 (by decide) rfl q_371 dX3_readWord_49 ?_
        refine lv_iload_n K.1.1 K.1.2.1 dX3_readWord_52 rfl (lv_at hl 0 rfl) ?_
        refine lv_aload_n K.1.1 K.1.2.1 dX3_readWord_53 rfl (lv_at hl 1 rfl) ?_
        refine m_geti K hP (by decide) sh_254 rfl tuX3 4 (by decide) rfl q_372 dX3_readWord_54 ?_
        refine lv_topi (fun g_21 eg_21 => ?_)
        refine lv_iload_n K.1.1 K.1.2.1 dX3_readWord_57 rfl (lv_at hl 0 rfl) ?_
        refine lv_isub K.1.1 K.1.2.1 dX3_readWord_58 ?_
        refine m_cSX (n := 3) (As := [.ref (B + 257), .int g_1, .int (g_21 - g_1)]) (rest := [.ref (B + 254)]) K hP hS (MX9_of l G B _ 257 150 isR_257 g_1 (g_21 - g_1) ) q_446 q_447 q_100 q_448 hv_X9_of.2 ⟨Nat.le_of_ble_eq_true rfl, Nat.le_of_ble_eq_true rfl⟩ rfl hl.1 rfl (Nat.le_of_ble_eq_true rfl) dX3_readWord_59 ⟨Nat.zero_le _, Nat.zero_le _⟩ (fun H locs hP hS => ?_)
        refine m_topw (fun r_23 er_23 => ?_)
        refine m_putw (E := "ShadedBooks$Word") K hP hS (by decide) sh_254 rfl tuX3 tyX3 tyX3_ok nmX3 1 (by decide) rfl rfl (by decide +kernel) q_367 dX3_readWord_62 (fun H locs hP hS => ?_)
        refine lv_aload_n K.1.1 K.1.2.1 dX3_readWord_65 rfl (lv_at hl 1 rfl) ?_
        refine m_getw K hP (by decide) sh_254 rfl tuX3 1 (by decide) rfl q_367 dX3_readWord_66 ?_
        refine m_topw (fun g_24 eg_24 => ?_)
        by_cases c_69 : g_24 < 0
        · rw [show wv G g_24 = .null from if_pos c_69]
          refine lv_ifnonnullN K.1.1 K.1.2.1 dX3_readWord_69 ?_
          refine lv_aload_n K.1.1 K.1.2.1 dX3_readWord_72 rfl (lv_at hl 1 rfl) ?_
          refine lv_iload_n K.1.1 K.1.2.1 dX3_readWord_73 rfl (lv_at hl 0 rfl) ?_
          refine m_puti K hP hS (by decide) sh_254 rfl tuX3 tyX3 tyX3_ok nmX3 5 (by decide) rfl rfl (by decide +kernel) q_373 dX3_readWord_74 (fun H locs hP hS => ?_)
          refine lv_aload_n K.1.1 K.1.2.1 dX3_readWord_77 rfl (lv_at hl 1 rfl) ?_
          refine m_getw K hP (by decide) sh_254 rfl tuX3 1 (by decide) rfl q_367 dX3_readWord_78 ?_
          refine m_topw (fun g_25 eg_25 => ?_)
          by_cases c_81 : g_25 < 0
          · rw [show wv G g_25 = .null from if_pos c_81]
            refine lv_ifnullN (tgt := 88) K.1.1 K.1.2.1 dX3_readWord_81 (by decide) ?_
            refine lv_iconst (v := 0) K.1.1 K.1.2.1 dX3_readWord_88 (by decide) ?_
            exact m_zret K hr hlocks hP hS dX3_readWord_89 (by first | rfl | decide) (by subst eg_1 eg_19 eg_20 eg_21 er_23 eg_24 eg_25; have hD : D_letters μ = μ_5 := (by rw [D_letters_eq, fin0_5]; first | rfl | rw [D_let, if_neg (Int32.not_lt.mpr c_13)] | rw [D_let, if_pos (Int32.not_le.mp c_13), if_pos c_31]); simp only [up2_s, up2, and_self, if_true, and_false, false_and, if_false, Nat.reduceEqDiff, reduceCtorEq] at c_69 c_81; first | exact absurd c_69 c_81 | exact absurd c_81 c_69 | (rw [D_readWord, D_word_eq, hD]; first | rw [if_pos c_69] | rw [if_neg c_69])) (by subst eg_1 eg_19 eg_20 eg_21 er_23 eg_24 eg_25; have hD : D_letters μ = μ_5 := (by rw [D_letters_eq, fin0_5]; first | rfl | rw [D_let, if_neg (Int32.not_lt.mpr c_13)] | rw [D_let, if_pos (Int32.not_le.mp c_13), if_pos c_31]); simp only [up2_s, up2, and_self, if_true, and_false, false_and, if_false, Nat.reduceEqDiff, reduceCtorEq] at c_69 c_81; first | exact absurd c_69 c_81 | exact absurd c_81 c_69 | (rw [D_readWordM, D_word_eq, hD]; first | rw [if_pos c_69] | rw [if_neg c_69]))
          · rw [show wv G g_25 = .ref (G.2.2.2 g_25.toNatClampNeg) from if_neg c_81]
            refine lv_ifnull K.1.1 K.1.2.1 dX3_readWord_81 ?_
            refine lv_iconst (v := 1) K.1.1 K.1.2.1 dX3_readWord_84 (by decide) ?_
            refine lv_goto (tgt := 89) K.1.1 K.1.2.1 dX3_readWord_85 (by decide) ?_
            exact m_zret K hr hlocks hP hS dX3_readWord_89 (by first | rfl | decide) (by subst eg_1 eg_19 eg_20 eg_21 er_23 eg_24 eg_25; have hD : D_letters μ = μ_5 := (by rw [D_letters_eq, fin0_5]; first | rfl | rw [D_let, if_neg (Int32.not_lt.mpr c_13)] | rw [D_let, if_pos (Int32.not_le.mp c_13), if_pos c_31]); simp only [up2_s, up2, and_self, if_true, and_false, false_and, if_false, Nat.reduceEqDiff, reduceCtorEq] at c_69 c_81; first | exact absurd c_69 c_81 | exact absurd c_81 c_69 | (rw [D_readWord, D_word_eq, hD]; first | rw [if_pos c_69] | rw [if_neg c_69])) (by subst eg_1 eg_19 eg_20 eg_21 er_23 eg_24 eg_25; have hD : D_letters μ = μ_5 := (by rw [D_letters_eq, fin0_5]; first | rfl | rw [D_let, if_neg (Int32.not_lt.mpr c_13)] | rw [D_let, if_pos (Int32.not_le.mp c_13), if_pos c_31]); simp only [up2_s, up2, and_self, if_true, and_false, false_and, if_false, Nat.reduceEqDiff, reduceCtorEq] at c_69 c_81; first | exact absurd c_69 c_81 | exact absurd c_81 c_69 | (rw [D_readWordM, D_word_eq, hD]; first | rw [if_pos c_69] | rw [if_neg c_69]))
        · rw [show wv G g_24 = .ref (G.2.2.2 g_24.toNatClampNeg) from if_neg c_69]
          refine lv_ifnonnull (tgt := 77) K.1.1 K.1.2.1 dX3_readWord_69 (by decide) ?_
          refine lv_aload_n K.1.1 K.1.2.1 dX3_readWord_77 rfl (lv_at hl 1 rfl) ?_
          refine m_getw K hP (by decide) sh_254 rfl tuX3 1 (by decide) rfl q_367 dX3_readWord_78 ?_
          refine m_topw (fun g_26 eg_26 => ?_)
          by_cases c_81 : g_26 < 0
          · rw [show wv G g_26 = .null from if_pos c_81]
            refine lv_ifnullN (tgt := 88) K.1.1 K.1.2.1 dX3_readWord_81 (by decide) ?_
            refine lv_iconst (v := 0) K.1.1 K.1.2.1 dX3_readWord_88 (by decide) ?_
            exact m_zret K hr hlocks hP hS dX3_readWord_89 (by first | rfl | decide) (by subst eg_1 eg_19 eg_20 eg_21 er_23 eg_24 eg_26; have hD : D_letters μ = μ_5 := (by rw [D_letters_eq, fin0_5]; first | rfl | rw [D_let, if_neg (Int32.not_lt.mpr c_13)] | rw [D_let, if_pos (Int32.not_le.mp c_13), if_pos c_31]); simp only [up2_s, up2, and_self, if_true, and_false, false_and, if_false, Nat.reduceEqDiff, reduceCtorEq] at c_69 c_81; first | exact absurd c_69 c_81 | exact absurd c_81 c_69 | (rw [D_readWord, D_word_eq, hD]; first | rw [if_pos c_69] | rw [if_neg c_69])) (by subst eg_1 eg_19 eg_20 eg_21 er_23 eg_24 eg_26; have hD : D_letters μ = μ_5 := (by rw [D_letters_eq, fin0_5]; first | rfl | rw [D_let, if_neg (Int32.not_lt.mpr c_13)] | rw [D_let, if_pos (Int32.not_le.mp c_13), if_pos c_31]); simp only [up2_s, up2, and_self, if_true, and_false, false_and, if_false, Nat.reduceEqDiff, reduceCtorEq] at c_69 c_81; first | exact absurd c_69 c_81 | exact absurd c_81 c_69 | (rw [D_readWordM, D_word_eq, hD]; first | rw [if_pos c_69] | rw [if_neg c_69]))
          · rw [show wv G g_26 = .ref (G.2.2.2 g_26.toNatClampNeg) from if_neg c_81]
            refine lv_ifnull K.1.1 K.1.2.1 dX3_readWord_81 ?_
            refine lv_iconst (v := 1) K.1.1 K.1.2.1 dX3_readWord_84 (by decide) ?_
            refine lv_goto (tgt := 89) K.1.1 K.1.2.1 dX3_readWord_85 (by decide) ?_
            exact m_zret K hr hlocks hP hS dX3_readWord_89 (by first | rfl | decide) (by subst eg_1 eg_19 eg_20 eg_21 er_23 eg_24 eg_26; have hD : D_letters μ = μ_5 := (by rw [D_letters_eq, fin0_5]; first | rfl | rw [D_let, if_neg (Int32.not_lt.mpr c_13)] | rw [D_let, if_pos (Int32.not_le.mp c_13), if_pos c_31]); simp only [up2_s, up2, and_self, if_true, and_false, false_and, if_false, Nat.reduceEqDiff, reduceCtorEq] at c_69 c_81; first | exact absurd c_69 c_81 | exact absurd c_81 c_69 | (rw [D_readWord, D_word_eq, hD]; first | rw [if_pos c_69] | rw [if_neg c_69])) (by subst eg_1 eg_19 eg_20 eg_21 er_23 eg_24 eg_26; have hD : D_letters μ = μ_5 := (by rw [D_letters_eq, fin0_5]; first | rfl | rw [D_let, if_neg (Int32.not_lt.mpr c_13)] | rw [D_let, if_pos (Int32.not_le.mp c_13), if_pos c_31]); simp only [up2_s, up2, and_self, if_true, and_false, false_and, if_false, Nat.reduceEqDiff, reduceCtorEq] at c_69 c_81; first | exact absurd c_69 c_81 | exact absurd c_81 c_69 | (rw [D_readWordM, D_word_eq, hD]; first | rw [if_pos c_69] | rw [if_neg c_69]))
      · refine lv_aload_n K.1.1 K.1.2.1 dX3_readWord_16 rfl (lv_at hl 1 rfl) ?_
        refine lv_aload_n K.1.1 K.1.2.1 dX3_readWord_17 rfl (lv_at hl 1 rfl) ?_
        refine m_geti K hP (by decide) sh_254 rfl tuX3 4 (by decide) rfl q_372 dX3_readWord_18 ?_
        refine lv_topi (fun g_27 eg_27 => ?_)
        refine m_cV (n := 1) (As := [.int g_27]) (rest := []) K hP hS (MX3_byteAt l G B _ g_27 ) (by decide) sh_254 rfl q_431 q_433 q_1 q_90 q_434 hv_X3_byteAt ⟨Nat.le_of_ble_eq_true rfl, Nat.le_of_ble_eq_true rfl⟩ rfl hl.1 rfl (Nat.le_of_ble_eq_true rfl) dX3_readWord_21 ⟨Nat.zero_le _, Nat.zero_le _⟩ (fun H locs hP hS => ?_)
        refine lv_topi (fun r_28 er_28 => ?_)
        refine lv_bipush (v := 97) K.1.1 K.1.2.1 dX3_readWord_24 (by decide) ?_
        refine lv_bipush (v := 122) K.1.1 K.1.2.1 dX3_readWord_26 (by decide) ?_
        refine m_cSN (n := 3) (As := [.int r_28, .int 97, .int 122]) (rest := []) K hP hS (MX10_isWithin l G B _ r_28 97 122 ) K.2.2.1.1 q_444 q_82 q_445 hn_X10_isWithin ⟨Nat.le_of_ble_eq_true rfl, Nat.le_of_ble_eq_true rfl⟩ rfl hl.1 rfl (Nat.le_of_ble_eq_true rfl) dX3_readWord_28 ⟨Nat.zero_le _, Nat.zero_le _⟩ (fun H locs hP hS => ?_)
        refine lv_topi (fun r_29 er_29 => ?_)
        refine lv_if_eq (tgt := 47) K.1.1 K.1.2.1 dX3_readWord_31 (by decide) (fun c_31 => ?_) (fun c_31 => ?_)
        · refine lv_aload_n K.1.1 K.1.2.1 dX3_readWord_47 rfl (lv_at hl 1 rfl) ?_
          refine lv_aload_n K.1.1 K.1.2.1 dX3_readWord_48 rfl (lv_at hl 1 rfl) ?_
          refine m_getr K hP (by decide) sh_254 rfl tuX3 3 (by decide) rfl q_371 dX3_readWord_49 ?_
          refine lv_iload_n K.1.1 K.1.2.1 dX3_readWord_52 rfl (lv_at hl 0 rfl) ?_
          refine lv_aload_n K.1.1 K.1.2.1 dX3_readWord_53 rfl (lv_at hl 1 rfl) ?_
          refine m_geti K hP (by decide) sh_254 rfl tuX3 4 (by decide) rfl q_372 dX3_readWord_54 ?_
          refine lv_topi (fun g_30 eg_30 => ?_)
          refine lv_iload_n K.1.1 K.1.2.1 dX3_readWord_57 rfl (lv_at hl 0 rfl) ?_
          refine lv_isub K.1.1 K.1.2.1 dX3_readWord_58 ?_
          refine m_cSX (n := 3) (As := [.ref (B + 257), .int g_1, .int (g_30 - g_1)]) (rest := [.ref (B + 254)]) K hP hS (MX9_of l G B _ 257 150 isR_257 g_1 (g_30 - g_1) ) q_446 q_447 q_100 q_448 hv_X9_of.2 ⟨Nat.le_of_ble_eq_true rfl, Nat.le_of_ble_eq_true rfl⟩ rfl hl.1 rfl (Nat.le_of_ble_eq_true rfl) dX3_readWord_59 ⟨Nat.zero_le _, Nat.zero_le _⟩ (fun H locs hP hS => ?_)
          refine m_topw (fun r_32 er_32 => ?_)
          refine m_putw (E := "ShadedBooks$Word") K hP hS (by decide) sh_254 rfl tuX3 tyX3 tyX3_ok nmX3 1 (by decide) rfl rfl (by decide +kernel) q_367 dX3_readWord_62 (fun H locs hP hS => ?_)
          refine lv_aload_n K.1.1 K.1.2.1 dX3_readWord_65 rfl (lv_at hl 1 rfl) ?_
          refine m_getw K hP (by decide) sh_254 rfl tuX3 1 (by decide) rfl q_367 dX3_readWord_66 ?_
          refine m_topw (fun g_33 eg_33 => ?_)
          by_cases c_69 : g_33 < 0
          · rw [show wv G g_33 = .null from if_pos c_69]
            refine lv_ifnonnullN K.1.1 K.1.2.1 dX3_readWord_69 ?_
            refine lv_aload_n K.1.1 K.1.2.1 dX3_readWord_72 rfl (lv_at hl 1 rfl) ?_
            refine lv_iload_n K.1.1 K.1.2.1 dX3_readWord_73 rfl (lv_at hl 0 rfl) ?_
            refine m_puti K hP hS (by decide) sh_254 rfl tuX3 tyX3 tyX3_ok nmX3 5 (by decide) rfl rfl (by decide +kernel) q_373 dX3_readWord_74 (fun H locs hP hS => ?_)
            refine lv_aload_n K.1.1 K.1.2.1 dX3_readWord_77 rfl (lv_at hl 1 rfl) ?_
            refine m_getw K hP (by decide) sh_254 rfl tuX3 1 (by decide) rfl q_367 dX3_readWord_78 ?_
            refine m_topw (fun g_34 eg_34 => ?_)
            by_cases c_81 : g_34 < 0
            · rw [show wv G g_34 = .null from if_pos c_81]
              refine lv_ifnullN (tgt := 88) K.1.1 K.1.2.1 dX3_readWord_81 (by decide) ?_
              refine lv_iconst (v := 0) K.1.1 K.1.2.1 dX3_readWord_88 (by decide) ?_
              exact m_zret K hr hlocks hP hS dX3_readWord_89 (by first | rfl | decide) (by subst eg_1 eg_19 eg_20 eg_27 er_28 er_29 eg_30 er_32 eg_33 eg_34; have hD : D_letters μ = μ_5 := (by rw [D_letters_eq, fin0_5]; first | rfl | rw [D_let, if_neg (Int32.not_lt.mpr c_13)] | rw [D_let, if_pos (Int32.not_le.mp c_13), if_pos c_31]); simp only [up2_s, up2, and_self, if_true, and_false, false_and, if_false, Nat.reduceEqDiff, reduceCtorEq] at c_69 c_81; first | exact absurd c_69 c_81 | exact absurd c_81 c_69 | (rw [D_readWord, D_word_eq, hD]; first | rw [if_pos c_69] | rw [if_neg c_69])) (by subst eg_1 eg_19 eg_20 eg_27 er_28 er_29 eg_30 er_32 eg_33 eg_34; have hD : D_letters μ = μ_5 := (by rw [D_letters_eq, fin0_5]; first | rfl | rw [D_let, if_neg (Int32.not_lt.mpr c_13)] | rw [D_let, if_pos (Int32.not_le.mp c_13), if_pos c_31]); simp only [up2_s, up2, and_self, if_true, and_false, false_and, if_false, Nat.reduceEqDiff, reduceCtorEq] at c_69 c_81; first | exact absurd c_69 c_81 | exact absurd c_81 c_69 | (rw [D_readWordM, D_word_eq, hD]; first | rw [if_pos c_69] | rw [if_neg c_69]))
            · rw [show wv G g_34 = .ref (G.2.2.2 g_34.toNatClampNeg) from if_neg c_81]
              refine lv_ifnull K.1.1 K.1.2.1 dX3_readWord_81 ?_
              refine lv_iconst (v := 1) K.1.1 K.1.2.1 dX3_readWord_84 (by decide) ?_
              refine lv_goto (tgt := 89) K.1.1 K.1.2.1 dX3_readWord_85 (by decide) ?_
              exact m_zret K hr hlocks hP hS dX3_readWord_89 (by first | rfl | decide) (by subst eg_1 eg_19 eg_20 eg_27 er_28 er_29 eg_30 er_32 eg_33 eg_34; have hD : D_letters μ = μ_5 := (by rw [D_letters_eq, fin0_5]; first | rfl | rw [D_let, if_neg (Int32.not_lt.mpr c_13)] | rw [D_let, if_pos (Int32.not_le.mp c_13), if_pos c_31]); simp only [up2_s, up2, and_self, if_true, and_false, false_and, if_false, Nat.reduceEqDiff, reduceCtorEq] at c_69 c_81; first | exact absurd c_69 c_81 | exact absurd c_81 c_69 | (rw [D_readWord, D_word_eq, hD]; first | rw [if_pos c_69] | rw [if_neg c_69])) (by subst eg_1 eg_19 eg_20 eg_27 er_28 er_29 eg_30 er_32 eg_33 eg_34; have hD : D_letters μ = μ_5 := (by rw [D_letters_eq, fin0_5]; first | rfl | rw [D_let, if_neg (Int32.not_lt.mpr c_13)] | rw [D_let, if_pos (Int32.not_le.mp c_13), if_pos c_31]); simp only [up2_s, up2, and_self, if_true, and_false, false_and, if_false, Nat.reduceEqDiff, reduceCtorEq] at c_69 c_81; first | exact absurd c_69 c_81 | exact absurd c_81 c_69 | (rw [D_readWordM, D_word_eq, hD]; first | rw [if_pos c_69] | rw [if_neg c_69]))
          · rw [show wv G g_33 = .ref (G.2.2.2 g_33.toNatClampNeg) from if_neg c_69]
            refine lv_ifnonnull (tgt := 77) K.1.1 K.1.2.1 dX3_readWord_69 (by decide) ?_
            refine lv_aload_n K.1.1 K.1.2.1 dX3_readWord_77 rfl (lv_at hl 1 rfl) ?_
            refine m_getw K hP (by decide) sh_254 rfl tuX3 1 (by decide) rfl q_367 dX3_readWord_78 ?_
            refine m_topw (fun g_35 eg_35 => ?_)
            by_cases c_81 : g_35 < 0
            · rw [show wv G g_35 = .null from if_pos c_81]
              refine lv_ifnullN (tgt := 88) K.1.1 K.1.2.1 dX3_readWord_81 (by decide) ?_
              refine lv_iconst (v := 0) K.1.1 K.1.2.1 dX3_readWord_88 (by decide) ?_
              exact m_zret K hr hlocks hP hS dX3_readWord_89 (by first | rfl | decide) (by subst eg_1 eg_19 eg_20 eg_27 er_28 er_29 eg_30 er_32 eg_33 eg_35; have hD : D_letters μ = μ_5 := (by rw [D_letters_eq, fin0_5]; first | rfl | rw [D_let, if_neg (Int32.not_lt.mpr c_13)] | rw [D_let, if_pos (Int32.not_le.mp c_13), if_pos c_31]); simp only [up2_s, up2, and_self, if_true, and_false, false_and, if_false, Nat.reduceEqDiff, reduceCtorEq] at c_69 c_81; first | exact absurd c_69 c_81 | exact absurd c_81 c_69 | (rw [D_readWord, D_word_eq, hD]; first | rw [if_pos c_69] | rw [if_neg c_69])) (by subst eg_1 eg_19 eg_20 eg_27 er_28 er_29 eg_30 er_32 eg_33 eg_35; have hD : D_letters μ = μ_5 := (by rw [D_letters_eq, fin0_5]; first | rfl | rw [D_let, if_neg (Int32.not_lt.mpr c_13)] | rw [D_let, if_pos (Int32.not_le.mp c_13), if_pos c_31]); simp only [up2_s, up2, and_self, if_true, and_false, false_and, if_false, Nat.reduceEqDiff, reduceCtorEq] at c_69 c_81; first | exact absurd c_69 c_81 | exact absurd c_81 c_69 | (rw [D_readWordM, D_word_eq, hD]; first | rw [if_pos c_69] | rw [if_neg c_69]))
            · rw [show wv G g_35 = .ref (G.2.2.2 g_35.toNatClampNeg) from if_neg c_81]
              refine lv_ifnull K.1.1 K.1.2.1 dX3_readWord_81 ?_
              refine lv_iconst (v := 1) K.1.1 K.1.2.1 dX3_readWord_84 (by decide) ?_
              refine lv_goto (tgt := 89) K.1.1 K.1.2.1 dX3_readWord_85 (by decide) ?_
              exact m_zret K hr hlocks hP hS dX3_readWord_89 (by first | rfl | decide) (by subst eg_1 eg_19 eg_20 eg_27 er_28 er_29 eg_30 er_32 eg_33 eg_35; have hD : D_letters μ = μ_5 := (by rw [D_letters_eq, fin0_5]; first | rfl | rw [D_let, if_neg (Int32.not_lt.mpr c_13)] | rw [D_let, if_pos (Int32.not_le.mp c_13), if_pos c_31]); simp only [up2_s, up2, and_self, if_true, and_false, false_and, if_false, Nat.reduceEqDiff, reduceCtorEq] at c_69 c_81; first | exact absurd c_69 c_81 | exact absurd c_81 c_69 | (rw [D_readWord, D_word_eq, hD]; first | rw [if_pos c_69] | rw [if_neg c_69])) (by subst eg_1 eg_19 eg_20 eg_27 er_28 er_29 eg_30 er_32 eg_33 eg_35; have hD : D_letters μ = μ_5 := (by rw [D_letters_eq, fin0_5]; first | rfl | rw [D_let, if_neg (Int32.not_lt.mpr c_13)] | rw [D_let, if_pos (Int32.not_le.mp c_13), if_pos c_31]); simp only [up2_s, up2, and_self, if_true, and_false, false_and, if_false, Nat.reduceEqDiff, reduceCtorEq] at c_69 c_81; first | exact absurd c_69 c_81 | exact absurd c_81 c_69 | (rw [D_readWordM, D_word_eq, hD]; first | rw [if_pos c_69] | rw [if_neg c_69]))
        · refine lv_aload_n K.1.1 K.1.2.1 dX3_readWord_34 rfl (lv_at hl 1 rfl) ?_
          refine lv_dup K.1.1 K.1.2.1 dX3_readWord_35 rfl ?_
          refine m_geti K hP (by decide) sh_254 rfl tuX3 4 (by decide) rfl q_372 dX3_readWord_36 ?_
          refine lv_topi (fun g_36 eg_36 => ?_)
          refine lv_iconst (v := 1) K.1.1 K.1.2.1 dX3_readWord_39 (by decide) ?_
          refine lv_iadd K.1.1 K.1.2.1 dX3_readWord_40 ?_
          refine m_puti K hP hS (by decide) sh_254 rfl tuX3 tyX3 tyX3_ok nmX3 4 (by decide) rfl rfl (by decide +kernel) q_372 dX3_readWord_41 (fun H locs hP hS => ?_)
          refine lv_goto (tgt := 5) K.1.1 K.1.2.1 dX3_readWord_44 (by decide) ?_
          exact ih_5  _ _ _ _ (by subst eg_1 eg_19 eg_20 eg_27 er_28 er_29 eg_36; show cn (D_next μ_5 254 0) ≤ cn (D_next μ_5 254 4) + n; rw [D_next_0, D_next_4]; exact cur_step inv0_5 (Int32.not_le.mp c_13) (byte_wnn (lo := 97) (hi := 122) c_31 (by decide))) (by subst eg_1 eg_19 eg_20 eg_27 er_28 er_29 eg_36; rw [fin0_5, D_let, if_pos (Int32.not_le.mp c_13), if_neg c_31]; rfl) hP hS (lv_sub hl [0, 1] rfl)
  exact lp_5 (cn (μ 254 0))  _ _ _ _ (by exact Nat.le_add_left _ _) (by rfl) hP hS (lv_sub hl [0, 1] rfl)

