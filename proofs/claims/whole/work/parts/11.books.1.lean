set_option maxHeartbeats 4000000 in
set_option maxRecDepth 100000 in
theorem MJx29ce0_ordinal_8abf5 (l : Launch) (G : GG) (B : Nat) (μ : Mm) (i : Nat) (hi : i < 8) : CM l yJx29ce0_ordinal_8abf5 (.code yJx29ce0_ordinal_8abf5 cJx29ce0_ordinal_8abf5 1 (Option.some FieldType.int)) 0 0 G B [.ref (G.2.2.2 i)] μ (some (.int (nI i))) μ := by
  refine CM.of (by decide) (Nat.le_of_ble_eq_true rfl) ?_
  intro p e s m below meth c ls K hr hlocks hP hl
  have hS : va_S (AA B) s.heap s.heap [] := va_S.rf
  have hl : lv_has ls 1 [(0, .ref (G.2.2.2 i))] := hl
  refine lv_aload_n K.1.1 K.1.2.1 dJx29ce0_ordinal_8abf5_0 rfl (lv_at hl 0 rfl) ?_
  refine vk_getf K.1.1 K.1.2.1 (K.2.2.2.2.2.1 i hi).2.2 hS K.1.2.2.2.1 (K.w q_1555) (fun _ h => h) dJx29ce0_ordinal_8abf5_1 ?_
  exact m_iret K hr hlocks hP hS dJx29ce0_ordinal_8abf5_4 (by rfl) rfl

theorem m_ord {p : Program} {l : Launch} {e : Env} {R : Room} {s : State} {m : MethodId} {args : Array Value} {below : List Frame} {meth : Method} {c : Code} {H : Heap} {locs : List Loc} {cells slots : Nat} {Q : State → Prop}
    {cc : ByteArray} {pc : Nat} {ls : Array Slot} {rest : List Value} {G : GG} {B nL : Nat} {μ : Mm} {c1 : Cond} (K : KK p m c cc nL s args c1 RX10 G B) (hP : MP G B μ H) (hS : va_S (AA B) s.heap H locs) {i : Nat} (hi : i < 8) (hsize : ls.size = nL)
    (hR : 2 ≤ R.frames ∧ 40 ≤ R.locals) (hW : (rest.map fun v => v.category).sum ≤ 8) (hf : cells ≤ R.cells ∧ slots ≤ R.slots) (hdg : decode cc pc = .ok (.invokevirtual 287, 3))
    (kk : ∀ (H1 : Heap) (locs1 : List Loc), MP G B μ H1 → va_S (AA B) s.heap H1 locs1 → W p l e R s m args below meth c H1 locs1 cells slots Q (F0 m (pc + 3) ls (.int (nI i) :: rest))) : W p l e R s m args below meth c H locs cells slots Q (F0 m pc ls (.ref (G.2.2.2 i) :: rest)) := by
  obtain ⟨hbl, hpre⟩ := m_pre hP hS K.2 [.ref (G.2.2.2 i)]
  have hG : GoodIn (c1 :: TBL) (va_wsU RX10 287 RX9 RJx29ce0 ⟨"ShadedBooks$Word", "ordinal", "()I"⟩ yJx29ce0_ordinal_8abf5 (.code yJx29ce0_ordinal_8abf5 cJx29ce0_ordinal_8abf5 1 (Option.some FieldType.int) :: TBL)) := by
    intro w hw
    have h : w ∈ TBL := by
      rcases List.mem_append.mp (show w ∈ [Cond.methodLink RX10 287 ⟨"ShadedBooks$Word", "ordinal", "()I"⟩, .sameMethod RX9 RJx29ce0 "ordinal" "()I", .selects RX9 ⟨"ShadedBooks$Word", "ordinal", "()I"⟩ yJx29ce0_ordinal_8abf5, .instanceMethod yJx29ce0_ordinal_8abf5, .initialized RJx29ce0] ++ (.code yJx29ce0_ordinal_8abf5 cJx29ce0_ordinal_8abf5 1 (Option.some FieldType.int) :: TBL) from hw) with h | h
      · simp only [List.mem_cons, List.not_mem_nil, or_false] at h
        rcases h with rfl | rfl | rfl | rfl | rfl
        · exact q_560
        · exact q_561
        · exact q_563
        · exact q_564
        · exact q_99
      · rcases List.mem_cons.mp h with rfl | h
        · exact q_565
        · exact h
    exact ⟨List.mem_cons_of_mem _ h, good_of_word (tb_good h)⟩
  exact m_back (va_runU (x := ⟨"ShadedBooks$Word", "ordinal", "()I"⟩) (As := []) (rest := rest) K.1 (MJx29ce0_ordinal_8abf5 l G B μ i hi) (va_cwU 0 K.1.2.2.2.2 hG rfl rfl rfl rfl ⟨by decide, by decide, by decide +kernel⟩ ⟨Nat.le_trans (show 0 + 1 ≤ 2 by decide) hR.1, Nat.le_trans (show 8 + (1 + 11) + 0 ≤ 40 by decide) hR.2⟩) ⟨hbl, w_recv (K.2.2.2.2.2.1 i hi).1 hS, hpre⟩ rfl rfl hsize rfl (lv_room hW) hdg hf) hS kk

set_option maxHeartbeats 4000000 in
set_option maxRecDepth 100000 in
theorem MX10_mix (l : Launch) (G : GG) (B : Nat) (μ : Mm) (h : Int64) (v : Int64) : CM l yX10_mix (.code yX10_mix cX10_mix 4 (Option.some FieldType.long)) 0 0 G B [.long h, .long v] μ (some (.long (X_mix h v))) μ := by
  refine CM.of (by decide) (Nat.le_of_ble_eq_true rfl) ?_
  intro p e s m below meth c ls K hr hlocks hP hl
  have hS : va_S (AA B) s.heap s.heap [] := va_S.rf
  have hl : lv_has ls 4 [(0, .long h), (2, .long v)] := hl
  refine lv_ldc2 (own := RX10) (v := 31) K.1.1 K.1.2.1 K.1.2.2.2.1 (K.w q_762) dX10_mix_0 ?_
  refine lv_lload_n K.1.1 K.1.2.1 dX10_mix_3 rfl (lv_at hl 0 rfl) ?_
  refine lv_lmul K.1.1 K.1.2.1 dX10_mix_4 ?_
  refine lv_lload_n K.1.1 K.1.2.1 dX10_mix_5 rfl (lv_at hl 1 rfl) ?_
  refine lv_ladd K.1.1 K.1.2.1 dX10_mix_6 ?_
  exact m_lret K hr hlocks hP hS dX10_mix_7 (by rfl) rfl

set_option maxHeartbeats 4000000 in
set_option maxRecDepth 100000 in
theorem MX10_faultOfWhat (l : Launch) (G : GG) (B : Nat) (μ : Mm) (w : Int32) (k : Int32) : CM l yX10_faultOfWhat (.code yX10_faultOfWhat cX10_faultOfWhat 2 (Option.some FieldType.int)) 1 22 G B [.int w, .int k] μ (some (.int (X_what w k))) μ := by
  refine CM.of (by decide) (Nat.le_of_ble_eq_true rfl) ?_
  intro p e s m below meth c ls K hr hlocks hP hl
  have hS : va_S (AA B) s.heap s.heap [] := va_S.rf
  have hl : lv_has ls 2 [(0, .int w), (1, .int k)] := hl
  refine lv_iload_n K.1.1 K.1.2.1 dX10_faultOfWhat_0 rfl (lv_at hl 0 rfl) ?_
  refine lv_iconst (v := 0) K.1.1 K.1.2.1 dX10_faultOfWhat_1 (by decide) ?_
  refine lv_iload_n K.1.1 K.1.2.1 dX10_faultOfWhat_2 rfl (lv_at hl 1 rfl) ?_
  refine lv_iconst (v := 1) K.1.1 K.1.2.1 dX10_faultOfWhat_3 (by decide) ?_
  refine lv_isub K.1.1 K.1.2.1 dX10_faultOfWhat_4 ?_
  refine m_cS (n := 3) (As := [.int w, .int 0, .int (k - 1)]) (rest := []) K hP hS (MX10_isWithin l G B _ w 0 (k - 1) ) q_1004 q_444 q_82 q_445 hv_X10_isWithin ⟨Nat.le_of_ble_eq_true rfl, Nat.le_of_ble_eq_true rfl⟩ rfl hl.1 rfl (Nat.le_of_ble_eq_true rfl) dX10_faultOfWhat_5 ⟨Nat.zero_le _, Nat.zero_le _⟩ (fun H locs hP hS => ?_)
  refine lv_topi (fun r_1 er_1 => ?_)
  refine lv_if_eq (tgt := 15) K.1.1 K.1.2.1 dX10_faultOfWhat_8 (by decide) (fun c_8 => ?_) (fun c_8 => ?_)
  · refine lv_iconst (v := 2) K.1.1 K.1.2.1 dX10_faultOfWhat_15 (by decide) ?_
    exact m_iret K hr hlocks hP hS dX10_faultOfWhat_16 (by subst er_1; first | (simp only [X_what, c_8, if_true, if_false, ite_true, ite_false, reduceIte, not_true, not_false_iff]; done) | simp [X_what, c_8]) rfl
  · refine lv_iconst (v := 0) K.1.1 K.1.2.1 dX10_faultOfWhat_11 (by decide) ?_
    refine lv_goto (tgt := 16) K.1.1 K.1.2.1 dX10_faultOfWhat_12 (by decide) ?_
    exact m_iret K hr hlocks hP hS dX10_faultOfWhat_16 (by subst er_1; first | (simp only [X_what, c_8, if_true, if_false, ite_true, ite_false, reduceIte, not_true, not_false_iff]; done) | simp [X_what, c_8]) rfl

set_option maxHeartbeats 4000000 in
set_option maxRecDepth 100000 in
theorem MX10_faultOfPrice (l : Launch) (G : GG) (B : Nat) (μ : Mm) (pr : Int32) : CM l yX10_faultOfPrice (.code yX10_faultOfPrice cX10_faultOfPrice 1 (Option.some FieldType.int)) 1 22 G B [.int pr] μ (some (.int (X_price pr))) μ := by
  refine CM.of (by decide) (Nat.le_of_ble_eq_true rfl) ?_
  intro p e s m below meth c ls K hr hlocks hP hl
  have hS : va_S (AA B) s.heap s.heap [] := va_S.rf
  have hl : lv_has ls 1 [(0, .int pr)] := hl
  refine lv_iload_n K.1.1 K.1.2.1 dX10_faultOfPrice_0 rfl (lv_at hl 0 rfl) ?_
  refine lv_iconst (v := 1) K.1.1 K.1.2.1 dX10_faultOfPrice_1 (by decide) ?_
  refine lv_bipush (v := 120) K.1.1 K.1.2.1 dX10_faultOfPrice_2 (by decide) ?_
  refine m_cS (n := 3) (As := [.int pr, .int 1, .int 120]) (rest := []) K hP hS (MX10_isWithin l G B _ pr 1 120 ) q_1004 q_444 q_82 q_445 hv_X10_isWithin ⟨Nat.le_of_ble_eq_true rfl, Nat.le_of_ble_eq_true rfl⟩ rfl hl.1 rfl (Nat.le_of_ble_eq_true rfl) dX10_faultOfPrice_4 ⟨Nat.zero_le _, Nat.zero_le _⟩ (fun H locs hP hS => ?_)
  refine lv_topi (fun r_1 er_1 => ?_)
  refine lv_if_eq (tgt := 14) K.1.1 K.1.2.1 dX10_faultOfPrice_7 (by decide) (fun c_7 => ?_) (fun c_7 => ?_)
  · refine lv_iconst (v := 2) K.1.1 K.1.2.1 dX10_faultOfPrice_14 (by decide) ?_
    exact m_iret K hr hlocks hP hS dX10_faultOfPrice_15 (by subst er_1; first | (simp only [X_price, c_7, if_true, if_false, ite_true, ite_false, reduceIte, not_true, not_false_iff]; done) | simp [X_price, c_7]) rfl
  · refine lv_iconst (v := 0) K.1.1 K.1.2.1 dX10_faultOfPrice_10 (by decide) ?_
    refine lv_goto (tgt := 15) K.1.1 K.1.2.1 dX10_faultOfPrice_11 (by decide) ?_
    exact m_iret K hr hlocks hP hS dX10_faultOfPrice_15 (by subst er_1; first | (simp only [X_price, c_7, if_true, if_false, ite_true, ite_false, reduceIte, not_true, not_false_iff]; done) | simp [X_price, c_7]) rfl

set_option maxHeartbeats 4000000 in
set_option maxRecDepth 100000 in
theorem MX10_refuse (l : Launch) (G : GG) (B : Nat) (μ : Mm) : CM l yX10_refuse (.code yX10_refuse cX10_refuse 1 Option.none) 0 0 G B [.int 0] μ none μ := by
  refine CM.of (by decide) (Nat.le_of_ble_eq_true rfl) ?_
  intro p e s m below meth c ls K hr hlocks hP hl
  have hS : va_S (AA B) s.heap s.heap [] := va_S.rf
  have hl : lv_has ls 1 [(0, .int 0)] := hl
  refine lv_iload_n K.1.1 K.1.2.1 dX10_refuse_0 rfl (lv_at hl 0 rfl) ?_
  refine lv_tableOut (tgt := 59) K.1.1 K.1.2.1 dX10_refuse_1 (Or.inl (by decide)) (by decide) ?_
  exact m_vret K hr hlocks hP hS dX10_refuse_59 rfl rfl

set_option maxHeartbeats 4000000 in
set_option maxRecDepth 100000 in
theorem MX10_wholeValue (l : Launch) (G : GG) (B : Nat) (μ : Mm) (w : Int32) : CM l yX10_wholeValue (.code yX10_wholeValue cX10_wholeValue 2 (Option.some FieldType.int)) 1 21 G B [.ref (B + 0), .int w] μ (some (.int (X_whole μ w))) μ := by
  refine CM.of (by decide) (Nat.le_of_ble_eq_true rfl) ?_
  intro p e s m below meth c ls K hr hlocks hP hl
  have hS : va_S (AA B) s.heap s.heap [] := va_S.rf
  have hl : lv_has ls 2 [(0, .ref (B + 0)), (1, .int w)] := hl
  refine lv_iload_n K.1.1 K.1.2.1 dX10_wholeValue_0 rfl (lv_at hl 1 rfl) ?_
  refine lv_bipush (v := 11) K.1.1 K.1.2.1 dX10_wholeValue_1 (by decide) ?_
  refine lv_icmp_ne (tgt := 16) K.1.1 K.1.2.1 dX10_wholeValue_3 (by decide) (fun c_3 => ?_) (fun c_3 => ?_)
  · refine lv_aload_n K.1.1 K.1.2.1 dX10_wholeValue_16 rfl (lv_at hl 0 rfl) ?_
    refine m_getr K hP (by decide) sh_0 rfl tuX10 0 (by decide) rfl q_387 dX10_wholeValue_17 ?_
    refine lv_iload_n K.1.1 K.1.2.1 dX10_wholeValue_20 rfl (lv_at hl 1 rfl) ?_
    refine m_cV (n := 1) (As := [.int w]) (rest := []) K hP hS (MX1_wholeValue l G B _ 1 isA_1 w ) isA_1.1 isA_1.2.1 rfl q_767 q_768 q_769 q_83 q_770 hv_X1_wholeValue ⟨Nat.le_of_ble_eq_true rfl, Nat.le_of_ble_eq_true rfl⟩ rfl hl.1 rfl (Nat.le_of_ble_eq_true rfl) dX10_wholeValue_21 ⟨Nat.zero_le _, Nat.zero_le _⟩ (fun H locs hP hS => ?_)
    refine lv_topi (fun r_1 er_1 => ?_)
    exact m_iret K hr hlocks hP hS dX10_wholeValue_24 (by subst er_1; first | (simp only [X_whole, c_3, if_true, if_false, ite_true, ite_false, reduceIte, not_true, not_false_iff]; done) | simp [X_whole, c_3]) rfl
  · refine lv_aload_n K.1.1 K.1.2.1 dX10_wholeValue_6 rfl (lv_at hl 0 rfl) ?_
    refine m_getr K hP (by decide) sh_0 rfl tuX10 4 (by decide) rfl q_391 dX10_wholeValue_7 ?_
    refine m_geti K hP (by decide) sh_254 rfl tuX3 0 (by decide) rfl q_366 dX10_wholeValue_10 ?_
    refine lv_topi (fun g_2 eg_2 => ?_)
    refine lv_goto (tgt := 24) K.1.1 K.1.2.1 dX10_wholeValue_13 (by decide) ?_
    exact m_iret K hr hlocks hP hS dX10_wholeValue_24 (by subst eg_2; first | (simp only [X_whole, c_3, if_true, if_false, ite_true, ite_false, reduceIte, not_true, not_false_iff]; done) | simp [X_whole, c_3]) rfl

set_option maxHeartbeats 4000000 in
set_option maxRecDepth 100000 in
theorem MX10_addTrader (l : Launch) (G : GG) (B : Nat) (μ : Mm) (sd : Int32) (v : Int32) (h1 : A_faultOfJoin μ 1 sd v = 0) : CM l yX10_addTrader (.code yX10_addTrader cX10_addTrader 3 (Option.some FieldType.int)) 5 107 G B [.ref (B + 0), .int sd, .int v] μ (some (.int ((U_push μ 1) (1 + 1) 0))) (T_join (U_push μ 1) (1 + 1) sd v) := by
  refine CM.of (by decide) (Nat.le_of_ble_eq_true rfl) ?_
  intro p e s m below meth c ls K hr hlocks hP hl
  have hS : va_S (AA B) s.heap s.heap [] := va_S.rf
  have hl : lv_has ls 3 [(0, .ref (B + 0)), (1, .int sd), (2, .int v)] := hl
  refine lv_aload_n K.1.1 K.1.2.1 dX10_addTrader_0 rfl (lv_at hl 0 rfl) ?_
  refine m_getr K hP (by decide) sh_0 rfl tuX10 0 (by decide) rfl q_387 dX10_addTrader_1 ?_
  refine lv_iload_n K.1.1 K.1.2.1 dX10_addTrader_4 rfl (lv_at hl 1 rfl) ?_
  refine lv_iload_n K.1.1 K.1.2.1 dX10_addTrader_5 rfl (lv_at hl 2 rfl) ?_
  refine m_cV (n := 2) (As := [.int sd, .int v]) (rest := []) K hP hS (MX1_faultOfJoin l G B _ 1 isA_1 sd v ) isA_1.1 isA_1.2.1 rfl q_566 q_567 q_568 q_83 q_569 hv_X1_faultOfJoin ⟨Nat.le_of_ble_eq_true rfl, Nat.le_of_ble_eq_true rfl⟩ rfl hl.1 rfl (Nat.le_of_ble_eq_true rfl) dX10_addTrader_6 ⟨Nat.zero_le _, Nat.zero_le _⟩ (fun H locs hP hS => ?_)
  refine lv_topi (fun r_1 er_1 => ?_)
  have hz_9 : r_1 = 0 := (by subst er_1; exact h1)
  subst hz_9
  refine m_cS (n := 1) (As := [.int 0]) (rest := []) K hP hS (MX10_refuse l G B _  ) q_831 q_832 q_82 q_833 hv_X10_refuse ⟨Nat.le_of_ble_eq_true rfl, Nat.le_of_ble_eq_true rfl⟩ rfl hl.1 rfl (Nat.le_of_ble_eq_true rfl) dX10_addTrader_9 ⟨Nat.zero_le _, Nat.zero_le _⟩ (fun H locs hP hS => ?_)
  refine W.eq (g2 := F0 m 12 ls []) rfl ?_
  refine lv_aload_n K.1.1 K.1.2.1 dX10_addTrader_12 rfl (lv_at hl 0 rfl) ?_
  refine m_getr K hP (by decide) sh_0 rfl tuX10 3 (by decide) rfl q_390 dX10_addTrader_13 ?_
  refine lv_aload_n K.1.1 K.1.2.1 dX10_addTrader_16 rfl (lv_at hl 0 rfl) ?_
  refine m_getr K hP (by decide) sh_0 rfl tuX10 0 (by decide) rfl q_387 dX10_addTrader_17 ?_
  refine m_cV (n := 1) (As := [.ref (B + 1)]) (rest := []) K hP hS (MX8_push l G B _ 1 isA_1 ) (by decide) sh_92 rfl q_517 q_518 q_519 q_89 q_520 hv_X8_push ⟨Nat.le_of_ble_eq_true rfl, Nat.le_of_ble_eq_true rfl⟩ rfl hl.1 rfl (Nat.le_of_ble_eq_true rfl) dX10_addTrader_20 ⟨Nat.zero_le _, Nat.zero_le _⟩ (fun H locs hP hS => ?_)
  refine W.eq (g2 := F0 m 23 ls []) rfl ?_
  refine lv_aload_n K.1.1 K.1.2.1 dX10_addTrader_23 rfl (lv_at hl 0 rfl) ?_
  refine m_getr K hP (by decide) sh_0 rfl tuX10 0 (by decide) rfl q_387 dX10_addTrader_24 ?_
  refine m_getr K hP isA_1.1 isA_1.2.1 rfl tuX1 0 (by decide) rfl q_246 dX10_addTrader_27 ?_
  refine lv_iload_n K.1.1 K.1.2.1 dX10_addTrader_30 rfl (lv_at hl 1 rfl) ?_
  refine lv_iload_n K.1.1 K.1.2.1 dX10_addTrader_31 rfl (lv_at hl 2 rfl) ?_
  refine m_cV (n := 2) (As := [.int sd, .int v]) (rest := []) K hP hS (MX6_join l G B _ (1 + 1) isA_1.2.2.1 sd v ) isA_1.2.2.1.1 isA_1.2.2.1.2.1 rfl q_613 q_614 q_615 q_84 q_616 hv_X6_join ⟨Nat.le_of_ble_eq_true rfl, Nat.le_of_ble_eq_true rfl⟩ rfl hl.1 rfl (Nat.le_of_ble_eq_true rfl) dX10_addTrader_32 ⟨Nat.zero_le _, Nat.zero_le _⟩ (fun H locs hP hS => ?_)
  refine lv_topi (fun r_2 er_2 => ?_)
  exact m_iret K hr hlocks hP hS dX10_addTrader_35 (by subst er_2; rfl) (by subst er_2; rfl)

set_option maxHeartbeats 4000000 in
set_option maxRecDepth 100000 in
theorem MX10_setValue (l : Launch) (G : GG) (B : Nat) (μ : Mm) (t : Int32) (v : Int32) (h1 : A_faultOfValue μ 1 t v = 0) : CM l yX10_setValue (.code yX10_setValue cX10_setValue 4 (Option.some FieldType.int)) 5 107 G B [.ref (B + 0), .int t, .int v] μ (some (.int (R_get (U_push μ 1) (1 + 1 + 3) 8 t))) (R_put (U_push μ 1) (1 + 1 + 3) 8 t v) := by
  refine CM.of (by decide) (Nat.le_of_ble_eq_true rfl) ?_
  intro p e s m below meth c ls K hr hlocks hP hl
  have hS : va_S (AA B) s.heap s.heap [] := va_S.rf
  have hl : lv_has ls 4 [(0, .ref (B + 0)), (1, .int t), (2, .int v)] := hl
  refine lv_aload_n K.1.1 K.1.2.1 dX10_setValue_0 rfl (lv_at hl 0 rfl) ?_
  refine m_getr K hP (by decide) sh_0 rfl tuX10 0 (by decide) rfl q_387 dX10_setValue_1 ?_
  refine lv_iload_n K.1.1 K.1.2.1 dX10_setValue_4 rfl (lv_at hl 1 rfl) ?_
  refine lv_iload_n K.1.1 K.1.2.1 dX10_setValue_5 rfl (lv_at hl 2 rfl) ?_
  refine m_cV (n := 2) (As := [.int t, .int v]) (rest := []) K hP hS (MX1_faultOfValue l G B _ 1 isA_1 t v ) isA_1.1 isA_1.2.1 rfl q_942 q_943 q_944 q_83 q_945 hv_X1_faultOfValue ⟨Nat.le_of_ble_eq_true rfl, Nat.le_of_ble_eq_true rfl⟩ rfl hl.1 rfl (Nat.le_of_ble_eq_true rfl) dX10_setValue_6 ⟨Nat.zero_le _, Nat.zero_le _⟩ (fun H locs hP hS => ?_)
  refine lv_topi (fun r_1 er_1 => ?_)
  have hz_9 : r_1 = 0 := (by subst er_1; exact h1)
  subst hz_9
  refine m_cS (n := 1) (As := [.int 0]) (rest := []) K hP hS (MX10_refuse l G B _  ) q_831 q_832 q_82 q_833 hv_X10_refuse ⟨Nat.le_of_ble_eq_true rfl, Nat.le_of_ble_eq_true rfl⟩ rfl hl.1 rfl (Nat.le_of_ble_eq_true rfl) dX10_setValue_9 ⟨Nat.zero_le _, Nat.zero_le _⟩ (fun H locs hP hS => ?_)
  refine W.eq (g2 := F0 m 12 ls []) rfl ?_
  refine lv_aload_n K.1.1 K.1.2.1 dX10_setValue_12 rfl (lv_at hl 0 rfl) ?_
  refine m_getr K hP (by decide) sh_0 rfl tuX10 3 (by decide) rfl q_390 dX10_setValue_13 ?_
  refine lv_aload_n K.1.1 K.1.2.1 dX10_setValue_16 rfl (lv_at hl 0 rfl) ?_
  refine m_getr K hP (by decide) sh_0 rfl tuX10 0 (by decide) rfl q_387 dX10_setValue_17 ?_
  refine m_cV (n := 1) (As := [.ref (B + 1)]) (rest := []) K hP hS (MX8_push l G B _ 1 isA_1 ) (by decide) sh_92 rfl q_517 q_518 q_519 q_89 q_520 hv_X8_push ⟨Nat.le_of_ble_eq_true rfl, Nat.le_of_ble_eq_true rfl⟩ rfl hl.1 rfl (Nat.le_of_ble_eq_true rfl) dX10_setValue_20 ⟨Nat.zero_le _, Nat.zero_le _⟩ (fun H locs hP hS => ?_)
  refine W.eq (g2 := F0 m 23 ls []) rfl ?_
  refine lv_aload_n K.1.1 K.1.2.1 dX10_setValue_23 rfl (lv_at hl 0 rfl) ?_
  refine m_getr K hP (by decide) sh_0 rfl tuX10 0 (by decide) rfl q_387 dX10_setValue_24 ?_
  refine m_getr K hP isA_1.1 isA_1.2.1 rfl tuX1 0 (by decide) rfl q_246 dX10_setValue_27 ?_
  refine m_getr K hP isA_1.2.2.1.1 isA_1.2.2.1.2.1 rfl tuX6 2 (by decide) rfl q_143 dX10_setValue_30 ?_
  refine lv_iload_n K.1.1 K.1.2.1 dX10_setValue_33 rfl (lv_at hl 1 rfl) ?_
  refine m_cV (n := 1) (As := [.int t]) (rest := []) K hP hS (MX5_get l G B _ (1 + 1 + 3) 8 isA_1.2.2.1.2.2.2.1 t ) (Nat.lt_of_succ_lt isA_1.2.2.1.2.2.2.1.1) isA_1.2.2.1.2.2.2.1.2.1 rfl q_557 q_436 q_437 q_85 q_438 hv_X5_get ⟨Nat.le_of_ble_eq_true rfl, Nat.le_of_ble_eq_true rfl⟩ rfl hl.1 rfl (Nat.le_of_ble_eq_true rfl) dX10_setValue_34 ⟨Nat.zero_le _, Nat.zero_le _⟩ (fun H locs hP hS => ?_)
  refine lv_topi (fun r_2 er_2 => ?_)
  refine lv_istore_n (lv' := [(3, .int r_2), (0, .ref (B + 0)), (1, .int t), (2, .int v)]) K.1.1 K.1.2.1 dX10_setValue_37 rfl hl (by decide) rfl (fun ls hl => ?_)
  refine lv_aload_n K.1.1 K.1.2.1 dX10_setValue_38 rfl (lv_at hl 1 rfl) ?_
  refine m_getr K hP (by decide) sh_0 rfl tuX10 0 (by decide) rfl q_387 dX10_setValue_39 ?_
  refine m_getr K hP isA_1.1 isA_1.2.1 rfl tuX1 0 (by decide) rfl q_246 dX10_setValue_42 ?_
  refine m_getr K hP isA_1.2.2.1.1 isA_1.2.2.1.2.1 rfl tuX6 2 (by decide) rfl q_143 dX10_setValue_45 ?_
  refine lv_iload_n K.1.1 K.1.2.1 dX10_setValue_48 rfl (lv_at hl 2 rfl) ?_
  refine lv_iload_n K.1.1 K.1.2.1 dX10_setValue_49 rfl (lv_at hl 3 rfl) ?_
  refine m_cV (n := 2) (As := [.int t, .int v]) (rest := []) K hP hS (MX5_put l G B _ (1 + 1 + 3) 8 isA_1.2.2.1.2.2.2.1 t v ) (Nat.lt_of_succ_lt isA_1.2.2.1.2.2.2.1.1) isA_1.2.2.1.2.2.2.1.2.1 rfl q_946 q_514 q_515 q_85 q_516 hv_X5_put ⟨Nat.le_of_ble_eq_true rfl, Nat.le_of_ble_eq_true rfl⟩ rfl hl.1 rfl (Nat.le_of_ble_eq_true rfl) dX10_setValue_50 ⟨Nat.zero_le _, Nat.zero_le _⟩ (fun H locs hP hS => ?_)
  refine W.eq (g2 := F0 m 53 ls []) rfl ?_
  refine lv_iload_n K.1.1 K.1.2.1 dX10_setValue_53 rfl (lv_at hl 0 rfl) ?_
  exact m_iret K hr hlocks hP hS dX10_setValue_54 (by subst er_2; rfl) (by subst er_2; rfl)

set_option maxHeartbeats 4000000 in
set_option maxRecDepth 100000 in
theorem MX10_setShade (l : Launch) (G : GG) (B : Nat) (μ : Mm) (t : Int32) (k : Int32) (a : Int32) (h1 : A_faultOfShade μ 1 t k a = 0) : CM l yX10_setShade (.code yX10_setShade cX10_setShade 4 (Option.some FieldType.int)) 5 107 G B [.ref (B + 0), .int t, .int k, .int a] μ (some (.int (T_bidOf (T_shadeBy (U_push μ 1) (1 + 1) t k a) (1 + 1) t))) (T_shadeBy (U_push μ 1) (1 + 1) t k a) := by
  refine CM.of (by decide) (Nat.le_of_ble_eq_true rfl) ?_
  intro p e s m below meth c ls K hr hlocks hP hl
  have hS : va_S (AA B) s.heap s.heap [] := va_S.rf
  have hl : lv_has ls 4 [(0, .ref (B + 0)), (1, .int t), (2, .int k), (3, .int a)] := hl
  refine lv_aload_n K.1.1 K.1.2.1 dX10_setShade_0 rfl (lv_at hl 0 rfl) ?_
  refine m_getr K hP (by decide) sh_0 rfl tuX10 0 (by decide) rfl q_387 dX10_setShade_1 ?_
  refine lv_iload_n K.1.1 K.1.2.1 dX10_setShade_4 rfl (lv_at hl 1 rfl) ?_
  refine lv_iload_n K.1.1 K.1.2.1 dX10_setShade_5 rfl (lv_at hl 2 rfl) ?_
  refine lv_iload_n K.1.1 K.1.2.1 dX10_setShade_6 rfl (lv_at hl 3 rfl) ?_
  refine m_cV (n := 3) (As := [.int t, .int k, .int a]) (rest := []) K hP hS (MX1_faultOfShade l G B _ 1 isA_1 t k a ) isA_1.1 isA_1.2.1 rfl q_571 q_572 q_573 q_83 q_574 hv_X1_faultOfShade ⟨Nat.le_of_ble_eq_true rfl, Nat.le_of_ble_eq_true rfl⟩ rfl hl.1 rfl (Nat.le_of_ble_eq_true rfl) dX10_setShade_7 ⟨Nat.zero_le _, Nat.zero_le _⟩ (fun H locs hP hS => ?_)
  refine lv_topi (fun r_1 er_1 => ?_)
  have hz_10 : r_1 = 0 := (by subst er_1; exact h1)
  subst hz_10
  refine m_cS (n := 1) (As := [.int 0]) (rest := []) K hP hS (MX10_refuse l G B _  ) q_831 q_832 q_82 q_833 hv_X10_refuse ⟨Nat.le_of_ble_eq_true rfl, Nat.le_of_ble_eq_true rfl⟩ rfl hl.1 rfl (Nat.le_of_ble_eq_true rfl) dX10_setShade_10 ⟨Nat.zero_le _, Nat.zero_le _⟩ (fun H locs hP hS => ?_)
  refine W.eq (g2 := F0 m 13 ls []) rfl ?_
  refine lv_aload_n K.1.1 K.1.2.1 dX10_setShade_13 rfl (lv_at hl 0 rfl) ?_
  refine m_getr K hP (by decide) sh_0 rfl tuX10 3 (by decide) rfl q_390 dX10_setShade_14 ?_
  refine lv_aload_n K.1.1 K.1.2.1 dX10_setShade_17 rfl (lv_at hl 0 rfl) ?_
  refine m_getr K hP (by decide) sh_0 rfl tuX10 0 (by decide) rfl q_387 dX10_setShade_18 ?_
  refine m_cV (n := 1) (As := [.ref (B + 1)]) (rest := []) K hP hS (MX8_push l G B _ 1 isA_1 ) (by decide) sh_92 rfl q_517 q_518 q_519 q_89 q_520 hv_X8_push ⟨Nat.le_of_ble_eq_true rfl, Nat.le_of_ble_eq_true rfl⟩ rfl hl.1 rfl (Nat.le_of_ble_eq_true rfl) dX10_setShade_21 ⟨Nat.zero_le _, Nat.zero_le _⟩ (fun H locs hP hS => ?_)
  refine W.eq (g2 := F0 m 24 ls []) rfl ?_
  refine lv_aload_n K.1.1 K.1.2.1 dX10_setShade_24 rfl (lv_at hl 0 rfl) ?_
  refine m_getr K hP (by decide) sh_0 rfl tuX10 0 (by decide) rfl q_387 dX10_setShade_25 ?_
  refine m_getr K hP isA_1.1 isA_1.2.1 rfl tuX1 0 (by decide) rfl q_246 dX10_setShade_28 ?_
  refine lv_iload_n K.1.1 K.1.2.1 dX10_setShade_31 rfl (lv_at hl 1 rfl) ?_
  refine lv_iload_n K.1.1 K.1.2.1 dX10_setShade_32 rfl (lv_at hl 2 rfl) ?_
  refine lv_iload_n K.1.1 K.1.2.1 dX10_setShade_33 rfl (lv_at hl 3 rfl) ?_
  refine m_cV (n := 3) (As := [.int t, .int k, .int a]) (rest := []) K hP hS (MX6_shadeBy l G B _ (1 + 1) isA_1.2.2.1 t k a ) isA_1.2.2.1.1 isA_1.2.2.1.2.1 rfl q_622 q_619 q_620 q_84 q_621 hv_X6_shadeBy ⟨Nat.le_of_ble_eq_true rfl, Nat.le_of_ble_eq_true rfl⟩ rfl hl.1 rfl (Nat.le_of_ble_eq_true rfl) dX10_setShade_34 ⟨Nat.zero_le _, Nat.zero_le _⟩ (fun H locs hP hS => ?_)
  refine W.eq (g2 := F0 m 37 ls []) rfl ?_
  refine lv_aload_n K.1.1 K.1.2.1 dX10_setShade_37 rfl (lv_at hl 0 rfl) ?_
  refine m_getr K hP (by decide) sh_0 rfl tuX10 0 (by decide) rfl q_387 dX10_setShade_38 ?_
  refine m_getr K hP isA_1.1 isA_1.2.1 rfl tuX1 0 (by decide) rfl q_246 dX10_setShade_41 ?_
  refine lv_iload_n K.1.1 K.1.2.1 dX10_setShade_44 rfl (lv_at hl 1 rfl) ?_
  refine m_cV (n := 1) (As := [.int t]) (rest := []) K hP hS (MX6_bidOf l G B _ (1 + 1) isA_1.2.2.1 t ) isA_1.2.2.1.1 isA_1.2.2.1.2.1 rfl q_623 q_624 q_625 q_84 q_626 hv_X6_bidOf ⟨Nat.le_of_ble_eq_true rfl, Nat.le_of_ble_eq_true rfl⟩ rfl hl.1 rfl (Nat.le_of_ble_eq_true rfl) dX10_setShade_45 ⟨Nat.zero_le _, Nat.zero_le _⟩ (fun H locs hP hS => ?_)
  refine lv_topi (fun r_2 er_2 => ?_)
  exact m_iret K hr hlocks hP hS dX10_setShade_48 (by subst er_2; rfl) (by subst er_2; rfl)

set_option maxHeartbeats 4000000 in
set_option maxRecDepth 100000 in
theorem MX10_set (l : Launch) (G : GG) (B : Nat) (μ : Mm) (w : Int32) (v : Int32) (h1 : A_faultOfSetting w v = 0) : CM l yX10_set (.code yX10_set cX10_set 3 (Option.some FieldType.int)) 5 107 G B [.ref (B + 0), .int w, .int v] μ (some (.int (A_change (U_push μ 1) 1 w))) (A_changeM (U_push μ 1) 1 w v) := by
  refine CM.of (by decide) (Nat.le_of_ble_eq_true rfl) ?_
  intro p e s m below meth c ls K hr hlocks hP hl
  have hS : va_S (AA B) s.heap s.heap [] := va_S.rf
  have hl : lv_has ls 3 [(0, .ref (B + 0)), (1, .int w), (2, .int v)] := hl
  refine lv_aload_n K.1.1 K.1.2.1 dX10_set_0 rfl (lv_at hl 0 rfl) ?_
  refine m_getr K hP (by decide) sh_0 rfl tuX10 0 (by decide) rfl q_387 dX10_set_1 ?_
  refine lv_iload_n K.1.1 K.1.2.1 dX10_set_4 rfl (lv_at hl 1 rfl) ?_
  refine lv_iload_n K.1.1 K.1.2.1 dX10_set_5 rfl (lv_at hl 2 rfl) ?_
  refine m_cV (n := 2) (As := [.int w, .int v]) (rest := []) K hP hS (MX1_faultOfSetting l G B _ 1 isA_1 w v ) isA_1.1 isA_1.2.1 rfl q_601 q_602 q_603 q_83 q_604 hv_X1_faultOfSetting ⟨Nat.le_of_ble_eq_true rfl, Nat.le_of_ble_eq_true rfl⟩ rfl hl.1 rfl (Nat.le_of_ble_eq_true rfl) dX10_set_6 ⟨Nat.zero_le _, Nat.zero_le _⟩ (fun H locs hP hS => ?_)
  refine lv_topi (fun r_1 er_1 => ?_)
  have hz_9 : r_1 = 0 := (by subst er_1; exact h1)
  subst hz_9
  refine m_cS (n := 1) (As := [.int 0]) (rest := []) K hP hS (MX10_refuse l G B _  ) q_831 q_832 q_82 q_833 hv_X10_refuse ⟨Nat.le_of_ble_eq_true rfl, Nat.le_of_ble_eq_true rfl⟩ rfl hl.1 rfl (Nat.le_of_ble_eq_true rfl) dX10_set_9 ⟨Nat.zero_le _, Nat.zero_le _⟩ (fun H locs hP hS => ?_)
  refine W.eq (g2 := F0 m 12 ls []) rfl ?_
  refine lv_aload_n K.1.1 K.1.2.1 dX10_set_12 rfl (lv_at hl 0 rfl) ?_
  refine m_getr K hP (by decide) sh_0 rfl tuX10 3 (by decide) rfl q_390 dX10_set_13 ?_
  refine lv_aload_n K.1.1 K.1.2.1 dX10_set_16 rfl (lv_at hl 0 rfl) ?_
  refine m_getr K hP (by decide) sh_0 rfl tuX10 0 (by decide) rfl q_387 dX10_set_17 ?_
  refine m_cV (n := 1) (As := [.ref (B + 1)]) (rest := []) K hP hS (MX8_push l G B _ 1 isA_1 ) (by decide) sh_92 rfl q_517 q_518 q_519 q_89 q_520 hv_X8_push ⟨Nat.le_of_ble_eq_true rfl, Nat.le_of_ble_eq_true rfl⟩ rfl hl.1 rfl (Nat.le_of_ble_eq_true rfl) dX10_set_20 ⟨Nat.zero_le _, Nat.zero_le _⟩ (fun H locs hP hS => ?_)
  refine W.eq (g2 := F0 m 23 ls []) rfl ?_
  refine lv_aload_n K.1.1 K.1.2.1 dX10_set_23 rfl (lv_at hl 0 rfl) ?_
  refine m_getr K hP (by decide) sh_0 rfl tuX10 0 (by decide) rfl q_387 dX10_set_24 ?_
  refine lv_iload_n K.1.1 K.1.2.1 dX10_set_27 rfl (lv_at hl 1 rfl) ?_
  refine lv_iload_n K.1.1 K.1.2.1 dX10_set_28 rfl (lv_at hl 2 rfl) ?_
  refine m_cV (n := 2) (As := [.int w, .int v]) (rest := []) K hP hS (MX1_change l G B _ 1 isA_1 w v ) isA_1.1 isA_1.2.1 rfl q_664 q_665 q_666 q_83 q_667 hv_X1_change ⟨Nat.le_of_ble_eq_true rfl, Nat.le_of_ble_eq_true rfl⟩ rfl hl.1 rfl (Nat.le_of_ble_eq_true rfl) dX10_set_29 ⟨Nat.zero_le _, Nat.zero_le _⟩ (fun H locs hP hS => ?_)
  refine lv_topi (fun r_2 er_2 => ?_)
  exact m_iret K hr hlocks hP hS dX10_set_32 (by subst er_2; rfl) (by subst er_2; rfl)

set_option maxHeartbeats 4000000 in
set_option maxRecDepth 100000 in
theorem MX10_bid (l : Launch) (G : GG) (B : Nat) (μ : Mm) (t : Int32) (u : Int32) (h1 : A_faultOfOrder μ 1 t 1 u = 0) : CM l yX10_bid (.code yX10_bid cX10_bid 3 (Option.some FieldType.int)) 5 107 G B [.ref (B + 0), .int t, .int u] μ (some (.int (A_place (U_push μ 1) 1 t (T_bidOf (U_push μ 1) (1 + 1) t) u))) (A_placeM (U_push μ 1) 1 t (T_bidOf (U_push μ 1) (1 + 1) t) u) := by
  refine CM.of (by decide) (Nat.le_of_ble_eq_true rfl) ?_
  intro p e s m below meth c ls K hr hlocks hP hl
  have hS : va_S (AA B) s.heap s.heap [] := va_S.rf
  have hl : lv_has ls 3 [(0, .ref (B + 0)), (1, .int t), (2, .int u)] := hl
  refine lv_aload_n K.1.1 K.1.2.1 dX10_bid_0 rfl (lv_at hl 0 rfl) ?_
  refine m_getr K hP (by decide) sh_0 rfl tuX10 0 (by decide) rfl q_387 dX10_bid_1 ?_
  refine lv_iload_n K.1.1 K.1.2.1 dX10_bid_4 rfl (lv_at hl 1 rfl) ?_
  refine lv_iload_n K.1.1 K.1.2.1 dX10_bid_5 rfl (lv_at hl 2 rfl) ?_
  refine m_cV (n := 2) (As := [.int t, .int u]) (rest := []) K hP hS (MX1_faultOfBid l G B _ 1 isA_1 t u ) isA_1.1 isA_1.2.1 rfl q_579 q_580 q_581 q_83 q_582 hv_X1_faultOfBid ⟨Nat.le_of_ble_eq_true rfl, Nat.le_of_ble_eq_true rfl⟩ rfl hl.1 rfl (Nat.le_of_ble_eq_true rfl) dX10_bid_6 ⟨Nat.zero_le _, Nat.zero_le _⟩ (fun H locs hP hS => ?_)
  refine lv_topi (fun r_1 er_1 => ?_)
  have hz_9 : r_1 = 0 := (by subst er_1; exact h1)
  subst hz_9
  refine m_cS (n := 1) (As := [.int 0]) (rest := []) K hP hS (MX10_refuse l G B _  ) q_831 q_832 q_82 q_833 hv_X10_refuse ⟨Nat.le_of_ble_eq_true rfl, Nat.le_of_ble_eq_true rfl⟩ rfl hl.1 rfl (Nat.le_of_ble_eq_true rfl) dX10_bid_9 ⟨Nat.zero_le _, Nat.zero_le _⟩ (fun H locs hP hS => ?_)
  refine W.eq (g2 := F0 m 12 ls []) rfl ?_
  refine lv_aload_n K.1.1 K.1.2.1 dX10_bid_12 rfl (lv_at hl 0 rfl) ?_
  refine m_getr K hP (by decide) sh_0 rfl tuX10 3 (by decide) rfl q_390 dX10_bid_13 ?_
  refine lv_aload_n K.1.1 K.1.2.1 dX10_bid_16 rfl (lv_at hl 0 rfl) ?_
  refine m_getr K hP (by decide) sh_0 rfl tuX10 0 (by decide) rfl q_387 dX10_bid_17 ?_
  refine m_cV (n := 1) (As := [.ref (B + 1)]) (rest := []) K hP hS (MX8_push l G B _ 1 isA_1 ) (by decide) sh_92 rfl q_517 q_518 q_519 q_89 q_520 hv_X8_push ⟨Nat.le_of_ble_eq_true rfl, Nat.le_of_ble_eq_true rfl⟩ rfl hl.1 rfl (Nat.le_of_ble_eq_true rfl) dX10_bid_20 ⟨Nat.zero_le _, Nat.zero_le _⟩ (fun H locs hP hS => ?_)
  refine W.eq (g2 := F0 m 23 ls []) rfl ?_
  refine lv_aload_n K.1.1 K.1.2.1 dX10_bid_23 rfl (lv_at hl 0 rfl) ?_
  refine m_getr K hP (by decide) sh_0 rfl tuX10 0 (by decide) rfl q_387 dX10_bid_24 ?_
  refine lv_iload_n K.1.1 K.1.2.1 dX10_bid_27 rfl (lv_at hl 1 rfl) ?_
  refine lv_aload_n K.1.1 K.1.2.1 dX10_bid_28 rfl (lv_at hl 0 rfl) ?_
  refine m_getr K hP (by decide) sh_0 rfl tuX10 0 (by decide) rfl q_387 dX10_bid_29 ?_
  refine m_getr K hP isA_1.1 isA_1.2.1 rfl tuX1 0 (by decide) rfl q_246 dX10_bid_32 ?_
  refine lv_iload_n K.1.1 K.1.2.1 dX10_bid_35 rfl (lv_at hl 1 rfl) ?_
  refine m_cV (n := 1) (As := [.int t]) (rest := [.int t, .ref (B + 1)]) K hP hS (MX6_bidOf l G B _ (1 + 1) isA_1.2.2.1 t ) isA_1.2.2.1.1 isA_1.2.2.1.2.1 rfl q_623 q_624 q_625 q_84 q_626 hv_X6_bidOf ⟨Nat.le_of_ble_eq_true rfl, Nat.le_of_ble_eq_true rfl⟩ rfl hl.1 rfl (Nat.le_of_ble_eq_true rfl) dX10_bid_36 ⟨Nat.zero_le _, Nat.zero_le _⟩ (fun H locs hP hS => ?_)
  refine lv_topi (fun r_2 er_2 => ?_)
  refine lv_iload_n K.1.1 K.1.2.1 dX10_bid_39 rfl (lv_at hl 2 rfl) ?_
  refine m_cV (n := 3) (As := [.int t, .int r_2, .int u]) (rest := []) K hP hS (MX1_place l G B _ 1 isA_1 t r_2 u ) isA_1.1 isA_1.2.1 rfl q_642 q_643 q_644 q_83 q_645 hv_X1_place ⟨Nat.le_of_ble_eq_true rfl, Nat.le_of_ble_eq_true rfl⟩ rfl hl.1 rfl (Nat.le_of_ble_eq_true rfl) dX10_bid_40 ⟨Nat.zero_le _, Nat.zero_le _⟩ (fun H locs hP hS => ?_)
  refine lv_topi (fun r_3 er_3 => ?_)
  exact m_iret K hr hlocks hP hS dX10_bid_43 (by subst er_2 er_3; rfl) (by subst er_2 er_3; rfl)

set_option maxHeartbeats 4000000 in
set_option maxRecDepth 100000 in
theorem MX10_order (l : Launch) (G : GG) (B : Nat) (μ : Mm) (t : Int32) (pr : Int32) (u : Int32) (h1 : A_faultOfOrder μ 1 t pr u = 0) : CM l yX10_order (.code yX10_order cX10_order 4 (Option.some FieldType.int)) 5 107 G B [.ref (B + 0), .int t, .int pr, .int u] μ (some (.int (A_place (U_push μ 1) 1 t pr u))) (A_placeM (U_push μ 1) 1 t pr u) := by
  refine CM.of (by decide) (Nat.le_of_ble_eq_true rfl) ?_
  intro p e s m below meth c ls K hr hlocks hP hl
  have hS : va_S (AA B) s.heap s.heap [] := va_S.rf
  have hl : lv_has ls 4 [(0, .ref (B + 0)), (1, .int t), (2, .int pr), (3, .int u)] := hl
  refine lv_aload_n K.1.1 K.1.2.1 dX10_order_0 rfl (lv_at hl 0 rfl) ?_
  refine m_getr K hP (by decide) sh_0 rfl tuX10 0 (by decide) rfl q_387 dX10_order_1 ?_
  refine lv_iload_n K.1.1 K.1.2.1 dX10_order_4 rfl (lv_at hl 1 rfl) ?_
  refine lv_iload_n K.1.1 K.1.2.1 dX10_order_5 rfl (lv_at hl 2 rfl) ?_
  refine lv_iload_n K.1.1 K.1.2.1 dX10_order_6 rfl (lv_at hl 3 rfl) ?_
  refine m_cV (n := 3) (As := [.int t, .int pr, .int u]) (rest := []) K hP hS (MX1_faultOfOrder l G B _ 1 isA_1 t pr u ) isA_1.1 isA_1.2.1 rfl q_591 q_584 q_585 q_83 q_586 hv_X1_faultOfOrder ⟨Nat.le_of_ble_eq_true rfl, Nat.le_of_ble_eq_true rfl⟩ rfl hl.1 rfl (Nat.le_of_ble_eq_true rfl) dX10_order_7 ⟨Nat.zero_le _, Nat.zero_le _⟩ (fun H locs hP hS => ?_)
  refine lv_topi (fun r_1 er_1 => ?_)
  have hz_10 : r_1 = 0 := (by subst er_1; exact h1)
  subst hz_10
  refine m_cS (n := 1) (As := [.int 0]) (rest := []) K hP hS (MX10_refuse l G B _  ) q_831 q_832 q_82 q_833 hv_X10_refuse ⟨Nat.le_of_ble_eq_true rfl, Nat.le_of_ble_eq_true rfl⟩ rfl hl.1 rfl (Nat.le_of_ble_eq_true rfl) dX10_order_10 ⟨Nat.zero_le _, Nat.zero_le _⟩ (fun H locs hP hS => ?_)
  refine W.eq (g2 := F0 m 13 ls []) rfl ?_
  refine lv_aload_n K.1.1 K.1.2.1 dX10_order_13 rfl (lv_at hl 0 rfl) ?_
  refine m_getr K hP (by decide) sh_0 rfl tuX10 3 (by decide) rfl q_390 dX10_order_14 ?_
  refine lv_aload_n K.1.1 K.1.2.1 dX10_order_17 rfl (lv_at hl 0 rfl) ?_
  refine m_getr K hP (by decide) sh_0 rfl tuX10 0 (by decide) rfl q_387 dX10_order_18 ?_
  refine m_cV (n := 1) (As := [.ref (B + 1)]) (rest := []) K hP hS (MX8_push l G B _ 1 isA_1 ) (by decide) sh_92 rfl q_517 q_518 q_519 q_89 q_520 hv_X8_push ⟨Nat.le_of_ble_eq_true rfl, Nat.le_of_ble_eq_true rfl⟩ rfl hl.1 rfl (Nat.le_of_ble_eq_true rfl) dX10_order_21 ⟨Nat.zero_le _, Nat.zero_le _⟩ (fun H locs hP hS => ?_)
  refine W.eq (g2 := F0 m 24 ls []) rfl ?_
  refine lv_aload_n K.1.1 K.1.2.1 dX10_order_24 rfl (lv_at hl 0 rfl) ?_
  refine m_getr K hP (by decide) sh_0 rfl tuX10 0 (by decide) rfl q_387 dX10_order_25 ?_
  refine lv_iload_n K.1.1 K.1.2.1 dX10_order_28 rfl (lv_at hl 1 rfl) ?_
  refine lv_iload_n K.1.1 K.1.2.1 dX10_order_29 rfl (lv_at hl 2 rfl) ?_
  refine lv_iload_n K.1.1 K.1.2.1 dX10_order_30 rfl (lv_at hl 3 rfl) ?_
  refine m_cV (n := 3) (As := [.int t, .int pr, .int u]) (rest := []) K hP hS (MX1_place l G B _ 1 isA_1 t pr u ) isA_1.1 isA_1.2.1 rfl q_642 q_643 q_644 q_83 q_645 hv_X1_place ⟨Nat.le_of_ble_eq_true rfl, Nat.le_of_ble_eq_true rfl⟩ rfl hl.1 rfl (Nat.le_of_ble_eq_true rfl) dX10_order_31 ⟨Nat.zero_le _, Nat.zero_le _⟩ (fun H locs hP hS => ?_)
  refine lv_topi (fun r_2 er_2 => ?_)
  exact m_iret K hr hlocks hP hS dX10_order_34 (by subst er_2; rfl) (by subst er_2; rfl)

set_option maxHeartbeats 4000000 in
set_option maxRecDepth 100000 in
theorem MX10_cancel (l : Launch) (G : GG) (B : Nat) (μ : Mm) (n : Int32) (h1 : O_faultOfNumber μ (1 + 16) n = 0) : CM l yX10_cancel (.code yX10_cancel cX10_cancel 2 (Option.some FieldType.int)) 5 107 G B [.ref (B + 0), .int n] μ (some (.int (R_get (U_push μ 1) (1 + 16 + 9) 20 (O_indexOf (U_push μ 1) (1 + 16) n)))) (O_removeAt (U_push μ 1) (1 + 16) (O_indexOf (U_push μ 1) (1 + 16) n)) := by
  refine CM.of (by decide) (Nat.le_of_ble_eq_true rfl) ?_
  intro p e s m below meth c ls K hr hlocks hP hl
  have hS : va_S (AA B) s.heap s.heap [] := va_S.rf
  have hl : lv_has ls 2 [(0, .ref (B + 0)), (1, .int n)] := hl
  refine lv_aload_n K.1.1 K.1.2.1 dX10_cancel_0 rfl (lv_at hl 0 rfl) ?_
  refine m_getr K hP (by decide) sh_0 rfl tuX10 0 (by decide) rfl q_387 dX10_cancel_1 ?_
  refine m_getr K hP isA_1.1 isA_1.2.1 rfl tuX1 1 (by decide) rfl q_250 dX10_cancel_4 ?_
  refine lv_iload_n K.1.1 K.1.2.1 dX10_cancel_7 rfl (lv_at hl 1 rfl) ?_
  refine m_cV (n := 1) (As := [.int n]) (rest := []) K hP hS (MX4_faultOfNumber l G B _ (1 + 16) isA_1.2.2.2.1 n ) isA_1.2.2.2.1.1 isA_1.2.2.2.1.2.1 rfl q_592 q_593 q_594 q_86 q_595 hv_X4_faultOfNumber ⟨Nat.le_of_ble_eq_true rfl, Nat.le_of_ble_eq_true rfl⟩ rfl hl.1 rfl (Nat.le_of_ble_eq_true rfl) dX10_cancel_8 ⟨Nat.zero_le _, Nat.zero_le _⟩ (fun H locs hP hS => ?_)
  refine lv_topi (fun r_1 er_1 => ?_)
  have hz_11 : r_1 = 0 := (by subst er_1; exact h1)
  subst hz_11
  refine m_cS (n := 1) (As := [.int 0]) (rest := []) K hP hS (MX10_refuse l G B _  ) q_831 q_832 q_82 q_833 hv_X10_refuse ⟨Nat.le_of_ble_eq_true rfl, Nat.le_of_ble_eq_true rfl⟩ rfl hl.1 rfl (Nat.le_of_ble_eq_true rfl) dX10_cancel_11 ⟨Nat.zero_le _, Nat.zero_le _⟩ (fun H locs hP hS => ?_)
  refine W.eq (g2 := F0 m 14 ls []) rfl ?_
  refine lv_aload_n K.1.1 K.1.2.1 dX10_cancel_14 rfl (lv_at hl 0 rfl) ?_
  refine m_getr K hP (by decide) sh_0 rfl tuX10 3 (by decide) rfl q_390 dX10_cancel_15 ?_
  refine lv_aload_n K.1.1 K.1.2.1 dX10_cancel_18 rfl (lv_at hl 0 rfl) ?_
  refine m_getr K hP (by decide) sh_0 rfl tuX10 0 (by decide) rfl q_387 dX10_cancel_19 ?_
  refine m_cV (n := 1) (As := [.ref (B + 1)]) (rest := []) K hP hS (MX8_push l G B _ 1 isA_1 ) (by decide) sh_92 rfl q_517 q_518 q_519 q_89 q_520 hv_X8_push ⟨Nat.le_of_ble_eq_true rfl, Nat.le_of_ble_eq_true rfl⟩ rfl hl.1 rfl (Nat.le_of_ble_eq_true rfl) dX10_cancel_22 ⟨Nat.zero_le _, Nat.zero_le _⟩ (fun H locs hP hS => ?_)
  refine W.eq (g2 := F0 m 25 ls []) rfl ?_
  refine lv_aload_n K.1.1 K.1.2.1 dX10_cancel_25 rfl (lv_at hl 0 rfl) ?_
  refine m_getr K hP (by decide) sh_0 rfl tuX10 0 (by decide) rfl q_387 dX10_cancel_26 ?_
  refine m_getr K hP isA_1.1 isA_1.2.1 rfl tuX1 1 (by decide) rfl q_250 dX10_cancel_29 ?_
  refine lv_iload_n K.1.1 K.1.2.1 dX10_cancel_32 rfl (lv_at hl 1 rfl) ?_
  refine m_cV (n := 1) (As := [.int n]) (rest := []) K hP hS (MX4_withdraw l G B _ (1 + 16) isA_1.2.2.2.1 n ) isA_1.2.2.2.1.1 isA_1.2.2.2.1.2.1 rfl q_652 q_653 q_654 q_86 q_655 hv_X4_withdraw ⟨Nat.le_of_ble_eq_true rfl, Nat.le_of_ble_eq_true rfl⟩ rfl hl.1 rfl (Nat.le_of_ble_eq_true rfl) dX10_cancel_33 ⟨Nat.zero_le _, Nat.zero_le _⟩ (fun H locs hP hS => ?_)
  refine lv_topi (fun r_2 er_2 => ?_)
  exact m_iret K hr hlocks hP hS dX10_cancel_36 (by subst er_2; rfl) (by subst er_2; rfl)

set_option maxHeartbeats 4000000 in
set_option maxRecDepth 100000 in
theorem MX10_clear (l : Launch) (G : GG) (B : Nat) (μ : Mm) (h1 : A_faultOfRound μ 1 = 0) (hc : ¬ (U_push μ 1) (1 + 16) 0 < 0) : CM l yX10_clear (.code yX10_clear cX10_clear 1 (Option.some FieldType.int)) 5 114 G B [.ref (B + 0)] μ (some (.int (A_end (U_push μ 1) 1))) (A_endM (U_push μ 1) 1) := by
  refine CM.of (by decide) (Nat.le_of_ble_eq_true rfl) ?_
  intro p e s m below meth c ls K hr hlocks hP hl
  have hS : va_S (AA B) s.heap s.heap [] := va_S.rf
  have hl : lv_has ls 1 [(0, .ref (B + 0))] := hl
  refine lv_aload_n K.1.1 K.1.2.1 dX10_clear_0 rfl (lv_at hl 0 rfl) ?_
  refine m_getr K hP (by decide) sh_0 rfl tuX10 0 (by decide) rfl q_387 dX10_clear_1 ?_
  refine m_cV (n := 0) (As := []) (rest := []) K hP hS (MX1_faultOfRound l G B _ 1 isA_1 ) isA_1.1 isA_1.2.1 rfl q_605 q_606 q_607 q_83 q_608 hv_X1_faultOfRound ⟨Nat.le_of_ble_eq_true rfl, Nat.le_of_ble_eq_true rfl⟩ rfl hl.1 rfl (Nat.le_of_ble_eq_true rfl) dX10_clear_4 ⟨Nat.zero_le _, Nat.zero_le _⟩ (fun H locs hP hS => ?_)
  refine lv_topi (fun r_1 er_1 => ?_)
  have hz_7 : r_1 = 0 := (by subst er_1; exact h1)
  subst hz_7
  refine m_cS (n := 1) (As := [.int 0]) (rest := []) K hP hS (MX10_refuse l G B _  ) q_831 q_832 q_82 q_833 hv_X10_refuse ⟨Nat.le_of_ble_eq_true rfl, Nat.le_of_ble_eq_true rfl⟩ rfl hl.1 rfl (Nat.le_of_ble_eq_true rfl) dX10_clear_7 ⟨Nat.zero_le _, Nat.zero_le _⟩ (fun H locs hP hS => ?_)
  refine W.eq (g2 := F0 m 10 ls []) rfl ?_
  refine lv_aload_n K.1.1 K.1.2.1 dX10_clear_10 rfl (lv_at hl 0 rfl) ?_
  refine m_getr K hP (by decide) sh_0 rfl tuX10 3 (by decide) rfl q_390 dX10_clear_11 ?_
  refine lv_aload_n K.1.1 K.1.2.1 dX10_clear_14 rfl (lv_at hl 0 rfl) ?_
  refine m_getr K hP (by decide) sh_0 rfl tuX10 0 (by decide) rfl q_387 dX10_clear_15 ?_
  refine m_cV (n := 1) (As := [.ref (B + 1)]) (rest := []) K hP hS (MX8_push l G B _ 1 isA_1 ) (by decide) sh_92 rfl q_517 q_518 q_519 q_89 q_520 hv_X8_push ⟨Nat.le_of_ble_eq_true rfl, Nat.le_of_ble_eq_true rfl⟩ rfl hl.1 rfl (Nat.le_of_ble_eq_true rfl) dX10_clear_18 ⟨Nat.zero_le _, Nat.zero_le _⟩ (fun H locs hP hS => ?_)
  refine W.eq (g2 := F0 m 21 ls []) rfl ?_
  refine lv_aload_n K.1.1 K.1.2.1 dX10_clear_21 rfl (lv_at hl 0 rfl) ?_
  refine m_getr K hP (by decide) sh_0 rfl tuX10 0 (by decide) rfl q_387 dX10_clear_22 ?_
  refine lv_aload_n K.1.1 K.1.2.1 dX10_clear_25 rfl (lv_at hl 0 rfl) ?_
  refine m_getr K hP (by decide) sh_0 rfl tuX10 2 (by decide) rfl q_389 dX10_clear_26 ?_
  refine m_cV (n := 1) (As := [.ref (B + 81)]) (rest := []) K hP hS (MX1_endRound l G B _ 1 isA_1 hc) isA_1.1 isA_1.2.1 rfl q_668 q_669 q_670 q_83 q_671 hv_X1_endRound ⟨Nat.le_of_ble_eq_true rfl, Nat.le_of_ble_eq_true rfl⟩ rfl hl.1 rfl (Nat.le_of_ble_eq_true rfl) dX10_clear_29 ⟨Nat.zero_le _, Nat.zero_le _⟩ (fun H locs hP hS => ?_)
  refine lv_topi (fun r_2 er_2 => ?_)
  exact m_iret K hr hlocks hP hS dX10_clear_32 (by subst er_2; rfl) (by subst er_2; rfl)

set_option maxHeartbeats 4000000 in
set_option maxRecDepth 100000 in
theorem MX10_trader (l : Launch) (G : GG) (B : Nat) (μ : Mm) (t : Int32) (w : Int32) (h1 : T_faultOfNumber μ (1 + 1) t = 0) (h2 : X_what w 10 = 0) : CM l yX10_trader (.code yX10_trader cX10_trader 3 (Option.some FieldType.int)) 4 86 G B [.ref (B + 0), .int t, .int w] μ (some (.int (A_traderValue μ 1 t w))) μ := by
  refine CM.of (by decide) (Nat.le_of_ble_eq_true rfl) ?_
  intro p e s m below meth c ls K hr hlocks hP hl
  have hS : va_S (AA B) s.heap s.heap [] := va_S.rf
  have hl : lv_has ls 3 [(0, .ref (B + 0)), (1, .int t), (2, .int w)] := hl
  refine lv_aload_n K.1.1 K.1.2.1 dX10_trader_0 rfl (lv_at hl 0 rfl) ?_
  refine m_getr K hP (by decide) sh_0 rfl tuX10 0 (by decide) rfl q_387 dX10_trader_1 ?_
  refine m_getr K hP isA_1.1 isA_1.2.1 rfl tuX1 0 (by decide) rfl q_246 dX10_trader_4 ?_
  refine lv_iload_n K.1.1 K.1.2.1 dX10_trader_7 rfl (lv_at hl 1 rfl) ?_
  refine m_cV (n := 1) (As := [.int t]) (rest := []) K hP hS (MX6_faultOfNumber l G B _ (1 + 1) isA_1.2.2.1 t ) isA_1.2.2.1.1 isA_1.2.2.1.2.1 rfl q_996 q_997 q_998 q_84 q_999 hv_X6_faultOfNumber ⟨Nat.le_of_ble_eq_true rfl, Nat.le_of_ble_eq_true rfl⟩ rfl hl.1 rfl (Nat.le_of_ble_eq_true rfl) dX10_trader_8 ⟨Nat.zero_le _, Nat.zero_le _⟩ (fun H locs hP hS => ?_)
  refine lv_topi (fun r_1 er_1 => ?_)
  have hz_11 : r_1 = 0 := (by subst er_1; exact h1)
  subst hz_11
  refine m_cS (n := 1) (As := [.int 0]) (rest := []) K hP hS (MX10_refuse l G B _  ) q_831 q_832 q_82 q_833 hv_X10_refuse ⟨Nat.le_of_ble_eq_true rfl, Nat.le_of_ble_eq_true rfl⟩ rfl hl.1 rfl (Nat.le_of_ble_eq_true rfl) dX10_trader_11 ⟨Nat.zero_le _, Nat.zero_le _⟩ (fun H locs hP hS => ?_)
  refine W.eq (g2 := F0 m 14 ls []) rfl ?_
  refine lv_iload_n K.1.1 K.1.2.1 dX10_trader_14 rfl (lv_at hl 2 rfl) ?_
  refine lv_bipush (v := 10) K.1.1 K.1.2.1 dX10_trader_15 (by decide) ?_
  refine m_cS (n := 2) (As := [.int w, .int 10]) (rest := []) K hP hS (MX10_faultOfWhat l G B _ w 10 ) q_1001 q_1002 q_82 q_1003 hv_X10_faultOfWhat ⟨Nat.le_of_ble_eq_true rfl, Nat.le_of_ble_eq_true rfl⟩ rfl hl.1 rfl (Nat.le_of_ble_eq_true rfl) dX10_trader_17 ⟨Nat.zero_le _, Nat.zero_le _⟩ (fun H locs hP hS => ?_)
  refine lv_topi (fun r_2 er_2 => ?_)
  have hz_20 : r_2 = 0 := (by subst er_2; exact h2)
  subst hz_20
  refine m_cS (n := 1) (As := [.int 0]) (rest := []) K hP hS (MX10_refuse l G B _  ) q_831 q_832 q_82 q_833 hv_X10_refuse ⟨Nat.le_of_ble_eq_true rfl, Nat.le_of_ble_eq_true rfl⟩ rfl hl.1 rfl (Nat.le_of_ble_eq_true rfl) dX10_trader_20 ⟨Nat.zero_le _, Nat.zero_le _⟩ (fun H locs hP hS => ?_)
  refine W.eq (g2 := F0 m 23 ls []) rfl ?_
  refine lv_aload_n K.1.1 K.1.2.1 dX10_trader_23 rfl (lv_at hl 0 rfl) ?_
  refine m_getr K hP (by decide) sh_0 rfl tuX10 0 (by decide) rfl q_387 dX10_trader_24 ?_
  refine lv_iload_n K.1.1 K.1.2.1 dX10_trader_27 rfl (lv_at hl 1 rfl) ?_
  refine lv_iload_n K.1.1 K.1.2.1 dX10_trader_28 rfl (lv_at hl 2 rfl) ?_
  refine m_cV (n := 2) (As := [.int t, .int w]) (rest := []) K hP hS (MX1_traderValue l G B _ 1 isA_1 t w ) isA_1.1 isA_1.2.1 rfl q_792 q_793 q_794 q_83 q_795 hv_X1_traderValue ⟨Nat.le_of_ble_eq_true rfl, Nat.le_of_ble_eq_true rfl⟩ rfl hl.1 rfl (Nat.le_of_ble_eq_true rfl) dX10_trader_29 ⟨Nat.zero_le _, Nat.zero_le _⟩ (fun H locs hP hS => ?_)
  refine lv_topi (fun r_3 er_3 => ?_)
  exact m_iret K hr hlocks hP hS dX10_trader_32 (by subst er_3; rfl) rfl

