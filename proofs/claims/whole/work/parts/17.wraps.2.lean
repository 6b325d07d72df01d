set_option maxHeartbeats 4000000 in
set_option maxRecDepth 100000 in
theorem L_cancel_1 (l : Launch) (G : GG) (B : Nat) (cL : ClassId) (μ : Mm) (x : Int64) (a0 : Int32) {fr lo : Nat} (hfr : fr ≤ 7) (hlo : lo ≤ 110) (hM : XM l yX10_cancel (.code yX10_cancel cX10_cancel 2 (Option.some FieldType.int)) fr lo G B [.ref (B + 0), .int a0] μ IOE) : LM l yL_cancel (.codeWith yL_cancel cL_cancel 4 (Option.some FieldType.int) [(0, 9, 12, 20)]) 8 131 1 6 G B cL [.ref (B + 0), .int a0, .ref (B + 265)] μ x 1 μ x := by
  refine LM.of (by decide) (Nat.le_of_ble_eq_true rfl) ?_
  intro p e s m below meth c ls K hD hA htab hr hlocks hP hl
  have hS : va_S (AA B) s.heap s.heap [] := va_S.rf
  have hl : lv_has ls 4 [(0, .ref (B + 0)), (1, .int a0), (2, .ref (B + 265))] := hl
  refine lv_aload_n K.1.1 K.1.2.1 dL_cancel_0 rfl (lv_at hl 2 rfl) ?_
  refine lv_iconst (v := 0) K.1.1 K.1.2.1 dL_cancel_1 (by decide) ?_
  refine lv_aload_n K.1.1 K.1.2.1 dL_cancel_2 rfl (lv_at hl 0 rfl) ?_
  refine lv_iload_n K.1.1 K.1.2.1 dL_cancel_3 rfl (lv_at hl 1 rfl) ?_
  refine l_cX (n := 1) (As := [.int a0]) (rest := [.int 0, .ref (B + 265)]) (k := 0) K hP.1 hS hD hM (by decide) sh_0 rfl q_978 q_979 q_980 q_82 q_981 hv_X10_cancel ⟨Nat.succ_le_succ hfr, Nat.add_le_add_left hlo _⟩ rfl hl.1 rfl (Nat.le_of_ble_eq_true rfl) dL_cancel_4 ⟨Nat.le_of_ble_eq_true rfl, Nat.le_of_ble_eq_true rfl⟩ (fun ce q9 H locs hP1 hS hq h1 h2 h3 => ?_)
  have hP := hP.kept hP1 hq
  refine vx_catch (own := RL) (name := IOE) (E := IOE) K.1.2.2.2.1 [] ⟨0, 9, 12, 20⟩ [] htab (fun z hz => by cases hz) (by decide) (by decide) (K.w q_937) (va_Nw.use rfl K.2.2.1.2.2.2.1.1) h1 h2 h3 ?_
  refine lv_astore_n (lv' := [(3, .ref q9), (0, .ref (B + 0)), (1, .int a0), (2, .ref (B + 265))]) K.1.1 K.1.2.1 dL_cancel_12 rfl hl (by decide) rfl (fun ls hl => ?_)
  refine lv_iconst (v := 1) K.1.1 K.1.2.1 dL_cancel_13 (by decide) ?_
  exact l_ret K hr hlocks hP (S_AB hS) dL_cancel_14 rfl rfl

set_option maxHeartbeats 4000000 in
set_option maxRecDepth 100000 in
theorem L_clear_ok (l : Launch) (G : GG) (B : Nat) (cL : ClassId) (μ : Mm) (x : Int64) {fr lo : Nat} (hfr : fr ≤ 7) (hlo : lo ≤ 114) {v : Int32} {μ' : Mm} (hM : CM l yX10_clear (.code yX10_clear cX10_clear 1 (Option.some FieldType.int)) fr lo G B [.ref (B + 0)] μ (some (.int v)) μ') : LM l yL_clear (.codeWith yL_clear cL_clear 3 (Option.some FieldType.int) [(0, 8, 11, 15)]) 8 134 1 6 G B cL [.ref (B + 0), .ref (B + 265)] μ x 0 μ' (v.toInt64) := by
  refine LM.of (by decide) (Nat.le_of_ble_eq_true rfl) ?_
  intro p e s m below meth c ls K hD hA htab hr hlocks hP hl
  have hS : va_S (AA B) s.heap s.heap [] := va_S.rf
  have hl : lv_has ls 3 [(0, .ref (B + 0)), (1, .ref (B + 265))] := hl
  refine lv_aload_n K.1.1 K.1.2.1 dL_clear_0 rfl (lv_at hl 1 rfl) ?_
  refine lv_iconst (v := 0) K.1.1 K.1.2.1 dL_clear_1 (by decide) ?_
  refine lv_aload_n K.1.1 K.1.2.1 dL_clear_2 rfl (lv_at hl 0 rfl) ?_
  refine l_cV (n := 0) (As := []) (rest := [.int 0, .ref (B + 265)]) (k := 0) K hP.1 hS hM (by decide) sh_0 rfl q_985 q_986 q_987 q_82 q_988 hv_X10_clear ⟨Nat.succ_le_succ hfr, Nat.add_le_add_left hlo _⟩ rfl hl.1 rfl (Nat.le_of_ble_eq_true rfl) dL_clear_3 ⟨Nat.zero_le _, Nat.zero_le _⟩ (fun H locs hP1 hS hq => ?_)
  have hP := hP.kept hP1 hq
  refine lv_topi (fun r er => ?_)
  refine lv_i2l K.1.1 K.1.2.1 dL_clear_6 rfl ?_
  refine l_last K hA hP (S_AB hS) dL_clear_7 (fun H locs hP hS => ?_)
  refine lv_goto (tgt := 14) K.1.1 K.1.2.1 dL_clear_8 (by decide) ?_
  refine lv_iconst (v := 0) K.1.1 K.1.2.1 dL_clear_14 (by decide) ?_
  refine W.widen (k := 1) (n := 6) (by decide) (by decide) ?_
  exact l_ret K hr hlocks hP hS dL_clear_15 rfl (by rw [er])

set_option maxHeartbeats 4000000 in
set_option maxRecDepth 100000 in
theorem L_clear_1 (l : Launch) (G : GG) (B : Nat) (cL : ClassId) (μ : Mm) (x : Int64) {fr lo : Nat} (hfr : fr ≤ 7) (hlo : lo ≤ 114) (hM : XM l yX10_clear (.code yX10_clear cX10_clear 1 (Option.some FieldType.int)) fr lo G B [.ref (B + 0)] μ ISE) : LM l yL_clear (.codeWith yL_clear cL_clear 3 (Option.some FieldType.int) [(0, 8, 11, 15)]) 8 134 1 6 G B cL [.ref (B + 0), .ref (B + 265)] μ x 1 μ x := by
  refine LM.of (by decide) (Nat.le_of_ble_eq_true rfl) ?_
  intro p e s m below meth c ls K hD hA htab hr hlocks hP hl
  have hS : va_S (AA B) s.heap s.heap [] := va_S.rf
  have hl : lv_has ls 3 [(0, .ref (B + 0)), (1, .ref (B + 265))] := hl
  refine lv_aload_n K.1.1 K.1.2.1 dL_clear_0 rfl (lv_at hl 1 rfl) ?_
  refine lv_iconst (v := 0) K.1.1 K.1.2.1 dL_clear_1 (by decide) ?_
  refine lv_aload_n K.1.1 K.1.2.1 dL_clear_2 rfl (lv_at hl 0 rfl) ?_
  refine l_cX (n := 0) (As := []) (rest := [.int 0, .ref (B + 265)]) (k := 0) K hP.1 hS hD hM (by decide) sh_0 rfl q_985 q_986 q_987 q_82 q_988 hv_X10_clear ⟨Nat.succ_le_succ hfr, Nat.add_le_add_left hlo _⟩ rfl hl.1 rfl (Nat.le_of_ble_eq_true rfl) dL_clear_3 ⟨Nat.le_of_ble_eq_true rfl, Nat.le_of_ble_eq_true rfl⟩ (fun ce q9 H locs hP1 hS hq h1 h2 h3 => ?_)
  have hP := hP.kept hP1 hq
  refine vx_catch (own := RL) (name := ISE) (E := ISE) K.1.2.2.2.1 [] ⟨0, 8, 11, 15⟩ [] htab (fun z hz => by cases hz) (by decide) (by decide) (K.w q_826) (va_Nw.use rfl K.2.2.1.2.2.2.1.2.2) h1 h2 h3 ?_
  refine lv_astore_n (lv' := [(2, .ref q9), (0, .ref (B + 0)), (1, .ref (B + 265))]) K.1.1 K.1.2.1 dL_clear_11 rfl hl (by decide) rfl (fun ls hl => ?_)
  refine lv_iconst (v := 1) K.1.1 K.1.2.1 dL_clear_12 (by decide) ?_
  exact l_ret K hr hlocks hP (S_AB hS) dL_clear_13 rfl rfl

set_option maxHeartbeats 4000000 in
set_option maxRecDepth 100000 in
theorem L_trader_ok (l : Launch) (G : GG) (B : Nat) (cL : ClassId) (μ : Mm) (x : Int64) (a0 : Int32) (a1 : Int32) {fr lo : Nat} (hfr : fr ≤ 7) (hlo : lo ≤ 110) {v : Int32} {μ' : Mm} (hM : CM l yX10_trader (.code yX10_trader cX10_trader 3 (Option.some FieldType.int)) fr lo G B [.ref (B + 0), .int a0, .int a1] μ (some (.int v)) μ') : LM l yL_trader (.codeWith yL_trader cL_trader 5 (Option.some FieldType.int) [(0, 10, 13, 20), (0, 10, 17, 13)]) 8 132 1 6 G B cL [.ref (B + 0), .int a0, .int a1, .ref (B + 265)] μ x 0 μ' (v.toInt64) := by
  refine LM.of (by decide) (Nat.le_of_ble_eq_true rfl) ?_
  intro p e s m below meth c ls K hD hA htab hr hlocks hP hl
  have hS : va_S (AA B) s.heap s.heap [] := va_S.rf
  have hl : lv_has ls 5 [(0, .ref (B + 0)), (1, .int a0), (2, .int a1), (3, .ref (B + 265))] := hl
  refine lv_aload_n K.1.1 K.1.2.1 dL_trader_0 rfl (lv_at hl 3 rfl) ?_
  refine lv_iconst (v := 0) K.1.1 K.1.2.1 dL_trader_1 (by decide) ?_
  refine lv_aload_n K.1.1 K.1.2.1 dL_trader_2 rfl (lv_at hl 0 rfl) ?_
  refine lv_iload_n K.1.1 K.1.2.1 dL_trader_3 rfl (lv_at hl 1 rfl) ?_
  refine lv_iload_n K.1.1 K.1.2.1 dL_trader_4 rfl (lv_at hl 2 rfl) ?_
  refine l_cV (n := 2) (As := [.int a0, .int a1]) (rest := [.int 0, .ref (B + 265)]) (k := 0) K hP.1 hS hM (by decide) sh_0 rfl q_992 q_993 q_994 q_82 q_995 hv_X10_trader ⟨Nat.succ_le_succ hfr, Nat.add_le_add_left hlo _⟩ rfl hl.1 rfl (Nat.le_of_ble_eq_true rfl) dL_trader_5 ⟨Nat.zero_le _, Nat.zero_le _⟩ (fun H locs hP1 hS hq => ?_)
  have hP := hP.kept hP1 hq
  refine lv_topi (fun r er => ?_)
  refine lv_i2l K.1.1 K.1.2.1 dL_trader_8 rfl ?_
  refine l_last K hA hP (S_AB hS) dL_trader_9 (fun H locs hP hS => ?_)
  refine lv_goto (tgt := 21) K.1.1 K.1.2.1 dL_trader_10 (by decide) ?_
  refine lv_iconst (v := 0) K.1.1 K.1.2.1 dL_trader_21 (by decide) ?_
  refine W.widen (k := 1) (n := 6) (by decide) (by decide) ?_
  exact l_ret K hr hlocks hP hS dL_trader_22 rfl (by rw [er])

set_option maxHeartbeats 4000000 in
set_option maxRecDepth 100000 in
theorem L_trader_1 (l : Launch) (G : GG) (B : Nat) (cL : ClassId) (μ : Mm) (x : Int64) (a0 : Int32) (a1 : Int32) {fr lo : Nat} (hfr : fr ≤ 7) (hlo : lo ≤ 110) (hM : XM l yX10_trader (.code yX10_trader cX10_trader 3 (Option.some FieldType.int)) fr lo G B [.ref (B + 0), .int a0, .int a1] μ IOE) : LM l yL_trader (.codeWith yL_trader cL_trader 5 (Option.some FieldType.int) [(0, 10, 13, 20), (0, 10, 17, 13)]) 8 132 1 6 G B cL [.ref (B + 0), .int a0, .int a1, .ref (B + 265)] μ x 1 μ x := by
  refine LM.of (by decide) (Nat.le_of_ble_eq_true rfl) ?_
  intro p e s m below meth c ls K hD hA htab hr hlocks hP hl
  have hS : va_S (AA B) s.heap s.heap [] := va_S.rf
  have hl : lv_has ls 5 [(0, .ref (B + 0)), (1, .int a0), (2, .int a1), (3, .ref (B + 265))] := hl
  refine lv_aload_n K.1.1 K.1.2.1 dL_trader_0 rfl (lv_at hl 3 rfl) ?_
  refine lv_iconst (v := 0) K.1.1 K.1.2.1 dL_trader_1 (by decide) ?_
  refine lv_aload_n K.1.1 K.1.2.1 dL_trader_2 rfl (lv_at hl 0 rfl) ?_
  refine lv_iload_n K.1.1 K.1.2.1 dL_trader_3 rfl (lv_at hl 1 rfl) ?_
  refine lv_iload_n K.1.1 K.1.2.1 dL_trader_4 rfl (lv_at hl 2 rfl) ?_
  refine l_cX (n := 2) (As := [.int a0, .int a1]) (rest := [.int 0, .ref (B + 265)]) (k := 0) K hP.1 hS hD hM (by decide) sh_0 rfl q_992 q_993 q_994 q_82 q_995 hv_X10_trader ⟨Nat.succ_le_succ hfr, Nat.add_le_add_left hlo _⟩ rfl hl.1 rfl (Nat.le_of_ble_eq_true rfl) dL_trader_5 ⟨Nat.le_of_ble_eq_true rfl, Nat.le_of_ble_eq_true rfl⟩ (fun ce q9 H locs hP1 hS hq h1 h2 h3 => ?_)
  have hP := hP.kept hP1 hq
  refine vx_catch (own := RL) (name := IOE) (E := IOE) K.1.2.2.2.1 [] ⟨0, 10, 13, 20⟩ [⟨0, 10, 17, 13⟩] htab (fun z hz => by cases hz) (by decide) (by decide) (K.w q_937) (va_Nw.use rfl K.2.2.1.2.2.2.1.1) h1 h2 h3 ?_
  refine lv_astore (lv' := [(4, .ref q9), (0, .ref (B + 0)), (1, .int a0), (2, .int a1), (3, .ref (B + 265))]) K.1.1 K.1.2.1 dL_trader_13 hl (by decide) rfl (fun ls hl => ?_)
  refine lv_iconst (v := 1) K.1.1 K.1.2.1 dL_trader_15 (by decide) ?_
  exact l_ret K hr hlocks hP (S_AB hS) dL_trader_16 rfl rfl

set_option maxHeartbeats 4000000 in
set_option maxRecDepth 100000 in
theorem L_trader_2 (l : Launch) (G : GG) (B : Nat) (cL : ClassId) (μ : Mm) (x : Int64) (a0 : Int32) (a1 : Int32) {fr lo : Nat} (hfr : fr ≤ 7) (hlo : lo ≤ 110) (hM : XM l yX10_trader (.code yX10_trader cX10_trader 3 (Option.some FieldType.int)) fr lo G B [.ref (B + 0), .int a0, .int a1] μ IAE) : LM l yL_trader (.codeWith yL_trader cL_trader 5 (Option.some FieldType.int) [(0, 10, 13, 20), (0, 10, 17, 13)]) 8 132 1 6 G B cL [.ref (B + 0), .int a0, .int a1, .ref (B + 265)] μ x 2 μ x := by
  refine LM.of (by decide) (Nat.le_of_ble_eq_true rfl) ?_
  intro p e s m below meth c ls K hD hA htab hr hlocks hP hl
  have hS : va_S (AA B) s.heap s.heap [] := va_S.rf
  have hl : lv_has ls 5 [(0, .ref (B + 0)), (1, .int a0), (2, .int a1), (3, .ref (B + 265))] := hl
  refine lv_aload_n K.1.1 K.1.2.1 dL_trader_0 rfl (lv_at hl 3 rfl) ?_
  refine lv_iconst (v := 0) K.1.1 K.1.2.1 dL_trader_1 (by decide) ?_
  refine lv_aload_n K.1.1 K.1.2.1 dL_trader_2 rfl (lv_at hl 0 rfl) ?_
  refine lv_iload_n K.1.1 K.1.2.1 dL_trader_3 rfl (lv_at hl 1 rfl) ?_
  refine lv_iload_n K.1.1 K.1.2.1 dL_trader_4 rfl (lv_at hl 2 rfl) ?_
  refine l_cX (n := 2) (As := [.int a0, .int a1]) (rest := [.int 0, .ref (B + 265)]) (k := 0) K hP.1 hS hD hM (by decide) sh_0 rfl q_992 q_993 q_994 q_82 q_995 hv_X10_trader ⟨Nat.succ_le_succ hfr, Nat.add_le_add_left hlo _⟩ rfl hl.1 rfl (Nat.le_of_ble_eq_true rfl) dL_trader_5 ⟨Nat.le_of_ble_eq_true rfl, Nat.le_of_ble_eq_true rfl⟩ (fun ce q9 H locs hP1 hS hq h1 h2 h3 => ?_)
  have hP := hP.kept hP1 hq
  refine vx_catch (own := RL) (name := IAE) (E := IAE) K.1.2.2.2.1 [⟨0, 10, 13, 20⟩] ⟨0, 10, 17, 13⟩ [] htab (fun z hz => by
    simp only [List.mem_cons, List.not_mem_nil, or_false] at hz
    rcases hz with rfl
    · exact Or.inr ⟨by decide, IOE, K.w q_937, K.2.2.1.2.2.2.2.1.2.2.1⟩) (by decide) (by decide) (K.w q_825) (va_Nw.use rfl K.2.2.1.2.2.2.1.2.1) h1 h2 h3 ?_
  refine lv_astore (lv' := [(4, .ref q9), (0, .ref (B + 0)), (1, .int a0), (2, .int a1), (3, .ref (B + 265))]) K.1.1 K.1.2.1 dL_trader_17 hl (by decide) rfl (fun ls hl => ?_)
  refine lv_iconst (v := 2) K.1.1 K.1.2.1 dL_trader_19 (by decide) ?_
  exact l_ret K hr hlocks hP (S_AB hS) dL_trader_20 rfl rfl

set_option maxHeartbeats 4000000 in
set_option maxRecDepth 100000 in
theorem L_orderOf_ok (l : Launch) (G : GG) (B : Nat) (cL : ClassId) (μ : Mm) (x : Int64) (a0 : Int32) (a1 : Int32) {fr lo : Nat} (hfr : fr ≤ 7) (hlo : lo ≤ 110) {v : Int32} {μ' : Mm} (hM : CM l yX10_orderOf (.code yX10_orderOf cX10_orderOf 3 (Option.some FieldType.int)) fr lo G B [.ref (B + 0), .int a0, .int a1] μ (some (.int v)) μ') : LM l yL_orderOf (.codeWith yL_orderOf cL_orderOf 5 (Option.some FieldType.int) [(0, 10, 13, 20), (0, 10, 17, 13)]) 8 132 1 6 G B cL [.ref (B + 0), .int a0, .int a1, .ref (B + 265)] μ x 0 μ' (v.toInt64) := by
  refine LM.of (by decide) (Nat.le_of_ble_eq_true rfl) ?_
  intro p e s m below meth c ls K hD hA htab hr hlocks hP hl
  have hS : va_S (AA B) s.heap s.heap [] := va_S.rf
  have hl : lv_has ls 5 [(0, .ref (B + 0)), (1, .int a0), (2, .int a1), (3, .ref (B + 265))] := hl
  refine lv_aload_n K.1.1 K.1.2.1 dL_orderOf_0 rfl (lv_at hl 3 rfl) ?_
  refine lv_iconst (v := 0) K.1.1 K.1.2.1 dL_orderOf_1 (by decide) ?_
  refine lv_aload_n K.1.1 K.1.2.1 dL_orderOf_2 rfl (lv_at hl 0 rfl) ?_
  refine lv_iload_n K.1.1 K.1.2.1 dL_orderOf_3 rfl (lv_at hl 1 rfl) ?_
  refine lv_iload_n K.1.1 K.1.2.1 dL_orderOf_4 rfl (lv_at hl 2 rfl) ?_
  refine l_cV (n := 2) (As := [.int a0, .int a1]) (rest := [.int 0, .ref (B + 265)]) (k := 0) K hP.1 hS hM (by decide) sh_0 rfl q_1008 q_1009 q_1010 q_82 q_1011 hv_X10_orderOf ⟨Nat.succ_le_succ hfr, Nat.add_le_add_left hlo _⟩ rfl hl.1 rfl (Nat.le_of_ble_eq_true rfl) dL_orderOf_5 ⟨Nat.zero_le _, Nat.zero_le _⟩ (fun H locs hP1 hS hq => ?_)
  have hP := hP.kept hP1 hq
  refine lv_topi (fun r er => ?_)
  refine lv_i2l K.1.1 K.1.2.1 dL_orderOf_8 rfl ?_
  refine l_last K hA hP (S_AB hS) dL_orderOf_9 (fun H locs hP hS => ?_)
  refine lv_goto (tgt := 21) K.1.1 K.1.2.1 dL_orderOf_10 (by decide) ?_
  refine lv_iconst (v := 0) K.1.1 K.1.2.1 dL_orderOf_21 (by decide) ?_
  refine W.widen (k := 1) (n := 6) (by decide) (by decide) ?_
  exact l_ret K hr hlocks hP hS dL_orderOf_22 rfl (by rw [er])

set_option maxHeartbeats 4000000 in
set_option maxRecDepth 100000 in
theorem L_orderOf_1 (l : Launch) (G : GG) (B : Nat) (cL : ClassId) (μ : Mm) (x : Int64) (a0 : Int32) (a1 : Int32) {fr lo : Nat} (hfr : fr ≤ 7) (hlo : lo ≤ 110) (hM : XM l yX10_orderOf (.code yX10_orderOf cX10_orderOf 3 (Option.some FieldType.int)) fr lo G B [.ref (B + 0), .int a0, .int a1] μ IOE) : LM l yL_orderOf (.codeWith yL_orderOf cL_orderOf 5 (Option.some FieldType.int) [(0, 10, 13, 20), (0, 10, 17, 13)]) 8 132 1 6 G B cL [.ref (B + 0), .int a0, .int a1, .ref (B + 265)] μ x 1 μ x := by
  refine LM.of (by decide) (Nat.le_of_ble_eq_true rfl) ?_
  intro p e s m below meth c ls K hD hA htab hr hlocks hP hl
  have hS : va_S (AA B) s.heap s.heap [] := va_S.rf
  have hl : lv_has ls 5 [(0, .ref (B + 0)), (1, .int a0), (2, .int a1), (3, .ref (B + 265))] := hl
  refine lv_aload_n K.1.1 K.1.2.1 dL_orderOf_0 rfl (lv_at hl 3 rfl) ?_
  refine lv_iconst (v := 0) K.1.1 K.1.2.1 dL_orderOf_1 (by decide) ?_
  refine lv_aload_n K.1.1 K.1.2.1 dL_orderOf_2 rfl (lv_at hl 0 rfl) ?_
  refine lv_iload_n K.1.1 K.1.2.1 dL_orderOf_3 rfl (lv_at hl 1 rfl) ?_
  refine lv_iload_n K.1.1 K.1.2.1 dL_orderOf_4 rfl (lv_at hl 2 rfl) ?_
  refine l_cX (n := 2) (As := [.int a0, .int a1]) (rest := [.int 0, .ref (B + 265)]) (k := 0) K hP.1 hS hD hM (by decide) sh_0 rfl q_1008 q_1009 q_1010 q_82 q_1011 hv_X10_orderOf ⟨Nat.succ_le_succ hfr, Nat.add_le_add_left hlo _⟩ rfl hl.1 rfl (Nat.le_of_ble_eq_true rfl) dL_orderOf_5 ⟨Nat.le_of_ble_eq_true rfl, Nat.le_of_ble_eq_true rfl⟩ (fun ce q9 H locs hP1 hS hq h1 h2 h3 => ?_)
  have hP := hP.kept hP1 hq
  refine vx_catch (own := RL) (name := IOE) (E := IOE) K.1.2.2.2.1 [] ⟨0, 10, 13, 20⟩ [⟨0, 10, 17, 13⟩] htab (fun z hz => by cases hz) (by decide) (by decide) (K.w q_937) (va_Nw.use rfl K.2.2.1.2.2.2.1.1) h1 h2 h3 ?_
  refine lv_astore (lv' := [(4, .ref q9), (0, .ref (B + 0)), (1, .int a0), (2, .int a1), (3, .ref (B + 265))]) K.1.1 K.1.2.1 dL_orderOf_13 hl (by decide) rfl (fun ls hl => ?_)
  refine lv_iconst (v := 1) K.1.1 K.1.2.1 dL_orderOf_15 (by decide) ?_
  exact l_ret K hr hlocks hP (S_AB hS) dL_orderOf_16 rfl rfl

set_option maxHeartbeats 4000000 in
set_option maxRecDepth 100000 in
theorem L_orderOf_2 (l : Launch) (G : GG) (B : Nat) (cL : ClassId) (μ : Mm) (x : Int64) (a0 : Int32) (a1 : Int32) {fr lo : Nat} (hfr : fr ≤ 7) (hlo : lo ≤ 110) (hM : XM l yX10_orderOf (.code yX10_orderOf cX10_orderOf 3 (Option.some FieldType.int)) fr lo G B [.ref (B + 0), .int a0, .int a1] μ IAE) : LM l yL_orderOf (.codeWith yL_orderOf cL_orderOf 5 (Option.some FieldType.int) [(0, 10, 13, 20), (0, 10, 17, 13)]) 8 132 1 6 G B cL [.ref (B + 0), .int a0, .int a1, .ref (B + 265)] μ x 2 μ x := by
  refine LM.of (by decide) (Nat.le_of_ble_eq_true rfl) ?_
  intro p e s m below meth c ls K hD hA htab hr hlocks hP hl
  have hS : va_S (AA B) s.heap s.heap [] := va_S.rf
  have hl : lv_has ls 5 [(0, .ref (B + 0)), (1, .int a0), (2, .int a1), (3, .ref (B + 265))] := hl
  refine lv_aload_n K.1.1 K.1.2.1 dL_orderOf_0 rfl (lv_at hl 3 rfl) ?_
  refine lv_iconst (v := 0) K.1.1 K.1.2.1 dL_orderOf_1 (by decide) ?_
  refine lv_aload_n K.1.1 K.1.2.1 dL_orderOf_2 rfl (lv_at hl 0 rfl) ?_
  refine lv_iload_n K.1.1 K.1.2.1 dL_orderOf_3 rfl (lv_at hl 1 rfl) ?_
  refine lv_iload_n K.1.1 K.1.2.1 dL_orderOf_4 rfl (lv_at hl 2 rfl) ?_
  refine l_cX (n := 2) (As := [.int a0, .int a1]) (rest := [.int 0, .ref (B + 265)]) (k := 0) K hP.1 hS hD hM (by decide) sh_0 rfl q_1008 q_1009 q_1010 q_82 q_1011 hv_X10_orderOf ⟨Nat.succ_le_succ hfr, Nat.add_le_add_left hlo _⟩ rfl hl.1 rfl (Nat.le_of_ble_eq_true rfl) dL_orderOf_5 ⟨Nat.le_of_ble_eq_true rfl, Nat.le_of_ble_eq_true rfl⟩ (fun ce q9 H locs hP1 hS hq h1 h2 h3 => ?_)
  have hP := hP.kept hP1 hq
  refine vx_catch (own := RL) (name := IAE) (E := IAE) K.1.2.2.2.1 [⟨0, 10, 13, 20⟩] ⟨0, 10, 17, 13⟩ [] htab (fun z hz => by
    simp only [List.mem_cons, List.not_mem_nil, or_false] at hz
    rcases hz with rfl
    · exact Or.inr ⟨by decide, IOE, K.w q_937, K.2.2.1.2.2.2.2.1.2.2.1⟩) (by decide) (by decide) (K.w q_825) (va_Nw.use rfl K.2.2.1.2.2.2.1.2.1) h1 h2 h3 ?_
  refine lv_astore (lv' := [(4, .ref q9), (0, .ref (B + 0)), (1, .int a0), (2, .int a1), (3, .ref (B + 265))]) K.1.1 K.1.2.1 dL_orderOf_17 hl (by decide) rfl (fun ls hl => ?_)
  refine lv_iconst (v := 2) K.1.1 K.1.2.1 dL_orderOf_19 (by decide) ?_
  exact l_ret K hr hlocks hP (S_AB hS) dL_orderOf_20 rfl rfl

set_option maxHeartbeats 4000000 in
set_option maxRecDepth 100000 in
theorem L_trade_ok (l : Launch) (G : GG) (B : Nat) (cL : ClassId) (μ : Mm) (x : Int64) (a0 : Int32) (a1 : Int32) {fr lo : Nat} (hfr : fr ≤ 7) (hlo : lo ≤ 110) {v : Int32} {μ' : Mm} (hM : CM l yX10_trade (.code yX10_trade cX10_trade 3 (Option.some FieldType.int)) fr lo G B [.ref (B + 0), .int a0, .int a1] μ (some (.int v)) μ') : LM l yL_trade (.codeWith yL_trade cL_trade 5 (Option.some FieldType.int) [(0, 10, 13, 13)]) 8 132 1 6 G B cL [.ref (B + 0), .int a0, .int a1, .ref (B + 265)] μ x 0 μ' (v.toInt64) := by
  refine LM.of (by decide) (Nat.le_of_ble_eq_true rfl) ?_
  intro p e s m below meth c ls K hD hA htab hr hlocks hP hl
  have hS : va_S (AA B) s.heap s.heap [] := va_S.rf
  have hl : lv_has ls 5 [(0, .ref (B + 0)), (1, .int a0), (2, .int a1), (3, .ref (B + 265))] := hl
  refine lv_aload_n K.1.1 K.1.2.1 dL_trade_0 rfl (lv_at hl 3 rfl) ?_
  refine lv_iconst (v := 0) K.1.1 K.1.2.1 dL_trade_1 (by decide) ?_
  refine lv_aload_n K.1.1 K.1.2.1 dL_trade_2 rfl (lv_at hl 0 rfl) ?_
  refine lv_iload_n K.1.1 K.1.2.1 dL_trade_3 rfl (lv_at hl 1 rfl) ?_
  refine lv_iload_n K.1.1 K.1.2.1 dL_trade_4 rfl (lv_at hl 2 rfl) ?_
  refine l_cV (n := 2) (As := [.int a0, .int a1]) (rest := [.int 0, .ref (B + 265)]) (k := 0) K hP.1 hS hM (by decide) sh_0 rfl q_1016 q_1017 q_1018 q_82 q_1019 hv_X10_trade ⟨Nat.succ_le_succ hfr, Nat.add_le_add_left hlo _⟩ rfl hl.1 rfl (Nat.le_of_ble_eq_true rfl) dL_trade_5 ⟨Nat.zero_le _, Nat.zero_le _⟩ (fun H locs hP1 hS hq => ?_)
  have hP := hP.kept hP1 hq
  refine lv_topi (fun r er => ?_)
  refine lv_i2l K.1.1 K.1.2.1 dL_trade_8 rfl ?_
  refine l_last K hA hP (S_AB hS) dL_trade_9 (fun H locs hP hS => ?_)
  refine lv_goto (tgt := 17) K.1.1 K.1.2.1 dL_trade_10 (by decide) ?_
  refine lv_iconst (v := 0) K.1.1 K.1.2.1 dL_trade_17 (by decide) ?_
  refine W.widen (k := 1) (n := 6) (by decide) (by decide) ?_
  exact l_ret K hr hlocks hP hS dL_trade_18 rfl (by rw [er])

set_option maxHeartbeats 4000000 in
set_option maxRecDepth 100000 in
theorem L_trade_1 (l : Launch) (G : GG) (B : Nat) (cL : ClassId) (μ : Mm) (x : Int64) (a0 : Int32) (a1 : Int32) {fr lo : Nat} (hfr : fr ≤ 7) (hlo : lo ≤ 110) (hM : XM l yX10_trade (.code yX10_trade cX10_trade 3 (Option.some FieldType.int)) fr lo G B [.ref (B + 0), .int a0, .int a1] μ IAE) : LM l yL_trade (.codeWith yL_trade cL_trade 5 (Option.some FieldType.int) [(0, 10, 13, 13)]) 8 132 1 6 G B cL [.ref (B + 0), .int a0, .int a1, .ref (B + 265)] μ x 1 μ x := by
  refine LM.of (by decide) (Nat.le_of_ble_eq_true rfl) ?_
  intro p e s m below meth c ls K hD hA htab hr hlocks hP hl
  have hS : va_S (AA B) s.heap s.heap [] := va_S.rf
  have hl : lv_has ls 5 [(0, .ref (B + 0)), (1, .int a0), (2, .int a1), (3, .ref (B + 265))] := hl
  refine lv_aload_n K.1.1 K.1.2.1 dL_trade_0 rfl (lv_at hl 3 rfl) ?_
  refine lv_iconst (v := 0) K.1.1 K.1.2.1 dL_trade_1 (by decide) ?_
  refine lv_aload_n K.1.1 K.1.2.1 dL_trade_2 rfl (lv_at hl 0 rfl) ?_
  refine lv_iload_n K.1.1 K.1.2.1 dL_trade_3 rfl (lv_at hl 1 rfl) ?_
  refine lv_iload_n K.1.1 K.1.2.1 dL_trade_4 rfl (lv_at hl 2 rfl) ?_
  refine l_cX (n := 2) (As := [.int a0, .int a1]) (rest := [.int 0, .ref (B + 265)]) (k := 0) K hP.1 hS hD hM (by decide) sh_0 rfl q_1016 q_1017 q_1018 q_82 q_1019 hv_X10_trade ⟨Nat.succ_le_succ hfr, Nat.add_le_add_left hlo _⟩ rfl hl.1 rfl (Nat.le_of_ble_eq_true rfl) dL_trade_5 ⟨Nat.le_of_ble_eq_true rfl, Nat.le_of_ble_eq_true rfl⟩ (fun ce q9 H locs hP1 hS hq h1 h2 h3 => ?_)
  have hP := hP.kept hP1 hq
  refine vx_catch (own := RL) (name := IAE) (E := IAE) K.1.2.2.2.1 [] ⟨0, 10, 13, 13⟩ [] htab (fun z hz => by cases hz) (by decide) (by decide) (K.w q_825) (va_Nw.use rfl K.2.2.1.2.2.2.1.2.1) h1 h2 h3 ?_
  refine lv_astore (lv' := [(4, .ref q9), (0, .ref (B + 0)), (1, .int a0), (2, .int a1), (3, .ref (B + 265))]) K.1.1 K.1.2.1 dL_trade_13 hl (by decide) rfl (fun ls hl => ?_)
  refine lv_iconst (v := 1) K.1.1 K.1.2.1 dL_trade_15 (by decide) ?_
  exact l_ret K hr hlocks hP (S_AB hS) dL_trade_16 rfl rfl

set_option maxHeartbeats 4000000 in
set_option maxRecDepth 100000 in
theorem L_at_ok (l : Launch) (G : GG) (B : Nat) (cL : ClassId) (μ : Mm) (x : Int64) (a0 : Int32) (a1 : Int32) {fr lo : Nat} (hfr : fr ≤ 7) (hlo : lo ≤ 110) {v : Int32} {μ' : Mm} (hM : CM l yX10_at (.code yX10_at cX10_at 3 (Option.some FieldType.int)) fr lo G B [.ref (B + 0), .int a0, .int a1] μ (some (.int v)) μ') : LM l yL_at (.codeWith yL_at cL_at 5 (Option.some FieldType.int) [(0, 10, 13, 13)]) 8 132 1 6 G B cL [.ref (B + 0), .int a0, .int a1, .ref (B + 265)] μ x 0 μ' (v.toInt64) := by
  refine LM.of (by decide) (Nat.le_of_ble_eq_true rfl) ?_
  intro p e s m below meth c ls K hD hA htab hr hlocks hP hl
  have hS : va_S (AA B) s.heap s.heap [] := va_S.rf
  have hl : lv_has ls 5 [(0, .ref (B + 0)), (1, .int a0), (2, .int a1), (3, .ref (B + 265))] := hl
  refine lv_aload_n K.1.1 K.1.2.1 dL_at_0 rfl (lv_at hl 3 rfl) ?_
  refine lv_iconst (v := 0) K.1.1 K.1.2.1 dL_at_1 (by decide) ?_
  refine lv_aload_n K.1.1 K.1.2.1 dL_at_2 rfl (lv_at hl 0 rfl) ?_
  refine lv_iload_n K.1.1 K.1.2.1 dL_at_3 rfl (lv_at hl 1 rfl) ?_
  refine lv_iload_n K.1.1 K.1.2.1 dL_at_4 rfl (lv_at hl 2 rfl) ?_
  refine l_cV (n := 2) (As := [.int a0, .int a1]) (rest := [.int 0, .ref (B + 265)]) (k := 0) K hP.1 hS hM (by decide) sh_0 rfl q_1023 q_1024 q_1025 q_82 q_1026 hv_X10_at ⟨Nat.succ_le_succ hfr, Nat.add_le_add_left hlo _⟩ rfl hl.1 rfl (Nat.le_of_ble_eq_true rfl) dL_at_5 ⟨Nat.zero_le _, Nat.zero_le _⟩ (fun H locs hP1 hS hq => ?_)
  have hP := hP.kept hP1 hq
  refine lv_topi (fun r er => ?_)
  refine lv_i2l K.1.1 K.1.2.1 dL_at_8 rfl ?_
  refine l_last K hA hP (S_AB hS) dL_at_9 (fun H locs hP hS => ?_)
  refine lv_goto (tgt := 17) K.1.1 K.1.2.1 dL_at_10 (by decide) ?_
  refine lv_iconst (v := 0) K.1.1 K.1.2.1 dL_at_17 (by decide) ?_
  refine W.widen (k := 1) (n := 6) (by decide) (by decide) ?_
  exact l_ret K hr hlocks hP hS dL_at_18 rfl (by rw [er])

set_option maxHeartbeats 4000000 in
set_option maxRecDepth 100000 in
theorem L_at_1 (l : Launch) (G : GG) (B : Nat) (cL : ClassId) (μ : Mm) (x : Int64) (a0 : Int32) (a1 : Int32) {fr lo : Nat} (hfr : fr ≤ 7) (hlo : lo ≤ 110) (hM : XM l yX10_at (.code yX10_at cX10_at 3 (Option.some FieldType.int)) fr lo G B [.ref (B + 0), .int a0, .int a1] μ IAE) : LM l yL_at (.codeWith yL_at cL_at 5 (Option.some FieldType.int) [(0, 10, 13, 13)]) 8 132 1 6 G B cL [.ref (B + 0), .int a0, .int a1, .ref (B + 265)] μ x 1 μ x := by
  refine LM.of (by decide) (Nat.le_of_ble_eq_true rfl) ?_
  intro p e s m below meth c ls K hD hA htab hr hlocks hP hl
  have hS : va_S (AA B) s.heap s.heap [] := va_S.rf
  have hl : lv_has ls 5 [(0, .ref (B + 0)), (1, .int a0), (2, .int a1), (3, .ref (B + 265))] := hl
  refine lv_aload_n K.1.1 K.1.2.1 dL_at_0 rfl (lv_at hl 3 rfl) ?_
  refine lv_iconst (v := 0) K.1.1 K.1.2.1 dL_at_1 (by decide) ?_
  refine lv_aload_n K.1.1 K.1.2.1 dL_at_2 rfl (lv_at hl 0 rfl) ?_
  refine lv_iload_n K.1.1 K.1.2.1 dL_at_3 rfl (lv_at hl 1 rfl) ?_
  refine lv_iload_n K.1.1 K.1.2.1 dL_at_4 rfl (lv_at hl 2 rfl) ?_
  refine l_cX (n := 2) (As := [.int a0, .int a1]) (rest := [.int 0, .ref (B + 265)]) (k := 0) K hP.1 hS hD hM (by decide) sh_0 rfl q_1023 q_1024 q_1025 q_82 q_1026 hv_X10_at ⟨Nat.succ_le_succ hfr, Nat.add_le_add_left hlo _⟩ rfl hl.1 rfl (Nat.le_of_ble_eq_true rfl) dL_at_5 ⟨Nat.le_of_ble_eq_true rfl, Nat.le_of_ble_eq_true rfl⟩ (fun ce q9 H locs hP1 hS hq h1 h2 h3 => ?_)
  have hP := hP.kept hP1 hq
  refine vx_catch (own := RL) (name := IAE) (E := IAE) K.1.2.2.2.1 [] ⟨0, 10, 13, 13⟩ [] htab (fun z hz => by cases hz) (by decide) (by decide) (K.w q_825) (va_Nw.use rfl K.2.2.1.2.2.2.1.2.1) h1 h2 h3 ?_
  refine lv_astore (lv' := [(4, .ref q9), (0, .ref (B + 0)), (1, .int a0), (2, .int a1), (3, .ref (B + 265))]) K.1.1 K.1.2.1 dL_at_13 hl (by decide) rfl (fun ls hl => ?_)
  refine lv_iconst (v := 1) K.1.1 K.1.2.1 dL_at_15 (by decide) ?_
  exact l_ret K hr hlocks hP (S_AB hS) dL_at_16 rfl rfl

set_option maxHeartbeats 4000000 in
set_option maxRecDepth 100000 in
theorem L_now_ok (l : Launch) (G : GG) (B : Nat) (cL : ClassId) (μ : Mm) (x : Int64) (a0 : Int32) {fr lo : Nat} (hfr : fr ≤ 7) (hlo : lo ≤ 110) {v : Int32} {μ' : Mm} (hM : CM l yX10_now (.code yX10_now cX10_now 2 (Option.some FieldType.int)) fr lo G B [.ref (B + 0), .int a0] μ (some (.int v)) μ') : LM l yL_now (.codeWith yL_now cL_now 4 (Option.some FieldType.int) [(0, 9, 12, 13)]) 8 131 1 6 G B cL [.ref (B + 0), .int a0, .ref (B + 265)] μ x 0 μ' (v.toInt64) := by
  refine LM.of (by decide) (Nat.le_of_ble_eq_true rfl) ?_
  intro p e s m below meth c ls K hD hA htab hr hlocks hP hl
  have hS : va_S (AA B) s.heap s.heap [] := va_S.rf
  have hl : lv_has ls 4 [(0, .ref (B + 0)), (1, .int a0), (2, .ref (B + 265))] := hl
  refine lv_aload_n K.1.1 K.1.2.1 dL_now_0 rfl (lv_at hl 2 rfl) ?_
  refine lv_iconst (v := 0) K.1.1 K.1.2.1 dL_now_1 (by decide) ?_
  refine lv_aload_n K.1.1 K.1.2.1 dL_now_2 rfl (lv_at hl 0 rfl) ?_
  refine lv_iload_n K.1.1 K.1.2.1 dL_now_3 rfl (lv_at hl 1 rfl) ?_
  refine l_cV (n := 1) (As := [.int a0]) (rest := [.int 0, .ref (B + 265)]) (k := 0) K hP.1 hS hM (by decide) sh_0 rfl q_1046 q_1047 q_1048 q_82 q_1049 hv_X10_now ⟨Nat.succ_le_succ hfr, Nat.add_le_add_left hlo _⟩ rfl hl.1 rfl (Nat.le_of_ble_eq_true rfl) dL_now_4 ⟨Nat.zero_le _, Nat.zero_le _⟩ (fun H locs hP1 hS hq => ?_)
  have hP := hP.kept hP1 hq
  refine lv_topi (fun r er => ?_)
  refine lv_i2l K.1.1 K.1.2.1 dL_now_7 rfl ?_
  refine l_last K hA hP (S_AB hS) dL_now_8 (fun H locs hP hS => ?_)
  refine lv_goto (tgt := 15) K.1.1 K.1.2.1 dL_now_9 (by decide) ?_
  refine lv_iconst (v := 0) K.1.1 K.1.2.1 dL_now_15 (by decide) ?_
  refine W.widen (k := 1) (n := 6) (by decide) (by decide) ?_
  exact l_ret K hr hlocks hP hS dL_now_16 rfl (by rw [er])

set_option maxHeartbeats 4000000 in
set_option maxRecDepth 100000 in
theorem L_now_1 (l : Launch) (G : GG) (B : Nat) (cL : ClassId) (μ : Mm) (x : Int64) (a0 : Int32) {fr lo : Nat} (hfr : fr ≤ 7) (hlo : lo ≤ 110) (hM : XM l yX10_now (.code yX10_now cX10_now 2 (Option.some FieldType.int)) fr lo G B [.ref (B + 0), .int a0] μ IAE) : LM l yL_now (.codeWith yL_now cL_now 4 (Option.some FieldType.int) [(0, 9, 12, 13)]) 8 131 1 6 G B cL [.ref (B + 0), .int a0, .ref (B + 265)] μ x 1 μ x := by
  refine LM.of (by decide) (Nat.le_of_ble_eq_true rfl) ?_
  intro p e s m below meth c ls K hD hA htab hr hlocks hP hl
  have hS : va_S (AA B) s.heap s.heap [] := va_S.rf
  have hl : lv_has ls 4 [(0, .ref (B + 0)), (1, .int a0), (2, .ref (B + 265))] := hl
  refine lv_aload_n K.1.1 K.1.2.1 dL_now_0 rfl (lv_at hl 2 rfl) ?_
  refine lv_iconst (v := 0) K.1.1 K.1.2.1 dL_now_1 (by decide) ?_
  refine lv_aload_n K.1.1 K.1.2.1 dL_now_2 rfl (lv_at hl 0 rfl) ?_
  refine lv_iload_n K.1.1 K.1.2.1 dL_now_3 rfl (lv_at hl 1 rfl) ?_
  refine l_cX (n := 1) (As := [.int a0]) (rest := [.int 0, .ref (B + 265)]) (k := 0) K hP.1 hS hD hM (by decide) sh_0 rfl q_1046 q_1047 q_1048 q_82 q_1049 hv_X10_now ⟨Nat.succ_le_succ hfr, Nat.add_le_add_left hlo _⟩ rfl hl.1 rfl (Nat.le_of_ble_eq_true rfl) dL_now_4 ⟨Nat.le_of_ble_eq_true rfl, Nat.le_of_ble_eq_true rfl⟩ (fun ce q9 H locs hP1 hS hq h1 h2 h3 => ?_)
  have hP := hP.kept hP1 hq
  refine vx_catch (own := RL) (name := IAE) (E := IAE) K.1.2.2.2.1 [] ⟨0, 9, 12, 13⟩ [] htab (fun z hz => by cases hz) (by decide) (by decide) (K.w q_825) (va_Nw.use rfl K.2.2.1.2.2.2.1.2.1) h1 h2 h3 ?_
  refine lv_astore_n (lv' := [(3, .ref q9), (0, .ref (B + 0)), (1, .int a0), (2, .ref (B + 265))]) K.1.1 K.1.2.1 dL_now_12 rfl hl (by decide) rfl (fun ls hl => ?_)
  refine lv_iconst (v := 1) K.1.1 K.1.2.1 dL_now_13 (by decide) ?_
  exact l_ret K hr hlocks hP (S_AB hS) dL_now_14 rfl rfl

set_option maxHeartbeats 4000000 in
set_option maxRecDepth 100000 in
theorem L_whole_ok (l : Launch) (G : GG) (B : Nat) (cL : ClassId) (μ : Mm) (x : Int64) (a0 : Int32) {fr lo : Nat} (hfr : fr ≤ 7) (hlo : lo ≤ 110) {v : Int32} {μ' : Mm} (hM : CM l yX10_whole (.code yX10_whole cX10_whole 2 (Option.some FieldType.int)) fr lo G B [.ref (B + 0), .int a0] μ (some (.int v)) μ') : LM l yL_whole (.codeWith yL_whole cL_whole 4 (Option.some FieldType.int) [(0, 9, 12, 13)]) 8 131 1 6 G B cL [.ref (B + 0), .int a0, .ref (B + 265)] μ x 0 μ' (v.toInt64) := by
  refine LM.of (by decide) (Nat.le_of_ble_eq_true rfl) ?_
  intro p e s m below meth c ls K hD hA htab hr hlocks hP hl
  have hS : va_S (AA B) s.heap s.heap [] := va_S.rf
  have hl : lv_has ls 4 [(0, .ref (B + 0)), (1, .int a0), (2, .ref (B + 265))] := hl
  refine lv_aload_n K.1.1 K.1.2.1 dL_whole_0 rfl (lv_at hl 2 rfl) ?_
  refine lv_iconst (v := 0) K.1.1 K.1.2.1 dL_whole_1 (by decide) ?_
  refine lv_aload_n K.1.1 K.1.2.1 dL_whole_2 rfl (lv_at hl 0 rfl) ?_
  refine lv_iload_n K.1.1 K.1.2.1 dL_whole_3 rfl (lv_at hl 1 rfl) ?_
  refine l_cV (n := 1) (As := [.int a0]) (rest := [.int 0, .ref (B + 265)]) (k := 0) K hP.1 hS hM (by decide) sh_0 rfl q_1053 q_1054 q_1055 q_82 q_1056 hv_X10_whole ⟨Nat.succ_le_succ hfr, Nat.add_le_add_left hlo _⟩ rfl hl.1 rfl (Nat.le_of_ble_eq_true rfl) dL_whole_4 ⟨Nat.zero_le _, Nat.zero_le _⟩ (fun H locs hP1 hS hq => ?_)
  have hP := hP.kept hP1 hq
  refine lv_topi (fun r er => ?_)
  refine lv_i2l K.1.1 K.1.2.1 dL_whole_7 rfl ?_
  refine l_last K hA hP (S_AB hS) dL_whole_8 (fun H locs hP hS => ?_)
  refine lv_goto (tgt := 15) K.1.1 K.1.2.1 dL_whole_9 (by decide) ?_
  refine lv_iconst (v := 0) K.1.1 K.1.2.1 dL_whole_15 (by decide) ?_
  refine W.widen (k := 1) (n := 6) (by decide) (by decide) ?_
  exact l_ret K hr hlocks hP hS dL_whole_16 rfl (by rw [er])

set_option maxHeartbeats 4000000 in
set_option maxRecDepth 100000 in
theorem L_whole_1 (l : Launch) (G : GG) (B : Nat) (cL : ClassId) (μ : Mm) (x : Int64) (a0 : Int32) {fr lo : Nat} (hfr : fr ≤ 7) (hlo : lo ≤ 110) (hM : XM l yX10_whole (.code yX10_whole cX10_whole 2 (Option.some FieldType.int)) fr lo G B [.ref (B + 0), .int a0] μ IAE) : LM l yL_whole (.codeWith yL_whole cL_whole 4 (Option.some FieldType.int) [(0, 9, 12, 13)]) 8 131 1 6 G B cL [.ref (B + 0), .int a0, .ref (B + 265)] μ x 1 μ x := by
  refine LM.of (by decide) (Nat.le_of_ble_eq_true rfl) ?_
  intro p e s m below meth c ls K hD hA htab hr hlocks hP hl
  have hS : va_S (AA B) s.heap s.heap [] := va_S.rf
  have hl : lv_has ls 4 [(0, .ref (B + 0)), (1, .int a0), (2, .ref (B + 265))] := hl
  refine lv_aload_n K.1.1 K.1.2.1 dL_whole_0 rfl (lv_at hl 2 rfl) ?_
  refine lv_iconst (v := 0) K.1.1 K.1.2.1 dL_whole_1 (by decide) ?_
  refine lv_aload_n K.1.1 K.1.2.1 dL_whole_2 rfl (lv_at hl 0 rfl) ?_
  refine lv_iload_n K.1.1 K.1.2.1 dL_whole_3 rfl (lv_at hl 1 rfl) ?_
  refine l_cX (n := 1) (As := [.int a0]) (rest := [.int 0, .ref (B + 265)]) (k := 0) K hP.1 hS hD hM (by decide) sh_0 rfl q_1053 q_1054 q_1055 q_82 q_1056 hv_X10_whole ⟨Nat.succ_le_succ hfr, Nat.add_le_add_left hlo _⟩ rfl hl.1 rfl (Nat.le_of_ble_eq_true rfl) dL_whole_4 ⟨Nat.le_of_ble_eq_true rfl, Nat.le_of_ble_eq_true rfl⟩ (fun ce q9 H locs hP1 hS hq h1 h2 h3 => ?_)
  have hP := hP.kept hP1 hq
  refine vx_catch (own := RL) (name := IAE) (E := IAE) K.1.2.2.2.1 [] ⟨0, 9, 12, 13⟩ [] htab (fun z hz => by cases hz) (by decide) (by decide) (K.w q_825) (va_Nw.use rfl K.2.2.1.2.2.2.1.2.1) h1 h2 h3 ?_
  refine lv_astore_n (lv' := [(3, .ref q9), (0, .ref (B + 0)), (1, .int a0), (2, .ref (B + 265))]) K.1.1 K.1.2.1 dL_whole_12 rfl hl (by decide) rfl (fun ls hl => ?_)
  refine lv_iconst (v := 1) K.1.1 K.1.2.1 dL_whole_13 (by decide) ?_
  exact l_ret K hr hlocks hP (S_AB hS) dL_whole_14 rfl rfl

set_option maxHeartbeats 4000000 in
set_option maxRecDepth 100000 in
theorem L_filled_ok (l : Launch) (G : GG) (B : Nat) (cL : ClassId) (μ : Mm) (x : Int64) (a0 : Int32) {fr lo : Nat} (hfr : fr ≤ 7) (hlo : lo ≤ 110) {v : Int32} {μ' : Mm} (hM : CM l yX10_filled (.code yX10_filled cX10_filled 2 (Option.some FieldType.int)) fr lo G B [.ref (B + 0), .int a0] μ (some (.int v)) μ') : LM l yL_filled (.codeWith yL_filled cL_filled 4 (Option.some FieldType.int) [(0, 9, 12, 20)]) 8 131 1 6 G B cL [.ref (B + 0), .int a0, .ref (B + 265)] μ x 0 μ' (v.toInt64) := by
  refine LM.of (by decide) (Nat.le_of_ble_eq_true rfl) ?_
  intro p e s m below meth c ls K hD hA htab hr hlocks hP hl
  have hS : va_S (AA B) s.heap s.heap [] := va_S.rf
  have hl : lv_has ls 4 [(0, .ref (B + 0)), (1, .int a0), (2, .ref (B + 265))] := hl
  refine lv_aload_n K.1.1 K.1.2.1 dL_filled_0 rfl (lv_at hl 2 rfl) ?_
  refine lv_iconst (v := 0) K.1.1 K.1.2.1 dL_filled_1 (by decide) ?_
  refine lv_aload_n K.1.1 K.1.2.1 dL_filled_2 rfl (lv_at hl 0 rfl) ?_
  refine lv_iload_n K.1.1 K.1.2.1 dL_filled_3 rfl (lv_at hl 1 rfl) ?_
  refine l_cV (n := 1) (As := [.int a0]) (rest := [.int 0, .ref (B + 265)]) (k := 0) K hP.1 hS hM (by decide) sh_0 rfl q_1060 q_1061 q_1062 q_82 q_1063 hv_X10_filled ⟨Nat.succ_le_succ hfr, Nat.add_le_add_left hlo _⟩ rfl hl.1 rfl (Nat.le_of_ble_eq_true rfl) dL_filled_4 ⟨Nat.zero_le _, Nat.zero_le _⟩ (fun H locs hP1 hS hq => ?_)
  have hP := hP.kept hP1 hq
  refine lv_topi (fun r er => ?_)
  refine lv_i2l K.1.1 K.1.2.1 dL_filled_7 rfl ?_
  refine l_last K hA hP (S_AB hS) dL_filled_8 (fun H locs hP hS => ?_)
  refine lv_goto (tgt := 15) K.1.1 K.1.2.1 dL_filled_9 (by decide) ?_
  refine lv_iconst (v := 0) K.1.1 K.1.2.1 dL_filled_15 (by decide) ?_
  refine W.widen (k := 1) (n := 6) (by decide) (by decide) ?_
  exact l_ret K hr hlocks hP hS dL_filled_16 rfl (by rw [er])

set_option maxHeartbeats 4000000 in
set_option maxRecDepth 100000 in
theorem L_filled_1 (l : Launch) (G : GG) (B : Nat) (cL : ClassId) (μ : Mm) (x : Int64) (a0 : Int32) {fr lo : Nat} (hfr : fr ≤ 7) (hlo : lo ≤ 110) (hM : XM l yX10_filled (.code yX10_filled cX10_filled 2 (Option.some FieldType.int)) fr lo G B [.ref (B + 0), .int a0] μ IOE) : LM l yL_filled (.codeWith yL_filled cL_filled 4 (Option.some FieldType.int) [(0, 9, 12, 20)]) 8 131 1 6 G B cL [.ref (B + 0), .int a0, .ref (B + 265)] μ x 1 μ x := by
  refine LM.of (by decide) (Nat.le_of_ble_eq_true rfl) ?_
  intro p e s m below meth c ls K hD hA htab hr hlocks hP hl
  have hS : va_S (AA B) s.heap s.heap [] := va_S.rf
  have hl : lv_has ls 4 [(0, .ref (B + 0)), (1, .int a0), (2, .ref (B + 265))] := hl
  refine lv_aload_n K.1.1 K.1.2.1 dL_filled_0 rfl (lv_at hl 2 rfl) ?_
  refine lv_iconst (v := 0) K.1.1 K.1.2.1 dL_filled_1 (by decide) ?_
  refine lv_aload_n K.1.1 K.1.2.1 dL_filled_2 rfl (lv_at hl 0 rfl) ?_
  refine lv_iload_n K.1.1 K.1.2.1 dL_filled_3 rfl (lv_at hl 1 rfl) ?_
  refine l_cX (n := 1) (As := [.int a0]) (rest := [.int 0, .ref (B + 265)]) (k := 0) K hP.1 hS hD hM (by decide) sh_0 rfl q_1060 q_1061 q_1062 q_82 q_1063 hv_X10_filled ⟨Nat.succ_le_succ hfr, Nat.add_le_add_left hlo _⟩ rfl hl.1 rfl (Nat.le_of_ble_eq_true rfl) dL_filled_4 ⟨Nat.le_of_ble_eq_true rfl, Nat.le_of_ble_eq_true rfl⟩ (fun ce q9 H locs hP1 hS hq h1 h2 h3 => ?_)
  have hP := hP.kept hP1 hq
  refine vx_catch (own := RL) (name := IOE) (E := IOE) K.1.2.2.2.1 [] ⟨0, 9, 12, 20⟩ [] htab (fun z hz => by cases hz) (by decide) (by decide) (K.w q_937) (va_Nw.use rfl K.2.2.1.2.2.2.1.1) h1 h2 h3 ?_
  refine lv_astore_n (lv' := [(3, .ref q9), (0, .ref (B + 0)), (1, .int a0), (2, .ref (B + 265))]) K.1.1 K.1.2.1 dL_filled_12 rfl hl (by decide) rfl (fun ls hl => ?_)
  refine lv_iconst (v := 1) K.1.1 K.1.2.1 dL_filled_13 (by decide) ?_
  exact l_ret K hr hlocks hP (S_AB hS) dL_filled_14 rfl rfl

set_option maxHeartbeats 4000000 in
set_option maxRecDepth 100000 in
theorem L_reason_ok (l : Launch) (G : GG) (B : Nat) (cL : ClassId) (μ : Mm) (x : Int64) (a0 : Int32) {fr lo : Nat} (hfr : fr ≤ 7) (hlo : lo ≤ 110) {v : Int32} {μ' : Mm} (hM : CM l yX10_reason (.code yX10_reason cX10_reason 2 (Option.some FieldType.int)) fr lo G B [.ref (B + 0), .int a0] μ (some (.int v)) μ') : LM l yL_reason (.codeWith yL_reason cL_reason 4 (Option.some FieldType.int) [(0, 9, 12, 20)]) 8 131 1 6 G B cL [.ref (B + 0), .int a0, .ref (B + 265)] μ x 0 μ' (v.toInt64) := by
  refine LM.of (by decide) (Nat.le_of_ble_eq_true rfl) ?_
  intro p e s m below meth c ls K hD hA htab hr hlocks hP hl
  have hS : va_S (AA B) s.heap s.heap [] := va_S.rf
  have hl : lv_has ls 4 [(0, .ref (B + 0)), (1, .int a0), (2, .ref (B + 265))] := hl
  refine lv_aload_n K.1.1 K.1.2.1 dL_reason_0 rfl (lv_at hl 2 rfl) ?_
  refine lv_iconst (v := 0) K.1.1 K.1.2.1 dL_reason_1 (by decide) ?_
  refine lv_aload_n K.1.1 K.1.2.1 dL_reason_2 rfl (lv_at hl 0 rfl) ?_
  refine lv_iload_n K.1.1 K.1.2.1 dL_reason_3 rfl (lv_at hl 1 rfl) ?_
  refine l_cV (n := 1) (As := [.int a0]) (rest := [.int 0, .ref (B + 265)]) (k := 0) K hP.1 hS hM (by decide) sh_0 rfl q_1067 q_1068 q_1069 q_82 q_1070 hv_X10_reason ⟨Nat.succ_le_succ hfr, Nat.add_le_add_left hlo _⟩ rfl hl.1 rfl (Nat.le_of_ble_eq_true rfl) dL_reason_4 ⟨Nat.zero_le _, Nat.zero_le _⟩ (fun H locs hP1 hS hq => ?_)
  have hP := hP.kept hP1 hq
  refine lv_topi (fun r er => ?_)
  refine lv_i2l K.1.1 K.1.2.1 dL_reason_7 rfl ?_
  refine l_last K hA hP (S_AB hS) dL_reason_8 (fun H locs hP hS => ?_)
  refine lv_goto (tgt := 15) K.1.1 K.1.2.1 dL_reason_9 (by decide) ?_
  refine lv_iconst (v := 0) K.1.1 K.1.2.1 dL_reason_15 (by decide) ?_
  refine W.widen (k := 1) (n := 6) (by decide) (by decide) ?_
  exact l_ret K hr hlocks hP hS dL_reason_16 rfl (by rw [er])

set_option maxHeartbeats 4000000 in
set_option maxRecDepth 100000 in
theorem L_reason_1 (l : Launch) (G : GG) (B : Nat) (cL : ClassId) (μ : Mm) (x : Int64) (a0 : Int32) {fr lo : Nat} (hfr : fr ≤ 7) (hlo : lo ≤ 110) (hM : XM l yX10_reason (.code yX10_reason cX10_reason 2 (Option.some FieldType.int)) fr lo G B [.ref (B + 0), .int a0] μ IOE) : LM l yL_reason (.codeWith yL_reason cL_reason 4 (Option.some FieldType.int) [(0, 9, 12, 20)]) 8 131 1 6 G B cL [.ref (B + 0), .int a0, .ref (B + 265)] μ x 1 μ x := by
  refine LM.of (by decide) (Nat.le_of_ble_eq_true rfl) ?_
  intro p e s m below meth c ls K hD hA htab hr hlocks hP hl
  have hS : va_S (AA B) s.heap s.heap [] := va_S.rf
  have hl : lv_has ls 4 [(0, .ref (B + 0)), (1, .int a0), (2, .ref (B + 265))] := hl
  refine lv_aload_n K.1.1 K.1.2.1 dL_reason_0 rfl (lv_at hl 2 rfl) ?_
  refine lv_iconst (v := 0) K.1.1 K.1.2.1 dL_reason_1 (by decide) ?_
  refine lv_aload_n K.1.1 K.1.2.1 dL_reason_2 rfl (lv_at hl 0 rfl) ?_
  refine lv_iload_n K.1.1 K.1.2.1 dL_reason_3 rfl (lv_at hl 1 rfl) ?_
  refine l_cX (n := 1) (As := [.int a0]) (rest := [.int 0, .ref (B + 265)]) (k := 0) K hP.1 hS hD hM (by decide) sh_0 rfl q_1067 q_1068 q_1069 q_82 q_1070 hv_X10_reason ⟨Nat.succ_le_succ hfr, Nat.add_le_add_left hlo _⟩ rfl hl.1 rfl (Nat.le_of_ble_eq_true rfl) dL_reason_4 ⟨Nat.le_of_ble_eq_true rfl, Nat.le_of_ble_eq_true rfl⟩ (fun ce q9 H locs hP1 hS hq h1 h2 h3 => ?_)
  have hP := hP.kept hP1 hq
  refine vx_catch (own := RL) (name := IOE) (E := IOE) K.1.2.2.2.1 [] ⟨0, 9, 12, 20⟩ [] htab (fun z hz => by cases hz) (by decide) (by decide) (K.w q_937) (va_Nw.use rfl K.2.2.1.2.2.2.1.1) h1 h2 h3 ?_
  refine lv_astore_n (lv' := [(3, .ref q9), (0, .ref (B + 0)), (1, .int a0), (2, .ref (B + 265))]) K.1.1 K.1.2.1 dL_reason_12 rfl hl (by decide) rfl (fun ls hl => ?_)
  refine lv_iconst (v := 1) K.1.1 K.1.2.1 dL_reason_13 (by decide) ?_
  exact l_ret K hr hlocks hP (S_AB hS) dL_reason_14 rfl rfl

set_option maxHeartbeats 4000000 in
set_option maxRecDepth 100000 in
theorem L_gainWith_ok (l : Launch) (G : GG) (B : Nat) (cL : ClassId) (μ : Mm) (x : Int64) (a0 : Int32) (a1 : Int32) {fr lo : Nat} (hfr : fr ≤ 7) (hlo : lo ≤ 110) {v : Int32} {μ' : Mm} (hM : CM l yX10_gainWith (.code yX10_gainWith cX10_gainWith 3 (Option.some FieldType.int)) fr lo G B [.ref (B + 0), .int a0, .int a1] μ (some (.int v)) μ') : LM l yL_gainWith (.codeWith yL_gainWith cL_gainWith 5 (Option.some FieldType.int) [(0, 10, 13, 20), (0, 10, 17, 13)]) 8 132 1 6 G B cL [.ref (B + 0), .int a0, .int a1, .ref (B + 265)] μ x 0 μ' (v.toInt64) := by
  refine LM.of (by decide) (Nat.le_of_ble_eq_true rfl) ?_
  intro p e s m below meth c ls K hD hA htab hr hlocks hP hl
  have hS : va_S (AA B) s.heap s.heap [] := va_S.rf
  have hl : lv_has ls 5 [(0, .ref (B + 0)), (1, .int a0), (2, .int a1), (3, .ref (B + 265))] := hl
  refine lv_aload_n K.1.1 K.1.2.1 dL_gainWith_0 rfl (lv_at hl 3 rfl) ?_
  refine lv_iconst (v := 0) K.1.1 K.1.2.1 dL_gainWith_1 (by decide) ?_
  refine lv_aload_n K.1.1 K.1.2.1 dL_gainWith_2 rfl (lv_at hl 0 rfl) ?_
  refine lv_iload_n K.1.1 K.1.2.1 dL_gainWith_3 rfl (lv_at hl 1 rfl) ?_
  refine lv_iload_n K.1.1 K.1.2.1 dL_gainWith_4 rfl (lv_at hl 2 rfl) ?_
  refine l_cV (n := 2) (As := [.int a0, .int a1]) (rest := [.int 0, .ref (B + 265)]) (k := 0) K hP.1 hS hM (by decide) sh_0 rfl q_1079 q_1080 q_1081 q_82 q_1082 hv_X10_gainWith ⟨Nat.succ_le_succ hfr, Nat.add_le_add_left hlo _⟩ rfl hl.1 rfl (Nat.le_of_ble_eq_true rfl) dL_gainWith_5 ⟨Nat.zero_le _, Nat.zero_le _⟩ (fun H locs hP1 hS hq => ?_)
  have hP := hP.kept hP1 hq
  refine lv_topi (fun r er => ?_)
  refine lv_i2l K.1.1 K.1.2.1 dL_gainWith_8 rfl ?_
  refine l_last K hA hP (S_AB hS) dL_gainWith_9 (fun H locs hP hS => ?_)
  refine lv_goto (tgt := 21) K.1.1 K.1.2.1 dL_gainWith_10 (by decide) ?_
  refine lv_iconst (v := 0) K.1.1 K.1.2.1 dL_gainWith_21 (by decide) ?_
  refine W.widen (k := 1) (n := 6) (by decide) (by decide) ?_
  exact l_ret K hr hlocks hP hS dL_gainWith_22 rfl (by rw [er])

