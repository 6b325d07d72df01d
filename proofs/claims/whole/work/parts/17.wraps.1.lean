set_option maxHeartbeats 4000000 in
set_option maxRecDepth 100000 in
theorem L_addTrader_ok (l : Launch) (G : GG) (B : Nat) (cL : ClassId) (μ : Mm) (x : Int64) (a0 : Int32) (a1 : Int32) {fr lo : Nat} (hfr : fr ≤ 7) (hlo : lo ≤ 110) {v : Int32} {μ' : Mm} (hM : CM l yX10_addTrader (.code yX10_addTrader cX10_addTrader 3 (Option.some FieldType.int)) fr lo G B [.ref (B + 0), .int a0, .int a1] μ (some (.int v)) μ') : LM l yL_addTrader (.codeWith yL_addTrader cL_addTrader 5 (Option.some FieldType.int) [(0, 10, 13, 13), (0, 10, 17, 15)]) 8 132 1 6 G B cL [.ref (B + 0), .int a0, .int a1, .ref (B + 265)] μ x 0 μ' (v.toInt64) := by
  refine LM.of (by decide) (Nat.le_of_ble_eq_true rfl) ?_
  intro p e s m below meth c ls K hD hA htab hr hlocks hP hl
  have hS : va_S (AA B) s.heap s.heap [] := va_S.rf
  have hl : lv_has ls 5 [(0, .ref (B + 0)), (1, .int a0), (2, .int a1), (3, .ref (B + 265))] := hl
  refine lv_aload_n K.1.1 K.1.2.1 dL_addTrader_0 rfl (lv_at hl 3 rfl) ?_
  refine lv_iconst (v := 0) K.1.1 K.1.2.1 dL_addTrader_1 (by decide) ?_
  refine lv_aload_n K.1.1 K.1.2.1 dL_addTrader_2 rfl (lv_at hl 0 rfl) ?_
  refine lv_iload_n K.1.1 K.1.2.1 dL_addTrader_3 rfl (lv_at hl 1 rfl) ?_
  refine lv_iload_n K.1.1 K.1.2.1 dL_addTrader_4 rfl (lv_at hl 2 rfl) ?_
  refine l_cV (n := 2) (As := [.int a0, .int a1]) (rest := [.int 0, .ref (B + 265)]) (k := 0) K hP.1 hS hM (by decide) sh_0 rfl q_827 q_828 q_829 q_82 q_830 hv_X10_addTrader ⟨Nat.succ_le_succ hfr, Nat.add_le_add_left hlo _⟩ rfl hl.1 rfl (Nat.le_of_ble_eq_true rfl) dL_addTrader_5 ⟨Nat.zero_le _, Nat.zero_le _⟩ (fun H locs hP1 hS hq => ?_)
  have hP := hP.kept hP1 hq
  refine lv_topi (fun r er => ?_)
  refine lv_i2l K.1.1 K.1.2.1 dL_addTrader_8 rfl ?_
  refine l_last K hA hP (S_AB hS) dL_addTrader_9 (fun H locs hP hS => ?_)
  refine lv_goto (tgt := 21) K.1.1 K.1.2.1 dL_addTrader_10 (by decide) ?_
  refine lv_iconst (v := 0) K.1.1 K.1.2.1 dL_addTrader_21 (by decide) ?_
  refine W.widen (k := 1) (n := 6) (by decide) (by decide) ?_
  exact l_ret K hr hlocks hP hS dL_addTrader_22 rfl (by rw [er])

set_option maxHeartbeats 4000000 in
set_option maxRecDepth 100000 in
theorem L_addTrader_1 (l : Launch) (G : GG) (B : Nat) (cL : ClassId) (μ : Mm) (x : Int64) (a0 : Int32) (a1 : Int32) {fr lo : Nat} (hfr : fr ≤ 7) (hlo : lo ≤ 110) (hM : XM l yX10_addTrader (.code yX10_addTrader cX10_addTrader 3 (Option.some FieldType.int)) fr lo G B [.ref (B + 0), .int a0, .int a1] μ IAE) : LM l yL_addTrader (.codeWith yL_addTrader cL_addTrader 5 (Option.some FieldType.int) [(0, 10, 13, 13), (0, 10, 17, 15)]) 8 132 1 6 G B cL [.ref (B + 0), .int a0, .int a1, .ref (B + 265)] μ x 1 μ x := by
  refine LM.of (by decide) (Nat.le_of_ble_eq_true rfl) ?_
  intro p e s m below meth c ls K hD hA htab hr hlocks hP hl
  have hS : va_S (AA B) s.heap s.heap [] := va_S.rf
  have hl : lv_has ls 5 [(0, .ref (B + 0)), (1, .int a0), (2, .int a1), (3, .ref (B + 265))] := hl
  refine lv_aload_n K.1.1 K.1.2.1 dL_addTrader_0 rfl (lv_at hl 3 rfl) ?_
  refine lv_iconst (v := 0) K.1.1 K.1.2.1 dL_addTrader_1 (by decide) ?_
  refine lv_aload_n K.1.1 K.1.2.1 dL_addTrader_2 rfl (lv_at hl 0 rfl) ?_
  refine lv_iload_n K.1.1 K.1.2.1 dL_addTrader_3 rfl (lv_at hl 1 rfl) ?_
  refine lv_iload_n K.1.1 K.1.2.1 dL_addTrader_4 rfl (lv_at hl 2 rfl) ?_
  refine l_cX (n := 2) (As := [.int a0, .int a1]) (rest := [.int 0, .ref (B + 265)]) (k := 0) K hP.1 hS hD hM (by decide) sh_0 rfl q_827 q_828 q_829 q_82 q_830 hv_X10_addTrader ⟨Nat.succ_le_succ hfr, Nat.add_le_add_left hlo _⟩ rfl hl.1 rfl (Nat.le_of_ble_eq_true rfl) dL_addTrader_5 ⟨Nat.le_of_ble_eq_true rfl, Nat.le_of_ble_eq_true rfl⟩ (fun ce q9 H locs hP1 hS hq h1 h2 h3 => ?_)
  have hP := hP.kept hP1 hq
  refine vx_catch (own := RL) (name := IAE) (E := IAE) K.1.2.2.2.1 [] ⟨0, 10, 13, 13⟩ [⟨0, 10, 17, 15⟩] htab (fun z hz => by cases hz) (by decide) (by decide) (K.w q_825) (va_Nw.use rfl K.2.2.1.2.2.2.1.2.1) h1 h2 h3 ?_
  refine lv_astore (lv' := [(4, .ref q9), (0, .ref (B + 0)), (1, .int a0), (2, .int a1), (3, .ref (B + 265))]) K.1.1 K.1.2.1 dL_addTrader_13 hl (by decide) rfl (fun ls hl => ?_)
  refine lv_iconst (v := 1) K.1.1 K.1.2.1 dL_addTrader_15 (by decide) ?_
  exact l_ret K hr hlocks hP (S_AB hS) dL_addTrader_16 rfl rfl

set_option maxHeartbeats 4000000 in
set_option maxRecDepth 100000 in
theorem L_addTrader_2 (l : Launch) (G : GG) (B : Nat) (cL : ClassId) (μ : Mm) (x : Int64) (a0 : Int32) (a1 : Int32) {fr lo : Nat} (hfr : fr ≤ 7) (hlo : lo ≤ 110) (hM : XM l yX10_addTrader (.code yX10_addTrader cX10_addTrader 3 (Option.some FieldType.int)) fr lo G B [.ref (B + 0), .int a0, .int a1] μ ISE) : LM l yL_addTrader (.codeWith yL_addTrader cL_addTrader 5 (Option.some FieldType.int) [(0, 10, 13, 13), (0, 10, 17, 15)]) 8 132 1 6 G B cL [.ref (B + 0), .int a0, .int a1, .ref (B + 265)] μ x 2 μ x := by
  refine LM.of (by decide) (Nat.le_of_ble_eq_true rfl) ?_
  intro p e s m below meth c ls K hD hA htab hr hlocks hP hl
  have hS : va_S (AA B) s.heap s.heap [] := va_S.rf
  have hl : lv_has ls 5 [(0, .ref (B + 0)), (1, .int a0), (2, .int a1), (3, .ref (B + 265))] := hl
  refine lv_aload_n K.1.1 K.1.2.1 dL_addTrader_0 rfl (lv_at hl 3 rfl) ?_
  refine lv_iconst (v := 0) K.1.1 K.1.2.1 dL_addTrader_1 (by decide) ?_
  refine lv_aload_n K.1.1 K.1.2.1 dL_addTrader_2 rfl (lv_at hl 0 rfl) ?_
  refine lv_iload_n K.1.1 K.1.2.1 dL_addTrader_3 rfl (lv_at hl 1 rfl) ?_
  refine lv_iload_n K.1.1 K.1.2.1 dL_addTrader_4 rfl (lv_at hl 2 rfl) ?_
  refine l_cX (n := 2) (As := [.int a0, .int a1]) (rest := [.int 0, .ref (B + 265)]) (k := 0) K hP.1 hS hD hM (by decide) sh_0 rfl q_827 q_828 q_829 q_82 q_830 hv_X10_addTrader ⟨Nat.succ_le_succ hfr, Nat.add_le_add_left hlo _⟩ rfl hl.1 rfl (Nat.le_of_ble_eq_true rfl) dL_addTrader_5 ⟨Nat.le_of_ble_eq_true rfl, Nat.le_of_ble_eq_true rfl⟩ (fun ce q9 H locs hP1 hS hq h1 h2 h3 => ?_)
  have hP := hP.kept hP1 hq
  refine vx_catch (own := RL) (name := ISE) (E := ISE) K.1.2.2.2.1 [⟨0, 10, 13, 13⟩] ⟨0, 10, 17, 15⟩ [] htab (fun z hz => by
    simp only [List.mem_cons, List.not_mem_nil, or_false] at hz
    rcases hz with rfl
    · exact Or.inr ⟨by decide, IAE, K.w q_825, K.2.2.1.2.2.2.2.1.2.2.2.2.2⟩) (by decide) (by decide) (K.w q_826) (va_Nw.use rfl K.2.2.1.2.2.2.1.2.2) h1 h2 h3 ?_
  refine lv_astore (lv' := [(4, .ref q9), (0, .ref (B + 0)), (1, .int a0), (2, .int a1), (3, .ref (B + 265))]) K.1.1 K.1.2.1 dL_addTrader_17 hl (by decide) rfl (fun ls hl => ?_)
  refine lv_iconst (v := 2) K.1.1 K.1.2.1 dL_addTrader_19 (by decide) ?_
  exact l_ret K hr hlocks hP (S_AB hS) dL_addTrader_20 rfl rfl

set_option maxHeartbeats 4000000 in
set_option maxRecDepth 100000 in
theorem L_setValue_ok (l : Launch) (G : GG) (B : Nat) (cL : ClassId) (μ : Mm) (x : Int64) (a0 : Int32) (a1 : Int32) {fr lo : Nat} (hfr : fr ≤ 7) (hlo : lo ≤ 110) {v : Int32} {μ' : Mm} (hM : CM l yX10_setValue (.code yX10_setValue cX10_setValue 4 (Option.some FieldType.int)) fr lo G B [.ref (B + 0), .int a0, .int a1] μ (some (.int v)) μ') : LM l yL_setValue (.codeWith yL_setValue cL_setValue 5 (Option.some FieldType.int) [(0, 10, 13, 20), (0, 10, 17, 13)]) 8 133 1 6 G B cL [.ref (B + 0), .int a0, .int a1, .ref (B + 265)] μ x 0 μ' (v.toInt64) := by
  refine LM.of (by decide) (Nat.le_of_ble_eq_true rfl) ?_
  intro p e s m below meth c ls K hD hA htab hr hlocks hP hl
  have hS : va_S (AA B) s.heap s.heap [] := va_S.rf
  have hl : lv_has ls 5 [(0, .ref (B + 0)), (1, .int a0), (2, .int a1), (3, .ref (B + 265))] := hl
  refine lv_aload_n K.1.1 K.1.2.1 dL_setValue_0 rfl (lv_at hl 3 rfl) ?_
  refine lv_iconst (v := 0) K.1.1 K.1.2.1 dL_setValue_1 (by decide) ?_
  refine lv_aload_n K.1.1 K.1.2.1 dL_setValue_2 rfl (lv_at hl 0 rfl) ?_
  refine lv_iload_n K.1.1 K.1.2.1 dL_setValue_3 rfl (lv_at hl 1 rfl) ?_
  refine lv_iload_n K.1.1 K.1.2.1 dL_setValue_4 rfl (lv_at hl 2 rfl) ?_
  refine l_cV (n := 2) (As := [.int a0, .int a1]) (rest := [.int 0, .ref (B + 265)]) (k := 0) K hP.1 hS hM (by decide) sh_0 rfl q_938 q_939 q_940 q_82 q_941 hv_X10_setValue ⟨Nat.succ_le_succ hfr, Nat.add_le_add_left hlo _⟩ rfl hl.1 rfl (Nat.le_of_ble_eq_true rfl) dL_setValue_5 ⟨Nat.zero_le _, Nat.zero_le _⟩ (fun H locs hP1 hS hq => ?_)
  have hP := hP.kept hP1 hq
  refine lv_topi (fun r er => ?_)
  refine lv_i2l K.1.1 K.1.2.1 dL_setValue_8 rfl ?_
  refine l_last K hA hP (S_AB hS) dL_setValue_9 (fun H locs hP hS => ?_)
  refine lv_goto (tgt := 21) K.1.1 K.1.2.1 dL_setValue_10 (by decide) ?_
  refine lv_iconst (v := 0) K.1.1 K.1.2.1 dL_setValue_21 (by decide) ?_
  refine W.widen (k := 1) (n := 6) (by decide) (by decide) ?_
  exact l_ret K hr hlocks hP hS dL_setValue_22 rfl (by rw [er])

set_option maxHeartbeats 4000000 in
set_option maxRecDepth 100000 in
theorem L_setValue_1 (l : Launch) (G : GG) (B : Nat) (cL : ClassId) (μ : Mm) (x : Int64) (a0 : Int32) (a1 : Int32) {fr lo : Nat} (hfr : fr ≤ 7) (hlo : lo ≤ 110) (hM : XM l yX10_setValue (.code yX10_setValue cX10_setValue 4 (Option.some FieldType.int)) fr lo G B [.ref (B + 0), .int a0, .int a1] μ IOE) : LM l yL_setValue (.codeWith yL_setValue cL_setValue 5 (Option.some FieldType.int) [(0, 10, 13, 20), (0, 10, 17, 13)]) 8 133 1 6 G B cL [.ref (B + 0), .int a0, .int a1, .ref (B + 265)] μ x 1 μ x := by
  refine LM.of (by decide) (Nat.le_of_ble_eq_true rfl) ?_
  intro p e s m below meth c ls K hD hA htab hr hlocks hP hl
  have hS : va_S (AA B) s.heap s.heap [] := va_S.rf
  have hl : lv_has ls 5 [(0, .ref (B + 0)), (1, .int a0), (2, .int a1), (3, .ref (B + 265))] := hl
  refine lv_aload_n K.1.1 K.1.2.1 dL_setValue_0 rfl (lv_at hl 3 rfl) ?_
  refine lv_iconst (v := 0) K.1.1 K.1.2.1 dL_setValue_1 (by decide) ?_
  refine lv_aload_n K.1.1 K.1.2.1 dL_setValue_2 rfl (lv_at hl 0 rfl) ?_
  refine lv_iload_n K.1.1 K.1.2.1 dL_setValue_3 rfl (lv_at hl 1 rfl) ?_
  refine lv_iload_n K.1.1 K.1.2.1 dL_setValue_4 rfl (lv_at hl 2 rfl) ?_
  refine l_cX (n := 2) (As := [.int a0, .int a1]) (rest := [.int 0, .ref (B + 265)]) (k := 0) K hP.1 hS hD hM (by decide) sh_0 rfl q_938 q_939 q_940 q_82 q_941 hv_X10_setValue ⟨Nat.succ_le_succ hfr, Nat.add_le_add_left hlo _⟩ rfl hl.1 rfl (Nat.le_of_ble_eq_true rfl) dL_setValue_5 ⟨Nat.le_of_ble_eq_true rfl, Nat.le_of_ble_eq_true rfl⟩ (fun ce q9 H locs hP1 hS hq h1 h2 h3 => ?_)
  have hP := hP.kept hP1 hq
  refine vx_catch (own := RL) (name := IOE) (E := IOE) K.1.2.2.2.1 [] ⟨0, 10, 13, 20⟩ [⟨0, 10, 17, 13⟩] htab (fun z hz => by cases hz) (by decide) (by decide) (K.w q_937) (va_Nw.use rfl K.2.2.1.2.2.2.1.1) h1 h2 h3 ?_
  refine lv_astore (lv' := [(4, .ref q9), (0, .ref (B + 0)), (1, .int a0), (2, .int a1), (3, .ref (B + 265))]) K.1.1 K.1.2.1 dL_setValue_13 hl (by decide) rfl (fun ls hl => ?_)
  refine lv_iconst (v := 1) K.1.1 K.1.2.1 dL_setValue_15 (by decide) ?_
  exact l_ret K hr hlocks hP (S_AB hS) dL_setValue_16 rfl rfl

set_option maxHeartbeats 4000000 in
set_option maxRecDepth 100000 in
theorem L_setValue_2 (l : Launch) (G : GG) (B : Nat) (cL : ClassId) (μ : Mm) (x : Int64) (a0 : Int32) (a1 : Int32) {fr lo : Nat} (hfr : fr ≤ 7) (hlo : lo ≤ 110) (hM : XM l yX10_setValue (.code yX10_setValue cX10_setValue 4 (Option.some FieldType.int)) fr lo G B [.ref (B + 0), .int a0, .int a1] μ IAE) : LM l yL_setValue (.codeWith yL_setValue cL_setValue 5 (Option.some FieldType.int) [(0, 10, 13, 20), (0, 10, 17, 13)]) 8 133 1 6 G B cL [.ref (B + 0), .int a0, .int a1, .ref (B + 265)] μ x 2 μ x := by
  refine LM.of (by decide) (Nat.le_of_ble_eq_true rfl) ?_
  intro p e s m below meth c ls K hD hA htab hr hlocks hP hl
  have hS : va_S (AA B) s.heap s.heap [] := va_S.rf
  have hl : lv_has ls 5 [(0, .ref (B + 0)), (1, .int a0), (2, .int a1), (3, .ref (B + 265))] := hl
  refine lv_aload_n K.1.1 K.1.2.1 dL_setValue_0 rfl (lv_at hl 3 rfl) ?_
  refine lv_iconst (v := 0) K.1.1 K.1.2.1 dL_setValue_1 (by decide) ?_
  refine lv_aload_n K.1.1 K.1.2.1 dL_setValue_2 rfl (lv_at hl 0 rfl) ?_
  refine lv_iload_n K.1.1 K.1.2.1 dL_setValue_3 rfl (lv_at hl 1 rfl) ?_
  refine lv_iload_n K.1.1 K.1.2.1 dL_setValue_4 rfl (lv_at hl 2 rfl) ?_
  refine l_cX (n := 2) (As := [.int a0, .int a1]) (rest := [.int 0, .ref (B + 265)]) (k := 0) K hP.1 hS hD hM (by decide) sh_0 rfl q_938 q_939 q_940 q_82 q_941 hv_X10_setValue ⟨Nat.succ_le_succ hfr, Nat.add_le_add_left hlo _⟩ rfl hl.1 rfl (Nat.le_of_ble_eq_true rfl) dL_setValue_5 ⟨Nat.le_of_ble_eq_true rfl, Nat.le_of_ble_eq_true rfl⟩ (fun ce q9 H locs hP1 hS hq h1 h2 h3 => ?_)
  have hP := hP.kept hP1 hq
  refine vx_catch (own := RL) (name := IAE) (E := IAE) K.1.2.2.2.1 [⟨0, 10, 13, 20⟩] ⟨0, 10, 17, 13⟩ [] htab (fun z hz => by
    simp only [List.mem_cons, List.not_mem_nil, or_false] at hz
    rcases hz with rfl
    · exact Or.inr ⟨by decide, IOE, K.w q_937, K.2.2.1.2.2.2.2.1.2.2.1⟩) (by decide) (by decide) (K.w q_825) (va_Nw.use rfl K.2.2.1.2.2.2.1.2.1) h1 h2 h3 ?_
  refine lv_astore (lv' := [(4, .ref q9), (0, .ref (B + 0)), (1, .int a0), (2, .int a1), (3, .ref (B + 265))]) K.1.1 K.1.2.1 dL_setValue_17 hl (by decide) rfl (fun ls hl => ?_)
  refine lv_iconst (v := 2) K.1.1 K.1.2.1 dL_setValue_19 (by decide) ?_
  exact l_ret K hr hlocks hP (S_AB hS) dL_setValue_20 rfl rfl

set_option maxHeartbeats 4000000 in
set_option maxRecDepth 100000 in
theorem L_setShade_ok (l : Launch) (G : GG) (B : Nat) (cL : ClassId) (μ : Mm) (x : Int64) (a0 : Int32) (a1 : Int32) (a2 : Int32) {fr lo : Nat} (hfr : fr ≤ 7) (hlo : lo ≤ 110) {v : Int32} {μ' : Mm} (hM : CM l yX10_setShade (.code yX10_setShade cX10_setShade 4 (Option.some FieldType.int)) fr lo G B [.ref (B + 0), .int a0, .int a1, .int a2] μ (some (.int v)) μ') : LM l yL_setShade (.codeWith yL_setShade cL_setShade 6 (Option.some FieldType.int) [(0, 12, 15, 20), (0, 12, 19, 13)]) 8 133 1 6 G B cL [.ref (B + 0), .int a0, .int a1, .int a2, .ref (B + 265)] μ x 0 μ' (v.toInt64) := by
  refine LM.of (by decide) (Nat.le_of_ble_eq_true rfl) ?_
  intro p e s m below meth c ls K hD hA htab hr hlocks hP hl
  have hS : va_S (AA B) s.heap s.heap [] := va_S.rf
  have hl : lv_has ls 6 [(0, .ref (B + 0)), (1, .int a0), (2, .int a1), (3, .int a2), (4, .ref (B + 265))] := hl
  refine lv_aload K.1.1 K.1.2.1 dL_setShade_0 (lv_at hl 4 rfl) ?_
  refine lv_iconst (v := 0) K.1.1 K.1.2.1 dL_setShade_2 (by decide) ?_
  refine lv_aload_n K.1.1 K.1.2.1 dL_setShade_3 rfl (lv_at hl 0 rfl) ?_
  refine lv_iload_n K.1.1 K.1.2.1 dL_setShade_4 rfl (lv_at hl 1 rfl) ?_
  refine lv_iload_n K.1.1 K.1.2.1 dL_setShade_5 rfl (lv_at hl 2 rfl) ?_
  refine lv_iload_n K.1.1 K.1.2.1 dL_setShade_6 rfl (lv_at hl 3 rfl) ?_
  refine l_cV (n := 3) (As := [.int a0, .int a1, .int a2]) (rest := [.int 0, .ref (B + 265)]) (k := 0) K hP.1 hS hM (by decide) sh_0 rfl q_950 q_951 q_952 q_82 q_953 hv_X10_setShade ⟨Nat.succ_le_succ hfr, Nat.add_le_add_left hlo _⟩ rfl hl.1 rfl (Nat.le_of_ble_eq_true rfl) dL_setShade_7 ⟨Nat.zero_le _, Nat.zero_le _⟩ (fun H locs hP1 hS hq => ?_)
  have hP := hP.kept hP1 hq
  refine lv_topi (fun r er => ?_)
  refine lv_i2l K.1.1 K.1.2.1 dL_setShade_10 rfl ?_
  refine l_last K hA hP (S_AB hS) dL_setShade_11 (fun H locs hP hS => ?_)
  refine lv_goto (tgt := 23) K.1.1 K.1.2.1 dL_setShade_12 (by decide) ?_
  refine lv_iconst (v := 0) K.1.1 K.1.2.1 dL_setShade_23 (by decide) ?_
  refine W.widen (k := 1) (n := 6) (by decide) (by decide) ?_
  exact l_ret K hr hlocks hP hS dL_setShade_24 rfl (by rw [er])

set_option maxHeartbeats 4000000 in
set_option maxRecDepth 100000 in
theorem L_setShade_1 (l : Launch) (G : GG) (B : Nat) (cL : ClassId) (μ : Mm) (x : Int64) (a0 : Int32) (a1 : Int32) (a2 : Int32) {fr lo : Nat} (hfr : fr ≤ 7) (hlo : lo ≤ 110) (hM : XM l yX10_setShade (.code yX10_setShade cX10_setShade 4 (Option.some FieldType.int)) fr lo G B [.ref (B + 0), .int a0, .int a1, .int a2] μ IOE) : LM l yL_setShade (.codeWith yL_setShade cL_setShade 6 (Option.some FieldType.int) [(0, 12, 15, 20), (0, 12, 19, 13)]) 8 133 1 6 G B cL [.ref (B + 0), .int a0, .int a1, .int a2, .ref (B + 265)] μ x 1 μ x := by
  refine LM.of (by decide) (Nat.le_of_ble_eq_true rfl) ?_
  intro p e s m below meth c ls K hD hA htab hr hlocks hP hl
  have hS : va_S (AA B) s.heap s.heap [] := va_S.rf
  have hl : lv_has ls 6 [(0, .ref (B + 0)), (1, .int a0), (2, .int a1), (3, .int a2), (4, .ref (B + 265))] := hl
  refine lv_aload K.1.1 K.1.2.1 dL_setShade_0 (lv_at hl 4 rfl) ?_
  refine lv_iconst (v := 0) K.1.1 K.1.2.1 dL_setShade_2 (by decide) ?_
  refine lv_aload_n K.1.1 K.1.2.1 dL_setShade_3 rfl (lv_at hl 0 rfl) ?_
  refine lv_iload_n K.1.1 K.1.2.1 dL_setShade_4 rfl (lv_at hl 1 rfl) ?_
  refine lv_iload_n K.1.1 K.1.2.1 dL_setShade_5 rfl (lv_at hl 2 rfl) ?_
  refine lv_iload_n K.1.1 K.1.2.1 dL_setShade_6 rfl (lv_at hl 3 rfl) ?_
  refine l_cX (n := 3) (As := [.int a0, .int a1, .int a2]) (rest := [.int 0, .ref (B + 265)]) (k := 0) K hP.1 hS hD hM (by decide) sh_0 rfl q_950 q_951 q_952 q_82 q_953 hv_X10_setShade ⟨Nat.succ_le_succ hfr, Nat.add_le_add_left hlo _⟩ rfl hl.1 rfl (Nat.le_of_ble_eq_true rfl) dL_setShade_7 ⟨Nat.le_of_ble_eq_true rfl, Nat.le_of_ble_eq_true rfl⟩ (fun ce q9 H locs hP1 hS hq h1 h2 h3 => ?_)
  have hP := hP.kept hP1 hq
  refine vx_catch (own := RL) (name := IOE) (E := IOE) K.1.2.2.2.1 [] ⟨0, 12, 15, 20⟩ [⟨0, 12, 19, 13⟩] htab (fun z hz => by cases hz) (by decide) (by decide) (K.w q_937) (va_Nw.use rfl K.2.2.1.2.2.2.1.1) h1 h2 h3 ?_
  refine lv_astore (lv' := [(5, .ref q9), (0, .ref (B + 0)), (1, .int a0), (2, .int a1), (3, .int a2), (4, .ref (B + 265))]) K.1.1 K.1.2.1 dL_setShade_15 hl (by decide) rfl (fun ls hl => ?_)
  refine lv_iconst (v := 1) K.1.1 K.1.2.1 dL_setShade_17 (by decide) ?_
  exact l_ret K hr hlocks hP (S_AB hS) dL_setShade_18 rfl rfl

set_option maxHeartbeats 4000000 in
set_option maxRecDepth 100000 in
theorem L_setShade_2 (l : Launch) (G : GG) (B : Nat) (cL : ClassId) (μ : Mm) (x : Int64) (a0 : Int32) (a1 : Int32) (a2 : Int32) {fr lo : Nat} (hfr : fr ≤ 7) (hlo : lo ≤ 110) (hM : XM l yX10_setShade (.code yX10_setShade cX10_setShade 4 (Option.some FieldType.int)) fr lo G B [.ref (B + 0), .int a0, .int a1, .int a2] μ IAE) : LM l yL_setShade (.codeWith yL_setShade cL_setShade 6 (Option.some FieldType.int) [(0, 12, 15, 20), (0, 12, 19, 13)]) 8 133 1 6 G B cL [.ref (B + 0), .int a0, .int a1, .int a2, .ref (B + 265)] μ x 2 μ x := by
  refine LM.of (by decide) (Nat.le_of_ble_eq_true rfl) ?_
  intro p e s m below meth c ls K hD hA htab hr hlocks hP hl
  have hS : va_S (AA B) s.heap s.heap [] := va_S.rf
  have hl : lv_has ls 6 [(0, .ref (B + 0)), (1, .int a0), (2, .int a1), (3, .int a2), (4, .ref (B + 265))] := hl
  refine lv_aload K.1.1 K.1.2.1 dL_setShade_0 (lv_at hl 4 rfl) ?_
  refine lv_iconst (v := 0) K.1.1 K.1.2.1 dL_setShade_2 (by decide) ?_
  refine lv_aload_n K.1.1 K.1.2.1 dL_setShade_3 rfl (lv_at hl 0 rfl) ?_
  refine lv_iload_n K.1.1 K.1.2.1 dL_setShade_4 rfl (lv_at hl 1 rfl) ?_
  refine lv_iload_n K.1.1 K.1.2.1 dL_setShade_5 rfl (lv_at hl 2 rfl) ?_
  refine lv_iload_n K.1.1 K.1.2.1 dL_setShade_6 rfl (lv_at hl 3 rfl) ?_
  refine l_cX (n := 3) (As := [.int a0, .int a1, .int a2]) (rest := [.int 0, .ref (B + 265)]) (k := 0) K hP.1 hS hD hM (by decide) sh_0 rfl q_950 q_951 q_952 q_82 q_953 hv_X10_setShade ⟨Nat.succ_le_succ hfr, Nat.add_le_add_left hlo _⟩ rfl hl.1 rfl (Nat.le_of_ble_eq_true rfl) dL_setShade_7 ⟨Nat.le_of_ble_eq_true rfl, Nat.le_of_ble_eq_true rfl⟩ (fun ce q9 H locs hP1 hS hq h1 h2 h3 => ?_)
  have hP := hP.kept hP1 hq
  refine vx_catch (own := RL) (name := IAE) (E := IAE) K.1.2.2.2.1 [⟨0, 12, 15, 20⟩] ⟨0, 12, 19, 13⟩ [] htab (fun z hz => by
    simp only [List.mem_cons, List.not_mem_nil, or_false] at hz
    rcases hz with rfl
    · exact Or.inr ⟨by decide, IOE, K.w q_937, K.2.2.1.2.2.2.2.1.2.2.1⟩) (by decide) (by decide) (K.w q_825) (va_Nw.use rfl K.2.2.1.2.2.2.1.2.1) h1 h2 h3 ?_
  refine lv_astore (lv' := [(5, .ref q9), (0, .ref (B + 0)), (1, .int a0), (2, .int a1), (3, .int a2), (4, .ref (B + 265))]) K.1.1 K.1.2.1 dL_setShade_19 hl (by decide) rfl (fun ls hl => ?_)
  refine lv_iconst (v := 2) K.1.1 K.1.2.1 dL_setShade_21 (by decide) ?_
  exact l_ret K hr hlocks hP (S_AB hS) dL_setShade_22 rfl rfl

set_option maxHeartbeats 4000000 in
set_option maxRecDepth 100000 in
theorem L_set_ok (l : Launch) (G : GG) (B : Nat) (cL : ClassId) (μ : Mm) (x : Int64) (a0 : Int32) (a1 : Int32) {fr lo : Nat} (hfr : fr ≤ 7) (hlo : lo ≤ 110) {v : Int32} {μ' : Mm} (hM : CM l yX10_set (.code yX10_set cX10_set 3 (Option.some FieldType.int)) fr lo G B [.ref (B + 0), .int a0, .int a1] μ (some (.int v)) μ') : LM l yL_set (.codeWith yL_set cL_set 5 (Option.some FieldType.int) [(0, 10, 13, 13)]) 8 132 1 6 G B cL [.ref (B + 0), .int a0, .int a1, .ref (B + 265)] μ x 0 μ' (v.toInt64) := by
  refine LM.of (by decide) (Nat.le_of_ble_eq_true rfl) ?_
  intro p e s m below meth c ls K hD hA htab hr hlocks hP hl
  have hS : va_S (AA B) s.heap s.heap [] := va_S.rf
  have hl : lv_has ls 5 [(0, .ref (B + 0)), (1, .int a0), (2, .int a1), (3, .ref (B + 265))] := hl
  refine lv_aload_n K.1.1 K.1.2.1 dL_set_0 rfl (lv_at hl 3 rfl) ?_
  refine lv_iconst (v := 0) K.1.1 K.1.2.1 dL_set_1 (by decide) ?_
  refine lv_aload_n K.1.1 K.1.2.1 dL_set_2 rfl (lv_at hl 0 rfl) ?_
  refine lv_iload_n K.1.1 K.1.2.1 dL_set_3 rfl (lv_at hl 1 rfl) ?_
  refine lv_iload_n K.1.1 K.1.2.1 dL_set_4 rfl (lv_at hl 2 rfl) ?_
  refine l_cV (n := 2) (As := [.int a0, .int a1]) (rest := [.int 0, .ref (B + 265)]) (k := 0) K hP.1 hS hM (by decide) sh_0 rfl q_957 q_958 q_959 q_82 q_960 hv_X10_set ⟨Nat.succ_le_succ hfr, Nat.add_le_add_left hlo _⟩ rfl hl.1 rfl (Nat.le_of_ble_eq_true rfl) dL_set_5 ⟨Nat.zero_le _, Nat.zero_le _⟩ (fun H locs hP1 hS hq => ?_)
  have hP := hP.kept hP1 hq
  refine lv_topi (fun r er => ?_)
  refine lv_i2l K.1.1 K.1.2.1 dL_set_8 rfl ?_
  refine l_last K hA hP (S_AB hS) dL_set_9 (fun H locs hP hS => ?_)
  refine lv_goto (tgt := 17) K.1.1 K.1.2.1 dL_set_10 (by decide) ?_
  refine lv_iconst (v := 0) K.1.1 K.1.2.1 dL_set_17 (by decide) ?_
  refine W.widen (k := 1) (n := 6) (by decide) (by decide) ?_
  exact l_ret K hr hlocks hP hS dL_set_18 rfl (by rw [er])

set_option maxHeartbeats 4000000 in
set_option maxRecDepth 100000 in
theorem L_set_1 (l : Launch) (G : GG) (B : Nat) (cL : ClassId) (μ : Mm) (x : Int64) (a0 : Int32) (a1 : Int32) {fr lo : Nat} (hfr : fr ≤ 7) (hlo : lo ≤ 110) (hM : XM l yX10_set (.code yX10_set cX10_set 3 (Option.some FieldType.int)) fr lo G B [.ref (B + 0), .int a0, .int a1] μ IAE) : LM l yL_set (.codeWith yL_set cL_set 5 (Option.some FieldType.int) [(0, 10, 13, 13)]) 8 132 1 6 G B cL [.ref (B + 0), .int a0, .int a1, .ref (B + 265)] μ x 1 μ x := by
  refine LM.of (by decide) (Nat.le_of_ble_eq_true rfl) ?_
  intro p e s m below meth c ls K hD hA htab hr hlocks hP hl
  have hS : va_S (AA B) s.heap s.heap [] := va_S.rf
  have hl : lv_has ls 5 [(0, .ref (B + 0)), (1, .int a0), (2, .int a1), (3, .ref (B + 265))] := hl
  refine lv_aload_n K.1.1 K.1.2.1 dL_set_0 rfl (lv_at hl 3 rfl) ?_
  refine lv_iconst (v := 0) K.1.1 K.1.2.1 dL_set_1 (by decide) ?_
  refine lv_aload_n K.1.1 K.1.2.1 dL_set_2 rfl (lv_at hl 0 rfl) ?_
  refine lv_iload_n K.1.1 K.1.2.1 dL_set_3 rfl (lv_at hl 1 rfl) ?_
  refine lv_iload_n K.1.1 K.1.2.1 dL_set_4 rfl (lv_at hl 2 rfl) ?_
  refine l_cX (n := 2) (As := [.int a0, .int a1]) (rest := [.int 0, .ref (B + 265)]) (k := 0) K hP.1 hS hD hM (by decide) sh_0 rfl q_957 q_958 q_959 q_82 q_960 hv_X10_set ⟨Nat.succ_le_succ hfr, Nat.add_le_add_left hlo _⟩ rfl hl.1 rfl (Nat.le_of_ble_eq_true rfl) dL_set_5 ⟨Nat.le_of_ble_eq_true rfl, Nat.le_of_ble_eq_true rfl⟩ (fun ce q9 H locs hP1 hS hq h1 h2 h3 => ?_)
  have hP := hP.kept hP1 hq
  refine vx_catch (own := RL) (name := IAE) (E := IAE) K.1.2.2.2.1 [] ⟨0, 10, 13, 13⟩ [] htab (fun z hz => by cases hz) (by decide) (by decide) (K.w q_825) (va_Nw.use rfl K.2.2.1.2.2.2.1.2.1) h1 h2 h3 ?_
  refine lv_astore (lv' := [(4, .ref q9), (0, .ref (B + 0)), (1, .int a0), (2, .int a1), (3, .ref (B + 265))]) K.1.1 K.1.2.1 dL_set_13 hl (by decide) rfl (fun ls hl => ?_)
  refine lv_iconst (v := 1) K.1.1 K.1.2.1 dL_set_15 (by decide) ?_
  exact l_ret K hr hlocks hP (S_AB hS) dL_set_16 rfl rfl

set_option maxHeartbeats 4000000 in
set_option maxRecDepth 100000 in
theorem L_bid_ok (l : Launch) (G : GG) (B : Nat) (cL : ClassId) (μ : Mm) (x : Int64) (a0 : Int32) (a1 : Int32) {fr lo : Nat} (hfr : fr ≤ 7) (hlo : lo ≤ 110) {v : Int32} {μ' : Mm} (hM : CM l yX10_bid (.code yX10_bid cX10_bid 3 (Option.some FieldType.int)) fr lo G B [.ref (B + 0), .int a0, .int a1] μ (some (.int v)) μ') : LM l yL_bid (.codeWith yL_bid cL_bid 5 (Option.some FieldType.int) [(0, 10, 13, 20), (0, 10, 17, 13), (0, 10, 21, 15)]) 8 132 1 6 G B cL [.ref (B + 0), .int a0, .int a1, .ref (B + 265)] μ x 0 μ' (v.toInt64) := by
  refine LM.of (by decide) (Nat.le_of_ble_eq_true rfl) ?_
  intro p e s m below meth c ls K hD hA htab hr hlocks hP hl
  have hS : va_S (AA B) s.heap s.heap [] := va_S.rf
  have hl : lv_has ls 5 [(0, .ref (B + 0)), (1, .int a0), (2, .int a1), (3, .ref (B + 265))] := hl
  refine lv_aload_n K.1.1 K.1.2.1 dL_bid_0 rfl (lv_at hl 3 rfl) ?_
  refine lv_iconst (v := 0) K.1.1 K.1.2.1 dL_bid_1 (by decide) ?_
  refine lv_aload_n K.1.1 K.1.2.1 dL_bid_2 rfl (lv_at hl 0 rfl) ?_
  refine lv_iload_n K.1.1 K.1.2.1 dL_bid_3 rfl (lv_at hl 1 rfl) ?_
  refine lv_iload_n K.1.1 K.1.2.1 dL_bid_4 rfl (lv_at hl 2 rfl) ?_
  refine l_cV (n := 2) (As := [.int a0, .int a1]) (rest := [.int 0, .ref (B + 265)]) (k := 0) K hP.1 hS hM (by decide) sh_0 rfl q_964 q_965 q_966 q_82 q_967 hv_X10_bid ⟨Nat.succ_le_succ hfr, Nat.add_le_add_left hlo _⟩ rfl hl.1 rfl (Nat.le_of_ble_eq_true rfl) dL_bid_5 ⟨Nat.zero_le _, Nat.zero_le _⟩ (fun H locs hP1 hS hq => ?_)
  have hP := hP.kept hP1 hq
  refine lv_topi (fun r er => ?_)
  refine lv_i2l K.1.1 K.1.2.1 dL_bid_8 rfl ?_
  refine l_last K hA hP (S_AB hS) dL_bid_9 (fun H locs hP hS => ?_)
  refine lv_goto (tgt := 25) K.1.1 K.1.2.1 dL_bid_10 (by decide) ?_
  refine lv_iconst (v := 0) K.1.1 K.1.2.1 dL_bid_25 (by decide) ?_
  refine W.widen (k := 1) (n := 6) (by decide) (by decide) ?_
  exact l_ret K hr hlocks hP hS dL_bid_26 rfl (by rw [er])

set_option maxHeartbeats 4000000 in
set_option maxRecDepth 100000 in
theorem L_bid_1 (l : Launch) (G : GG) (B : Nat) (cL : ClassId) (μ : Mm) (x : Int64) (a0 : Int32) (a1 : Int32) {fr lo : Nat} (hfr : fr ≤ 7) (hlo : lo ≤ 110) (hM : XM l yX10_bid (.code yX10_bid cX10_bid 3 (Option.some FieldType.int)) fr lo G B [.ref (B + 0), .int a0, .int a1] μ IOE) : LM l yL_bid (.codeWith yL_bid cL_bid 5 (Option.some FieldType.int) [(0, 10, 13, 20), (0, 10, 17, 13), (0, 10, 21, 15)]) 8 132 1 6 G B cL [.ref (B + 0), .int a0, .int a1, .ref (B + 265)] μ x 1 μ x := by
  refine LM.of (by decide) (Nat.le_of_ble_eq_true rfl) ?_
  intro p e s m below meth c ls K hD hA htab hr hlocks hP hl
  have hS : va_S (AA B) s.heap s.heap [] := va_S.rf
  have hl : lv_has ls 5 [(0, .ref (B + 0)), (1, .int a0), (2, .int a1), (3, .ref (B + 265))] := hl
  refine lv_aload_n K.1.1 K.1.2.1 dL_bid_0 rfl (lv_at hl 3 rfl) ?_
  refine lv_iconst (v := 0) K.1.1 K.1.2.1 dL_bid_1 (by decide) ?_
  refine lv_aload_n K.1.1 K.1.2.1 dL_bid_2 rfl (lv_at hl 0 rfl) ?_
  refine lv_iload_n K.1.1 K.1.2.1 dL_bid_3 rfl (lv_at hl 1 rfl) ?_
  refine lv_iload_n K.1.1 K.1.2.1 dL_bid_4 rfl (lv_at hl 2 rfl) ?_
  refine l_cX (n := 2) (As := [.int a0, .int a1]) (rest := [.int 0, .ref (B + 265)]) (k := 0) K hP.1 hS hD hM (by decide) sh_0 rfl q_964 q_965 q_966 q_82 q_967 hv_X10_bid ⟨Nat.succ_le_succ hfr, Nat.add_le_add_left hlo _⟩ rfl hl.1 rfl (Nat.le_of_ble_eq_true rfl) dL_bid_5 ⟨Nat.le_of_ble_eq_true rfl, Nat.le_of_ble_eq_true rfl⟩ (fun ce q9 H locs hP1 hS hq h1 h2 h3 => ?_)
  have hP := hP.kept hP1 hq
  refine vx_catch (own := RL) (name := IOE) (E := IOE) K.1.2.2.2.1 [] ⟨0, 10, 13, 20⟩ [⟨0, 10, 17, 13⟩, ⟨0, 10, 21, 15⟩] htab (fun z hz => by cases hz) (by decide) (by decide) (K.w q_937) (va_Nw.use rfl K.2.2.1.2.2.2.1.1) h1 h2 h3 ?_
  refine lv_astore (lv' := [(4, .ref q9), (0, .ref (B + 0)), (1, .int a0), (2, .int a1), (3, .ref (B + 265))]) K.1.1 K.1.2.1 dL_bid_13 hl (by decide) rfl (fun ls hl => ?_)
  refine lv_iconst (v := 1) K.1.1 K.1.2.1 dL_bid_15 (by decide) ?_
  exact l_ret K hr hlocks hP (S_AB hS) dL_bid_16 rfl rfl

set_option maxHeartbeats 4000000 in
set_option maxRecDepth 100000 in
theorem L_bid_2 (l : Launch) (G : GG) (B : Nat) (cL : ClassId) (μ : Mm) (x : Int64) (a0 : Int32) (a1 : Int32) {fr lo : Nat} (hfr : fr ≤ 7) (hlo : lo ≤ 110) (hM : XM l yX10_bid (.code yX10_bid cX10_bid 3 (Option.some FieldType.int)) fr lo G B [.ref (B + 0), .int a0, .int a1] μ IAE) : LM l yL_bid (.codeWith yL_bid cL_bid 5 (Option.some FieldType.int) [(0, 10, 13, 20), (0, 10, 17, 13), (0, 10, 21, 15)]) 8 132 1 6 G B cL [.ref (B + 0), .int a0, .int a1, .ref (B + 265)] μ x 2 μ x := by
  refine LM.of (by decide) (Nat.le_of_ble_eq_true rfl) ?_
  intro p e s m below meth c ls K hD hA htab hr hlocks hP hl
  have hS : va_S (AA B) s.heap s.heap [] := va_S.rf
  have hl : lv_has ls 5 [(0, .ref (B + 0)), (1, .int a0), (2, .int a1), (3, .ref (B + 265))] := hl
  refine lv_aload_n K.1.1 K.1.2.1 dL_bid_0 rfl (lv_at hl 3 rfl) ?_
  refine lv_iconst (v := 0) K.1.1 K.1.2.1 dL_bid_1 (by decide) ?_
  refine lv_aload_n K.1.1 K.1.2.1 dL_bid_2 rfl (lv_at hl 0 rfl) ?_
  refine lv_iload_n K.1.1 K.1.2.1 dL_bid_3 rfl (lv_at hl 1 rfl) ?_
  refine lv_iload_n K.1.1 K.1.2.1 dL_bid_4 rfl (lv_at hl 2 rfl) ?_
  refine l_cX (n := 2) (As := [.int a0, .int a1]) (rest := [.int 0, .ref (B + 265)]) (k := 0) K hP.1 hS hD hM (by decide) sh_0 rfl q_964 q_965 q_966 q_82 q_967 hv_X10_bid ⟨Nat.succ_le_succ hfr, Nat.add_le_add_left hlo _⟩ rfl hl.1 rfl (Nat.le_of_ble_eq_true rfl) dL_bid_5 ⟨Nat.le_of_ble_eq_true rfl, Nat.le_of_ble_eq_true rfl⟩ (fun ce q9 H locs hP1 hS hq h1 h2 h3 => ?_)
  have hP := hP.kept hP1 hq
  refine vx_catch (own := RL) (name := IAE) (E := IAE) K.1.2.2.2.1 [⟨0, 10, 13, 20⟩] ⟨0, 10, 17, 13⟩ [⟨0, 10, 21, 15⟩] htab (fun z hz => by
    simp only [List.mem_cons, List.not_mem_nil, or_false] at hz
    rcases hz with rfl
    · exact Or.inr ⟨by decide, IOE, K.w q_937, K.2.2.1.2.2.2.2.1.2.2.1⟩) (by decide) (by decide) (K.w q_825) (va_Nw.use rfl K.2.2.1.2.2.2.1.2.1) h1 h2 h3 ?_
  refine lv_astore (lv' := [(4, .ref q9), (0, .ref (B + 0)), (1, .int a0), (2, .int a1), (3, .ref (B + 265))]) K.1.1 K.1.2.1 dL_bid_17 hl (by decide) rfl (fun ls hl => ?_)
  refine lv_iconst (v := 2) K.1.1 K.1.2.1 dL_bid_19 (by decide) ?_
  exact l_ret K hr hlocks hP (S_AB hS) dL_bid_20 rfl rfl

set_option maxHeartbeats 4000000 in
set_option maxRecDepth 100000 in
theorem L_bid_3 (l : Launch) (G : GG) (B : Nat) (cL : ClassId) (μ : Mm) (x : Int64) (a0 : Int32) (a1 : Int32) {fr lo : Nat} (hfr : fr ≤ 7) (hlo : lo ≤ 110) (hM : XM l yX10_bid (.code yX10_bid cX10_bid 3 (Option.some FieldType.int)) fr lo G B [.ref (B + 0), .int a0, .int a1] μ ISE) : LM l yL_bid (.codeWith yL_bid cL_bid 5 (Option.some FieldType.int) [(0, 10, 13, 20), (0, 10, 17, 13), (0, 10, 21, 15)]) 8 132 1 6 G B cL [.ref (B + 0), .int a0, .int a1, .ref (B + 265)] μ x 3 μ x := by
  refine LM.of (by decide) (Nat.le_of_ble_eq_true rfl) ?_
  intro p e s m below meth c ls K hD hA htab hr hlocks hP hl
  have hS : va_S (AA B) s.heap s.heap [] := va_S.rf
  have hl : lv_has ls 5 [(0, .ref (B + 0)), (1, .int a0), (2, .int a1), (3, .ref (B + 265))] := hl
  refine lv_aload_n K.1.1 K.1.2.1 dL_bid_0 rfl (lv_at hl 3 rfl) ?_
  refine lv_iconst (v := 0) K.1.1 K.1.2.1 dL_bid_1 (by decide) ?_
  refine lv_aload_n K.1.1 K.1.2.1 dL_bid_2 rfl (lv_at hl 0 rfl) ?_
  refine lv_iload_n K.1.1 K.1.2.1 dL_bid_3 rfl (lv_at hl 1 rfl) ?_
  refine lv_iload_n K.1.1 K.1.2.1 dL_bid_4 rfl (lv_at hl 2 rfl) ?_
  refine l_cX (n := 2) (As := [.int a0, .int a1]) (rest := [.int 0, .ref (B + 265)]) (k := 0) K hP.1 hS hD hM (by decide) sh_0 rfl q_964 q_965 q_966 q_82 q_967 hv_X10_bid ⟨Nat.succ_le_succ hfr, Nat.add_le_add_left hlo _⟩ rfl hl.1 rfl (Nat.le_of_ble_eq_true rfl) dL_bid_5 ⟨Nat.le_of_ble_eq_true rfl, Nat.le_of_ble_eq_true rfl⟩ (fun ce q9 H locs hP1 hS hq h1 h2 h3 => ?_)
  have hP := hP.kept hP1 hq
  refine vx_catch (own := RL) (name := ISE) (E := ISE) K.1.2.2.2.1 [⟨0, 10, 13, 20⟩, ⟨0, 10, 17, 13⟩] ⟨0, 10, 21, 15⟩ [] htab (fun z hz => by
    simp only [List.mem_cons, List.not_mem_nil, or_false] at hz
    rcases hz with rfl | rfl
    · exact Or.inr ⟨by decide, IOE, K.w q_937, K.2.2.1.2.2.2.2.1.2.2.2.2.1⟩
    · exact Or.inr ⟨by decide, IAE, K.w q_825, K.2.2.1.2.2.2.2.1.2.2.2.2.2⟩) (by decide) (by decide) (K.w q_826) (va_Nw.use rfl K.2.2.1.2.2.2.1.2.2) h1 h2 h3 ?_
  refine lv_astore (lv' := [(4, .ref q9), (0, .ref (B + 0)), (1, .int a0), (2, .int a1), (3, .ref (B + 265))]) K.1.1 K.1.2.1 dL_bid_21 hl (by decide) rfl (fun ls hl => ?_)
  refine lv_iconst (v := 3) K.1.1 K.1.2.1 dL_bid_23 (by decide) ?_
  exact l_ret K hr hlocks hP (S_AB hS) dL_bid_24 rfl rfl

set_option maxHeartbeats 4000000 in
set_option maxRecDepth 100000 in
theorem L_order_ok (l : Launch) (G : GG) (B : Nat) (cL : ClassId) (μ : Mm) (x : Int64) (a0 : Int32) (a1 : Int32) (a2 : Int32) {fr lo : Nat} (hfr : fr ≤ 7) (hlo : lo ≤ 110) {v : Int32} {μ' : Mm} (hM : CM l yX10_order (.code yX10_order cX10_order 4 (Option.some FieldType.int)) fr lo G B [.ref (B + 0), .int a0, .int a1, .int a2] μ (some (.int v)) μ') : LM l yL_order (.codeWith yL_order cL_order 6 (Option.some FieldType.int) [(0, 12, 15, 20), (0, 12, 19, 13), (0, 12, 23, 15)]) 8 133 1 6 G B cL [.ref (B + 0), .int a0, .int a1, .int a2, .ref (B + 265)] μ x 0 μ' (v.toInt64) := by
  refine LM.of (by decide) (Nat.le_of_ble_eq_true rfl) ?_
  intro p e s m below meth c ls K hD hA htab hr hlocks hP hl
  have hS : va_S (AA B) s.heap s.heap [] := va_S.rf
  have hl : lv_has ls 6 [(0, .ref (B + 0)), (1, .int a0), (2, .int a1), (3, .int a2), (4, .ref (B + 265))] := hl
  refine lv_aload K.1.1 K.1.2.1 dL_order_0 (lv_at hl 4 rfl) ?_
  refine lv_iconst (v := 0) K.1.1 K.1.2.1 dL_order_2 (by decide) ?_
  refine lv_aload_n K.1.1 K.1.2.1 dL_order_3 rfl (lv_at hl 0 rfl) ?_
  refine lv_iload_n K.1.1 K.1.2.1 dL_order_4 rfl (lv_at hl 1 rfl) ?_
  refine lv_iload_n K.1.1 K.1.2.1 dL_order_5 rfl (lv_at hl 2 rfl) ?_
  refine lv_iload_n K.1.1 K.1.2.1 dL_order_6 rfl (lv_at hl 3 rfl) ?_
  refine l_cV (n := 3) (As := [.int a0, .int a1, .int a2]) (rest := [.int 0, .ref (B + 265)]) (k := 0) K hP.1 hS hM (by decide) sh_0 rfl q_971 q_972 q_973 q_82 q_974 hv_X10_order ⟨Nat.succ_le_succ hfr, Nat.add_le_add_left hlo _⟩ rfl hl.1 rfl (Nat.le_of_ble_eq_true rfl) dL_order_7 ⟨Nat.zero_le _, Nat.zero_le _⟩ (fun H locs hP1 hS hq => ?_)
  have hP := hP.kept hP1 hq
  refine lv_topi (fun r er => ?_)
  refine lv_i2l K.1.1 K.1.2.1 dL_order_10 rfl ?_
  refine l_last K hA hP (S_AB hS) dL_order_11 (fun H locs hP hS => ?_)
  refine lv_goto (tgt := 27) K.1.1 K.1.2.1 dL_order_12 (by decide) ?_
  refine lv_iconst (v := 0) K.1.1 K.1.2.1 dL_order_27 (by decide) ?_
  refine W.widen (k := 1) (n := 6) (by decide) (by decide) ?_
  exact l_ret K hr hlocks hP hS dL_order_28 rfl (by rw [er])

set_option maxHeartbeats 4000000 in
set_option maxRecDepth 100000 in
theorem L_order_1 (l : Launch) (G : GG) (B : Nat) (cL : ClassId) (μ : Mm) (x : Int64) (a0 : Int32) (a1 : Int32) (a2 : Int32) {fr lo : Nat} (hfr : fr ≤ 7) (hlo : lo ≤ 110) (hM : XM l yX10_order (.code yX10_order cX10_order 4 (Option.some FieldType.int)) fr lo G B [.ref (B + 0), .int a0, .int a1, .int a2] μ IOE) : LM l yL_order (.codeWith yL_order cL_order 6 (Option.some FieldType.int) [(0, 12, 15, 20), (0, 12, 19, 13), (0, 12, 23, 15)]) 8 133 1 6 G B cL [.ref (B + 0), .int a0, .int a1, .int a2, .ref (B + 265)] μ x 1 μ x := by
  refine LM.of (by decide) (Nat.le_of_ble_eq_true rfl) ?_
  intro p e s m below meth c ls K hD hA htab hr hlocks hP hl
  have hS : va_S (AA B) s.heap s.heap [] := va_S.rf
  have hl : lv_has ls 6 [(0, .ref (B + 0)), (1, .int a0), (2, .int a1), (3, .int a2), (4, .ref (B + 265))] := hl
  refine lv_aload K.1.1 K.1.2.1 dL_order_0 (lv_at hl 4 rfl) ?_
  refine lv_iconst (v := 0) K.1.1 K.1.2.1 dL_order_2 (by decide) ?_
  refine lv_aload_n K.1.1 K.1.2.1 dL_order_3 rfl (lv_at hl 0 rfl) ?_
  refine lv_iload_n K.1.1 K.1.2.1 dL_order_4 rfl (lv_at hl 1 rfl) ?_
  refine lv_iload_n K.1.1 K.1.2.1 dL_order_5 rfl (lv_at hl 2 rfl) ?_
  refine lv_iload_n K.1.1 K.1.2.1 dL_order_6 rfl (lv_at hl 3 rfl) ?_
  refine l_cX (n := 3) (As := [.int a0, .int a1, .int a2]) (rest := [.int 0, .ref (B + 265)]) (k := 0) K hP.1 hS hD hM (by decide) sh_0 rfl q_971 q_972 q_973 q_82 q_974 hv_X10_order ⟨Nat.succ_le_succ hfr, Nat.add_le_add_left hlo _⟩ rfl hl.1 rfl (Nat.le_of_ble_eq_true rfl) dL_order_7 ⟨Nat.le_of_ble_eq_true rfl, Nat.le_of_ble_eq_true rfl⟩ (fun ce q9 H locs hP1 hS hq h1 h2 h3 => ?_)
  have hP := hP.kept hP1 hq
  refine vx_catch (own := RL) (name := IOE) (E := IOE) K.1.2.2.2.1 [] ⟨0, 12, 15, 20⟩ [⟨0, 12, 19, 13⟩, ⟨0, 12, 23, 15⟩] htab (fun z hz => by cases hz) (by decide) (by decide) (K.w q_937) (va_Nw.use rfl K.2.2.1.2.2.2.1.1) h1 h2 h3 ?_
  refine lv_astore (lv' := [(5, .ref q9), (0, .ref (B + 0)), (1, .int a0), (2, .int a1), (3, .int a2), (4, .ref (B + 265))]) K.1.1 K.1.2.1 dL_order_15 hl (by decide) rfl (fun ls hl => ?_)
  refine lv_iconst (v := 1) K.1.1 K.1.2.1 dL_order_17 (by decide) ?_
  exact l_ret K hr hlocks hP (S_AB hS) dL_order_18 rfl rfl

set_option maxHeartbeats 4000000 in
set_option maxRecDepth 100000 in
theorem L_order_2 (l : Launch) (G : GG) (B : Nat) (cL : ClassId) (μ : Mm) (x : Int64) (a0 : Int32) (a1 : Int32) (a2 : Int32) {fr lo : Nat} (hfr : fr ≤ 7) (hlo : lo ≤ 110) (hM : XM l yX10_order (.code yX10_order cX10_order 4 (Option.some FieldType.int)) fr lo G B [.ref (B + 0), .int a0, .int a1, .int a2] μ IAE) : LM l yL_order (.codeWith yL_order cL_order 6 (Option.some FieldType.int) [(0, 12, 15, 20), (0, 12, 19, 13), (0, 12, 23, 15)]) 8 133 1 6 G B cL [.ref (B + 0), .int a0, .int a1, .int a2, .ref (B + 265)] μ x 2 μ x := by
  refine LM.of (by decide) (Nat.le_of_ble_eq_true rfl) ?_
  intro p e s m below meth c ls K hD hA htab hr hlocks hP hl
  have hS : va_S (AA B) s.heap s.heap [] := va_S.rf
  have hl : lv_has ls 6 [(0, .ref (B + 0)), (1, .int a0), (2, .int a1), (3, .int a2), (4, .ref (B + 265))] := hl
  refine lv_aload K.1.1 K.1.2.1 dL_order_0 (lv_at hl 4 rfl) ?_
  refine lv_iconst (v := 0) K.1.1 K.1.2.1 dL_order_2 (by decide) ?_
  refine lv_aload_n K.1.1 K.1.2.1 dL_order_3 rfl (lv_at hl 0 rfl) ?_
  refine lv_iload_n K.1.1 K.1.2.1 dL_order_4 rfl (lv_at hl 1 rfl) ?_
  refine lv_iload_n K.1.1 K.1.2.1 dL_order_5 rfl (lv_at hl 2 rfl) ?_
  refine lv_iload_n K.1.1 K.1.2.1 dL_order_6 rfl (lv_at hl 3 rfl) ?_
  refine l_cX (n := 3) (As := [.int a0, .int a1, .int a2]) (rest := [.int 0, .ref (B + 265)]) (k := 0) K hP.1 hS hD hM (by decide) sh_0 rfl q_971 q_972 q_973 q_82 q_974 hv_X10_order ⟨Nat.succ_le_succ hfr, Nat.add_le_add_left hlo _⟩ rfl hl.1 rfl (Nat.le_of_ble_eq_true rfl) dL_order_7 ⟨Nat.le_of_ble_eq_true rfl, Nat.le_of_ble_eq_true rfl⟩ (fun ce q9 H locs hP1 hS hq h1 h2 h3 => ?_)
  have hP := hP.kept hP1 hq
  refine vx_catch (own := RL) (name := IAE) (E := IAE) K.1.2.2.2.1 [⟨0, 12, 15, 20⟩] ⟨0, 12, 19, 13⟩ [⟨0, 12, 23, 15⟩] htab (fun z hz => by
    simp only [List.mem_cons, List.not_mem_nil, or_false] at hz
    rcases hz with rfl
    · exact Or.inr ⟨by decide, IOE, K.w q_937, K.2.2.1.2.2.2.2.1.2.2.1⟩) (by decide) (by decide) (K.w q_825) (va_Nw.use rfl K.2.2.1.2.2.2.1.2.1) h1 h2 h3 ?_
  refine lv_astore (lv' := [(5, .ref q9), (0, .ref (B + 0)), (1, .int a0), (2, .int a1), (3, .int a2), (4, .ref (B + 265))]) K.1.1 K.1.2.1 dL_order_19 hl (by decide) rfl (fun ls hl => ?_)
  refine lv_iconst (v := 2) K.1.1 K.1.2.1 dL_order_21 (by decide) ?_
  exact l_ret K hr hlocks hP (S_AB hS) dL_order_22 rfl rfl

set_option maxHeartbeats 4000000 in
set_option maxRecDepth 100000 in
theorem L_order_3 (l : Launch) (G : GG) (B : Nat) (cL : ClassId) (μ : Mm) (x : Int64) (a0 : Int32) (a1 : Int32) (a2 : Int32) {fr lo : Nat} (hfr : fr ≤ 7) (hlo : lo ≤ 110) (hM : XM l yX10_order (.code yX10_order cX10_order 4 (Option.some FieldType.int)) fr lo G B [.ref (B + 0), .int a0, .int a1, .int a2] μ ISE) : LM l yL_order (.codeWith yL_order cL_order 6 (Option.some FieldType.int) [(0, 12, 15, 20), (0, 12, 19, 13), (0, 12, 23, 15)]) 8 133 1 6 G B cL [.ref (B + 0), .int a0, .int a1, .int a2, .ref (B + 265)] μ x 3 μ x := by
  refine LM.of (by decide) (Nat.le_of_ble_eq_true rfl) ?_
  intro p e s m below meth c ls K hD hA htab hr hlocks hP hl
  have hS : va_S (AA B) s.heap s.heap [] := va_S.rf
  have hl : lv_has ls 6 [(0, .ref (B + 0)), (1, .int a0), (2, .int a1), (3, .int a2), (4, .ref (B + 265))] := hl
  refine lv_aload K.1.1 K.1.2.1 dL_order_0 (lv_at hl 4 rfl) ?_
  refine lv_iconst (v := 0) K.1.1 K.1.2.1 dL_order_2 (by decide) ?_
  refine lv_aload_n K.1.1 K.1.2.1 dL_order_3 rfl (lv_at hl 0 rfl) ?_
  refine lv_iload_n K.1.1 K.1.2.1 dL_order_4 rfl (lv_at hl 1 rfl) ?_
  refine lv_iload_n K.1.1 K.1.2.1 dL_order_5 rfl (lv_at hl 2 rfl) ?_
  refine lv_iload_n K.1.1 K.1.2.1 dL_order_6 rfl (lv_at hl 3 rfl) ?_
  refine l_cX (n := 3) (As := [.int a0, .int a1, .int a2]) (rest := [.int 0, .ref (B + 265)]) (k := 0) K hP.1 hS hD hM (by decide) sh_0 rfl q_971 q_972 q_973 q_82 q_974 hv_X10_order ⟨Nat.succ_le_succ hfr, Nat.add_le_add_left hlo _⟩ rfl hl.1 rfl (Nat.le_of_ble_eq_true rfl) dL_order_7 ⟨Nat.le_of_ble_eq_true rfl, Nat.le_of_ble_eq_true rfl⟩ (fun ce q9 H locs hP1 hS hq h1 h2 h3 => ?_)
  have hP := hP.kept hP1 hq
  refine vx_catch (own := RL) (name := ISE) (E := ISE) K.1.2.2.2.1 [⟨0, 12, 15, 20⟩, ⟨0, 12, 19, 13⟩] ⟨0, 12, 23, 15⟩ [] htab (fun z hz => by
    simp only [List.mem_cons, List.not_mem_nil, or_false] at hz
    rcases hz with rfl | rfl
    · exact Or.inr ⟨by decide, IOE, K.w q_937, K.2.2.1.2.2.2.2.1.2.2.2.2.1⟩
    · exact Or.inr ⟨by decide, IAE, K.w q_825, K.2.2.1.2.2.2.2.1.2.2.2.2.2⟩) (by decide) (by decide) (K.w q_826) (va_Nw.use rfl K.2.2.1.2.2.2.1.2.2) h1 h2 h3 ?_
  refine lv_astore (lv' := [(5, .ref q9), (0, .ref (B + 0)), (1, .int a0), (2, .int a1), (3, .int a2), (4, .ref (B + 265))]) K.1.1 K.1.2.1 dL_order_23 hl (by decide) rfl (fun ls hl => ?_)
  refine lv_iconst (v := 3) K.1.1 K.1.2.1 dL_order_25 (by decide) ?_
  exact l_ret K hr hlocks hP (S_AB hS) dL_order_26 rfl rfl

set_option maxHeartbeats 4000000 in
set_option maxRecDepth 100000 in
theorem L_cancel_ok (l : Launch) (G : GG) (B : Nat) (cL : ClassId) (μ : Mm) (x : Int64) (a0 : Int32) {fr lo : Nat} (hfr : fr ≤ 7) (hlo : lo ≤ 110) {v : Int32} {μ' : Mm} (hM : CM l yX10_cancel (.code yX10_cancel cX10_cancel 2 (Option.some FieldType.int)) fr lo G B [.ref (B + 0), .int a0] μ (some (.int v)) μ') : LM l yL_cancel (.codeWith yL_cancel cL_cancel 4 (Option.some FieldType.int) [(0, 9, 12, 20)]) 8 131 1 6 G B cL [.ref (B + 0), .int a0, .ref (B + 265)] μ x 0 μ' (v.toInt64) := by
  refine LM.of (by decide) (Nat.le_of_ble_eq_true rfl) ?_
  intro p e s m below meth c ls K hD hA htab hr hlocks hP hl
  have hS : va_S (AA B) s.heap s.heap [] := va_S.rf
  have hl : lv_has ls 4 [(0, .ref (B + 0)), (1, .int a0), (2, .ref (B + 265))] := hl
  refine lv_aload_n K.1.1 K.1.2.1 dL_cancel_0 rfl (lv_at hl 2 rfl) ?_
  refine lv_iconst (v := 0) K.1.1 K.1.2.1 dL_cancel_1 (by decide) ?_
  refine lv_aload_n K.1.1 K.1.2.1 dL_cancel_2 rfl (lv_at hl 0 rfl) ?_
  refine lv_iload_n K.1.1 K.1.2.1 dL_cancel_3 rfl (lv_at hl 1 rfl) ?_
  refine l_cV (n := 1) (As := [.int a0]) (rest := [.int 0, .ref (B + 265)]) (k := 0) K hP.1 hS hM (by decide) sh_0 rfl q_978 q_979 q_980 q_82 q_981 hv_X10_cancel ⟨Nat.succ_le_succ hfr, Nat.add_le_add_left hlo _⟩ rfl hl.1 rfl (Nat.le_of_ble_eq_true rfl) dL_cancel_4 ⟨Nat.zero_le _, Nat.zero_le _⟩ (fun H locs hP1 hS hq => ?_)
  have hP := hP.kept hP1 hq
  refine lv_topi (fun r er => ?_)
  refine lv_i2l K.1.1 K.1.2.1 dL_cancel_7 rfl ?_
  refine l_last K hA hP (S_AB hS) dL_cancel_8 (fun H locs hP hS => ?_)
  refine lv_goto (tgt := 15) K.1.1 K.1.2.1 dL_cancel_9 (by decide) ?_
  refine lv_iconst (v := 0) K.1.1 K.1.2.1 dL_cancel_15 (by decide) ?_
  refine W.widen (k := 1) (n := 6) (by decide) (by decide) ?_
  exact l_ret K hr hlocks hP hS dL_cancel_16 rfl (by rw [er])

