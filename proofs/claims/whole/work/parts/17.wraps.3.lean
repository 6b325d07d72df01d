set_option maxHeartbeats 4000000 in
set_option maxRecDepth 100000 in
theorem L_gainWith_1 (l : Launch) (G : GG) (B : Nat) (cL : ClassId) (μ : Mm) (x : Int64) (a0 : Int32) (a1 : Int32) {fr lo : Nat} (hfr : fr ≤ 7) (hlo : lo ≤ 110) (hM : XM l yX10_gainWith (.code yX10_gainWith cX10_gainWith 3 (Option.some FieldType.int)) fr lo G B [.ref (B + 0), .int a0, .int a1] μ IOE) : LM l yL_gainWith (.codeWith yL_gainWith cL_gainWith 5 (Option.some FieldType.int) [(0, 10, 13, 20), (0, 10, 17, 13)]) 8 132 1 6 G B cL [.ref (B + 0), .int a0, .int a1, .ref (B + 265)] μ x 1 μ x := by
  refine LM.of (by decide) (Nat.le_of_ble_eq_true rfl) ?_
  intro p e s m below meth c ls K hD hA htab hr hlocks hP hl
  have hS : va_S (AA B) s.heap s.heap [] := va_S.rf
  have hl : lv_has ls 5 [(0, .ref (B + 0)), (1, .int a0), (2, .int a1), (3, .ref (B + 265))] := hl
  refine lv_aload_n K.1.1 K.1.2.1 dL_gainWith_0 rfl (lv_at hl 3 rfl) ?_
  refine lv_iconst (v := 0) K.1.1 K.1.2.1 dL_gainWith_1 (by decide) ?_
  refine lv_aload_n K.1.1 K.1.2.1 dL_gainWith_2 rfl (lv_at hl 0 rfl) ?_
  refine lv_iload_n K.1.1 K.1.2.1 dL_gainWith_3 rfl (lv_at hl 1 rfl) ?_
  refine lv_iload_n K.1.1 K.1.2.1 dL_gainWith_4 rfl (lv_at hl 2 rfl) ?_
  refine l_cX (n := 2) (As := [.int a0, .int a1]) (rest := [.int 0, .ref (B + 265)]) (k := 0) K hP.1 hS hD hM (by decide) sh_0 rfl q_1079 q_1080 q_1081 q_82 q_1082 hv_X10_gainWith ⟨Nat.succ_le_succ hfr, Nat.add_le_add_left hlo _⟩ rfl hl.1 rfl (Nat.le_of_ble_eq_true rfl) dL_gainWith_5 ⟨Nat.le_of_ble_eq_true rfl, Nat.le_of_ble_eq_true rfl⟩ (fun ce q9 H locs hP1 hS hq h1 h2 h3 => ?_)
  have hP := hP.kept hP1 hq
  refine vx_catch (own := RL) (name := IOE) (E := IOE) K.1.2.2.2.1 [] ⟨0, 10, 13, 20⟩ [⟨0, 10, 17, 13⟩] htab (fun z hz => by cases hz) (by decide) (by decide) (K.w q_937) (va_Nw.use rfl K.2.2.1.2.2.2.1.1) h1 h2 h3 ?_
  refine lv_astore (lv' := [(4, .ref q9), (0, .ref (B + 0)), (1, .int a0), (2, .int a1), (3, .ref (B + 265))]) K.1.1 K.1.2.1 dL_gainWith_13 hl (by decide) rfl (fun ls hl => ?_)
  refine lv_iconst (v := 1) K.1.1 K.1.2.1 dL_gainWith_15 (by decide) ?_
  exact l_ret K hr hlocks hP (S_AB hS) dL_gainWith_16 rfl rfl

set_option maxHeartbeats 4000000 in
set_option maxRecDepth 100000 in
theorem L_gainWith_2 (l : Launch) (G : GG) (B : Nat) (cL : ClassId) (μ : Mm) (x : Int64) (a0 : Int32) (a1 : Int32) {fr lo : Nat} (hfr : fr ≤ 7) (hlo : lo ≤ 110) (hM : XM l yX10_gainWith (.code yX10_gainWith cX10_gainWith 3 (Option.some FieldType.int)) fr lo G B [.ref (B + 0), .int a0, .int a1] μ IAE) : LM l yL_gainWith (.codeWith yL_gainWith cL_gainWith 5 (Option.some FieldType.int) [(0, 10, 13, 20), (0, 10, 17, 13)]) 8 132 1 6 G B cL [.ref (B + 0), .int a0, .int a1, .ref (B + 265)] μ x 2 μ x := by
  refine LM.of (by decide) (Nat.le_of_ble_eq_true rfl) ?_
  intro p e s m below meth c ls K hD hA htab hr hlocks hP hl
  have hS : va_S (AA B) s.heap s.heap [] := va_S.rf
  have hl : lv_has ls 5 [(0, .ref (B + 0)), (1, .int a0), (2, .int a1), (3, .ref (B + 265))] := hl
  refine lv_aload_n K.1.1 K.1.2.1 dL_gainWith_0 rfl (lv_at hl 3 rfl) ?_
  refine lv_iconst (v := 0) K.1.1 K.1.2.1 dL_gainWith_1 (by decide) ?_
  refine lv_aload_n K.1.1 K.1.2.1 dL_gainWith_2 rfl (lv_at hl 0 rfl) ?_
  refine lv_iload_n K.1.1 K.1.2.1 dL_gainWith_3 rfl (lv_at hl 1 rfl) ?_
  refine lv_iload_n K.1.1 K.1.2.1 dL_gainWith_4 rfl (lv_at hl 2 rfl) ?_
  refine l_cX (n := 2) (As := [.int a0, .int a1]) (rest := [.int 0, .ref (B + 265)]) (k := 0) K hP.1 hS hD hM (by decide) sh_0 rfl q_1079 q_1080 q_1081 q_82 q_1082 hv_X10_gainWith ⟨Nat.succ_le_succ hfr, Nat.add_le_add_left hlo _⟩ rfl hl.1 rfl (Nat.le_of_ble_eq_true rfl) dL_gainWith_5 ⟨Nat.le_of_ble_eq_true rfl, Nat.le_of_ble_eq_true rfl⟩ (fun ce q9 H locs hP1 hS hq h1 h2 h3 => ?_)
  have hP := hP.kept hP1 hq
  refine vx_catch (own := RL) (name := IAE) (E := IAE) K.1.2.2.2.1 [⟨0, 10, 13, 20⟩] ⟨0, 10, 17, 13⟩ [] htab (fun z hz => by
    simp only [List.mem_cons, List.not_mem_nil, or_false] at hz
    rcases hz with rfl
    · exact Or.inr ⟨by decide, IOE, K.w q_937, K.2.2.1.2.2.2.2.1.2.2.1⟩) (by decide) (by decide) (K.w q_825) (va_Nw.use rfl K.2.2.1.2.2.2.1.2.1) h1 h2 h3 ?_
  refine lv_astore (lv' := [(4, .ref q9), (0, .ref (B + 0)), (1, .int a0), (2, .int a1), (3, .ref (B + 265))]) K.1.1 K.1.2.1 dL_gainWith_17 hl (by decide) rfl (fun ls hl => ?_)
  refine lv_iconst (v := 2) K.1.1 K.1.2.1 dL_gainWith_19 (by decide) ?_
  exact l_ret K hr hlocks hP (S_AB hS) dL_gainWith_20 rfl rfl

set_option maxHeartbeats 4000000 in
set_option maxRecDepth 100000 in
theorem L_bestShade_ok (l : Launch) (G : GG) (B : Nat) (cL : ClassId) (μ : Mm) (x : Int64) (a0 : Int32) {fr lo : Nat} (hfr : fr ≤ 7) (hlo : lo ≤ 117) {v : Int32} {μ' : Mm} (hM : CM l yX10_bestShade (.code yX10_bestShade cX10_bestShade 2 (Option.some FieldType.int)) fr lo G B [.ref (B + 0), .int a0] μ (some (.int v)) μ') : LM l yL_bestShade (.codeWith yL_bestShade cL_bestShade 4 (Option.some FieldType.int) [(0, 9, 12, 20)]) 8 138 1 6 G B cL [.ref (B + 0), .int a0, .ref (B + 265)] μ x 0 μ' (v.toInt64) := by
  refine LM.of (by decide) (Nat.le_of_ble_eq_true rfl) ?_
  intro p e s m below meth c ls K hD hA htab hr hlocks hP hl
  have hS : va_S (AA B) s.heap s.heap [] := va_S.rf
  have hl : lv_has ls 4 [(0, .ref (B + 0)), (1, .int a0), (2, .ref (B + 265))] := hl
  refine lv_aload_n K.1.1 K.1.2.1 dL_bestShade_0 rfl (lv_at hl 2 rfl) ?_
  refine lv_iconst (v := 0) K.1.1 K.1.2.1 dL_bestShade_1 (by decide) ?_
  refine lv_aload_n K.1.1 K.1.2.1 dL_bestShade_2 rfl (lv_at hl 0 rfl) ?_
  refine lv_iload_n K.1.1 K.1.2.1 dL_bestShade_3 rfl (lv_at hl 1 rfl) ?_
  refine l_cV (n := 1) (As := [.int a0]) (rest := [.int 0, .ref (B + 265)]) (k := 0) K hP.1 hS hM (by decide) sh_0 rfl q_1094 q_1095 q_1096 q_82 q_1097 hv_X10_bestShade ⟨Nat.succ_le_succ hfr, Nat.add_le_add_left hlo _⟩ rfl hl.1 rfl (Nat.le_of_ble_eq_true rfl) dL_bestShade_4 ⟨Nat.zero_le _, Nat.zero_le _⟩ (fun H locs hP1 hS hq => ?_)
  have hP := hP.kept hP1 hq
  refine lv_topi (fun r er => ?_)
  refine lv_i2l K.1.1 K.1.2.1 dL_bestShade_7 rfl ?_
  refine l_last K hA hP (S_AB hS) dL_bestShade_8 (fun H locs hP hS => ?_)
  refine lv_goto (tgt := 15) K.1.1 K.1.2.1 dL_bestShade_9 (by decide) ?_
  refine lv_iconst (v := 0) K.1.1 K.1.2.1 dL_bestShade_15 (by decide) ?_
  refine W.widen (k := 1) (n := 6) (by decide) (by decide) ?_
  exact l_ret K hr hlocks hP hS dL_bestShade_16 rfl (by rw [er])

set_option maxHeartbeats 4000000 in
set_option maxRecDepth 100000 in
theorem L_bestShade_1 (l : Launch) (G : GG) (B : Nat) (cL : ClassId) (μ : Mm) (x : Int64) (a0 : Int32) {fr lo : Nat} (hfr : fr ≤ 7) (hlo : lo ≤ 117) (hM : XM l yX10_bestShade (.code yX10_bestShade cX10_bestShade 2 (Option.some FieldType.int)) fr lo G B [.ref (B + 0), .int a0] μ IOE) : LM l yL_bestShade (.codeWith yL_bestShade cL_bestShade 4 (Option.some FieldType.int) [(0, 9, 12, 20)]) 8 138 1 6 G B cL [.ref (B + 0), .int a0, .ref (B + 265)] μ x 1 μ x := by
  refine LM.of (by decide) (Nat.le_of_ble_eq_true rfl) ?_
  intro p e s m below meth c ls K hD hA htab hr hlocks hP hl
  have hS : va_S (AA B) s.heap s.heap [] := va_S.rf
  have hl : lv_has ls 4 [(0, .ref (B + 0)), (1, .int a0), (2, .ref (B + 265))] := hl
  refine lv_aload_n K.1.1 K.1.2.1 dL_bestShade_0 rfl (lv_at hl 2 rfl) ?_
  refine lv_iconst (v := 0) K.1.1 K.1.2.1 dL_bestShade_1 (by decide) ?_
  refine lv_aload_n K.1.1 K.1.2.1 dL_bestShade_2 rfl (lv_at hl 0 rfl) ?_
  refine lv_iload_n K.1.1 K.1.2.1 dL_bestShade_3 rfl (lv_at hl 1 rfl) ?_
  refine l_cX (n := 1) (As := [.int a0]) (rest := [.int 0, .ref (B + 265)]) (k := 0) K hP.1 hS hD hM (by decide) sh_0 rfl q_1094 q_1095 q_1096 q_82 q_1097 hv_X10_bestShade ⟨Nat.succ_le_succ hfr, Nat.add_le_add_left hlo _⟩ rfl hl.1 rfl (Nat.le_of_ble_eq_true rfl) dL_bestShade_4 ⟨Nat.le_of_ble_eq_true rfl, Nat.le_of_ble_eq_true rfl⟩ (fun ce q9 H locs hP1 hS hq h1 h2 h3 => ?_)
  have hP := hP.kept hP1 hq
  refine vx_catch (own := RL) (name := IOE) (E := IOE) K.1.2.2.2.1 [] ⟨0, 9, 12, 20⟩ [] htab (fun z hz => by cases hz) (by decide) (by decide) (K.w q_937) (va_Nw.use rfl K.2.2.1.2.2.2.1.1) h1 h2 h3 ?_
  refine lv_astore_n (lv' := [(3, .ref q9), (0, .ref (B + 0)), (1, .int a0), (2, .ref (B + 265))]) K.1.1 K.1.2.1 dL_bestShade_12 rfl hl (by decide) rfl (fun ls hl => ?_)
  refine lv_iconst (v := 1) K.1.1 K.1.2.1 dL_bestShade_13 (by decide) ?_
  exact l_ret K hr hlocks hP (S_AB hS) dL_bestShade_14 rfl rfl

set_option maxHeartbeats 4000000 in
set_option maxRecDepth 100000 in
theorem L_bestSplit_ok (l : Launch) (G : GG) (B : Nat) (cL : ClassId) (μ : Mm) (x : Int64) (a0 : Int32) {fr lo : Nat} (hfr : fr ≤ 7) (hlo : lo ≤ 110) {v : Int32} {μ' : Mm} (hM : CM l yX10_bestSplit (.code yX10_bestSplit cX10_bestSplit 6 (Option.some FieldType.int)) fr lo G B [.ref (B + 0), .int a0] μ (some (.int v)) μ') : LM l yL_bestSplit (.codeWith yL_bestSplit cL_bestSplit 4 (Option.some FieldType.int) [(0, 9, 12, 20)]) 8 135 1 6 G B cL [.ref (B + 0), .int a0, .ref (B + 265)] μ x 0 μ' (v.toInt64) := by
  refine LM.of (by decide) (Nat.le_of_ble_eq_true rfl) ?_
  intro p e s m below meth c ls K hD hA htab hr hlocks hP hl
  have hS : va_S (AA B) s.heap s.heap [] := va_S.rf
  have hl : lv_has ls 4 [(0, .ref (B + 0)), (1, .int a0), (2, .ref (B + 265))] := hl
  refine lv_aload_n K.1.1 K.1.2.1 dL_bestSplit_0 rfl (lv_at hl 2 rfl) ?_
  refine lv_iconst (v := 0) K.1.1 K.1.2.1 dL_bestSplit_1 (by decide) ?_
  refine lv_aload_n K.1.1 K.1.2.1 dL_bestSplit_2 rfl (lv_at hl 0 rfl) ?_
  refine lv_iload_n K.1.1 K.1.2.1 dL_bestSplit_3 rfl (lv_at hl 1 rfl) ?_
  refine l_cV (n := 1) (As := [.int a0]) (rest := [.int 0, .ref (B + 265)]) (k := 0) K hP.1 hS hM (by decide) sh_0 rfl q_1106 q_1107 q_1108 q_82 q_1109 hv_X10_bestSplit ⟨Nat.succ_le_succ hfr, Nat.add_le_add_left hlo _⟩ rfl hl.1 rfl (Nat.le_of_ble_eq_true rfl) dL_bestSplit_4 ⟨Nat.zero_le _, Nat.zero_le _⟩ (fun H locs hP1 hS hq => ?_)
  have hP := hP.kept hP1 hq
  refine lv_topi (fun r er => ?_)
  refine lv_i2l K.1.1 K.1.2.1 dL_bestSplit_7 rfl ?_
  refine l_last K hA hP (S_AB hS) dL_bestSplit_8 (fun H locs hP hS => ?_)
  refine lv_goto (tgt := 15) K.1.1 K.1.2.1 dL_bestSplit_9 (by decide) ?_
  refine lv_iconst (v := 0) K.1.1 K.1.2.1 dL_bestSplit_15 (by decide) ?_
  refine W.widen (k := 1) (n := 6) (by decide) (by decide) ?_
  exact l_ret K hr hlocks hP hS dL_bestSplit_16 rfl (by rw [er])

set_option maxHeartbeats 4000000 in
set_option maxRecDepth 100000 in
theorem L_bestSplit_1 (l : Launch) (G : GG) (B : Nat) (cL : ClassId) (μ : Mm) (x : Int64) (a0 : Int32) {fr lo : Nat} (hfr : fr ≤ 7) (hlo : lo ≤ 110) (hM : XM l yX10_bestSplit (.code yX10_bestSplit cX10_bestSplit 6 (Option.some FieldType.int)) fr lo G B [.ref (B + 0), .int a0] μ IOE) : LM l yL_bestSplit (.codeWith yL_bestSplit cL_bestSplit 4 (Option.some FieldType.int) [(0, 9, 12, 20)]) 8 135 1 6 G B cL [.ref (B + 0), .int a0, .ref (B + 265)] μ x 1 μ x := by
  refine LM.of (by decide) (Nat.le_of_ble_eq_true rfl) ?_
  intro p e s m below meth c ls K hD hA htab hr hlocks hP hl
  have hS : va_S (AA B) s.heap s.heap [] := va_S.rf
  have hl : lv_has ls 4 [(0, .ref (B + 0)), (1, .int a0), (2, .ref (B + 265))] := hl
  refine lv_aload_n K.1.1 K.1.2.1 dL_bestSplit_0 rfl (lv_at hl 2 rfl) ?_
  refine lv_iconst (v := 0) K.1.1 K.1.2.1 dL_bestSplit_1 (by decide) ?_
  refine lv_aload_n K.1.1 K.1.2.1 dL_bestSplit_2 rfl (lv_at hl 0 rfl) ?_
  refine lv_iload_n K.1.1 K.1.2.1 dL_bestSplit_3 rfl (lv_at hl 1 rfl) ?_
  refine l_cX (n := 1) (As := [.int a0]) (rest := [.int 0, .ref (B + 265)]) (k := 0) K hP.1 hS hD hM (by decide) sh_0 rfl q_1106 q_1107 q_1108 q_82 q_1109 hv_X10_bestSplit ⟨Nat.succ_le_succ hfr, Nat.add_le_add_left hlo _⟩ rfl hl.1 rfl (Nat.le_of_ble_eq_true rfl) dL_bestSplit_4 ⟨Nat.le_of_ble_eq_true rfl, Nat.le_of_ble_eq_true rfl⟩ (fun ce q9 H locs hP1 hS hq h1 h2 h3 => ?_)
  have hP := hP.kept hP1 hq
  refine vx_catch (own := RL) (name := IOE) (E := IOE) K.1.2.2.2.1 [] ⟨0, 9, 12, 20⟩ [] htab (fun z hz => by cases hz) (by decide) (by decide) (K.w q_937) (va_Nw.use rfl K.2.2.1.2.2.2.1.1) h1 h2 h3 ?_
  refine lv_astore_n (lv' := [(3, .ref q9), (0, .ref (B + 0)), (1, .int a0), (2, .ref (B + 265))]) K.1.1 K.1.2.1 dL_bestSplit_12 rfl hl (by decide) rfl (fun ls hl => ?_)
  refine lv_iconst (v := 1) K.1.1 K.1.2.1 dL_bestSplit_13 (by decide) ?_
  exact l_ret K hr hlocks hP (S_AB hS) dL_bestSplit_14 rfl rfl

set_option maxHeartbeats 4000000 in
set_option maxRecDepth 100000 in
theorem L_goneIn_ok (l : Launch) (G : GG) (B : Nat) (cL : ClassId) (μ : Mm) (x : Int64) (a0 : Int32) {fr lo : Nat} (hfr : fr ≤ 7) (hlo : lo ≤ 114) {v : Int32} {μ' : Mm} (hM : CM l yX10_goneIn (.code yX10_goneIn cX10_goneIn 3 (Option.some FieldType.int)) fr lo G B [.ref (B + 0), .int a0] μ (some (.int v)) μ') : LM l yL_goneIn (.codeWith yL_goneIn cL_goneIn 4 (Option.some FieldType.int) [(0, 9, 12, 20)]) 8 136 1 6 G B cL [.ref (B + 0), .int a0, .ref (B + 265)] μ x 0 μ' (v.toInt64) := by
  refine LM.of (by decide) (Nat.le_of_ble_eq_true rfl) ?_
  intro p e s m below meth c ls K hD hA htab hr hlocks hP hl
  have hS : va_S (AA B) s.heap s.heap [] := va_S.rf
  have hl : lv_has ls 4 [(0, .ref (B + 0)), (1, .int a0), (2, .ref (B + 265))] := hl
  refine lv_aload_n K.1.1 K.1.2.1 dL_goneIn_0 rfl (lv_at hl 2 rfl) ?_
  refine lv_iconst (v := 0) K.1.1 K.1.2.1 dL_goneIn_1 (by decide) ?_
  refine lv_aload_n K.1.1 K.1.2.1 dL_goneIn_2 rfl (lv_at hl 0 rfl) ?_
  refine lv_iload_n K.1.1 K.1.2.1 dL_goneIn_3 rfl (lv_at hl 1 rfl) ?_
  refine l_cV (n := 1) (As := [.int a0]) (rest := [.int 0, .ref (B + 265)]) (k := 0) K hP.1 hS hM (by decide) sh_0 rfl q_1114 q_1115 q_1116 q_82 q_1117 hv_X10_goneIn ⟨Nat.succ_le_succ hfr, Nat.add_le_add_left hlo _⟩ rfl hl.1 rfl (Nat.le_of_ble_eq_true rfl) dL_goneIn_4 ⟨Nat.zero_le _, Nat.zero_le _⟩ (fun H locs hP1 hS hq => ?_)
  have hP := hP.kept hP1 hq
  refine lv_topi (fun r er => ?_)
  refine lv_i2l K.1.1 K.1.2.1 dL_goneIn_7 rfl ?_
  refine l_last K hA hP (S_AB hS) dL_goneIn_8 (fun H locs hP hS => ?_)
  refine lv_goto (tgt := 15) K.1.1 K.1.2.1 dL_goneIn_9 (by decide) ?_
  refine lv_iconst (v := 0) K.1.1 K.1.2.1 dL_goneIn_15 (by decide) ?_
  refine W.widen (k := 1) (n := 6) (by decide) (by decide) ?_
  exact l_ret K hr hlocks hP hS dL_goneIn_16 rfl (by rw [er])

set_option maxHeartbeats 4000000 in
set_option maxRecDepth 100000 in
theorem L_goneIn_1 (l : Launch) (G : GG) (B : Nat) (cL : ClassId) (μ : Mm) (x : Int64) (a0 : Int32) {fr lo : Nat} (hfr : fr ≤ 7) (hlo : lo ≤ 114) (hM : XM l yX10_goneIn (.code yX10_goneIn cX10_goneIn 3 (Option.some FieldType.int)) fr lo G B [.ref (B + 0), .int a0] μ IOE) : LM l yL_goneIn (.codeWith yL_goneIn cL_goneIn 4 (Option.some FieldType.int) [(0, 9, 12, 20)]) 8 136 1 6 G B cL [.ref (B + 0), .int a0, .ref (B + 265)] μ x 1 μ x := by
  refine LM.of (by decide) (Nat.le_of_ble_eq_true rfl) ?_
  intro p e s m below meth c ls K hD hA htab hr hlocks hP hl
  have hS : va_S (AA B) s.heap s.heap [] := va_S.rf
  have hl : lv_has ls 4 [(0, .ref (B + 0)), (1, .int a0), (2, .ref (B + 265))] := hl
  refine lv_aload_n K.1.1 K.1.2.1 dL_goneIn_0 rfl (lv_at hl 2 rfl) ?_
  refine lv_iconst (v := 0) K.1.1 K.1.2.1 dL_goneIn_1 (by decide) ?_
  refine lv_aload_n K.1.1 K.1.2.1 dL_goneIn_2 rfl (lv_at hl 0 rfl) ?_
  refine lv_iload_n K.1.1 K.1.2.1 dL_goneIn_3 rfl (lv_at hl 1 rfl) ?_
  refine l_cX (n := 1) (As := [.int a0]) (rest := [.int 0, .ref (B + 265)]) (k := 0) K hP.1 hS hD hM (by decide) sh_0 rfl q_1114 q_1115 q_1116 q_82 q_1117 hv_X10_goneIn ⟨Nat.succ_le_succ hfr, Nat.add_le_add_left hlo _⟩ rfl hl.1 rfl (Nat.le_of_ble_eq_true rfl) dL_goneIn_4 ⟨Nat.le_of_ble_eq_true rfl, Nat.le_of_ble_eq_true rfl⟩ (fun ce q9 H locs hP1 hS hq h1 h2 h3 => ?_)
  have hP := hP.kept hP1 hq
  refine vx_catch (own := RL) (name := IOE) (E := IOE) K.1.2.2.2.1 [] ⟨0, 9, 12, 20⟩ [] htab (fun z hz => by cases hz) (by decide) (by decide) (K.w q_937) (va_Nw.use rfl K.2.2.1.2.2.2.1.1) h1 h2 h3 ?_
  refine lv_astore_n (lv' := [(3, .ref q9), (0, .ref (B + 0)), (1, .int a0), (2, .ref (B + 265))]) K.1.1 K.1.2.1 dL_goneIn_12 rfl hl (by decide) rfl (fun ls hl => ?_)
  refine lv_iconst (v := 1) K.1.1 K.1.2.1 dL_goneIn_13 (by decide) ?_
  exact l_ret K hr hlocks hP (S_AB hS) dL_goneIn_14 rfl rfl

set_option maxHeartbeats 4000000 in
set_option maxRecDepth 100000 in
theorem L_type_ok (l : Launch) (G : GG) (B : Nat) (cL : ClassId) (μ : Mm) (x : Int64) (a0 : Int32) {fr lo : Nat} (hfr : fr ≤ 7) (hlo : lo ≤ 110) {v : Int32} {μ' : Mm} (hM : CM l yX10_type (.code yX10_type cX10_type 2 (Option.some FieldType.int)) fr lo G B [.ref (B + 0), .int a0] μ (some (.int v)) μ') : LM l yL_type (.codeWith yL_type cL_type 4 (Option.some FieldType.int) [(0, 9, 12, 13), (0, 9, 15, 15)]) 8 131 1 6 G B cL [.ref (B + 0), .int a0, .ref (B + 265)] μ x 0 μ' (v.toInt64) := by
  refine LM.of (by decide) (Nat.le_of_ble_eq_true rfl) ?_
  intro p e s m below meth c ls K hD hA htab hr hlocks hP hl
  have hS : va_S (AA B) s.heap s.heap [] := va_S.rf
  have hl : lv_has ls 4 [(0, .ref (B + 0)), (1, .int a0), (2, .ref (B + 265))] := hl
  refine lv_aload_n K.1.1 K.1.2.1 dL_type_0 rfl (lv_at hl 2 rfl) ?_
  refine lv_iconst (v := 0) K.1.1 K.1.2.1 dL_type_1 (by decide) ?_
  refine lv_aload_n K.1.1 K.1.2.1 dL_type_2 rfl (lv_at hl 0 rfl) ?_
  refine lv_iload_n K.1.1 K.1.2.1 dL_type_3 rfl (lv_at hl 1 rfl) ?_
  refine l_cV (n := 1) (As := [.int a0]) (rest := [.int 0, .ref (B + 265)]) (k := 0) K hP.1 hS hM (by decide) sh_0 rfl q_1121 q_1122 q_1123 q_82 q_1124 hv_X10_type ⟨Nat.succ_le_succ hfr, Nat.add_le_add_left hlo _⟩ rfl hl.1 rfl (Nat.le_of_ble_eq_true rfl) dL_type_4 ⟨Nat.zero_le _, Nat.zero_le _⟩ (fun H locs hP1 hS hq => ?_)
  have hP := hP.kept hP1 hq
  refine lv_topi (fun r er => ?_)
  refine lv_i2l K.1.1 K.1.2.1 dL_type_7 rfl ?_
  refine l_last K hA hP (S_AB hS) dL_type_8 (fun H locs hP hS => ?_)
  refine lv_goto (tgt := 18) K.1.1 K.1.2.1 dL_type_9 (by decide) ?_
  refine lv_iconst (v := 0) K.1.1 K.1.2.1 dL_type_18 (by decide) ?_
  refine W.widen (k := 1) (n := 6) (by decide) (by decide) ?_
  exact l_ret K hr hlocks hP hS dL_type_19 rfl (by rw [er])

set_option maxHeartbeats 4000000 in
set_option maxRecDepth 100000 in
theorem L_type_1 (l : Launch) (G : GG) (B : Nat) (cL : ClassId) (μ : Mm) (x : Int64) (a0 : Int32) {fr lo : Nat} (hfr : fr ≤ 7) (hlo : lo ≤ 110) (hM : XM l yX10_type (.code yX10_type cX10_type 2 (Option.some FieldType.int)) fr lo G B [.ref (B + 0), .int a0] μ IAE) : LM l yL_type (.codeWith yL_type cL_type 4 (Option.some FieldType.int) [(0, 9, 12, 13), (0, 9, 15, 15)]) 8 131 1 6 G B cL [.ref (B + 0), .int a0, .ref (B + 265)] μ x 1 μ x := by
  refine LM.of (by decide) (Nat.le_of_ble_eq_true rfl) ?_
  intro p e s m below meth c ls K hD hA htab hr hlocks hP hl
  have hS : va_S (AA B) s.heap s.heap [] := va_S.rf
  have hl : lv_has ls 4 [(0, .ref (B + 0)), (1, .int a0), (2, .ref (B + 265))] := hl
  refine lv_aload_n K.1.1 K.1.2.1 dL_type_0 rfl (lv_at hl 2 rfl) ?_
  refine lv_iconst (v := 0) K.1.1 K.1.2.1 dL_type_1 (by decide) ?_
  refine lv_aload_n K.1.1 K.1.2.1 dL_type_2 rfl (lv_at hl 0 rfl) ?_
  refine lv_iload_n K.1.1 K.1.2.1 dL_type_3 rfl (lv_at hl 1 rfl) ?_
  refine l_cX (n := 1) (As := [.int a0]) (rest := [.int 0, .ref (B + 265)]) (k := 0) K hP.1 hS hD hM (by decide) sh_0 rfl q_1121 q_1122 q_1123 q_82 q_1124 hv_X10_type ⟨Nat.succ_le_succ hfr, Nat.add_le_add_left hlo _⟩ rfl hl.1 rfl (Nat.le_of_ble_eq_true rfl) dL_type_4 ⟨Nat.le_of_ble_eq_true rfl, Nat.le_of_ble_eq_true rfl⟩ (fun ce q9 H locs hP1 hS hq h1 h2 h3 => ?_)
  have hP := hP.kept hP1 hq
  refine vx_catch (own := RL) (name := IAE) (E := IAE) K.1.2.2.2.1 [] ⟨0, 9, 12, 13⟩ [⟨0, 9, 15, 15⟩] htab (fun z hz => by cases hz) (by decide) (by decide) (K.w q_825) (va_Nw.use rfl K.2.2.1.2.2.2.1.2.1) h1 h2 h3 ?_
  refine lv_astore_n (lv' := [(3, .ref q9), (0, .ref (B + 0)), (1, .int a0), (2, .ref (B + 265))]) K.1.1 K.1.2.1 dL_type_12 rfl hl (by decide) rfl (fun ls hl => ?_)
  refine lv_iconst (v := 1) K.1.1 K.1.2.1 dL_type_13 (by decide) ?_
  exact l_ret K hr hlocks hP (S_AB hS) dL_type_14 rfl rfl

set_option maxHeartbeats 4000000 in
set_option maxRecDepth 100000 in
theorem L_type_2 (l : Launch) (G : GG) (B : Nat) (cL : ClassId) (μ : Mm) (x : Int64) (a0 : Int32) {fr lo : Nat} (hfr : fr ≤ 7) (hlo : lo ≤ 110) (hM : XM l yX10_type (.code yX10_type cX10_type 2 (Option.some FieldType.int)) fr lo G B [.ref (B + 0), .int a0] μ ISE) : LM l yL_type (.codeWith yL_type cL_type 4 (Option.some FieldType.int) [(0, 9, 12, 13), (0, 9, 15, 15)]) 8 131 1 6 G B cL [.ref (B + 0), .int a0, .ref (B + 265)] μ x 2 μ x := by
  refine LM.of (by decide) (Nat.le_of_ble_eq_true rfl) ?_
  intro p e s m below meth c ls K hD hA htab hr hlocks hP hl
  have hS : va_S (AA B) s.heap s.heap [] := va_S.rf
  have hl : lv_has ls 4 [(0, .ref (B + 0)), (1, .int a0), (2, .ref (B + 265))] := hl
  refine lv_aload_n K.1.1 K.1.2.1 dL_type_0 rfl (lv_at hl 2 rfl) ?_
  refine lv_iconst (v := 0) K.1.1 K.1.2.1 dL_type_1 (by decide) ?_
  refine lv_aload_n K.1.1 K.1.2.1 dL_type_2 rfl (lv_at hl 0 rfl) ?_
  refine lv_iload_n K.1.1 K.1.2.1 dL_type_3 rfl (lv_at hl 1 rfl) ?_
  refine l_cX (n := 1) (As := [.int a0]) (rest := [.int 0, .ref (B + 265)]) (k := 0) K hP.1 hS hD hM (by decide) sh_0 rfl q_1121 q_1122 q_1123 q_82 q_1124 hv_X10_type ⟨Nat.succ_le_succ hfr, Nat.add_le_add_left hlo _⟩ rfl hl.1 rfl (Nat.le_of_ble_eq_true rfl) dL_type_4 ⟨Nat.le_of_ble_eq_true rfl, Nat.le_of_ble_eq_true rfl⟩ (fun ce q9 H locs hP1 hS hq h1 h2 h3 => ?_)
  have hP := hP.kept hP1 hq
  refine vx_catch (own := RL) (name := ISE) (E := ISE) K.1.2.2.2.1 [⟨0, 9, 12, 13⟩] ⟨0, 9, 15, 15⟩ [] htab (fun z hz => by
    simp only [List.mem_cons, List.not_mem_nil, or_false] at hz
    rcases hz with rfl
    · exact Or.inr ⟨by decide, IAE, K.w q_825, K.2.2.1.2.2.2.2.1.2.2.2.2.2⟩) (by decide) (by decide) (K.w q_826) (va_Nw.use rfl K.2.2.1.2.2.2.1.2.2) h1 h2 h3 ?_
  refine lv_astore_n (lv' := [(3, .ref q9), (0, .ref (B + 0)), (1, .int a0), (2, .ref (B + 265))]) K.1.1 K.1.2.1 dL_type_15 rfl hl (by decide) rfl (fun ls hl => ?_)
  refine lv_iconst (v := 2) K.1.1 K.1.2.1 dL_type_16 (by decide) ?_
  exact l_ret K hr hlocks hP (S_AB hS) dL_type_17 rfl rfl

set_option maxHeartbeats 4000000 in
set_option maxRecDepth 100000 in
theorem L_undo_ok (l : Launch) (G : GG) (B : Nat) (cL : ClassId) (μ : Mm) (x : Int64) {fr lo : Nat} (hfr : fr ≤ 7) (hlo : lo ≤ 110) {v : Int32} {μ' : Mm} (hM : CM l yX10_undo (.code yX10_undo cX10_undo 1 (Option.some FieldType.int)) fr lo G B [.ref (B + 0)] μ (some (.int v)) μ') : LM l yL_undo (.codeWith yL_undo cL_undo 3 (Option.some FieldType.int) [(0, 8, 11, 15)]) 8 130 1 6 G B cL [.ref (B + 0), .ref (B + 265)] μ x 0 μ' (v.toInt64) := by
  refine LM.of (by decide) (Nat.le_of_ble_eq_true rfl) ?_
  intro p e s m below meth c ls K hD hA htab hr hlocks hP hl
  have hS : va_S (AA B) s.heap s.heap [] := va_S.rf
  have hl : lv_has ls 3 [(0, .ref (B + 0)), (1, .ref (B + 265))] := hl
  refine lv_aload_n K.1.1 K.1.2.1 dL_undo_0 rfl (lv_at hl 1 rfl) ?_
  refine lv_iconst (v := 0) K.1.1 K.1.2.1 dL_undo_1 (by decide) ?_
  refine lv_aload_n K.1.1 K.1.2.1 dL_undo_2 rfl (lv_at hl 0 rfl) ?_
  refine l_cV (n := 0) (As := []) (rest := [.int 0, .ref (B + 265)]) (k := 0) K hP.1 hS hM (by decide) sh_0 rfl q_1136 q_1137 q_1138 q_82 q_1139 hv_X10_undo ⟨Nat.succ_le_succ hfr, Nat.add_le_add_left hlo _⟩ rfl hl.1 rfl (Nat.le_of_ble_eq_true rfl) dL_undo_3 ⟨Nat.zero_le _, Nat.zero_le _⟩ (fun H locs hP1 hS hq => ?_)
  have hP := hP.kept hP1 hq
  refine lv_topi (fun r er => ?_)
  refine lv_i2l K.1.1 K.1.2.1 dL_undo_6 rfl ?_
  refine l_last K hA hP (S_AB hS) dL_undo_7 (fun H locs hP hS => ?_)
  refine lv_goto (tgt := 14) K.1.1 K.1.2.1 dL_undo_8 (by decide) ?_
  refine lv_iconst (v := 0) K.1.1 K.1.2.1 dL_undo_14 (by decide) ?_
  refine W.widen (k := 1) (n := 6) (by decide) (by decide) ?_
  exact l_ret K hr hlocks hP hS dL_undo_15 rfl (by rw [er])

set_option maxHeartbeats 4000000 in
set_option maxRecDepth 100000 in
theorem L_undo_1 (l : Launch) (G : GG) (B : Nat) (cL : ClassId) (μ : Mm) (x : Int64) {fr lo : Nat} (hfr : fr ≤ 7) (hlo : lo ≤ 110) (hM : XM l yX10_undo (.code yX10_undo cX10_undo 1 (Option.some FieldType.int)) fr lo G B [.ref (B + 0)] μ ISE) : LM l yL_undo (.codeWith yL_undo cL_undo 3 (Option.some FieldType.int) [(0, 8, 11, 15)]) 8 130 1 6 G B cL [.ref (B + 0), .ref (B + 265)] μ x 1 μ x := by
  refine LM.of (by decide) (Nat.le_of_ble_eq_true rfl) ?_
  intro p e s m below meth c ls K hD hA htab hr hlocks hP hl
  have hS : va_S (AA B) s.heap s.heap [] := va_S.rf
  have hl : lv_has ls 3 [(0, .ref (B + 0)), (1, .ref (B + 265))] := hl
  refine lv_aload_n K.1.1 K.1.2.1 dL_undo_0 rfl (lv_at hl 1 rfl) ?_
  refine lv_iconst (v := 0) K.1.1 K.1.2.1 dL_undo_1 (by decide) ?_
  refine lv_aload_n K.1.1 K.1.2.1 dL_undo_2 rfl (lv_at hl 0 rfl) ?_
  refine l_cX (n := 0) (As := []) (rest := [.int 0, .ref (B + 265)]) (k := 0) K hP.1 hS hD hM (by decide) sh_0 rfl q_1136 q_1137 q_1138 q_82 q_1139 hv_X10_undo ⟨Nat.succ_le_succ hfr, Nat.add_le_add_left hlo _⟩ rfl hl.1 rfl (Nat.le_of_ble_eq_true rfl) dL_undo_3 ⟨Nat.le_of_ble_eq_true rfl, Nat.le_of_ble_eq_true rfl⟩ (fun ce q9 H locs hP1 hS hq h1 h2 h3 => ?_)
  have hP := hP.kept hP1 hq
  refine vx_catch (own := RL) (name := ISE) (E := ISE) K.1.2.2.2.1 [] ⟨0, 8, 11, 15⟩ [] htab (fun z hz => by cases hz) (by decide) (by decide) (K.w q_826) (va_Nw.use rfl K.2.2.1.2.2.2.1.2.2) h1 h2 h3 ?_
  refine lv_astore_n (lv' := [(2, .ref q9), (0, .ref (B + 0)), (1, .ref (B + 265))]) K.1.1 K.1.2.1 dL_undo_11 rfl hl (by decide) rfl (fun ls hl => ?_)
  refine lv_iconst (v := 1) K.1.1 K.1.2.1 dL_undo_12 (by decide) ?_
  exact l_ret K hr hlocks hP (S_AB hS) dL_undo_13 rfl rfl

