set_option maxHeartbeats 4000000 in
set_option maxRecDepth 100000 in
theorem ML_tries_ok (l : Launch) (G : GG) (B : Nat) (μ : Mm) (w a b : Int32) {fr lo : Nat} (hfr : fr ≤ 9) (hlo : lo ≤ 155) {v : Int32} {μ' : Mm} (hM : CM l yL_turn (.code yL_turn cL_turn 5 (Option.some FieldType.int)) fr lo G B [.ref (B + 0), .int w, .int a, .int b] μ (some (.int v)) μ') : ELM l yL_tries (.codeWith yL_tries cL_tries 5 (Option.some FieldType.int) [(0, 7, 8, 15), (0, 7, 13, 17), (0, 7, 18, 92)]) 10 179 1 6 G B [.ref (B + 0), .int w, .int a, .int b] μ (some (.int v)) μ' := by
  refine ELM.ofH (by decide) (Nat.le_of_ble_eq_true rfl) ?_
  intro p e s m below meth c ls K hD htab hr hlocks hP hl
  have hS : va_S (AA B) s.heap s.heap [] := va_S.rf
  have hl : lv_has ls 5 [(0, .ref (B + 0)), (1, .int w), (2, .int a), (3, .int b)] := hl
  refine lv_aload_n K.1.1 K.1.2.1 dL_tries_0 rfl (lv_at hl 0 rfl) ?_
  refine lv_iload_n K.1.1 K.1.2.1 dL_tries_1 rfl (lv_at hl 1 rfl) ?_
  refine lv_iload_n K.1.1 K.1.2.1 dL_tries_2 rfl (lv_at hl 2 rfl) ?_
  refine lv_iload_n K.1.1 K.1.2.1 dL_tries_3 rfl (lv_at hl 3 rfl) ?_
  refine m_cS (n := 4) (As := [.ref (B + 0), .int w, .int a, .int b]) (rest := []) K hP hS hM q_630 q_631 q_14 q_632 hw_turn ⟨Nat.succ_le_succ hfr, Nat.add_le_add_left hlo _⟩ rfl hl.1 rfl (Nat.le_of_ble_eq_true rfl) dL_tries_4 ⟨Nat.zero_le _, Nat.zero_le _⟩ (fun H locs hP hS => ?_)
  exact e_iret K hr hlocks hP hS dL_tries_7 rfl rfl (by omega)

set_option maxHeartbeats 4000000 in
set_option maxRecDepth 100000 in
theorem ML_tries_IOE (l : Launch) (G : GG) (B : Nat) (μ : Mm) (w a b : Int32) {fr lo : Nat} (hfr : fr ≤ 9) (hlo : lo ≤ 155) (hM : XM l yL_turn (.code yL_turn cL_turn 5 (Option.some FieldType.int)) fr lo G B [.ref (B + 0), .int w, .int a, .int b] μ IOE) : ELM l yL_tries (.codeWith yL_tries cL_tries 5 (Option.some FieldType.int) [(0, 7, 8, 15), (0, 7, 13, 17), (0, 7, 18, 92)]) 10 179 1 6 G B [.ref (B + 0), .int w, .int a, .int b] μ (some (.int (-1000000000))) μ := by
  refine ELM.ofH (by decide) (Nat.le_of_ble_eq_true rfl) ?_
  intro p e s m below meth c ls K hD htab hr hlocks hP hl
  have hS : va_S (AA B) s.heap s.heap [] := va_S.rf
  have hl : lv_has ls 5 [(0, .ref (B + 0)), (1, .int w), (2, .int a), (3, .int b)] := hl
  refine lv_aload_n K.1.1 K.1.2.1 dL_tries_0 rfl (lv_at hl 0 rfl) ?_
  refine lv_iload_n K.1.1 K.1.2.1 dL_tries_1 rfl (lv_at hl 1 rfl) ?_
  refine lv_iload_n K.1.1 K.1.2.1 dL_tries_2 rfl (lv_at hl 2 rfl) ?_
  refine lv_iload_n K.1.1 K.1.2.1 dL_tries_3 rfl (lv_at hl 3 rfl) ?_
  refine e_cX (n := 4) (As := [.ref (B + 0), .int w, .int a, .int b]) (rest := []) K hP hS hD hM q_630 q_631 q_14 q_632 hw_turn ⟨Nat.succ_le_succ hfr, Nat.add_le_add_left hlo _⟩ rfl hl.1 rfl (Nat.le_of_ble_eq_true rfl) dL_tries_4 ⟨Nat.le_of_ble_eq_true rfl, Nat.le_of_ble_eq_true rfl⟩ (fun ce q9 H locs hP hS h1 h2 h3 => ?_)
  refine vx_catch (own := RL) (name := IOE) (E := IOE) K.1.2.2.2.1 [] ⟨0, 7, 8, 15⟩ [⟨0, 7, 13, 17⟩, ⟨0, 7, 18, 92⟩] htab (fun z hz => by cases hz) (by decide) (by decide) (K.w q_604) (va_Nw.use rfl K.2.2.1.2.1.1) h1 h2 h3 ?_
  refine lv_astore (lv' := [(4, .ref q9), (0, .ref (B + 0)), (1, .int w), (2, .int a), (3, .int b)]) K.1.1 K.1.2.1 dL_tries_8 hl (by decide) rfl (fun ls hl => ?_)
  refine lv_ldc (own := RL) (v := (-1000000000)) K.1.1 K.1.2.1 K.1.2.2.2.1 (K.w q_854) dL_tries_10 ?_
  exact e_iret K hr hlocks hP hS dL_tries_12 rfl rfl (by omega)

set_option maxHeartbeats 4000000 in
set_option maxRecDepth 100000 in
theorem ML_tries_IAE (l : Launch) (G : GG) (B : Nat) (μ : Mm) (w a b : Int32) {fr lo : Nat} (hfr : fr ≤ 9) (hlo : lo ≤ 155) (hM : XM l yL_turn (.code yL_turn cL_turn 5 (Option.some FieldType.int)) fr lo G B [.ref (B + 0), .int w, .int a, .int b] μ IAE) : ELM l yL_tries (.codeWith yL_tries cL_tries 5 (Option.some FieldType.int) [(0, 7, 8, 15), (0, 7, 13, 17), (0, 7, 18, 92)]) 10 179 1 6 G B [.ref (B + 0), .int w, .int a, .int b] μ (some (.int (-1000000000))) μ := by
  refine ELM.ofH (by decide) (Nat.le_of_ble_eq_true rfl) ?_
  intro p e s m below meth c ls K hD htab hr hlocks hP hl
  have hS : va_S (AA B) s.heap s.heap [] := va_S.rf
  have hl : lv_has ls 5 [(0, .ref (B + 0)), (1, .int w), (2, .int a), (3, .int b)] := hl
  refine lv_aload_n K.1.1 K.1.2.1 dL_tries_0 rfl (lv_at hl 0 rfl) ?_
  refine lv_iload_n K.1.1 K.1.2.1 dL_tries_1 rfl (lv_at hl 1 rfl) ?_
  refine lv_iload_n K.1.1 K.1.2.1 dL_tries_2 rfl (lv_at hl 2 rfl) ?_
  refine lv_iload_n K.1.1 K.1.2.1 dL_tries_3 rfl (lv_at hl 3 rfl) ?_
  refine e_cX (n := 4) (As := [.ref (B + 0), .int w, .int a, .int b]) (rest := []) K hP hS hD hM q_630 q_631 q_14 q_632 hw_turn ⟨Nat.succ_le_succ hfr, Nat.add_le_add_left hlo _⟩ rfl hl.1 rfl (Nat.le_of_ble_eq_true rfl) dL_tries_4 ⟨Nat.le_of_ble_eq_true rfl, Nat.le_of_ble_eq_true rfl⟩ (fun ce q9 H locs hP hS h1 h2 h3 => ?_)
  refine vx_catch (own := RL) (name := IAE) (E := IAE) K.1.2.2.2.1 [⟨0, 7, 8, 15⟩] ⟨0, 7, 13, 17⟩ [⟨0, 7, 18, 92⟩] htab (fun z hz => by
    simp only [List.mem_cons, List.not_mem_nil, or_false] at hz
    rcases hz with rfl
    · exact Or.inr ⟨by decide, IOE, K.w q_604, K.2.2.1.2.2.1.2.2.1⟩) (by decide) (by decide) (K.w q_605) (va_Nw.use rfl K.2.2.1.2.1.2.1) h1 h2 h3 ?_
  refine lv_astore (lv' := [(4, .ref q9), (0, .ref (B + 0)), (1, .int w), (2, .int a), (3, .int b)]) K.1.1 K.1.2.1 dL_tries_13 hl (by decide) rfl (fun ls hl => ?_)
  refine lv_ldc (own := RL) (v := (-1000000000)) K.1.1 K.1.2.1 K.1.2.2.2.1 (K.w q_854) dL_tries_15 ?_
  exact e_iret K hr hlocks hP hS dL_tries_17 rfl rfl (by omega)

set_option maxHeartbeats 4000000 in
set_option maxRecDepth 100000 in
theorem ML_tries_ISE (l : Launch) (G : GG) (B : Nat) (μ : Mm) (w a b : Int32) {fr lo : Nat} (hfr : fr ≤ 9) (hlo : lo ≤ 155) (hM : XM l yL_turn (.code yL_turn cL_turn 5 (Option.some FieldType.int)) fr lo G B [.ref (B + 0), .int w, .int a, .int b] μ ISE) : ELM l yL_tries (.codeWith yL_tries cL_tries 5 (Option.some FieldType.int) [(0, 7, 8, 15), (0, 7, 13, 17), (0, 7, 18, 92)]) 10 179 1 6 G B [.ref (B + 0), .int w, .int a, .int b] μ (some (.int (-1000000000))) μ := by
  refine ELM.ofH (by decide) (Nat.le_of_ble_eq_true rfl) ?_
  intro p e s m below meth c ls K hD htab hr hlocks hP hl
  have hS : va_S (AA B) s.heap s.heap [] := va_S.rf
  have hl : lv_has ls 5 [(0, .ref (B + 0)), (1, .int w), (2, .int a), (3, .int b)] := hl
  refine lv_aload_n K.1.1 K.1.2.1 dL_tries_0 rfl (lv_at hl 0 rfl) ?_
  refine lv_iload_n K.1.1 K.1.2.1 dL_tries_1 rfl (lv_at hl 1 rfl) ?_
  refine lv_iload_n K.1.1 K.1.2.1 dL_tries_2 rfl (lv_at hl 2 rfl) ?_
  refine lv_iload_n K.1.1 K.1.2.1 dL_tries_3 rfl (lv_at hl 3 rfl) ?_
  refine e_cX (n := 4) (As := [.ref (B + 0), .int w, .int a, .int b]) (rest := []) K hP hS hD hM q_630 q_631 q_14 q_632 hw_turn ⟨Nat.succ_le_succ hfr, Nat.add_le_add_left hlo _⟩ rfl hl.1 rfl (Nat.le_of_ble_eq_true rfl) dL_tries_4 ⟨Nat.le_of_ble_eq_true rfl, Nat.le_of_ble_eq_true rfl⟩ (fun ce q9 H locs hP hS h1 h2 h3 => ?_)
  refine vx_catch (own := RL) (name := ISE) (E := ISE) K.1.2.2.2.1 [⟨0, 7, 8, 15⟩, ⟨0, 7, 13, 17⟩] ⟨0, 7, 18, 92⟩ [] htab (fun z hz => by
    simp only [List.mem_cons, List.not_mem_nil, or_false] at hz
    rcases hz with rfl | rfl
    · exact Or.inr ⟨by decide, IOE, K.w q_604, K.2.2.1.2.2.1.2.2.2.2.1⟩
    · exact Or.inr ⟨by decide, IAE, K.w q_605, K.2.2.1.2.2.1.2.2.2.2.2⟩) (by decide) (by decide) (K.w q_629) (va_Nw.use rfl K.2.2.1.2.1.2.2) h1 h2 h3 ?_
  refine lv_astore (lv' := [(4, .ref q9), (0, .ref (B + 0)), (1, .int w), (2, .int a), (3, .int b)]) K.1.1 K.1.2.1 dL_tries_18 hl (by decide) rfl (fun ls hl => ?_)
  refine lv_ldc (own := RL) (v := (-1000000000)) K.1.1 K.1.2.1 K.1.2.2.2.1 (K.w q_854) dL_tries_20 ?_
  exact e_iret K hr hlocks hP hS dL_tries_22 rfl rfl (by omega)

abbrev TOK (l : Launch) (G : GG) (B : Nat) (μ : Mm) (w a b v : Int32) (μ' : Mm) : Prop := ELM l yL_tries (.codeWith yL_tries cL_tries 5 (Option.some FieldType.int) [(0, 7, 8, 15), (0, 7, 13, 17), (0, 7, 18, 92)]) 10 179 1 6 G B [.ref (B + 0), .int w, .int a, .int b] μ (some (.int v)) μ'

set_option maxHeartbeats 4000000 in
set_option maxRecDepth 100000 in
theorem ML_isUndone (l : Launch) (hfl : l.stackTraces = false) (G : GG) (B : Nat) (μ : Mm) (w : Int32) (a : Int32) (b : Int32) (got : Int32) (before : Int64) {μa μb μc μd μe : Mm} {v0 : Int64} {u : Int32} (hA : ELM l yL_view (.code yL_view cL_view 6 (Option.some FieldType.long)) 9 154 40 240 G B [.ref (B + 0)] μ (some (.long v0)) μa) (hU : CM l yX10_undo (.code yX10_undo cX10_undo 1 (Option.some FieldType.int)) 5 107 G B [.ref (B + 0)] μa (some (.int u)) μb) (hC : ELM l yL_view (.code yL_view cL_view 6 (Option.some FieldType.long)) 9 154 40 240 G B [.ref (B + 0)] μb (some (.long before)) μc) (hT : TOK l G B μc w a b got μd) (hE : ELM l yL_view (.code yL_view cL_view 6 (Option.some FieldType.long)) 9 154 40 240 G B [.ref (B + 0)] μd (some (.long v0)) μe) : ELM l yL_isUndone (.code yL_isUndone cL_isUndone 9 (Option.some FieldType.boolean)) 11 203 200 1200 G B [.ref (B + 0), .int w, .int a, .int b, .int got, .long before] μ (some (.int (1))) (μe) := by
  refine ELM.of (by decide) (Nat.le_of_ble_eq_true rfl) ?_
  intro p e s m below meth c ls K hD hr hlocks hP hl
  have hS : va_S (AA B) s.heap s.heap [] := va_S.rf
  have hl : lv_has ls 9 [(0, .ref (B + 0)), (1, .int w), (2, .int a), (3, .int b), (4, .int got), (5, .long before)] := hl
  refine lv_aload_n K.1.1 K.1.2.1 dL_isUndone_0 rfl (lv_at hl 0 rfl) ?_
  refine e_cS (n := 1) (As := [.ref (B + 0)]) (rest := []) K hP hS hD hA q_580 q_581 q_14 q_582 hw_view ⟨Nat.le_of_ble_eq_true rfl, Nat.le_of_ble_eq_true rfl⟩ rfl hl.1 rfl (Nat.le_of_ble_eq_true rfl) dL_isUndone_1 ⟨by show _ ≤ 200; omega, by show _ ≤ 1200; omega⟩ (fun H locs hP hS => ?_)
  refine lv_topl (fun r_1 er_1 => ?_)
  refine lv_lstore (lv' := [(7, .long r_1), (0, .ref (B + 0)), (1, .int w), (2, .int a), (3, .int b), (4, .int got), (5, .long before)]) K.1.1 K.1.2.1 dL_isUndone_4 hl (by decide) rfl (fun ls hl => ?_)
  refine lv_aload_n K.1.1 K.1.2.1 dL_isUndone_6 rfl (lv_at hl 1 rfl) ?_
  refine m_cV (n := 0) (As := []) (rest := []) (k := 0) K hP hS hU (by decide) sh_0 rfl q_861 q_862 q_863 q_15 q_864 hv_X10_undo ⟨Nat.le_of_ble_eq_true rfl, Nat.le_of_ble_eq_true rfl⟩ rfl hl.1 rfl (Nat.le_of_ble_eq_true rfl) dL_isUndone_7 ⟨by show _ ≤ 200; omega, by show _ ≤ 1200; omega⟩ (fun H locs hP hS => ?_)
  refine lv_pop K.1.1 K.1.2.1 dL_isUndone_10 rfl ?_
  refine lv_aload_n K.1.1 K.1.2.1 dL_isUndone_11 rfl (lv_at hl 1 rfl) ?_
  refine e_cS (n := 1) (As := [.ref (B + 0)]) (rest := []) K hP hS hD hC q_580 q_581 q_14 q_582 hw_view ⟨Nat.le_of_ble_eq_true rfl, Nat.le_of_ble_eq_true rfl⟩ rfl hl.1 rfl (Nat.le_of_ble_eq_true rfl) dL_isUndone_12 ⟨by show _ ≤ 200; omega, by show _ ≤ 1200; omega⟩ (fun H locs hP hS => ?_)
  refine lv_topl (fun r_2 er_2 => ?_)
  refine lv_lload K.1.1 K.1.2.1 dL_isUndone_15 (lv_at hl 6 rfl) ?_
  refine W.lcmp K.1.1 K.1.2.1 dL_isUndone_17 ?_
  refine lv_if_ne (tgt := 47) K.1.1 K.1.2.1 dL_isUndone_18 (by decide) (fun c_18 => ?_) (fun c_18 => ?_)
  · exact absurd c_18 (not_not_intro (by subst er_1 er_2; exact cmp_rfl _))
  · refine lv_aload_n K.1.1 K.1.2.1 dL_isUndone_21 rfl (lv_at hl 1 rfl) ?_
    refine lv_iload_n K.1.1 K.1.2.1 dL_isUndone_22 rfl (lv_at hl 2 rfl) ?_
    refine lv_iload_n K.1.1 K.1.2.1 dL_isUndone_23 rfl (lv_at hl 3 rfl) ?_
    refine lv_iload_n K.1.1 K.1.2.1 dL_isUndone_24 rfl (lv_at hl 4 rfl) ?_
    refine e_cSW (n := 4) (As := [.ref (B + 0), .int w, .int a, .int b]) (rest := []) K hP hS hD hT q_626 q_627 q_14 q_628 hw_tries.2 ⟨Nat.le_of_ble_eq_true rfl, Nat.le_of_ble_eq_true rfl⟩ rfl hl.1 rfl (Nat.le_of_ble_eq_true rfl) dL_isUndone_25 ⟨by show _ ≤ 200; omega, by show _ ≤ 1200; omega⟩ (fun H locs hP hS => ?_)
    refine lv_topi (fun r_3 er_3 => ?_)
    refine lv_iload K.1.1 K.1.2.1 dL_isUndone_28 (lv_at hl 5 rfl) ?_
    refine lv_icmp_ne (tgt := 47) K.1.1 K.1.2.1 dL_isUndone_30 (by decide) (fun c_30 => ?_) (fun c_30 => ?_)
    · exact absurd c_30 (not_not_intro (by subst er_1 er_2 er_3; rfl))
    · refine lv_aload_n K.1.1 K.1.2.1 dL_isUndone_33 rfl (lv_at hl 1 rfl) ?_
      refine e_cS (n := 1) (As := [.ref (B + 0)]) (rest := []) K hP hS hD hE q_580 q_581 q_14 q_582 hw_view ⟨Nat.le_of_ble_eq_true rfl, Nat.le_of_ble_eq_true rfl⟩ rfl hl.1 rfl (Nat.le_of_ble_eq_true rfl) dL_isUndone_34 ⟨by show _ ≤ 200; omega, by show _ ≤ 1200; omega⟩ (fun H locs hP hS => ?_)
      refine lv_topl (fun r_4 er_4 => ?_)
      refine lv_lload K.1.1 K.1.2.1 dL_isUndone_37 (lv_at hl 0 rfl) ?_
      refine W.lcmp K.1.1 K.1.2.1 dL_isUndone_39 ?_
      refine lv_if_ne (tgt := 47) K.1.1 K.1.2.1 dL_isUndone_40 (by decide) (fun c_40 => ?_) (fun c_40 => ?_)
      · exact absurd c_40 (not_not_intro (by subst er_1 er_2 er_3 er_4; exact cmp_rfl _))
      · refine lv_iconst (v := 1) K.1.1 K.1.2.1 dL_isUndone_43 (by decide) ?_
        refine lv_goto (tgt := 48) K.1.1 K.1.2.1 dL_isUndone_44 (by decide) ?_
        exact e_zret K hr hlocks hP hS dL_isUndone_48 (by first | rfl | (subst er_1 er_2 er_3 er_4; rfl)) (by subst er_1 er_2 er_3 er_4; rfl) (by subst er_1 er_2 er_3 er_4; rfl) (by omega)

