set_option maxHeartbeats 4000000 in
set_option maxRecDepth 100000 in
theorem MT_10_x (l : Launch) (G : GG) (B : Nat) (μ : Mm) (a b : Int32) {fr lo : Nat} (hfr : fr ≤ 7) (hlo : lo ≤ 114) {E : String} (hM : XM l yX10_clear (.code yX10_clear cX10_clear 1 (Option.some FieldType.int)) fr lo G B [.ref (B + 0)] μ E) : XM l yL_turn (.code yL_turn cL_turn 5 (Option.some FieldType.int)) 8 134 G B [.ref (B + 0), .int 10, .int a, .int b] μ E := by
  refine XM.of (by decide) (Nat.le_of_ble_eq_true rfl) ?_
  intro p e s m below meth c ls K hD hx hr hlocks hP hl
  have hS : va_S (AA B) s.heap s.heap [] := va_S.rf
  have hl : lv_has ls 5 [(0, .ref (B + 0)), (1, .int 10), (2, .int a), (3, .int b)] := hl
  refine lv_iload_n K.1.1 K.1.2.1 dL_turn_0 rfl (lv_at hl 2 rfl) ?_
  refine lv_bipush (v := 6) K.1.1 K.1.2.1 dL_turn_1 (by decide) ?_
  refine m_cS (n := 2) (As := [.int a, .int 6]) (rest := []) K hP hS (ML_up l G B _ a 6 (by decide)) q_633 q_634 q_14 q_635 hv_L_up ⟨Nat.le_of_ble_eq_true rfl, Nat.le_of_ble_eq_true rfl⟩ rfl hl.1 rfl (Nat.le_of_ble_eq_true rfl) dL_turn_3 ⟨Nat.zero_le _, Nat.zero_le _⟩ (fun H locs hP hS => ?_)
  refine lv_topi (fun r_1 er_1 => ?_)
  refine lv_istore (lv' := [(4, .int r_1), (0, .ref (B + 0)), (1, .int 10), (2, .int a), (3, .int b)]) K.1.1 K.1.2.1 dL_turn_6 hl (by decide) rfl (fun ls hl => ?_)
  refine lv_iload_n K.1.1 K.1.2.1 dL_turn_8 rfl (lv_at hl 2 rfl) ?_
  refine lv_tableIn (off := 192) (tgt := 201) K.1.1 K.1.2.1 dL_turn_9 (by decide) (by decide) rfl (by decide) ?_
  refine lv_aload_n K.1.1 K.1.2.1 dL_turn_201 rfl (lv_at hl 1 rfl) ?_
  exact x_cV (n := 0) (As := []) (rest := []) (k := 0) K hP hS hD hx hlocks (by subst er_1; exact hM) (by decide) sh_0 rfl q_767 q_768 q_769 q_15 q_770 hv_X10_clear ⟨by show _ ≤ 8; omega, by show _ ≤ 134; omega⟩ rfl hl.1 rfl (Nat.le_of_ble_eq_true rfl) dL_turn_202 ⟨Nat.le_of_ble_eq_true rfl, Nat.le_of_ble_eq_true rfl⟩

set_option maxHeartbeats 4000000 in
set_option maxRecDepth 100000 in
theorem MT_11_ok (l : Launch) (G : GG) (B : Nat) (μ : Mm) (a b : Int32) {fr lo : Nat} (hfr : fr ≤ 7) (hlo : lo ≤ 114) {v : Int32} {μ' : Mm} (hM : CM l yX10_clear (.code yX10_clear cX10_clear 1 (Option.some FieldType.int)) fr lo G B [.ref (B + 0)] μ (some (.int v)) μ') : CM l yL_turn (.code yL_turn cL_turn 5 (Option.some FieldType.int)) 8 134 G B [.ref (B + 0), .int 11, .int a, .int b] μ (some (.int v)) μ' := by
  refine CM.of (by decide) (Nat.le_of_ble_eq_true rfl) ?_
  intro p e s m below meth c ls K hr hlocks hP hl
  have hS : va_S (AA B) s.heap s.heap [] := va_S.rf
  have hl : lv_has ls 5 [(0, .ref (B + 0)), (1, .int 11), (2, .int a), (3, .int b)] := hl
  refine lv_iload_n K.1.1 K.1.2.1 dL_turn_0 rfl (lv_at hl 2 rfl) ?_
  refine lv_bipush (v := 6) K.1.1 K.1.2.1 dL_turn_1 (by decide) ?_
  refine m_cS (n := 2) (As := [.int a, .int 6]) (rest := []) K hP hS (ML_up l G B _ a 6 (by decide)) q_633 q_634 q_14 q_635 hv_L_up ⟨Nat.le_of_ble_eq_true rfl, Nat.le_of_ble_eq_true rfl⟩ rfl hl.1 rfl (Nat.le_of_ble_eq_true rfl) dL_turn_3 ⟨Nat.zero_le _, Nat.zero_le _⟩ (fun H locs hP hS => ?_)
  refine lv_topi (fun r_1 er_1 => ?_)
  refine lv_istore (lv' := [(4, .int r_1), (0, .ref (B + 0)), (1, .int 11), (2, .int a), (3, .int b)]) K.1.1 K.1.2.1 dL_turn_6 hl (by decide) rfl (fun ls hl => ?_)
  refine lv_iload_n K.1.1 K.1.2.1 dL_turn_8 rfl (lv_at hl 2 rfl) ?_
  refine lv_tableIn (off := 192) (tgt := 201) K.1.1 K.1.2.1 dL_turn_9 (by decide) (by decide) rfl (by decide) ?_
  refine lv_aload_n K.1.1 K.1.2.1 dL_turn_201 rfl (lv_at hl 1 rfl) ?_
  refine m_cV (n := 0) (As := []) (rest := []) (k := 0) K hP hS (by subst er_1; exact hM) (by decide) sh_0 rfl q_767 q_768 q_769 q_15 q_770 hv_X10_clear ⟨by show _ ≤ 8; omega, by show _ ≤ 134; omega⟩ rfl hl.1 rfl (Nat.le_of_ble_eq_true rfl) dL_turn_202 ⟨Nat.zero_le _, Nat.zero_le _⟩ (fun H locs hP hS => ?_)
  refine lv_topi (fun r_2 er_2 => ?_)
  exact m_iret K hr hlocks hP hS dL_turn_205 (by subst er_2; rfl) (by subst er_2; rfl)

set_option maxHeartbeats 4000000 in
set_option maxRecDepth 100000 in
theorem MT_11_x (l : Launch) (G : GG) (B : Nat) (μ : Mm) (a b : Int32) {fr lo : Nat} (hfr : fr ≤ 7) (hlo : lo ≤ 114) {E : String} (hM : XM l yX10_clear (.code yX10_clear cX10_clear 1 (Option.some FieldType.int)) fr lo G B [.ref (B + 0)] μ E) : XM l yL_turn (.code yL_turn cL_turn 5 (Option.some FieldType.int)) 8 134 G B [.ref (B + 0), .int 11, .int a, .int b] μ E := by
  refine XM.of (by decide) (Nat.le_of_ble_eq_true rfl) ?_
  intro p e s m below meth c ls K hD hx hr hlocks hP hl
  have hS : va_S (AA B) s.heap s.heap [] := va_S.rf
  have hl : lv_has ls 5 [(0, .ref (B + 0)), (1, .int 11), (2, .int a), (3, .int b)] := hl
  refine lv_iload_n K.1.1 K.1.2.1 dL_turn_0 rfl (lv_at hl 2 rfl) ?_
  refine lv_bipush (v := 6) K.1.1 K.1.2.1 dL_turn_1 (by decide) ?_
  refine m_cS (n := 2) (As := [.int a, .int 6]) (rest := []) K hP hS (ML_up l G B _ a 6 (by decide)) q_633 q_634 q_14 q_635 hv_L_up ⟨Nat.le_of_ble_eq_true rfl, Nat.le_of_ble_eq_true rfl⟩ rfl hl.1 rfl (Nat.le_of_ble_eq_true rfl) dL_turn_3 ⟨Nat.zero_le _, Nat.zero_le _⟩ (fun H locs hP hS => ?_)
  refine lv_topi (fun r_1 er_1 => ?_)
  refine lv_istore (lv' := [(4, .int r_1), (0, .ref (B + 0)), (1, .int 11), (2, .int a), (3, .int b)]) K.1.1 K.1.2.1 dL_turn_6 hl (by decide) rfl (fun ls hl => ?_)
  refine lv_iload_n K.1.1 K.1.2.1 dL_turn_8 rfl (lv_at hl 2 rfl) ?_
  refine lv_tableIn (off := 192) (tgt := 201) K.1.1 K.1.2.1 dL_turn_9 (by decide) (by decide) rfl (by decide) ?_
  refine lv_aload_n K.1.1 K.1.2.1 dL_turn_201 rfl (lv_at hl 1 rfl) ?_
  exact x_cV (n := 0) (As := []) (rest := []) (k := 0) K hP hS hD hx hlocks (by subst er_1; exact hM) (by decide) sh_0 rfl q_767 q_768 q_769 q_15 q_770 hv_X10_clear ⟨by show _ ≤ 8; omega, by show _ ≤ 134; omega⟩ rfl hl.1 rfl (Nat.le_of_ble_eq_true rfl) dL_turn_202 ⟨Nat.le_of_ble_eq_true rfl, Nat.le_of_ble_eq_true rfl⟩

set_option maxHeartbeats 4000000 in
set_option maxRecDepth 100000 in
theorem MT_12_ok (l : Launch) (G : GG) (B : Nat) (μ : Mm) (a b : Int32) {fr lo : Nat} (hfr : fr ≤ 7) (hlo : lo ≤ 110) {v : Int32} {μ' : Mm} (hM : CM l yX10_gainWith (.code yX10_gainWith cX10_gainWith 3 (Option.some FieldType.int)) fr lo G B [.ref (B + 0), .int (LV_up a 6), .int (1 + LV_up b 120)] μ (some (.int v)) μ') : CM l yL_turn (.code yL_turn cL_turn 5 (Option.some FieldType.int)) 8 132 G B [.ref (B + 0), .int 12, .int a, .int b] μ (some (.int v)) μ' := by
  refine CM.of (by decide) (Nat.le_of_ble_eq_true rfl) ?_
  intro p e s m below meth c ls K hr hlocks hP hl
  have hS : va_S (AA B) s.heap s.heap [] := va_S.rf
  have hl : lv_has ls 5 [(0, .ref (B + 0)), (1, .int 12), (2, .int a), (3, .int b)] := hl
  refine lv_iload_n K.1.1 K.1.2.1 dL_turn_0 rfl (lv_at hl 2 rfl) ?_
  refine lv_bipush (v := 6) K.1.1 K.1.2.1 dL_turn_1 (by decide) ?_
  refine m_cS (n := 2) (As := [.int a, .int 6]) (rest := []) K hP hS (ML_up l G B _ a 6 (by decide)) q_633 q_634 q_14 q_635 hv_L_up ⟨Nat.le_of_ble_eq_true rfl, Nat.le_of_ble_eq_true rfl⟩ rfl hl.1 rfl (Nat.le_of_ble_eq_true rfl) dL_turn_3 ⟨Nat.zero_le _, Nat.zero_le _⟩ (fun H locs hP hS => ?_)
  refine lv_topi (fun r_1 er_1 => ?_)
  refine lv_istore (lv' := [(4, .int r_1), (0, .ref (B + 0)), (1, .int 12), (2, .int a), (3, .int b)]) K.1.1 K.1.2.1 dL_turn_6 hl (by decide) rfl (fun ls hl => ?_)
  refine lv_iload_n K.1.1 K.1.2.1 dL_turn_8 rfl (lv_at hl 2 rfl) ?_
  refine lv_tableIn (off := 197) (tgt := 206) K.1.1 K.1.2.1 dL_turn_9 (by decide) (by decide) rfl (by decide) ?_
  refine lv_aload_n K.1.1 K.1.2.1 dL_turn_206 rfl (lv_at hl 1 rfl) ?_
  refine lv_iload K.1.1 K.1.2.1 dL_turn_207 (lv_at hl 0 rfl) ?_
  refine lv_iconst (v := 1) K.1.1 K.1.2.1 dL_turn_209 (by decide) ?_
  refine lv_iload_n K.1.1 K.1.2.1 dL_turn_210 rfl (lv_at hl 4 rfl) ?_
  refine lv_bipush (v := 120) K.1.1 K.1.2.1 dL_turn_211 (by decide) ?_
  refine m_cS (n := 2) (As := [.int b, .int 120]) (rest := [.int 1, .int r_1, .ref (B + 0)]) K hP hS (ML_up l G B _ b 120 (by decide)) q_633 q_634 q_14 q_635 hv_L_up ⟨Nat.le_of_ble_eq_true rfl, Nat.le_of_ble_eq_true rfl⟩ rfl hl.1 rfl (Nat.le_of_ble_eq_true rfl) dL_turn_213 ⟨Nat.zero_le _, Nat.zero_le _⟩ (fun H locs hP hS => ?_)
  refine lv_topi (fun r_2 er_2 => ?_)
  refine lv_iadd K.1.1 K.1.2.1 dL_turn_216 ?_
  refine m_cV (n := 2) (As := [.int r_1, .int (1 + r_2)]) (rest := []) (k := 0) K hP hS (by subst er_1 er_2; exact hM) (by decide) sh_0 rfl q_815 q_816 q_817 q_15 q_818 hv_X10_gainWith ⟨by show _ ≤ 8; omega, by show _ ≤ 132; omega⟩ rfl hl.1 rfl (Nat.le_of_ble_eq_true rfl) dL_turn_217 ⟨Nat.zero_le _, Nat.zero_le _⟩ (fun H locs hP hS => ?_)
  refine lv_topi (fun r_3 er_3 => ?_)
  exact m_iret K hr hlocks hP hS dL_turn_220 (by subst er_3; rfl) (by subst er_3; rfl)

set_option maxHeartbeats 4000000 in
set_option maxRecDepth 100000 in
theorem MT_12_x (l : Launch) (G : GG) (B : Nat) (μ : Mm) (a b : Int32) {fr lo : Nat} (hfr : fr ≤ 7) (hlo : lo ≤ 110) {E : String} (hM : XM l yX10_gainWith (.code yX10_gainWith cX10_gainWith 3 (Option.some FieldType.int)) fr lo G B [.ref (B + 0), .int (LV_up a 6), .int (1 + LV_up b 120)] μ E) : XM l yL_turn (.code yL_turn cL_turn 5 (Option.some FieldType.int)) 8 132 G B [.ref (B + 0), .int 12, .int a, .int b] μ E := by
  refine XM.of (by decide) (Nat.le_of_ble_eq_true rfl) ?_
  intro p e s m below meth c ls K hD hx hr hlocks hP hl
  have hS : va_S (AA B) s.heap s.heap [] := va_S.rf
  have hl : lv_has ls 5 [(0, .ref (B + 0)), (1, .int 12), (2, .int a), (3, .int b)] := hl
  refine lv_iload_n K.1.1 K.1.2.1 dL_turn_0 rfl (lv_at hl 2 rfl) ?_
  refine lv_bipush (v := 6) K.1.1 K.1.2.1 dL_turn_1 (by decide) ?_
  refine m_cS (n := 2) (As := [.int a, .int 6]) (rest := []) K hP hS (ML_up l G B _ a 6 (by decide)) q_633 q_634 q_14 q_635 hv_L_up ⟨Nat.le_of_ble_eq_true rfl, Nat.le_of_ble_eq_true rfl⟩ rfl hl.1 rfl (Nat.le_of_ble_eq_true rfl) dL_turn_3 ⟨Nat.zero_le _, Nat.zero_le _⟩ (fun H locs hP hS => ?_)
  refine lv_topi (fun r_1 er_1 => ?_)
  refine lv_istore (lv' := [(4, .int r_1), (0, .ref (B + 0)), (1, .int 12), (2, .int a), (3, .int b)]) K.1.1 K.1.2.1 dL_turn_6 hl (by decide) rfl (fun ls hl => ?_)
  refine lv_iload_n K.1.1 K.1.2.1 dL_turn_8 rfl (lv_at hl 2 rfl) ?_
  refine lv_tableIn (off := 197) (tgt := 206) K.1.1 K.1.2.1 dL_turn_9 (by decide) (by decide) rfl (by decide) ?_
  refine lv_aload_n K.1.1 K.1.2.1 dL_turn_206 rfl (lv_at hl 1 rfl) ?_
  refine lv_iload K.1.1 K.1.2.1 dL_turn_207 (lv_at hl 0 rfl) ?_
  refine lv_iconst (v := 1) K.1.1 K.1.2.1 dL_turn_209 (by decide) ?_
  refine lv_iload_n K.1.1 K.1.2.1 dL_turn_210 rfl (lv_at hl 4 rfl) ?_
  refine lv_bipush (v := 120) K.1.1 K.1.2.1 dL_turn_211 (by decide) ?_
  refine m_cS (n := 2) (As := [.int b, .int 120]) (rest := [.int 1, .int r_1, .ref (B + 0)]) K hP hS (ML_up l G B _ b 120 (by decide)) q_633 q_634 q_14 q_635 hv_L_up ⟨Nat.le_of_ble_eq_true rfl, Nat.le_of_ble_eq_true rfl⟩ rfl hl.1 rfl (Nat.le_of_ble_eq_true rfl) dL_turn_213 ⟨Nat.zero_le _, Nat.zero_le _⟩ (fun H locs hP hS => ?_)
  refine lv_topi (fun r_2 er_2 => ?_)
  refine lv_iadd K.1.1 K.1.2.1 dL_turn_216 ?_
  exact x_cV (n := 2) (As := [.int r_1, .int (1 + r_2)]) (rest := []) (k := 0) K hP hS hD hx hlocks (by subst er_1 er_2; exact hM) (by decide) sh_0 rfl q_815 q_816 q_817 q_15 q_818 hv_X10_gainWith ⟨by show _ ≤ 8; omega, by show _ ≤ 132; omega⟩ rfl hl.1 rfl (Nat.le_of_ble_eq_true rfl) dL_turn_217 ⟨Nat.le_of_ble_eq_true rfl, Nat.le_of_ble_eq_true rfl⟩

set_option maxHeartbeats 4000000 in
set_option maxRecDepth 100000 in
theorem MT_13_ok (l : Launch) (G : GG) (B : Nat) (μ : Mm) (a b : Int32) {fr lo : Nat} (hfr : fr ≤ 7) (hlo : lo ≤ 114) {v : Int32} {μ' : Mm} (hM : CM l yX10_goneIn (.code yX10_goneIn cX10_goneIn 3 (Option.some FieldType.int)) fr lo G B [.ref (B + 0), .int (LV_up a 30)] μ (some (.int v)) μ') : CM l yL_turn (.code yL_turn cL_turn 5 (Option.some FieldType.int)) 8 136 G B [.ref (B + 0), .int 13, .int a, .int b] μ (some (.int v)) μ' := by
  refine CM.of (by decide) (Nat.le_of_ble_eq_true rfl) ?_
  intro p e s m below meth c ls K hr hlocks hP hl
  have hS : va_S (AA B) s.heap s.heap [] := va_S.rf
  have hl : lv_has ls 5 [(0, .ref (B + 0)), (1, .int 13), (2, .int a), (3, .int b)] := hl
  refine lv_iload_n K.1.1 K.1.2.1 dL_turn_0 rfl (lv_at hl 2 rfl) ?_
  refine lv_bipush (v := 6) K.1.1 K.1.2.1 dL_turn_1 (by decide) ?_
  refine m_cS (n := 2) (As := [.int a, .int 6]) (rest := []) K hP hS (ML_up l G B _ a 6 (by decide)) q_633 q_634 q_14 q_635 hv_L_up ⟨Nat.le_of_ble_eq_true rfl, Nat.le_of_ble_eq_true rfl⟩ rfl hl.1 rfl (Nat.le_of_ble_eq_true rfl) dL_turn_3 ⟨Nat.zero_le _, Nat.zero_le _⟩ (fun H locs hP hS => ?_)
  refine lv_topi (fun r_1 er_1 => ?_)
  refine lv_istore (lv' := [(4, .int r_1), (0, .ref (B + 0)), (1, .int 13), (2, .int a), (3, .int b)]) K.1.1 K.1.2.1 dL_turn_6 hl (by decide) rfl (fun ls hl => ?_)
  refine lv_iload_n K.1.1 K.1.2.1 dL_turn_8 rfl (lv_at hl 2 rfl) ?_
  refine lv_tableIn (off := 212) (tgt := 221) K.1.1 K.1.2.1 dL_turn_9 (by decide) (by decide) rfl (by decide) ?_
  refine lv_aload_n K.1.1 K.1.2.1 dL_turn_221 rfl (lv_at hl 1 rfl) ?_
  refine lv_iload_n K.1.1 K.1.2.1 dL_turn_222 rfl (lv_at hl 3 rfl) ?_
  refine lv_bipush (v := 30) K.1.1 K.1.2.1 dL_turn_223 (by decide) ?_
  refine m_cS (n := 2) (As := [.int a, .int 30]) (rest := [.ref (B + 0)]) K hP hS (ML_up l G B _ a 30 (by decide)) q_633 q_634 q_14 q_635 hv_L_up ⟨Nat.le_of_ble_eq_true rfl, Nat.le_of_ble_eq_true rfl⟩ rfl hl.1 rfl (Nat.le_of_ble_eq_true rfl) dL_turn_225 ⟨Nat.zero_le _, Nat.zero_le _⟩ (fun H locs hP hS => ?_)
  refine lv_topi (fun r_2 er_2 => ?_)
  refine m_cV (n := 1) (As := [.int r_2]) (rest := []) (k := 0) K hP hS (by subst er_1 er_2; exact hM) (by decide) sh_0 rfl q_830 q_831 q_832 q_15 q_833 hv_X10_goneIn ⟨by show _ ≤ 8; omega, by show _ ≤ 136; omega⟩ rfl hl.1 rfl (Nat.le_of_ble_eq_true rfl) dL_turn_228 ⟨Nat.zero_le _, Nat.zero_le _⟩ (fun H locs hP hS => ?_)
  refine lv_topi (fun r_3 er_3 => ?_)
  exact m_iret K hr hlocks hP hS dL_turn_231 (by subst er_3; rfl) (by subst er_3; rfl)

set_option maxHeartbeats 4000000 in
set_option maxRecDepth 100000 in
theorem MT_13_x (l : Launch) (G : GG) (B : Nat) (μ : Mm) (a b : Int32) {fr lo : Nat} (hfr : fr ≤ 7) (hlo : lo ≤ 114) {E : String} (hM : XM l yX10_goneIn (.code yX10_goneIn cX10_goneIn 3 (Option.some FieldType.int)) fr lo G B [.ref (B + 0), .int (LV_up a 30)] μ E) : XM l yL_turn (.code yL_turn cL_turn 5 (Option.some FieldType.int)) 8 136 G B [.ref (B + 0), .int 13, .int a, .int b] μ E := by
  refine XM.of (by decide) (Nat.le_of_ble_eq_true rfl) ?_
  intro p e s m below meth c ls K hD hx hr hlocks hP hl
  have hS : va_S (AA B) s.heap s.heap [] := va_S.rf
  have hl : lv_has ls 5 [(0, .ref (B + 0)), (1, .int 13), (2, .int a), (3, .int b)] := hl
  refine lv_iload_n K.1.1 K.1.2.1 dL_turn_0 rfl (lv_at hl 2 rfl) ?_
  refine lv_bipush (v := 6) K.1.1 K.1.2.1 dL_turn_1 (by decide) ?_
  refine m_cS (n := 2) (As := [.int a, .int 6]) (rest := []) K hP hS (ML_up l G B _ a 6 (by decide)) q_633 q_634 q_14 q_635 hv_L_up ⟨Nat.le_of_ble_eq_true rfl, Nat.le_of_ble_eq_true rfl⟩ rfl hl.1 rfl (Nat.le_of_ble_eq_true rfl) dL_turn_3 ⟨Nat.zero_le _, Nat.zero_le _⟩ (fun H locs hP hS => ?_)
  refine lv_topi (fun r_1 er_1 => ?_)
  refine lv_istore (lv' := [(4, .int r_1), (0, .ref (B + 0)), (1, .int 13), (2, .int a), (3, .int b)]) K.1.1 K.1.2.1 dL_turn_6 hl (by decide) rfl (fun ls hl => ?_)
  refine lv_iload_n K.1.1 K.1.2.1 dL_turn_8 rfl (lv_at hl 2 rfl) ?_
  refine lv_tableIn (off := 212) (tgt := 221) K.1.1 K.1.2.1 dL_turn_9 (by decide) (by decide) rfl (by decide) ?_
  refine lv_aload_n K.1.1 K.1.2.1 dL_turn_221 rfl (lv_at hl 1 rfl) ?_
  refine lv_iload_n K.1.1 K.1.2.1 dL_turn_222 rfl (lv_at hl 3 rfl) ?_
  refine lv_bipush (v := 30) K.1.1 K.1.2.1 dL_turn_223 (by decide) ?_
  refine m_cS (n := 2) (As := [.int a, .int 30]) (rest := [.ref (B + 0)]) K hP hS (ML_up l G B _ a 30 (by decide)) q_633 q_634 q_14 q_635 hv_L_up ⟨Nat.le_of_ble_eq_true rfl, Nat.le_of_ble_eq_true rfl⟩ rfl hl.1 rfl (Nat.le_of_ble_eq_true rfl) dL_turn_225 ⟨Nat.zero_le _, Nat.zero_le _⟩ (fun H locs hP hS => ?_)
  refine lv_topi (fun r_2 er_2 => ?_)
  exact x_cV (n := 1) (As := [.int r_2]) (rest := []) (k := 0) K hP hS hD hx hlocks (by subst er_1 er_2; exact hM) (by decide) sh_0 rfl q_830 q_831 q_832 q_15 q_833 hv_X10_goneIn ⟨by show _ ≤ 8; omega, by show _ ≤ 136; omega⟩ rfl hl.1 rfl (Nat.le_of_ble_eq_true rfl) dL_turn_228 ⟨Nat.le_of_ble_eq_true rfl, Nat.le_of_ble_eq_true rfl⟩

set_option maxHeartbeats 4000000 in
set_option maxRecDepth 100000 in
theorem MT_14_ok (l : Launch) (G : GG) (B : Nat) (μ : Mm) (a b : Int32) {fr lo : Nat} (hfr : fr ≤ 7) (hlo : lo ≤ 110) {v : Int32} {μ' : Mm} (hM : CM l yX10_bestSplit (.code yX10_bestSplit cX10_bestSplit 6 (Option.some FieldType.int)) fr lo G B [.ref (B + 0), .int (LV_up a 6)] μ (some (.int v)) μ') : CM l yL_turn (.code yL_turn cL_turn 5 (Option.some FieldType.int)) 8 135 G B [.ref (B + 0), .int 14, .int a, .int b] μ (some (.int v)) μ' := by
  refine CM.of (by decide) (Nat.le_of_ble_eq_true rfl) ?_
  intro p e s m below meth c ls K hr hlocks hP hl
  have hS : va_S (AA B) s.heap s.heap [] := va_S.rf
  have hl : lv_has ls 5 [(0, .ref (B + 0)), (1, .int 14), (2, .int a), (3, .int b)] := hl
  refine lv_iload_n K.1.1 K.1.2.1 dL_turn_0 rfl (lv_at hl 2 rfl) ?_
  refine lv_bipush (v := 6) K.1.1 K.1.2.1 dL_turn_1 (by decide) ?_
  refine m_cS (n := 2) (As := [.int a, .int 6]) (rest := []) K hP hS (ML_up l G B _ a 6 (by decide)) q_633 q_634 q_14 q_635 hv_L_up ⟨Nat.le_of_ble_eq_true rfl, Nat.le_of_ble_eq_true rfl⟩ rfl hl.1 rfl (Nat.le_of_ble_eq_true rfl) dL_turn_3 ⟨Nat.zero_le _, Nat.zero_le _⟩ (fun H locs hP hS => ?_)
  refine lv_topi (fun r_1 er_1 => ?_)
  refine lv_istore (lv' := [(4, .int r_1), (0, .ref (B + 0)), (1, .int 14), (2, .int a), (3, .int b)]) K.1.1 K.1.2.1 dL_turn_6 hl (by decide) rfl (fun ls hl => ?_)
  refine lv_iload_n K.1.1 K.1.2.1 dL_turn_8 rfl (lv_at hl 2 rfl) ?_
  refine lv_tableIn (off := 223) (tgt := 232) K.1.1 K.1.2.1 dL_turn_9 (by decide) (by decide) rfl (by decide) ?_
  refine lv_aload_n K.1.1 K.1.2.1 dL_turn_232 rfl (lv_at hl 1 rfl) ?_
  refine lv_iload K.1.1 K.1.2.1 dL_turn_233 (lv_at hl 0 rfl) ?_
  refine m_cV (n := 1) (As := [.int r_1]) (rest := []) (k := 0) K hP hS (by subst er_1; exact hM) (by decide) sh_0 rfl q_834 q_835 q_836 q_15 q_837 hv_X10_bestSplit ⟨by show _ ≤ 8; omega, by show _ ≤ 135; omega⟩ rfl hl.1 rfl (Nat.le_of_ble_eq_true rfl) dL_turn_235 ⟨Nat.zero_le _, Nat.zero_le _⟩ (fun H locs hP hS => ?_)
  refine lv_topi (fun r_2 er_2 => ?_)
  exact m_iret K hr hlocks hP hS dL_turn_238 (by subst er_2; rfl) (by subst er_2; rfl)

set_option maxHeartbeats 4000000 in
set_option maxRecDepth 100000 in
theorem MT_14_x (l : Launch) (G : GG) (B : Nat) (μ : Mm) (a b : Int32) {fr lo : Nat} (hfr : fr ≤ 7) (hlo : lo ≤ 110) {E : String} (hM : XM l yX10_bestSplit (.code yX10_bestSplit cX10_bestSplit 6 (Option.some FieldType.int)) fr lo G B [.ref (B + 0), .int (LV_up a 6)] μ E) : XM l yL_turn (.code yL_turn cL_turn 5 (Option.some FieldType.int)) 8 135 G B [.ref (B + 0), .int 14, .int a, .int b] μ E := by
  refine XM.of (by decide) (Nat.le_of_ble_eq_true rfl) ?_
  intro p e s m below meth c ls K hD hx hr hlocks hP hl
  have hS : va_S (AA B) s.heap s.heap [] := va_S.rf
  have hl : lv_has ls 5 [(0, .ref (B + 0)), (1, .int 14), (2, .int a), (3, .int b)] := hl
  refine lv_iload_n K.1.1 K.1.2.1 dL_turn_0 rfl (lv_at hl 2 rfl) ?_
  refine lv_bipush (v := 6) K.1.1 K.1.2.1 dL_turn_1 (by decide) ?_
  refine m_cS (n := 2) (As := [.int a, .int 6]) (rest := []) K hP hS (ML_up l G B _ a 6 (by decide)) q_633 q_634 q_14 q_635 hv_L_up ⟨Nat.le_of_ble_eq_true rfl, Nat.le_of_ble_eq_true rfl⟩ rfl hl.1 rfl (Nat.le_of_ble_eq_true rfl) dL_turn_3 ⟨Nat.zero_le _, Nat.zero_le _⟩ (fun H locs hP hS => ?_)
  refine lv_topi (fun r_1 er_1 => ?_)
  refine lv_istore (lv' := [(4, .int r_1), (0, .ref (B + 0)), (1, .int 14), (2, .int a), (3, .int b)]) K.1.1 K.1.2.1 dL_turn_6 hl (by decide) rfl (fun ls hl => ?_)
  refine lv_iload_n K.1.1 K.1.2.1 dL_turn_8 rfl (lv_at hl 2 rfl) ?_
  refine lv_tableIn (off := 223) (tgt := 232) K.1.1 K.1.2.1 dL_turn_9 (by decide) (by decide) rfl (by decide) ?_
  refine lv_aload_n K.1.1 K.1.2.1 dL_turn_232 rfl (lv_at hl 1 rfl) ?_
  refine lv_iload K.1.1 K.1.2.1 dL_turn_233 (lv_at hl 0 rfl) ?_
  exact x_cV (n := 1) (As := [.int r_1]) (rest := []) (k := 0) K hP hS hD hx hlocks (by subst er_1; exact hM) (by decide) sh_0 rfl q_834 q_835 q_836 q_15 q_837 hv_X10_bestSplit ⟨by show _ ≤ 8; omega, by show _ ≤ 135; omega⟩ rfl hl.1 rfl (Nat.le_of_ble_eq_true rfl) dL_turn_235 ⟨Nat.le_of_ble_eq_true rfl, Nat.le_of_ble_eq_true rfl⟩

set_option maxHeartbeats 4000000 in
set_option maxRecDepth 100000 in
theorem MT_15_ok (l : Launch) (G : GG) (B : Nat) (μ : Mm) (a b : Int32) {fr lo : Nat} (hfr : fr ≤ 8) (hlo : lo ≤ 133) {v : Int32} {μ' : Mm} (hM : CM l yL_any (.code yL_any cL_any 3 (Option.some FieldType.int)) fr lo G B [.ref (B + 0), .int a, .int b] μ (some (.int v)) μ') : CM l yL_turn (.code yL_turn cL_turn 5 (Option.some FieldType.int)) 9 155 G B [.ref (B + 0), .int 15, .int a, .int b] μ (some (.int v)) μ' := by
  refine CM.of (by decide) (Nat.le_of_ble_eq_true rfl) ?_
  intro p e s m below meth c ls K hr hlocks hP hl
  have hS : va_S (AA B) s.heap s.heap [] := va_S.rf
  have hl : lv_has ls 5 [(0, .ref (B + 0)), (1, .int 15), (2, .int a), (3, .int b)] := hl
  refine lv_iload_n K.1.1 K.1.2.1 dL_turn_0 rfl (lv_at hl 2 rfl) ?_
  refine lv_bipush (v := 6) K.1.1 K.1.2.1 dL_turn_1 (by decide) ?_
  refine m_cS (n := 2) (As := [.int a, .int 6]) (rest := []) K hP hS (ML_up l G B _ a 6 (by decide)) q_633 q_634 q_14 q_635 hv_L_up ⟨Nat.le_of_ble_eq_true rfl, Nat.le_of_ble_eq_true rfl⟩ rfl hl.1 rfl (Nat.le_of_ble_eq_true rfl) dL_turn_3 ⟨Nat.zero_le _, Nat.zero_le _⟩ (fun H locs hP hS => ?_)
  refine lv_topi (fun r_1 er_1 => ?_)
  refine lv_istore (lv' := [(4, .int r_1), (0, .ref (B + 0)), (1, .int 15), (2, .int a), (3, .int b)]) K.1.1 K.1.2.1 dL_turn_6 hl (by decide) rfl (fun ls hl => ?_)
  refine lv_iload_n K.1.1 K.1.2.1 dL_turn_8 rfl (lv_at hl 2 rfl) ?_
  refine lv_tableOut (tgt := 239) K.1.1 K.1.2.1 dL_turn_9 (Or.inr (by decide)) (by decide) ?_
  refine lv_aload_n K.1.1 K.1.2.1 dL_turn_239 rfl (lv_at hl 1 rfl) ?_
  refine lv_iload_n K.1.1 K.1.2.1 dL_turn_240 rfl (lv_at hl 3 rfl) ?_
  refine lv_iload_n K.1.1 K.1.2.1 dL_turn_241 rfl (lv_at hl 4 rfl) ?_
  refine m_cS (n := 3) (As := [.ref (B + 0), .int a, .int b]) (rest := []) K hP hS (by subst er_1; exact hM) q_839 q_840 q_14 q_841 hw_any ⟨by show _ ≤ 9; omega, by show _ ≤ 155; omega⟩ rfl hl.1 rfl (Nat.le_of_ble_eq_true rfl) dL_turn_242 ⟨Nat.zero_le _, Nat.zero_le _⟩ (fun H locs hP hS => ?_)
  refine lv_topi (fun r_2 er_2 => ?_)
  exact m_iret K hr hlocks hP hS dL_turn_245 (by subst er_2; rfl) (by subst er_2; rfl)

set_option maxHeartbeats 4000000 in
set_option maxRecDepth 100000 in
theorem MT_15_x (l : Launch) (G : GG) (B : Nat) (μ : Mm) (a b : Int32) {fr lo : Nat} (hfr : fr ≤ 8) (hlo : lo ≤ 133) {E : String} (hM : XM l yL_any (.code yL_any cL_any 3 (Option.some FieldType.int)) fr lo G B [.ref (B + 0), .int a, .int b] μ E) : XM l yL_turn (.code yL_turn cL_turn 5 (Option.some FieldType.int)) 9 155 G B [.ref (B + 0), .int 15, .int a, .int b] μ E := by
  refine XM.of (by decide) (Nat.le_of_ble_eq_true rfl) ?_
  intro p e s m below meth c ls K hD hx hr hlocks hP hl
  have hS : va_S (AA B) s.heap s.heap [] := va_S.rf
  have hl : lv_has ls 5 [(0, .ref (B + 0)), (1, .int 15), (2, .int a), (3, .int b)] := hl
  refine lv_iload_n K.1.1 K.1.2.1 dL_turn_0 rfl (lv_at hl 2 rfl) ?_
  refine lv_bipush (v := 6) K.1.1 K.1.2.1 dL_turn_1 (by decide) ?_
  refine m_cS (n := 2) (As := [.int a, .int 6]) (rest := []) K hP hS (ML_up l G B _ a 6 (by decide)) q_633 q_634 q_14 q_635 hv_L_up ⟨Nat.le_of_ble_eq_true rfl, Nat.le_of_ble_eq_true rfl⟩ rfl hl.1 rfl (Nat.le_of_ble_eq_true rfl) dL_turn_3 ⟨Nat.zero_le _, Nat.zero_le _⟩ (fun H locs hP hS => ?_)
  refine lv_topi (fun r_1 er_1 => ?_)
  refine lv_istore (lv' := [(4, .int r_1), (0, .ref (B + 0)), (1, .int 15), (2, .int a), (3, .int b)]) K.1.1 K.1.2.1 dL_turn_6 hl (by decide) rfl (fun ls hl => ?_)
  refine lv_iload_n K.1.1 K.1.2.1 dL_turn_8 rfl (lv_at hl 2 rfl) ?_
  refine lv_tableOut (tgt := 239) K.1.1 K.1.2.1 dL_turn_9 (Or.inr (by decide)) (by decide) ?_
  refine lv_aload_n K.1.1 K.1.2.1 dL_turn_239 rfl (lv_at hl 1 rfl) ?_
  refine lv_iload_n K.1.1 K.1.2.1 dL_turn_240 rfl (lv_at hl 3 rfl) ?_
  refine lv_iload_n K.1.1 K.1.2.1 dL_turn_241 rfl (lv_at hl 4 rfl) ?_
  exact x_cS (n := 3) (As := [.ref (B + 0), .int a, .int b]) (rest := []) K hP hS hD hx hlocks (by subst er_1; exact hM) q_839 q_840 q_14 q_841 hw_any ⟨by show _ ≤ 9; omega, by show _ ≤ 155; omega⟩ rfl hl.1 rfl (Nat.le_of_ble_eq_true rfl) dL_turn_242 ⟨Nat.le_of_ble_eq_true rfl, Nat.le_of_ble_eq_true rfl⟩

