set_option maxHeartbeats 4000000 in
set_option maxRecDepth 100000 in
theorem MT_3_ok (l : Launch) (G : GG) (B : Nat) (μ : Mm) (a b : Int32) {fr lo : Nat} (hfr : fr ≤ 7) (hlo : lo ≤ 110) {v : Int32} {μ' : Mm} (hM : CM l yX10_set (.code yX10_set cX10_set 3 (Option.some FieldType.int)) fr lo G B [.ref (B + 0), .int (a &&& 1), .int (LV_up b 12)] μ (some (.int v)) μ') : CM l yL_turn (.code yL_turn cL_turn 5 (Option.some FieldType.int)) 8 132 G B [.ref (B + 0), .int 3, .int a, .int b] μ (some (.int v)) μ' := by
  refine CM.of (by decide) (Nat.le_of_ble_eq_true rfl) ?_
  intro p e s m below meth c ls K hr hlocks hP hl
  have hS : va_S (AA B) s.heap s.heap [] := va_S.rf
  have hl : lv_has ls 5 [(0, .ref (B + 0)), (1, .int 3), (2, .int a), (3, .int b)] := hl
  refine lv_iload_n K.1.1 K.1.2.1 dL_turn_0 rfl (lv_at hl 2 rfl) ?_
  refine lv_bipush (v := 6) K.1.1 K.1.2.1 dL_turn_1 (by decide) ?_
  refine m_cS (n := 2) (As := [.int a, .int 6]) (rest := []) K hP hS (ML_up l G B _ a 6 (by decide)) q_633 q_634 q_14 q_635 hv_L_up ⟨Nat.le_of_ble_eq_true rfl, Nat.le_of_ble_eq_true rfl⟩ rfl hl.1 rfl (Nat.le_of_ble_eq_true rfl) dL_turn_3 ⟨Nat.zero_le _, Nat.zero_le _⟩ (fun H locs hP hS => ?_)
  refine lv_topi (fun r_1 er_1 => ?_)
  refine lv_istore (lv' := [(4, .int r_1), (0, .ref (B + 0)), (1, .int 3), (2, .int a), (3, .int b)]) K.1.1 K.1.2.1 dL_turn_6 hl (by decide) rfl (fun ls hl => ?_)
  refine lv_iload_n K.1.1 K.1.2.1 dL_turn_8 rfl (lv_at hl 2 rfl) ?_
  refine lv_tableIn (off := 126) (tgt := 135) K.1.1 K.1.2.1 dL_turn_9 (by decide) (by decide) rfl (by decide) ?_
  refine lv_aload_n K.1.1 K.1.2.1 dL_turn_135 rfl (lv_at hl 1 rfl) ?_
  refine lv_iload_n K.1.1 K.1.2.1 dL_turn_136 rfl (lv_at hl 3 rfl) ?_
  refine lv_iconst (v := 1) K.1.1 K.1.2.1 dL_turn_137 (by decide) ?_
  refine lv_iand K.1.1 K.1.2.1 dL_turn_138 ?_
  refine lv_iload_n K.1.1 K.1.2.1 dL_turn_139 rfl (lv_at hl 4 rfl) ?_
  refine lv_bipush (v := 12) K.1.1 K.1.2.1 dL_turn_140 (by decide) ?_
  refine m_cS (n := 2) (As := [.int b, .int 12]) (rest := [.int (a &&& 1), .ref (B + 0)]) K hP hS (ML_up l G B _ b 12 (by decide)) q_633 q_634 q_14 q_635 hv_L_up ⟨Nat.le_of_ble_eq_true rfl, Nat.le_of_ble_eq_true rfl⟩ rfl hl.1 rfl (Nat.le_of_ble_eq_true rfl) dL_turn_142 ⟨Nat.zero_le _, Nat.zero_le _⟩ (fun H locs hP hS => ?_)
  refine lv_topi (fun r_2 er_2 => ?_)
  refine m_cV (n := 2) (As := [.int (a &&& 1), .int r_2]) (rest := []) (k := 0) K hP hS (by subst er_1 er_2; exact hM) (by decide) sh_0 rfl q_709 q_710 q_711 q_15 q_712 hv_X10_set ⟨by show _ ≤ 8; omega, by show _ ≤ 132; omega⟩ rfl hl.1 rfl (Nat.le_of_ble_eq_true rfl) dL_turn_145 ⟨Nat.zero_le _, Nat.zero_le _⟩ (fun H locs hP hS => ?_)
  refine lv_topi (fun r_3 er_3 => ?_)
  exact m_iret K hr hlocks hP hS dL_turn_148 (by subst er_3; rfl) (by subst er_3; rfl)

set_option maxHeartbeats 4000000 in
set_option maxRecDepth 100000 in
theorem MT_3_x (l : Launch) (G : GG) (B : Nat) (μ : Mm) (a b : Int32) {fr lo : Nat} (hfr : fr ≤ 7) (hlo : lo ≤ 110) {E : String} (hM : XM l yX10_set (.code yX10_set cX10_set 3 (Option.some FieldType.int)) fr lo G B [.ref (B + 0), .int (a &&& 1), .int (LV_up b 12)] μ E) : XM l yL_turn (.code yL_turn cL_turn 5 (Option.some FieldType.int)) 8 132 G B [.ref (B + 0), .int 3, .int a, .int b] μ E := by
  refine XM.of (by decide) (Nat.le_of_ble_eq_true rfl) ?_
  intro p e s m below meth c ls K hD hx hr hlocks hP hl
  have hS : va_S (AA B) s.heap s.heap [] := va_S.rf
  have hl : lv_has ls 5 [(0, .ref (B + 0)), (1, .int 3), (2, .int a), (3, .int b)] := hl
  refine lv_iload_n K.1.1 K.1.2.1 dL_turn_0 rfl (lv_at hl 2 rfl) ?_
  refine lv_bipush (v := 6) K.1.1 K.1.2.1 dL_turn_1 (by decide) ?_
  refine m_cS (n := 2) (As := [.int a, .int 6]) (rest := []) K hP hS (ML_up l G B _ a 6 (by decide)) q_633 q_634 q_14 q_635 hv_L_up ⟨Nat.le_of_ble_eq_true rfl, Nat.le_of_ble_eq_true rfl⟩ rfl hl.1 rfl (Nat.le_of_ble_eq_true rfl) dL_turn_3 ⟨Nat.zero_le _, Nat.zero_le _⟩ (fun H locs hP hS => ?_)
  refine lv_topi (fun r_1 er_1 => ?_)
  refine lv_istore (lv' := [(4, .int r_1), (0, .ref (B + 0)), (1, .int 3), (2, .int a), (3, .int b)]) K.1.1 K.1.2.1 dL_turn_6 hl (by decide) rfl (fun ls hl => ?_)
  refine lv_iload_n K.1.1 K.1.2.1 dL_turn_8 rfl (lv_at hl 2 rfl) ?_
  refine lv_tableIn (off := 126) (tgt := 135) K.1.1 K.1.2.1 dL_turn_9 (by decide) (by decide) rfl (by decide) ?_
  refine lv_aload_n K.1.1 K.1.2.1 dL_turn_135 rfl (lv_at hl 1 rfl) ?_
  refine lv_iload_n K.1.1 K.1.2.1 dL_turn_136 rfl (lv_at hl 3 rfl) ?_
  refine lv_iconst (v := 1) K.1.1 K.1.2.1 dL_turn_137 (by decide) ?_
  refine lv_iand K.1.1 K.1.2.1 dL_turn_138 ?_
  refine lv_iload_n K.1.1 K.1.2.1 dL_turn_139 rfl (lv_at hl 4 rfl) ?_
  refine lv_bipush (v := 12) K.1.1 K.1.2.1 dL_turn_140 (by decide) ?_
  refine m_cS (n := 2) (As := [.int b, .int 12]) (rest := [.int (a &&& 1), .ref (B + 0)]) K hP hS (ML_up l G B _ b 12 (by decide)) q_633 q_634 q_14 q_635 hv_L_up ⟨Nat.le_of_ble_eq_true rfl, Nat.le_of_ble_eq_true rfl⟩ rfl hl.1 rfl (Nat.le_of_ble_eq_true rfl) dL_turn_142 ⟨Nat.zero_le _, Nat.zero_le _⟩ (fun H locs hP hS => ?_)
  refine lv_topi (fun r_2 er_2 => ?_)
  exact x_cV (n := 2) (As := [.int (a &&& 1), .int r_2]) (rest := []) (k := 0) K hP hS hD hx hlocks (by subst er_1 er_2; exact hM) (by decide) sh_0 rfl q_709 q_710 q_711 q_15 q_712 hv_X10_set ⟨by show _ ≤ 8; omega, by show _ ≤ 132; omega⟩ rfl hl.1 rfl (Nat.le_of_ble_eq_true rfl) dL_turn_145 ⟨Nat.le_of_ble_eq_true rfl, Nat.le_of_ble_eq_true rfl⟩

set_option maxHeartbeats 4000000 in
set_option maxRecDepth 100000 in
theorem MT_4_ok (l : Launch) (G : GG) (B : Nat) (μ : Mm) (a b : Int32) {fr lo : Nat} (hfr : fr ≤ 7) (hlo : lo ≤ 110) {v : Int32} {μ' : Mm} (hM : CM l yX10_bid (.code yX10_bid cX10_bid 3 (Option.some FieldType.int)) fr lo G B [.ref (B + 0), .int (LV_up a 6), .int (1 + LV_up b 9)] μ (some (.int v)) μ') : CM l yL_turn (.code yL_turn cL_turn 5 (Option.some FieldType.int)) 8 132 G B [.ref (B + 0), .int 4, .int a, .int b] μ (some (.int v)) μ' := by
  refine CM.of (by decide) (Nat.le_of_ble_eq_true rfl) ?_
  intro p e s m below meth c ls K hr hlocks hP hl
  have hS : va_S (AA B) s.heap s.heap [] := va_S.rf
  have hl : lv_has ls 5 [(0, .ref (B + 0)), (1, .int 4), (2, .int a), (3, .int b)] := hl
  refine lv_iload_n K.1.1 K.1.2.1 dL_turn_0 rfl (lv_at hl 2 rfl) ?_
  refine lv_bipush (v := 6) K.1.1 K.1.2.1 dL_turn_1 (by decide) ?_
  refine m_cS (n := 2) (As := [.int a, .int 6]) (rest := []) K hP hS (ML_up l G B _ a 6 (by decide)) q_633 q_634 q_14 q_635 hv_L_up ⟨Nat.le_of_ble_eq_true rfl, Nat.le_of_ble_eq_true rfl⟩ rfl hl.1 rfl (Nat.le_of_ble_eq_true rfl) dL_turn_3 ⟨Nat.zero_le _, Nat.zero_le _⟩ (fun H locs hP hS => ?_)
  refine lv_topi (fun r_1 er_1 => ?_)
  refine lv_istore (lv' := [(4, .int r_1), (0, .ref (B + 0)), (1, .int 4), (2, .int a), (3, .int b)]) K.1.1 K.1.2.1 dL_turn_6 hl (by decide) rfl (fun ls hl => ?_)
  refine lv_iload_n K.1.1 K.1.2.1 dL_turn_8 rfl (lv_at hl 2 rfl) ?_
  refine lv_tableIn (off := 140) (tgt := 149) K.1.1 K.1.2.1 dL_turn_9 (by decide) (by decide) rfl (by decide) ?_
  refine lv_aload_n K.1.1 K.1.2.1 dL_turn_149 rfl (lv_at hl 1 rfl) ?_
  refine lv_iload K.1.1 K.1.2.1 dL_turn_150 (lv_at hl 0 rfl) ?_
  refine lv_iconst (v := 1) K.1.1 K.1.2.1 dL_turn_152 (by decide) ?_
  refine lv_iload_n K.1.1 K.1.2.1 dL_turn_153 rfl (lv_at hl 4 rfl) ?_
  refine lv_bipush (v := 9) K.1.1 K.1.2.1 dL_turn_154 (by decide) ?_
  refine m_cS (n := 2) (As := [.int b, .int 9]) (rest := [.int 1, .int r_1, .ref (B + 0)]) K hP hS (ML_up l G B _ b 9 (by decide)) q_633 q_634 q_14 q_635 hv_L_up ⟨Nat.le_of_ble_eq_true rfl, Nat.le_of_ble_eq_true rfl⟩ rfl hl.1 rfl (Nat.le_of_ble_eq_true rfl) dL_turn_156 ⟨Nat.zero_le _, Nat.zero_le _⟩ (fun H locs hP hS => ?_)
  refine lv_topi (fun r_2 er_2 => ?_)
  refine lv_iadd K.1.1 K.1.2.1 dL_turn_159 ?_
  refine m_cV (n := 2) (As := [.int r_1, .int (1 + r_2)]) (rest := []) (k := 0) K hP hS (by subst er_1 er_2; exact hM) (by decide) sh_0 rfl q_721 q_722 q_723 q_15 q_724 hv_X10_bid ⟨by show _ ≤ 8; omega, by show _ ≤ 132; omega⟩ rfl hl.1 rfl (Nat.le_of_ble_eq_true rfl) dL_turn_160 ⟨Nat.zero_le _, Nat.zero_le _⟩ (fun H locs hP hS => ?_)
  refine lv_topi (fun r_3 er_3 => ?_)
  exact m_iret K hr hlocks hP hS dL_turn_163 (by subst er_3; rfl) (by subst er_3; rfl)

set_option maxHeartbeats 4000000 in
set_option maxRecDepth 100000 in
theorem MT_4_x (l : Launch) (G : GG) (B : Nat) (μ : Mm) (a b : Int32) {fr lo : Nat} (hfr : fr ≤ 7) (hlo : lo ≤ 110) {E : String} (hM : XM l yX10_bid (.code yX10_bid cX10_bid 3 (Option.some FieldType.int)) fr lo G B [.ref (B + 0), .int (LV_up a 6), .int (1 + LV_up b 9)] μ E) : XM l yL_turn (.code yL_turn cL_turn 5 (Option.some FieldType.int)) 8 132 G B [.ref (B + 0), .int 4, .int a, .int b] μ E := by
  refine XM.of (by decide) (Nat.le_of_ble_eq_true rfl) ?_
  intro p e s m below meth c ls K hD hx hr hlocks hP hl
  have hS : va_S (AA B) s.heap s.heap [] := va_S.rf
  have hl : lv_has ls 5 [(0, .ref (B + 0)), (1, .int 4), (2, .int a), (3, .int b)] := hl
  refine lv_iload_n K.1.1 K.1.2.1 dL_turn_0 rfl (lv_at hl 2 rfl) ?_
  refine lv_bipush (v := 6) K.1.1 K.1.2.1 dL_turn_1 (by decide) ?_
  refine m_cS (n := 2) (As := [.int a, .int 6]) (rest := []) K hP hS (ML_up l G B _ a 6 (by decide)) q_633 q_634 q_14 q_635 hv_L_up ⟨Nat.le_of_ble_eq_true rfl, Nat.le_of_ble_eq_true rfl⟩ rfl hl.1 rfl (Nat.le_of_ble_eq_true rfl) dL_turn_3 ⟨Nat.zero_le _, Nat.zero_le _⟩ (fun H locs hP hS => ?_)
  refine lv_topi (fun r_1 er_1 => ?_)
  refine lv_istore (lv' := [(4, .int r_1), (0, .ref (B + 0)), (1, .int 4), (2, .int a), (3, .int b)]) K.1.1 K.1.2.1 dL_turn_6 hl (by decide) rfl (fun ls hl => ?_)
  refine lv_iload_n K.1.1 K.1.2.1 dL_turn_8 rfl (lv_at hl 2 rfl) ?_
  refine lv_tableIn (off := 140) (tgt := 149) K.1.1 K.1.2.1 dL_turn_9 (by decide) (by decide) rfl (by decide) ?_
  refine lv_aload_n K.1.1 K.1.2.1 dL_turn_149 rfl (lv_at hl 1 rfl) ?_
  refine lv_iload K.1.1 K.1.2.1 dL_turn_150 (lv_at hl 0 rfl) ?_
  refine lv_iconst (v := 1) K.1.1 K.1.2.1 dL_turn_152 (by decide) ?_
  refine lv_iload_n K.1.1 K.1.2.1 dL_turn_153 rfl (lv_at hl 4 rfl) ?_
  refine lv_bipush (v := 9) K.1.1 K.1.2.1 dL_turn_154 (by decide) ?_
  refine m_cS (n := 2) (As := [.int b, .int 9]) (rest := [.int 1, .int r_1, .ref (B + 0)]) K hP hS (ML_up l G B _ b 9 (by decide)) q_633 q_634 q_14 q_635 hv_L_up ⟨Nat.le_of_ble_eq_true rfl, Nat.le_of_ble_eq_true rfl⟩ rfl hl.1 rfl (Nat.le_of_ble_eq_true rfl) dL_turn_156 ⟨Nat.zero_le _, Nat.zero_le _⟩ (fun H locs hP hS => ?_)
  refine lv_topi (fun r_2 er_2 => ?_)
  refine lv_iadd K.1.1 K.1.2.1 dL_turn_159 ?_
  exact x_cV (n := 2) (As := [.int r_1, .int (1 + r_2)]) (rest := []) (k := 0) K hP hS hD hx hlocks (by subst er_1 er_2; exact hM) (by decide) sh_0 rfl q_721 q_722 q_723 q_15 q_724 hv_X10_bid ⟨by show _ ≤ 8; omega, by show _ ≤ 132; omega⟩ rfl hl.1 rfl (Nat.le_of_ble_eq_true rfl) dL_turn_160 ⟨Nat.le_of_ble_eq_true rfl, Nat.le_of_ble_eq_true rfl⟩

set_option maxHeartbeats 4000000 in
set_option maxRecDepth 100000 in
theorem MT_5_ok (l : Launch) (G : GG) (B : Nat) (μ : Mm) (a b : Int32) {fr lo : Nat} (hfr : fr ≤ 7) (hlo : lo ≤ 110) {v : Int32} {μ' : Mm} (hM : CM l yX10_bid (.code yX10_bid cX10_bid 3 (Option.some FieldType.int)) fr lo G B [.ref (B + 0), .int (LV_up a 6), .int (1 + LV_up b 9)] μ (some (.int v)) μ') : CM l yL_turn (.code yL_turn cL_turn 5 (Option.some FieldType.int)) 8 132 G B [.ref (B + 0), .int 5, .int a, .int b] μ (some (.int v)) μ' := by
  refine CM.of (by decide) (Nat.le_of_ble_eq_true rfl) ?_
  intro p e s m below meth c ls K hr hlocks hP hl
  have hS : va_S (AA B) s.heap s.heap [] := va_S.rf
  have hl : lv_has ls 5 [(0, .ref (B + 0)), (1, .int 5), (2, .int a), (3, .int b)] := hl
  refine lv_iload_n K.1.1 K.1.2.1 dL_turn_0 rfl (lv_at hl 2 rfl) ?_
  refine lv_bipush (v := 6) K.1.1 K.1.2.1 dL_turn_1 (by decide) ?_
  refine m_cS (n := 2) (As := [.int a, .int 6]) (rest := []) K hP hS (ML_up l G B _ a 6 (by decide)) q_633 q_634 q_14 q_635 hv_L_up ⟨Nat.le_of_ble_eq_true rfl, Nat.le_of_ble_eq_true rfl⟩ rfl hl.1 rfl (Nat.le_of_ble_eq_true rfl) dL_turn_3 ⟨Nat.zero_le _, Nat.zero_le _⟩ (fun H locs hP hS => ?_)
  refine lv_topi (fun r_1 er_1 => ?_)
  refine lv_istore (lv' := [(4, .int r_1), (0, .ref (B + 0)), (1, .int 5), (2, .int a), (3, .int b)]) K.1.1 K.1.2.1 dL_turn_6 hl (by decide) rfl (fun ls hl => ?_)
  refine lv_iload_n K.1.1 K.1.2.1 dL_turn_8 rfl (lv_at hl 2 rfl) ?_
  refine lv_tableIn (off := 140) (tgt := 149) K.1.1 K.1.2.1 dL_turn_9 (by decide) (by decide) rfl (by decide) ?_
  refine lv_aload_n K.1.1 K.1.2.1 dL_turn_149 rfl (lv_at hl 1 rfl) ?_
  refine lv_iload K.1.1 K.1.2.1 dL_turn_150 (lv_at hl 0 rfl) ?_
  refine lv_iconst (v := 1) K.1.1 K.1.2.1 dL_turn_152 (by decide) ?_
  refine lv_iload_n K.1.1 K.1.2.1 dL_turn_153 rfl (lv_at hl 4 rfl) ?_
  refine lv_bipush (v := 9) K.1.1 K.1.2.1 dL_turn_154 (by decide) ?_
  refine m_cS (n := 2) (As := [.int b, .int 9]) (rest := [.int 1, .int r_1, .ref (B + 0)]) K hP hS (ML_up l G B _ b 9 (by decide)) q_633 q_634 q_14 q_635 hv_L_up ⟨Nat.le_of_ble_eq_true rfl, Nat.le_of_ble_eq_true rfl⟩ rfl hl.1 rfl (Nat.le_of_ble_eq_true rfl) dL_turn_156 ⟨Nat.zero_le _, Nat.zero_le _⟩ (fun H locs hP hS => ?_)
  refine lv_topi (fun r_2 er_2 => ?_)
  refine lv_iadd K.1.1 K.1.2.1 dL_turn_159 ?_
  refine m_cV (n := 2) (As := [.int r_1, .int (1 + r_2)]) (rest := []) (k := 0) K hP hS (by subst er_1 er_2; exact hM) (by decide) sh_0 rfl q_721 q_722 q_723 q_15 q_724 hv_X10_bid ⟨by show _ ≤ 8; omega, by show _ ≤ 132; omega⟩ rfl hl.1 rfl (Nat.le_of_ble_eq_true rfl) dL_turn_160 ⟨Nat.zero_le _, Nat.zero_le _⟩ (fun H locs hP hS => ?_)
  refine lv_topi (fun r_3 er_3 => ?_)
  exact m_iret K hr hlocks hP hS dL_turn_163 (by subst er_3; rfl) (by subst er_3; rfl)

set_option maxHeartbeats 4000000 in
set_option maxRecDepth 100000 in
theorem MT_5_x (l : Launch) (G : GG) (B : Nat) (μ : Mm) (a b : Int32) {fr lo : Nat} (hfr : fr ≤ 7) (hlo : lo ≤ 110) {E : String} (hM : XM l yX10_bid (.code yX10_bid cX10_bid 3 (Option.some FieldType.int)) fr lo G B [.ref (B + 0), .int (LV_up a 6), .int (1 + LV_up b 9)] μ E) : XM l yL_turn (.code yL_turn cL_turn 5 (Option.some FieldType.int)) 8 132 G B [.ref (B + 0), .int 5, .int a, .int b] μ E := by
  refine XM.of (by decide) (Nat.le_of_ble_eq_true rfl) ?_
  intro p e s m below meth c ls K hD hx hr hlocks hP hl
  have hS : va_S (AA B) s.heap s.heap [] := va_S.rf
  have hl : lv_has ls 5 [(0, .ref (B + 0)), (1, .int 5), (2, .int a), (3, .int b)] := hl
  refine lv_iload_n K.1.1 K.1.2.1 dL_turn_0 rfl (lv_at hl 2 rfl) ?_
  refine lv_bipush (v := 6) K.1.1 K.1.2.1 dL_turn_1 (by decide) ?_
  refine m_cS (n := 2) (As := [.int a, .int 6]) (rest := []) K hP hS (ML_up l G B _ a 6 (by decide)) q_633 q_634 q_14 q_635 hv_L_up ⟨Nat.le_of_ble_eq_true rfl, Nat.le_of_ble_eq_true rfl⟩ rfl hl.1 rfl (Nat.le_of_ble_eq_true rfl) dL_turn_3 ⟨Nat.zero_le _, Nat.zero_le _⟩ (fun H locs hP hS => ?_)
  refine lv_topi (fun r_1 er_1 => ?_)
  refine lv_istore (lv' := [(4, .int r_1), (0, .ref (B + 0)), (1, .int 5), (2, .int a), (3, .int b)]) K.1.1 K.1.2.1 dL_turn_6 hl (by decide) rfl (fun ls hl => ?_)
  refine lv_iload_n K.1.1 K.1.2.1 dL_turn_8 rfl (lv_at hl 2 rfl) ?_
  refine lv_tableIn (off := 140) (tgt := 149) K.1.1 K.1.2.1 dL_turn_9 (by decide) (by decide) rfl (by decide) ?_
  refine lv_aload_n K.1.1 K.1.2.1 dL_turn_149 rfl (lv_at hl 1 rfl) ?_
  refine lv_iload K.1.1 K.1.2.1 dL_turn_150 (lv_at hl 0 rfl) ?_
  refine lv_iconst (v := 1) K.1.1 K.1.2.1 dL_turn_152 (by decide) ?_
  refine lv_iload_n K.1.1 K.1.2.1 dL_turn_153 rfl (lv_at hl 4 rfl) ?_
  refine lv_bipush (v := 9) K.1.1 K.1.2.1 dL_turn_154 (by decide) ?_
  refine m_cS (n := 2) (As := [.int b, .int 9]) (rest := [.int 1, .int r_1, .ref (B + 0)]) K hP hS (ML_up l G B _ b 9 (by decide)) q_633 q_634 q_14 q_635 hv_L_up ⟨Nat.le_of_ble_eq_true rfl, Nat.le_of_ble_eq_true rfl⟩ rfl hl.1 rfl (Nat.le_of_ble_eq_true rfl) dL_turn_156 ⟨Nat.zero_le _, Nat.zero_le _⟩ (fun H locs hP hS => ?_)
  refine lv_topi (fun r_2 er_2 => ?_)
  refine lv_iadd K.1.1 K.1.2.1 dL_turn_159 ?_
  exact x_cV (n := 2) (As := [.int r_1, .int (1 + r_2)]) (rest := []) (k := 0) K hP hS hD hx hlocks (by subst er_1 er_2; exact hM) (by decide) sh_0 rfl q_721 q_722 q_723 q_15 q_724 hv_X10_bid ⟨by show _ ≤ 8; omega, by show _ ≤ 132; omega⟩ rfl hl.1 rfl (Nat.le_of_ble_eq_true rfl) dL_turn_160 ⟨Nat.le_of_ble_eq_true rfl, Nat.le_of_ble_eq_true rfl⟩

set_option maxHeartbeats 4000000 in
set_option maxRecDepth 100000 in
theorem MT_6_ok (l : Launch) (G : GG) (B : Nat) (μ : Mm) (a b : Int32) {fr lo : Nat} (hfr : fr ≤ 7) (hlo : lo ≤ 110) {v : Int32} {μ' : Mm} (hM : CM l yX10_bid (.code yX10_bid cX10_bid 3 (Option.some FieldType.int)) fr lo G B [.ref (B + 0), .int (LV_up a 6), .int (1 + LV_up b 9)] μ (some (.int v)) μ') : CM l yL_turn (.code yL_turn cL_turn 5 (Option.some FieldType.int)) 8 132 G B [.ref (B + 0), .int 6, .int a, .int b] μ (some (.int v)) μ' := by
  refine CM.of (by decide) (Nat.le_of_ble_eq_true rfl) ?_
  intro p e s m below meth c ls K hr hlocks hP hl
  have hS : va_S (AA B) s.heap s.heap [] := va_S.rf
  have hl : lv_has ls 5 [(0, .ref (B + 0)), (1, .int 6), (2, .int a), (3, .int b)] := hl
  refine lv_iload_n K.1.1 K.1.2.1 dL_turn_0 rfl (lv_at hl 2 rfl) ?_
  refine lv_bipush (v := 6) K.1.1 K.1.2.1 dL_turn_1 (by decide) ?_
  refine m_cS (n := 2) (As := [.int a, .int 6]) (rest := []) K hP hS (ML_up l G B _ a 6 (by decide)) q_633 q_634 q_14 q_635 hv_L_up ⟨Nat.le_of_ble_eq_true rfl, Nat.le_of_ble_eq_true rfl⟩ rfl hl.1 rfl (Nat.le_of_ble_eq_true rfl) dL_turn_3 ⟨Nat.zero_le _, Nat.zero_le _⟩ (fun H locs hP hS => ?_)
  refine lv_topi (fun r_1 er_1 => ?_)
  refine lv_istore (lv' := [(4, .int r_1), (0, .ref (B + 0)), (1, .int 6), (2, .int a), (3, .int b)]) K.1.1 K.1.2.1 dL_turn_6 hl (by decide) rfl (fun ls hl => ?_)
  refine lv_iload_n K.1.1 K.1.2.1 dL_turn_8 rfl (lv_at hl 2 rfl) ?_
  refine lv_tableIn (off := 140) (tgt := 149) K.1.1 K.1.2.1 dL_turn_9 (by decide) (by decide) rfl (by decide) ?_
  refine lv_aload_n K.1.1 K.1.2.1 dL_turn_149 rfl (lv_at hl 1 rfl) ?_
  refine lv_iload K.1.1 K.1.2.1 dL_turn_150 (lv_at hl 0 rfl) ?_
  refine lv_iconst (v := 1) K.1.1 K.1.2.1 dL_turn_152 (by decide) ?_
  refine lv_iload_n K.1.1 K.1.2.1 dL_turn_153 rfl (lv_at hl 4 rfl) ?_
  refine lv_bipush (v := 9) K.1.1 K.1.2.1 dL_turn_154 (by decide) ?_
  refine m_cS (n := 2) (As := [.int b, .int 9]) (rest := [.int 1, .int r_1, .ref (B + 0)]) K hP hS (ML_up l G B _ b 9 (by decide)) q_633 q_634 q_14 q_635 hv_L_up ⟨Nat.le_of_ble_eq_true rfl, Nat.le_of_ble_eq_true rfl⟩ rfl hl.1 rfl (Nat.le_of_ble_eq_true rfl) dL_turn_156 ⟨Nat.zero_le _, Nat.zero_le _⟩ (fun H locs hP hS => ?_)
  refine lv_topi (fun r_2 er_2 => ?_)
  refine lv_iadd K.1.1 K.1.2.1 dL_turn_159 ?_
  refine m_cV (n := 2) (As := [.int r_1, .int (1 + r_2)]) (rest := []) (k := 0) K hP hS (by subst er_1 er_2; exact hM) (by decide) sh_0 rfl q_721 q_722 q_723 q_15 q_724 hv_X10_bid ⟨by show _ ≤ 8; omega, by show _ ≤ 132; omega⟩ rfl hl.1 rfl (Nat.le_of_ble_eq_true rfl) dL_turn_160 ⟨Nat.zero_le _, Nat.zero_le _⟩ (fun H locs hP hS => ?_)
  refine lv_topi (fun r_3 er_3 => ?_)
  exact m_iret K hr hlocks hP hS dL_turn_163 (by subst er_3; rfl) (by subst er_3; rfl)

set_option maxHeartbeats 4000000 in
set_option maxRecDepth 100000 in
theorem MT_6_x (l : Launch) (G : GG) (B : Nat) (μ : Mm) (a b : Int32) {fr lo : Nat} (hfr : fr ≤ 7) (hlo : lo ≤ 110) {E : String} (hM : XM l yX10_bid (.code yX10_bid cX10_bid 3 (Option.some FieldType.int)) fr lo G B [.ref (B + 0), .int (LV_up a 6), .int (1 + LV_up b 9)] μ E) : XM l yL_turn (.code yL_turn cL_turn 5 (Option.some FieldType.int)) 8 132 G B [.ref (B + 0), .int 6, .int a, .int b] μ E := by
  refine XM.of (by decide) (Nat.le_of_ble_eq_true rfl) ?_
  intro p e s m below meth c ls K hD hx hr hlocks hP hl
  have hS : va_S (AA B) s.heap s.heap [] := va_S.rf
  have hl : lv_has ls 5 [(0, .ref (B + 0)), (1, .int 6), (2, .int a), (3, .int b)] := hl
  refine lv_iload_n K.1.1 K.1.2.1 dL_turn_0 rfl (lv_at hl 2 rfl) ?_
  refine lv_bipush (v := 6) K.1.1 K.1.2.1 dL_turn_1 (by decide) ?_
  refine m_cS (n := 2) (As := [.int a, .int 6]) (rest := []) K hP hS (ML_up l G B _ a 6 (by decide)) q_633 q_634 q_14 q_635 hv_L_up ⟨Nat.le_of_ble_eq_true rfl, Nat.le_of_ble_eq_true rfl⟩ rfl hl.1 rfl (Nat.le_of_ble_eq_true rfl) dL_turn_3 ⟨Nat.zero_le _, Nat.zero_le _⟩ (fun H locs hP hS => ?_)
  refine lv_topi (fun r_1 er_1 => ?_)
  refine lv_istore (lv' := [(4, .int r_1), (0, .ref (B + 0)), (1, .int 6), (2, .int a), (3, .int b)]) K.1.1 K.1.2.1 dL_turn_6 hl (by decide) rfl (fun ls hl => ?_)
  refine lv_iload_n K.1.1 K.1.2.1 dL_turn_8 rfl (lv_at hl 2 rfl) ?_
  refine lv_tableIn (off := 140) (tgt := 149) K.1.1 K.1.2.1 dL_turn_9 (by decide) (by decide) rfl (by decide) ?_
  refine lv_aload_n K.1.1 K.1.2.1 dL_turn_149 rfl (lv_at hl 1 rfl) ?_
  refine lv_iload K.1.1 K.1.2.1 dL_turn_150 (lv_at hl 0 rfl) ?_
  refine lv_iconst (v := 1) K.1.1 K.1.2.1 dL_turn_152 (by decide) ?_
  refine lv_iload_n K.1.1 K.1.2.1 dL_turn_153 rfl (lv_at hl 4 rfl) ?_
  refine lv_bipush (v := 9) K.1.1 K.1.2.1 dL_turn_154 (by decide) ?_
  refine m_cS (n := 2) (As := [.int b, .int 9]) (rest := [.int 1, .int r_1, .ref (B + 0)]) K hP hS (ML_up l G B _ b 9 (by decide)) q_633 q_634 q_14 q_635 hv_L_up ⟨Nat.le_of_ble_eq_true rfl, Nat.le_of_ble_eq_true rfl⟩ rfl hl.1 rfl (Nat.le_of_ble_eq_true rfl) dL_turn_156 ⟨Nat.zero_le _, Nat.zero_le _⟩ (fun H locs hP hS => ?_)
  refine lv_topi (fun r_2 er_2 => ?_)
  refine lv_iadd K.1.1 K.1.2.1 dL_turn_159 ?_
  exact x_cV (n := 2) (As := [.int r_1, .int (1 + r_2)]) (rest := []) (k := 0) K hP hS hD hx hlocks (by subst er_1 er_2; exact hM) (by decide) sh_0 rfl q_721 q_722 q_723 q_15 q_724 hv_X10_bid ⟨by show _ ≤ 8; omega, by show _ ≤ 132; omega⟩ rfl hl.1 rfl (Nat.le_of_ble_eq_true rfl) dL_turn_160 ⟨Nat.le_of_ble_eq_true rfl, Nat.le_of_ble_eq_true rfl⟩

set_option maxHeartbeats 4000000 in
set_option maxRecDepth 100000 in
theorem MT_7_ok (l : Launch) (G : GG) (B : Nat) (μ : Mm) (a b : Int32) {fr lo : Nat} (hfr : fr ≤ 7) (hlo : lo ≤ 110) {v : Int32} {μ' : Mm} (hM : CM l yX10_order (.code yX10_order cX10_order 4 (Option.some FieldType.int)) fr lo G B [.ref (B + 0), .int (LV_up a 6), .int (1 + LV_up b 120), .int ((1 : Int32) + LV_up (b >>> ((8 : Int32) &&& 31)) 9)] μ (some (.int v)) μ') : CM l yL_turn (.code yL_turn cL_turn 5 (Option.some FieldType.int)) 8 133 G B [.ref (B + 0), .int 7, .int a, .int b] μ (some (.int v)) μ' := by
  refine CM.of (by decide) (Nat.le_of_ble_eq_true rfl) ?_
  intro p e s m below meth c ls K hr hlocks hP hl
  have hS : va_S (AA B) s.heap s.heap [] := va_S.rf
  have hl : lv_has ls 5 [(0, .ref (B + 0)), (1, .int 7), (2, .int a), (3, .int b)] := hl
  refine lv_iload_n K.1.1 K.1.2.1 dL_turn_0 rfl (lv_at hl 2 rfl) ?_
  refine lv_bipush (v := 6) K.1.1 K.1.2.1 dL_turn_1 (by decide) ?_
  refine m_cS (n := 2) (As := [.int a, .int 6]) (rest := []) K hP hS (ML_up l G B _ a 6 (by decide)) q_633 q_634 q_14 q_635 hv_L_up ⟨Nat.le_of_ble_eq_true rfl, Nat.le_of_ble_eq_true rfl⟩ rfl hl.1 rfl (Nat.le_of_ble_eq_true rfl) dL_turn_3 ⟨Nat.zero_le _, Nat.zero_le _⟩ (fun H locs hP hS => ?_)
  refine lv_topi (fun r_1 er_1 => ?_)
  refine lv_istore (lv' := [(4, .int r_1), (0, .ref (B + 0)), (1, .int 7), (2, .int a), (3, .int b)]) K.1.1 K.1.2.1 dL_turn_6 hl (by decide) rfl (fun ls hl => ?_)
  refine lv_iload_n K.1.1 K.1.2.1 dL_turn_8 rfl (lv_at hl 2 rfl) ?_
  refine lv_tableIn (off := 155) (tgt := 164) K.1.1 K.1.2.1 dL_turn_9 (by decide) (by decide) rfl (by decide) ?_
  refine lv_aload_n K.1.1 K.1.2.1 dL_turn_164 rfl (lv_at hl 1 rfl) ?_
  refine lv_iload K.1.1 K.1.2.1 dL_turn_165 (lv_at hl 0 rfl) ?_
  refine lv_iconst (v := 1) K.1.1 K.1.2.1 dL_turn_167 (by decide) ?_
  refine lv_iload_n K.1.1 K.1.2.1 dL_turn_168 rfl (lv_at hl 4 rfl) ?_
  refine lv_bipush (v := 120) K.1.1 K.1.2.1 dL_turn_169 (by decide) ?_
  refine m_cS (n := 2) (As := [.int b, .int 120]) (rest := [.int 1, .int r_1, .ref (B + 0)]) K hP hS (ML_up l G B _ b 120 (by decide)) q_633 q_634 q_14 q_635 hv_L_up ⟨Nat.le_of_ble_eq_true rfl, Nat.le_of_ble_eq_true rfl⟩ rfl hl.1 rfl (Nat.le_of_ble_eq_true rfl) dL_turn_171 ⟨Nat.zero_le _, Nat.zero_le _⟩ (fun H locs hP hS => ?_)
  refine lv_topi (fun r_2 er_2 => ?_)
  refine lv_iadd K.1.1 K.1.2.1 dL_turn_174 ?_
  refine lv_iconst (v := 1) K.1.1 K.1.2.1 dL_turn_175 (by decide) ?_
  refine lv_iload_n K.1.1 K.1.2.1 dL_turn_176 rfl (lv_at hl 4 rfl) ?_
  refine lv_bipush (v := 8) K.1.1 K.1.2.1 dL_turn_177 (by decide) ?_
  refine lv_ishr K.1.1 K.1.2.1 dL_turn_179 ?_
  refine lv_bipush (v := 9) K.1.1 K.1.2.1 dL_turn_180 (by decide) ?_
  refine m_cS (n := 2) (As := [.int (b >>> (8 &&& 31)), .int 9]) (rest := [.int 1, .int (1 + r_2), .int r_1, .ref (B + 0)]) K hP hS (ML_up l G B _ (b >>> (8 &&& 31)) 9 (by decide)) q_633 q_634 q_14 q_635 hv_L_up ⟨Nat.le_of_ble_eq_true rfl, Nat.le_of_ble_eq_true rfl⟩ rfl hl.1 rfl (Nat.le_of_ble_eq_true rfl) dL_turn_182 ⟨Nat.zero_le _, Nat.zero_le _⟩ (fun H locs hP hS => ?_)
  refine lv_topi (fun r_3 er_3 => ?_)
  refine lv_iadd K.1.1 K.1.2.1 dL_turn_185 ?_
  refine m_cV (n := 3) (As := [.int r_1, .int (1 + r_2), .int (1 + r_3)]) (rest := []) (k := 0) K hP hS (by subst er_1 er_2 er_3; exact hM) (by decide) sh_0 rfl q_746 q_747 q_748 q_15 q_749 hv_X10_order ⟨by show _ ≤ 8; omega, by show _ ≤ 133; omega⟩ rfl hl.1 rfl (Nat.le_of_ble_eq_true rfl) dL_turn_186 ⟨Nat.zero_le _, Nat.zero_le _⟩ (fun H locs hP hS => ?_)
  refine lv_topi (fun r_4 er_4 => ?_)
  exact m_iret K hr hlocks hP hS dL_turn_189 (by subst er_4; rfl) (by subst er_4; rfl)

set_option maxHeartbeats 4000000 in
set_option maxRecDepth 100000 in
theorem MT_7_x (l : Launch) (G : GG) (B : Nat) (μ : Mm) (a b : Int32) {fr lo : Nat} (hfr : fr ≤ 7) (hlo : lo ≤ 110) {E : String} (hM : XM l yX10_order (.code yX10_order cX10_order 4 (Option.some FieldType.int)) fr lo G B [.ref (B + 0), .int (LV_up a 6), .int (1 + LV_up b 120), .int ((1 : Int32) + LV_up (b >>> ((8 : Int32) &&& 31)) 9)] μ E) : XM l yL_turn (.code yL_turn cL_turn 5 (Option.some FieldType.int)) 8 133 G B [.ref (B + 0), .int 7, .int a, .int b] μ E := by
  refine XM.of (by decide) (Nat.le_of_ble_eq_true rfl) ?_
  intro p e s m below meth c ls K hD hx hr hlocks hP hl
  have hS : va_S (AA B) s.heap s.heap [] := va_S.rf
  have hl : lv_has ls 5 [(0, .ref (B + 0)), (1, .int 7), (2, .int a), (3, .int b)] := hl
  refine lv_iload_n K.1.1 K.1.2.1 dL_turn_0 rfl (lv_at hl 2 rfl) ?_
  refine lv_bipush (v := 6) K.1.1 K.1.2.1 dL_turn_1 (by decide) ?_
  refine m_cS (n := 2) (As := [.int a, .int 6]) (rest := []) K hP hS (ML_up l G B _ a 6 (by decide)) q_633 q_634 q_14 q_635 hv_L_up ⟨Nat.le_of_ble_eq_true rfl, Nat.le_of_ble_eq_true rfl⟩ rfl hl.1 rfl (Nat.le_of_ble_eq_true rfl) dL_turn_3 ⟨Nat.zero_le _, Nat.zero_le _⟩ (fun H locs hP hS => ?_)
  refine lv_topi (fun r_1 er_1 => ?_)
  refine lv_istore (lv' := [(4, .int r_1), (0, .ref (B + 0)), (1, .int 7), (2, .int a), (3, .int b)]) K.1.1 K.1.2.1 dL_turn_6 hl (by decide) rfl (fun ls hl => ?_)
  refine lv_iload_n K.1.1 K.1.2.1 dL_turn_8 rfl (lv_at hl 2 rfl) ?_
  refine lv_tableIn (off := 155) (tgt := 164) K.1.1 K.1.2.1 dL_turn_9 (by decide) (by decide) rfl (by decide) ?_
  refine lv_aload_n K.1.1 K.1.2.1 dL_turn_164 rfl (lv_at hl 1 rfl) ?_
  refine lv_iload K.1.1 K.1.2.1 dL_turn_165 (lv_at hl 0 rfl) ?_
  refine lv_iconst (v := 1) K.1.1 K.1.2.1 dL_turn_167 (by decide) ?_
  refine lv_iload_n K.1.1 K.1.2.1 dL_turn_168 rfl (lv_at hl 4 rfl) ?_
  refine lv_bipush (v := 120) K.1.1 K.1.2.1 dL_turn_169 (by decide) ?_
  refine m_cS (n := 2) (As := [.int b, .int 120]) (rest := [.int 1, .int r_1, .ref (B + 0)]) K hP hS (ML_up l G B _ b 120 (by decide)) q_633 q_634 q_14 q_635 hv_L_up ⟨Nat.le_of_ble_eq_true rfl, Nat.le_of_ble_eq_true rfl⟩ rfl hl.1 rfl (Nat.le_of_ble_eq_true rfl) dL_turn_171 ⟨Nat.zero_le _, Nat.zero_le _⟩ (fun H locs hP hS => ?_)
  refine lv_topi (fun r_2 er_2 => ?_)
  refine lv_iadd K.1.1 K.1.2.1 dL_turn_174 ?_
  refine lv_iconst (v := 1) K.1.1 K.1.2.1 dL_turn_175 (by decide) ?_
  refine lv_iload_n K.1.1 K.1.2.1 dL_turn_176 rfl (lv_at hl 4 rfl) ?_
  refine lv_bipush (v := 8) K.1.1 K.1.2.1 dL_turn_177 (by decide) ?_
  refine lv_ishr K.1.1 K.1.2.1 dL_turn_179 ?_
  refine lv_bipush (v := 9) K.1.1 K.1.2.1 dL_turn_180 (by decide) ?_
  refine m_cS (n := 2) (As := [.int (b >>> (8 &&& 31)), .int 9]) (rest := [.int 1, .int (1 + r_2), .int r_1, .ref (B + 0)]) K hP hS (ML_up l G B _ (b >>> (8 &&& 31)) 9 (by decide)) q_633 q_634 q_14 q_635 hv_L_up ⟨Nat.le_of_ble_eq_true rfl, Nat.le_of_ble_eq_true rfl⟩ rfl hl.1 rfl (Nat.le_of_ble_eq_true rfl) dL_turn_182 ⟨Nat.zero_le _, Nat.zero_le _⟩ (fun H locs hP hS => ?_)
  refine lv_topi (fun r_3 er_3 => ?_)
  refine lv_iadd K.1.1 K.1.2.1 dL_turn_185 ?_
  exact x_cV (n := 3) (As := [.int r_1, .int (1 + r_2), .int (1 + r_3)]) (rest := []) (k := 0) K hP hS hD hx hlocks (by subst er_1 er_2 er_3; exact hM) (by decide) sh_0 rfl q_746 q_747 q_748 q_15 q_749 hv_X10_order ⟨by show _ ≤ 8; omega, by show _ ≤ 133; omega⟩ rfl hl.1 rfl (Nat.le_of_ble_eq_true rfl) dL_turn_186 ⟨Nat.le_of_ble_eq_true rfl, Nat.le_of_ble_eq_true rfl⟩

set_option maxHeartbeats 4000000 in
set_option maxRecDepth 100000 in
theorem MT_8_ok (l : Launch) (G : GG) (B : Nat) (μ : Mm) (a b : Int32) {fr lo : Nat} (hfr : fr ≤ 7) (hlo : lo ≤ 110) {v : Int32} {μ' : Mm} (hM : CM l yX10_order (.code yX10_order cX10_order 4 (Option.some FieldType.int)) fr lo G B [.ref (B + 0), .int (LV_up a 6), .int (1 + LV_up b 120), .int ((1 : Int32) + LV_up (b >>> ((8 : Int32) &&& 31)) 9)] μ (some (.int v)) μ') : CM l yL_turn (.code yL_turn cL_turn 5 (Option.some FieldType.int)) 8 133 G B [.ref (B + 0), .int 8, .int a, .int b] μ (some (.int v)) μ' := by
  refine CM.of (by decide) (Nat.le_of_ble_eq_true rfl) ?_
  intro p e s m below meth c ls K hr hlocks hP hl
  have hS : va_S (AA B) s.heap s.heap [] := va_S.rf
  have hl : lv_has ls 5 [(0, .ref (B + 0)), (1, .int 8), (2, .int a), (3, .int b)] := hl
  refine lv_iload_n K.1.1 K.1.2.1 dL_turn_0 rfl (lv_at hl 2 rfl) ?_
  refine lv_bipush (v := 6) K.1.1 K.1.2.1 dL_turn_1 (by decide) ?_
  refine m_cS (n := 2) (As := [.int a, .int 6]) (rest := []) K hP hS (ML_up l G B _ a 6 (by decide)) q_633 q_634 q_14 q_635 hv_L_up ⟨Nat.le_of_ble_eq_true rfl, Nat.le_of_ble_eq_true rfl⟩ rfl hl.1 rfl (Nat.le_of_ble_eq_true rfl) dL_turn_3 ⟨Nat.zero_le _, Nat.zero_le _⟩ (fun H locs hP hS => ?_)
  refine lv_topi (fun r_1 er_1 => ?_)
  refine lv_istore (lv' := [(4, .int r_1), (0, .ref (B + 0)), (1, .int 8), (2, .int a), (3, .int b)]) K.1.1 K.1.2.1 dL_turn_6 hl (by decide) rfl (fun ls hl => ?_)
  refine lv_iload_n K.1.1 K.1.2.1 dL_turn_8 rfl (lv_at hl 2 rfl) ?_
  refine lv_tableIn (off := 155) (tgt := 164) K.1.1 K.1.2.1 dL_turn_9 (by decide) (by decide) rfl (by decide) ?_
  refine lv_aload_n K.1.1 K.1.2.1 dL_turn_164 rfl (lv_at hl 1 rfl) ?_
  refine lv_iload K.1.1 K.1.2.1 dL_turn_165 (lv_at hl 0 rfl) ?_
  refine lv_iconst (v := 1) K.1.1 K.1.2.1 dL_turn_167 (by decide) ?_
  refine lv_iload_n K.1.1 K.1.2.1 dL_turn_168 rfl (lv_at hl 4 rfl) ?_
  refine lv_bipush (v := 120) K.1.1 K.1.2.1 dL_turn_169 (by decide) ?_
  refine m_cS (n := 2) (As := [.int b, .int 120]) (rest := [.int 1, .int r_1, .ref (B + 0)]) K hP hS (ML_up l G B _ b 120 (by decide)) q_633 q_634 q_14 q_635 hv_L_up ⟨Nat.le_of_ble_eq_true rfl, Nat.le_of_ble_eq_true rfl⟩ rfl hl.1 rfl (Nat.le_of_ble_eq_true rfl) dL_turn_171 ⟨Nat.zero_le _, Nat.zero_le _⟩ (fun H locs hP hS => ?_)
  refine lv_topi (fun r_2 er_2 => ?_)
  refine lv_iadd K.1.1 K.1.2.1 dL_turn_174 ?_
  refine lv_iconst (v := 1) K.1.1 K.1.2.1 dL_turn_175 (by decide) ?_
  refine lv_iload_n K.1.1 K.1.2.1 dL_turn_176 rfl (lv_at hl 4 rfl) ?_
  refine lv_bipush (v := 8) K.1.1 K.1.2.1 dL_turn_177 (by decide) ?_
  refine lv_ishr K.1.1 K.1.2.1 dL_turn_179 ?_
  refine lv_bipush (v := 9) K.1.1 K.1.2.1 dL_turn_180 (by decide) ?_
  refine m_cS (n := 2) (As := [.int (b >>> (8 &&& 31)), .int 9]) (rest := [.int 1, .int (1 + r_2), .int r_1, .ref (B + 0)]) K hP hS (ML_up l G B _ (b >>> (8 &&& 31)) 9 (by decide)) q_633 q_634 q_14 q_635 hv_L_up ⟨Nat.le_of_ble_eq_true rfl, Nat.le_of_ble_eq_true rfl⟩ rfl hl.1 rfl (Nat.le_of_ble_eq_true rfl) dL_turn_182 ⟨Nat.zero_le _, Nat.zero_le _⟩ (fun H locs hP hS => ?_)
  refine lv_topi (fun r_3 er_3 => ?_)
  refine lv_iadd K.1.1 K.1.2.1 dL_turn_185 ?_
  refine m_cV (n := 3) (As := [.int r_1, .int (1 + r_2), .int (1 + r_3)]) (rest := []) (k := 0) K hP hS (by subst er_1 er_2 er_3; exact hM) (by decide) sh_0 rfl q_746 q_747 q_748 q_15 q_749 hv_X10_order ⟨by show _ ≤ 8; omega, by show _ ≤ 133; omega⟩ rfl hl.1 rfl (Nat.le_of_ble_eq_true rfl) dL_turn_186 ⟨Nat.zero_le _, Nat.zero_le _⟩ (fun H locs hP hS => ?_)
  refine lv_topi (fun r_4 er_4 => ?_)
  exact m_iret K hr hlocks hP hS dL_turn_189 (by subst er_4; rfl) (by subst er_4; rfl)

set_option maxHeartbeats 4000000 in
set_option maxRecDepth 100000 in
theorem MT_8_x (l : Launch) (G : GG) (B : Nat) (μ : Mm) (a b : Int32) {fr lo : Nat} (hfr : fr ≤ 7) (hlo : lo ≤ 110) {E : String} (hM : XM l yX10_order (.code yX10_order cX10_order 4 (Option.some FieldType.int)) fr lo G B [.ref (B + 0), .int (LV_up a 6), .int (1 + LV_up b 120), .int ((1 : Int32) + LV_up (b >>> ((8 : Int32) &&& 31)) 9)] μ E) : XM l yL_turn (.code yL_turn cL_turn 5 (Option.some FieldType.int)) 8 133 G B [.ref (B + 0), .int 8, .int a, .int b] μ E := by
  refine XM.of (by decide) (Nat.le_of_ble_eq_true rfl) ?_
  intro p e s m below meth c ls K hD hx hr hlocks hP hl
  have hS : va_S (AA B) s.heap s.heap [] := va_S.rf
  have hl : lv_has ls 5 [(0, .ref (B + 0)), (1, .int 8), (2, .int a), (3, .int b)] := hl
  refine lv_iload_n K.1.1 K.1.2.1 dL_turn_0 rfl (lv_at hl 2 rfl) ?_
  refine lv_bipush (v := 6) K.1.1 K.1.2.1 dL_turn_1 (by decide) ?_
  refine m_cS (n := 2) (As := [.int a, .int 6]) (rest := []) K hP hS (ML_up l G B _ a 6 (by decide)) q_633 q_634 q_14 q_635 hv_L_up ⟨Nat.le_of_ble_eq_true rfl, Nat.le_of_ble_eq_true rfl⟩ rfl hl.1 rfl (Nat.le_of_ble_eq_true rfl) dL_turn_3 ⟨Nat.zero_le _, Nat.zero_le _⟩ (fun H locs hP hS => ?_)
  refine lv_topi (fun r_1 er_1 => ?_)
  refine lv_istore (lv' := [(4, .int r_1), (0, .ref (B + 0)), (1, .int 8), (2, .int a), (3, .int b)]) K.1.1 K.1.2.1 dL_turn_6 hl (by decide) rfl (fun ls hl => ?_)
  refine lv_iload_n K.1.1 K.1.2.1 dL_turn_8 rfl (lv_at hl 2 rfl) ?_
  refine lv_tableIn (off := 155) (tgt := 164) K.1.1 K.1.2.1 dL_turn_9 (by decide) (by decide) rfl (by decide) ?_
  refine lv_aload_n K.1.1 K.1.2.1 dL_turn_164 rfl (lv_at hl 1 rfl) ?_
  refine lv_iload K.1.1 K.1.2.1 dL_turn_165 (lv_at hl 0 rfl) ?_
  refine lv_iconst (v := 1) K.1.1 K.1.2.1 dL_turn_167 (by decide) ?_
  refine lv_iload_n K.1.1 K.1.2.1 dL_turn_168 rfl (lv_at hl 4 rfl) ?_
  refine lv_bipush (v := 120) K.1.1 K.1.2.1 dL_turn_169 (by decide) ?_
  refine m_cS (n := 2) (As := [.int b, .int 120]) (rest := [.int 1, .int r_1, .ref (B + 0)]) K hP hS (ML_up l G B _ b 120 (by decide)) q_633 q_634 q_14 q_635 hv_L_up ⟨Nat.le_of_ble_eq_true rfl, Nat.le_of_ble_eq_true rfl⟩ rfl hl.1 rfl (Nat.le_of_ble_eq_true rfl) dL_turn_171 ⟨Nat.zero_le _, Nat.zero_le _⟩ (fun H locs hP hS => ?_)
  refine lv_topi (fun r_2 er_2 => ?_)
  refine lv_iadd K.1.1 K.1.2.1 dL_turn_174 ?_
  refine lv_iconst (v := 1) K.1.1 K.1.2.1 dL_turn_175 (by decide) ?_
  refine lv_iload_n K.1.1 K.1.2.1 dL_turn_176 rfl (lv_at hl 4 rfl) ?_
  refine lv_bipush (v := 8) K.1.1 K.1.2.1 dL_turn_177 (by decide) ?_
  refine lv_ishr K.1.1 K.1.2.1 dL_turn_179 ?_
  refine lv_bipush (v := 9) K.1.1 K.1.2.1 dL_turn_180 (by decide) ?_
  refine m_cS (n := 2) (As := [.int (b >>> (8 &&& 31)), .int 9]) (rest := [.int 1, .int (1 + r_2), .int r_1, .ref (B + 0)]) K hP hS (ML_up l G B _ (b >>> (8 &&& 31)) 9 (by decide)) q_633 q_634 q_14 q_635 hv_L_up ⟨Nat.le_of_ble_eq_true rfl, Nat.le_of_ble_eq_true rfl⟩ rfl hl.1 rfl (Nat.le_of_ble_eq_true rfl) dL_turn_182 ⟨Nat.zero_le _, Nat.zero_le _⟩ (fun H locs hP hS => ?_)
  refine lv_topi (fun r_3 er_3 => ?_)
  refine lv_iadd K.1.1 K.1.2.1 dL_turn_185 ?_
  exact x_cV (n := 3) (As := [.int r_1, .int (1 + r_2), .int (1 + r_3)]) (rest := []) (k := 0) K hP hS hD hx hlocks (by subst er_1 er_2 er_3; exact hM) (by decide) sh_0 rfl q_746 q_747 q_748 q_15 q_749 hv_X10_order ⟨by show _ ≤ 8; omega, by show _ ≤ 133; omega⟩ rfl hl.1 rfl (Nat.le_of_ble_eq_true rfl) dL_turn_186 ⟨Nat.le_of_ble_eq_true rfl, Nat.le_of_ble_eq_true rfl⟩

set_option maxHeartbeats 4000000 in
set_option maxRecDepth 100000 in
theorem MT_9_ok (l : Launch) (G : GG) (B : Nat) (μ : Mm) (a b : Int32) {fr lo : Nat} (hfr : fr ≤ 7) (hlo : lo ≤ 110) {v : Int32} {μ' : Mm} (hM : CM l yX10_cancel (.code yX10_cancel cX10_cancel 2 (Option.some FieldType.int)) fr lo G B [.ref (B + 0), .int (LV_up a 30)] μ (some (.int v)) μ') : CM l yL_turn (.code yL_turn cL_turn 5 (Option.some FieldType.int)) 8 131 G B [.ref (B + 0), .int 9, .int a, .int b] μ (some (.int v)) μ' := by
  refine CM.of (by decide) (Nat.le_of_ble_eq_true rfl) ?_
  intro p e s m below meth c ls K hr hlocks hP hl
  have hS : va_S (AA B) s.heap s.heap [] := va_S.rf
  have hl : lv_has ls 5 [(0, .ref (B + 0)), (1, .int 9), (2, .int a), (3, .int b)] := hl
  refine lv_iload_n K.1.1 K.1.2.1 dL_turn_0 rfl (lv_at hl 2 rfl) ?_
  refine lv_bipush (v := 6) K.1.1 K.1.2.1 dL_turn_1 (by decide) ?_
  refine m_cS (n := 2) (As := [.int a, .int 6]) (rest := []) K hP hS (ML_up l G B _ a 6 (by decide)) q_633 q_634 q_14 q_635 hv_L_up ⟨Nat.le_of_ble_eq_true rfl, Nat.le_of_ble_eq_true rfl⟩ rfl hl.1 rfl (Nat.le_of_ble_eq_true rfl) dL_turn_3 ⟨Nat.zero_le _, Nat.zero_le _⟩ (fun H locs hP hS => ?_)
  refine lv_topi (fun r_1 er_1 => ?_)
  refine lv_istore (lv' := [(4, .int r_1), (0, .ref (B + 0)), (1, .int 9), (2, .int a), (3, .int b)]) K.1.1 K.1.2.1 dL_turn_6 hl (by decide) rfl (fun ls hl => ?_)
  refine lv_iload_n K.1.1 K.1.2.1 dL_turn_8 rfl (lv_at hl 2 rfl) ?_
  refine lv_tableIn (off := 181) (tgt := 190) K.1.1 K.1.2.1 dL_turn_9 (by decide) (by decide) rfl (by decide) ?_
  refine lv_aload_n K.1.1 K.1.2.1 dL_turn_190 rfl (lv_at hl 1 rfl) ?_
  refine lv_iload_n K.1.1 K.1.2.1 dL_turn_191 rfl (lv_at hl 3 rfl) ?_
  refine lv_bipush (v := 30) K.1.1 K.1.2.1 dL_turn_192 (by decide) ?_
  refine m_cS (n := 2) (As := [.int a, .int 30]) (rest := [.ref (B + 0)]) K hP hS (ML_up l G B _ a 30 (by decide)) q_633 q_634 q_14 q_635 hv_L_up ⟨Nat.le_of_ble_eq_true rfl, Nat.le_of_ble_eq_true rfl⟩ rfl hl.1 rfl (Nat.le_of_ble_eq_true rfl) dL_turn_194 ⟨Nat.zero_le _, Nat.zero_le _⟩ (fun H locs hP hS => ?_)
  refine lv_topi (fun r_2 er_2 => ?_)
  refine m_cV (n := 1) (As := [.int r_2]) (rest := []) (k := 0) K hP hS (by subst er_1 er_2; exact hM) (by decide) sh_0 rfl q_751 q_752 q_753 q_15 q_754 hv_X10_cancel ⟨by show _ ≤ 8; omega, by show _ ≤ 131; omega⟩ rfl hl.1 rfl (Nat.le_of_ble_eq_true rfl) dL_turn_197 ⟨Nat.zero_le _, Nat.zero_le _⟩ (fun H locs hP hS => ?_)
  refine lv_topi (fun r_3 er_3 => ?_)
  exact m_iret K hr hlocks hP hS dL_turn_200 (by subst er_3; rfl) (by subst er_3; rfl)

set_option maxHeartbeats 4000000 in
set_option maxRecDepth 100000 in
theorem MT_9_x (l : Launch) (G : GG) (B : Nat) (μ : Mm) (a b : Int32) {fr lo : Nat} (hfr : fr ≤ 7) (hlo : lo ≤ 110) {E : String} (hM : XM l yX10_cancel (.code yX10_cancel cX10_cancel 2 (Option.some FieldType.int)) fr lo G B [.ref (B + 0), .int (LV_up a 30)] μ E) : XM l yL_turn (.code yL_turn cL_turn 5 (Option.some FieldType.int)) 8 131 G B [.ref (B + 0), .int 9, .int a, .int b] μ E := by
  refine XM.of (by decide) (Nat.le_of_ble_eq_true rfl) ?_
  intro p e s m below meth c ls K hD hx hr hlocks hP hl
  have hS : va_S (AA B) s.heap s.heap [] := va_S.rf
  have hl : lv_has ls 5 [(0, .ref (B + 0)), (1, .int 9), (2, .int a), (3, .int b)] := hl
  refine lv_iload_n K.1.1 K.1.2.1 dL_turn_0 rfl (lv_at hl 2 rfl) ?_
  refine lv_bipush (v := 6) K.1.1 K.1.2.1 dL_turn_1 (by decide) ?_
  refine m_cS (n := 2) (As := [.int a, .int 6]) (rest := []) K hP hS (ML_up l G B _ a 6 (by decide)) q_633 q_634 q_14 q_635 hv_L_up ⟨Nat.le_of_ble_eq_true rfl, Nat.le_of_ble_eq_true rfl⟩ rfl hl.1 rfl (Nat.le_of_ble_eq_true rfl) dL_turn_3 ⟨Nat.zero_le _, Nat.zero_le _⟩ (fun H locs hP hS => ?_)
  refine lv_topi (fun r_1 er_1 => ?_)
  refine lv_istore (lv' := [(4, .int r_1), (0, .ref (B + 0)), (1, .int 9), (2, .int a), (3, .int b)]) K.1.1 K.1.2.1 dL_turn_6 hl (by decide) rfl (fun ls hl => ?_)
  refine lv_iload_n K.1.1 K.1.2.1 dL_turn_8 rfl (lv_at hl 2 rfl) ?_
  refine lv_tableIn (off := 181) (tgt := 190) K.1.1 K.1.2.1 dL_turn_9 (by decide) (by decide) rfl (by decide) ?_
  refine lv_aload_n K.1.1 K.1.2.1 dL_turn_190 rfl (lv_at hl 1 rfl) ?_
  refine lv_iload_n K.1.1 K.1.2.1 dL_turn_191 rfl (lv_at hl 3 rfl) ?_
  refine lv_bipush (v := 30) K.1.1 K.1.2.1 dL_turn_192 (by decide) ?_
  refine m_cS (n := 2) (As := [.int a, .int 30]) (rest := [.ref (B + 0)]) K hP hS (ML_up l G B _ a 30 (by decide)) q_633 q_634 q_14 q_635 hv_L_up ⟨Nat.le_of_ble_eq_true rfl, Nat.le_of_ble_eq_true rfl⟩ rfl hl.1 rfl (Nat.le_of_ble_eq_true rfl) dL_turn_194 ⟨Nat.zero_le _, Nat.zero_le _⟩ (fun H locs hP hS => ?_)
  refine lv_topi (fun r_2 er_2 => ?_)
  exact x_cV (n := 1) (As := [.int r_2]) (rest := []) (k := 0) K hP hS hD hx hlocks (by subst er_1 er_2; exact hM) (by decide) sh_0 rfl q_751 q_752 q_753 q_15 q_754 hv_X10_cancel ⟨by show _ ≤ 8; omega, by show _ ≤ 131; omega⟩ rfl hl.1 rfl (Nat.le_of_ble_eq_true rfl) dL_turn_197 ⟨Nat.le_of_ble_eq_true rfl, Nat.le_of_ble_eq_true rfl⟩

set_option maxHeartbeats 4000000 in
set_option maxRecDepth 100000 in
theorem MT_10_ok (l : Launch) (G : GG) (B : Nat) (μ : Mm) (a b : Int32) {fr lo : Nat} (hfr : fr ≤ 7) (hlo : lo ≤ 114) {v : Int32} {μ' : Mm} (hM : CM l yX10_clear (.code yX10_clear cX10_clear 1 (Option.some FieldType.int)) fr lo G B [.ref (B + 0)] μ (some (.int v)) μ') : CM l yL_turn (.code yL_turn cL_turn 5 (Option.some FieldType.int)) 8 134 G B [.ref (B + 0), .int 10, .int a, .int b] μ (some (.int v)) μ' := by
  refine CM.of (by decide) (Nat.le_of_ble_eq_true rfl) ?_
  intro p e s m below meth c ls K hr hlocks hP hl
  have hS : va_S (AA B) s.heap s.heap [] := va_S.rf
  have hl : lv_has ls 5 [(0, .ref (B + 0)), (1, .int 10), (2, .int a), (3, .int b)] := hl
  refine lv_iload_n K.1.1 K.1.2.1 dL_turn_0 rfl (lv_at hl 2 rfl) ?_
  refine lv_bipush (v := 6) K.1.1 K.1.2.1 dL_turn_1 (by decide) ?_
  refine m_cS (n := 2) (As := [.int a, .int 6]) (rest := []) K hP hS (ML_up l G B _ a 6 (by decide)) q_633 q_634 q_14 q_635 hv_L_up ⟨Nat.le_of_ble_eq_true rfl, Nat.le_of_ble_eq_true rfl⟩ rfl hl.1 rfl (Nat.le_of_ble_eq_true rfl) dL_turn_3 ⟨Nat.zero_le _, Nat.zero_le _⟩ (fun H locs hP hS => ?_)
  refine lv_topi (fun r_1 er_1 => ?_)
  refine lv_istore (lv' := [(4, .int r_1), (0, .ref (B + 0)), (1, .int 10), (2, .int a), (3, .int b)]) K.1.1 K.1.2.1 dL_turn_6 hl (by decide) rfl (fun ls hl => ?_)
  refine lv_iload_n K.1.1 K.1.2.1 dL_turn_8 rfl (lv_at hl 2 rfl) ?_
  refine lv_tableIn (off := 192) (tgt := 201) K.1.1 K.1.2.1 dL_turn_9 (by decide) (by decide) rfl (by decide) ?_
  refine lv_aload_n K.1.1 K.1.2.1 dL_turn_201 rfl (lv_at hl 1 rfl) ?_
  refine m_cV (n := 0) (As := []) (rest := []) (k := 0) K hP hS (by subst er_1; exact hM) (by decide) sh_0 rfl q_767 q_768 q_769 q_15 q_770 hv_X10_clear ⟨by show _ ≤ 8; omega, by show _ ≤ 134; omega⟩ rfl hl.1 rfl (Nat.le_of_ble_eq_true rfl) dL_turn_202 ⟨Nat.zero_le _, Nat.zero_le _⟩ (fun H locs hP hS => ?_)
  refine lv_topi (fun r_2 er_2 => ?_)
  exact m_iret K hr hlocks hP hS dL_turn_205 (by subst er_2; rfl) (by subst er_2; rfl)

