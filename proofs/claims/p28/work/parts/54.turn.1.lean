set_option maxHeartbeats 4000000 in
set_option maxRecDepth 100000 in
theorem MA_0_ok (l : Launch) (G : GG) (B : Nat) (μ : Mm) (a b : Int32) (hb : b &&& 7 = 0) {fr lo : Nat} (hfr : fr ≤ 7) (hlo : lo ≤ 110) {v : Int32} {μ' : Mm} (hM : CM l yX10_addTrader (.code yX10_addTrader cX10_addTrader 3 (Option.some FieldType.int)) fr lo G B [.ref (B + 0), .int a, .int b] μ (some (.int v)) μ') : CM l yL_any (.code yL_any cL_any 3 (Option.some FieldType.int)) 8 132 G B [.ref (B + 0), .int a, .int b] μ (some (.int v)) μ' := by
  refine CM.of (by decide) (Nat.le_of_ble_eq_true rfl) ?_
  intro p e s m below meth c ls K hr hlocks hP hl
  have hS : va_S (AA B) s.heap s.heap [] := va_S.rf
  have hl : lv_has ls 3 [(0, .ref (B + 0)), (1, .int a), (2, .int b)] := hl
  refine lv_iload_n K.1.1 K.1.2.1 dL_any_0 rfl (lv_at hl 2 rfl) ?_
  refine lv_bipush (v := 7) K.1.1 K.1.2.1 dL_any_1 (by decide) ?_
  refine lv_iand K.1.1 K.1.2.1 dL_any_3 ?_
  rw [hb]
  refine lv_tableIn (off := 44) (tgt := 48) K.1.1 K.1.2.1 dL_any_4 (by decide) (by decide) rfl (by decide) ?_
  refine lv_aload_n K.1.1 K.1.2.1 dL_any_48 rfl (lv_at hl 0 rfl) ?_
  refine lv_iload_n K.1.1 K.1.2.1 dL_any_49 rfl (lv_at hl 1 rfl) ?_
  refine lv_iload_n K.1.1 K.1.2.1 dL_any_50 rfl (lv_at hl 2 rfl) ?_
  refine m_cV (n := 2) (As := [.int a, .int b]) (rest := []) (k := 0) K hP hS hM (by decide) sh_0 rfl q_637 q_638 q_639 q_15 q_640 hv_X10_addTrader ⟨by show _ ≤ 8; omega, by show _ ≤ 132; omega⟩ rfl hl.1 rfl (Nat.le_of_ble_eq_true rfl) dL_any_51 ⟨Nat.zero_le _, Nat.zero_le _⟩ (fun H locs hP hS => ?_)
  refine lv_topi (fun r_1 er_1 => ?_)
  exact m_iret K hr hlocks hP hS dL_any_54 (by subst er_1; rfl) (by subst er_1; rfl)

set_option maxHeartbeats 4000000 in
set_option maxRecDepth 100000 in
theorem MA_0_x (l : Launch) (G : GG) (B : Nat) (μ : Mm) (a b : Int32) (hb : b &&& 7 = 0) {fr lo : Nat} (hfr : fr ≤ 7) (hlo : lo ≤ 110) {E : String} (hM : XM l yX10_addTrader (.code yX10_addTrader cX10_addTrader 3 (Option.some FieldType.int)) fr lo G B [.ref (B + 0), .int a, .int b] μ E) : XM l yL_any (.code yL_any cL_any 3 (Option.some FieldType.int)) 8 132 G B [.ref (B + 0), .int a, .int b] μ E := by
  refine XM.of (by decide) (Nat.le_of_ble_eq_true rfl) ?_
  intro p e s m below meth c ls K hD hx hr hlocks hP hl
  have hS : va_S (AA B) s.heap s.heap [] := va_S.rf
  have hl : lv_has ls 3 [(0, .ref (B + 0)), (1, .int a), (2, .int b)] := hl
  refine lv_iload_n K.1.1 K.1.2.1 dL_any_0 rfl (lv_at hl 2 rfl) ?_
  refine lv_bipush (v := 7) K.1.1 K.1.2.1 dL_any_1 (by decide) ?_
  refine lv_iand K.1.1 K.1.2.1 dL_any_3 ?_
  rw [hb]
  refine lv_tableIn (off := 44) (tgt := 48) K.1.1 K.1.2.1 dL_any_4 (by decide) (by decide) rfl (by decide) ?_
  refine lv_aload_n K.1.1 K.1.2.1 dL_any_48 rfl (lv_at hl 0 rfl) ?_
  refine lv_iload_n K.1.1 K.1.2.1 dL_any_49 rfl (lv_at hl 1 rfl) ?_
  refine lv_iload_n K.1.1 K.1.2.1 dL_any_50 rfl (lv_at hl 2 rfl) ?_
  exact x_cV (n := 2) (As := [.int a, .int b]) (rest := []) (k := 0) K hP hS hD hx hlocks hM (by decide) sh_0 rfl q_637 q_638 q_639 q_15 q_640 hv_X10_addTrader ⟨by show _ ≤ 8; omega, by show _ ≤ 132; omega⟩ rfl hl.1 rfl (Nat.le_of_ble_eq_true rfl) dL_any_51 ⟨Nat.le_of_ble_eq_true rfl, Nat.le_of_ble_eq_true rfl⟩

set_option maxHeartbeats 4000000 in
set_option maxRecDepth 100000 in
theorem MA_1_ok (l : Launch) (G : GG) (B : Nat) (μ : Mm) (a b : Int32) (hb : b &&& 7 = 1) {fr lo : Nat} (hfr : fr ≤ 7) (hlo : lo ≤ 110) {v : Int32} {μ' : Mm} (hM : CM l yX10_setValue (.code yX10_setValue cX10_setValue 4 (Option.some FieldType.int)) fr lo G B [.ref (B + 0), .int a, .int b] μ (some (.int v)) μ') : CM l yL_any (.code yL_any cL_any 3 (Option.some FieldType.int)) 8 133 G B [.ref (B + 0), .int a, .int b] μ (some (.int v)) μ' := by
  refine CM.of (by decide) (Nat.le_of_ble_eq_true rfl) ?_
  intro p e s m below meth c ls K hr hlocks hP hl
  have hS : va_S (AA B) s.heap s.heap [] := va_S.rf
  have hl : lv_has ls 3 [(0, .ref (B + 0)), (1, .int a), (2, .int b)] := hl
  refine lv_iload_n K.1.1 K.1.2.1 dL_any_0 rfl (lv_at hl 2 rfl) ?_
  refine lv_bipush (v := 7) K.1.1 K.1.2.1 dL_any_1 (by decide) ?_
  refine lv_iand K.1.1 K.1.2.1 dL_any_3 ?_
  rw [hb]
  refine lv_tableIn (off := 51) (tgt := 55) K.1.1 K.1.2.1 dL_any_4 (by decide) (by decide) rfl (by decide) ?_
  refine lv_aload_n K.1.1 K.1.2.1 dL_any_55 rfl (lv_at hl 0 rfl) ?_
  refine lv_iload_n K.1.1 K.1.2.1 dL_any_56 rfl (lv_at hl 1 rfl) ?_
  refine lv_iload_n K.1.1 K.1.2.1 dL_any_57 rfl (lv_at hl 2 rfl) ?_
  refine m_cV (n := 2) (As := [.int a, .int b]) (rest := []) (k := 0) K hP hS hM (by decide) sh_0 rfl q_689 q_690 q_691 q_15 q_692 hv_X10_setValue ⟨by show _ ≤ 8; omega, by show _ ≤ 133; omega⟩ rfl hl.1 rfl (Nat.le_of_ble_eq_true rfl) dL_any_58 ⟨Nat.zero_le _, Nat.zero_le _⟩ (fun H locs hP hS => ?_)
  refine lv_topi (fun r_1 er_1 => ?_)
  exact m_iret K hr hlocks hP hS dL_any_61 (by subst er_1; rfl) (by subst er_1; rfl)

set_option maxHeartbeats 4000000 in
set_option maxRecDepth 100000 in
theorem MA_1_x (l : Launch) (G : GG) (B : Nat) (μ : Mm) (a b : Int32) (hb : b &&& 7 = 1) {fr lo : Nat} (hfr : fr ≤ 7) (hlo : lo ≤ 110) {E : String} (hM : XM l yX10_setValue (.code yX10_setValue cX10_setValue 4 (Option.some FieldType.int)) fr lo G B [.ref (B + 0), .int a, .int b] μ E) : XM l yL_any (.code yL_any cL_any 3 (Option.some FieldType.int)) 8 133 G B [.ref (B + 0), .int a, .int b] μ E := by
  refine XM.of (by decide) (Nat.le_of_ble_eq_true rfl) ?_
  intro p e s m below meth c ls K hD hx hr hlocks hP hl
  have hS : va_S (AA B) s.heap s.heap [] := va_S.rf
  have hl : lv_has ls 3 [(0, .ref (B + 0)), (1, .int a), (2, .int b)] := hl
  refine lv_iload_n K.1.1 K.1.2.1 dL_any_0 rfl (lv_at hl 2 rfl) ?_
  refine lv_bipush (v := 7) K.1.1 K.1.2.1 dL_any_1 (by decide) ?_
  refine lv_iand K.1.1 K.1.2.1 dL_any_3 ?_
  rw [hb]
  refine lv_tableIn (off := 51) (tgt := 55) K.1.1 K.1.2.1 dL_any_4 (by decide) (by decide) rfl (by decide) ?_
  refine lv_aload_n K.1.1 K.1.2.1 dL_any_55 rfl (lv_at hl 0 rfl) ?_
  refine lv_iload_n K.1.1 K.1.2.1 dL_any_56 rfl (lv_at hl 1 rfl) ?_
  refine lv_iload_n K.1.1 K.1.2.1 dL_any_57 rfl (lv_at hl 2 rfl) ?_
  exact x_cV (n := 2) (As := [.int a, .int b]) (rest := []) (k := 0) K hP hS hD hx hlocks hM (by decide) sh_0 rfl q_689 q_690 q_691 q_15 q_692 hv_X10_setValue ⟨by show _ ≤ 8; omega, by show _ ≤ 133; omega⟩ rfl hl.1 rfl (Nat.le_of_ble_eq_true rfl) dL_any_58 ⟨Nat.le_of_ble_eq_true rfl, Nat.le_of_ble_eq_true rfl⟩

set_option maxHeartbeats 4000000 in
set_option maxRecDepth 100000 in
theorem MA_2_ok (l : Launch) (G : GG) (B : Nat) (μ : Mm) (a b : Int32) (hb : b &&& 7 = 2) {fr lo : Nat} (hfr : fr ≤ 7) (hlo : lo ≤ 110) {v : Int32} {μ' : Mm} (hM : CM l yX10_setShade (.code yX10_setShade cX10_setShade 4 (Option.some FieldType.int)) fr lo G B [.ref (B + 0), .int a, .int b, .int a] μ (some (.int v)) μ') : CM l yL_any (.code yL_any cL_any 3 (Option.some FieldType.int)) 8 133 G B [.ref (B + 0), .int a, .int b] μ (some (.int v)) μ' := by
  refine CM.of (by decide) (Nat.le_of_ble_eq_true rfl) ?_
  intro p e s m below meth c ls K hr hlocks hP hl
  have hS : va_S (AA B) s.heap s.heap [] := va_S.rf
  have hl : lv_has ls 3 [(0, .ref (B + 0)), (1, .int a), (2, .int b)] := hl
  refine lv_iload_n K.1.1 K.1.2.1 dL_any_0 rfl (lv_at hl 2 rfl) ?_
  refine lv_bipush (v := 7) K.1.1 K.1.2.1 dL_any_1 (by decide) ?_
  refine lv_iand K.1.1 K.1.2.1 dL_any_3 ?_
  rw [hb]
  refine lv_tableIn (off := 58) (tgt := 62) K.1.1 K.1.2.1 dL_any_4 (by decide) (by decide) rfl (by decide) ?_
  refine lv_aload_n K.1.1 K.1.2.1 dL_any_62 rfl (lv_at hl 0 rfl) ?_
  refine lv_iload_n K.1.1 K.1.2.1 dL_any_63 rfl (lv_at hl 1 rfl) ?_
  refine lv_iload_n K.1.1 K.1.2.1 dL_any_64 rfl (lv_at hl 2 rfl) ?_
  refine lv_iload_n K.1.1 K.1.2.1 dL_any_65 rfl (lv_at hl 1 rfl) ?_
  refine m_cV (n := 3) (As := [.int a, .int b, .int a]) (rest := []) (k := 0) K hP hS hM (by decide) sh_0 rfl q_699 q_700 q_701 q_15 q_702 hv_X10_setShade ⟨by show _ ≤ 8; omega, by show _ ≤ 133; omega⟩ rfl hl.1 rfl (Nat.le_of_ble_eq_true rfl) dL_any_66 ⟨Nat.zero_le _, Nat.zero_le _⟩ (fun H locs hP hS => ?_)
  refine lv_topi (fun r_1 er_1 => ?_)
  exact m_iret K hr hlocks hP hS dL_any_69 (by subst er_1; rfl) (by subst er_1; rfl)

set_option maxHeartbeats 4000000 in
set_option maxRecDepth 100000 in
theorem MA_2_x (l : Launch) (G : GG) (B : Nat) (μ : Mm) (a b : Int32) (hb : b &&& 7 = 2) {fr lo : Nat} (hfr : fr ≤ 7) (hlo : lo ≤ 110) {E : String} (hM : XM l yX10_setShade (.code yX10_setShade cX10_setShade 4 (Option.some FieldType.int)) fr lo G B [.ref (B + 0), .int a, .int b, .int a] μ E) : XM l yL_any (.code yL_any cL_any 3 (Option.some FieldType.int)) 8 133 G B [.ref (B + 0), .int a, .int b] μ E := by
  refine XM.of (by decide) (Nat.le_of_ble_eq_true rfl) ?_
  intro p e s m below meth c ls K hD hx hr hlocks hP hl
  have hS : va_S (AA B) s.heap s.heap [] := va_S.rf
  have hl : lv_has ls 3 [(0, .ref (B + 0)), (1, .int a), (2, .int b)] := hl
  refine lv_iload_n K.1.1 K.1.2.1 dL_any_0 rfl (lv_at hl 2 rfl) ?_
  refine lv_bipush (v := 7) K.1.1 K.1.2.1 dL_any_1 (by decide) ?_
  refine lv_iand K.1.1 K.1.2.1 dL_any_3 ?_
  rw [hb]
  refine lv_tableIn (off := 58) (tgt := 62) K.1.1 K.1.2.1 dL_any_4 (by decide) (by decide) rfl (by decide) ?_
  refine lv_aload_n K.1.1 K.1.2.1 dL_any_62 rfl (lv_at hl 0 rfl) ?_
  refine lv_iload_n K.1.1 K.1.2.1 dL_any_63 rfl (lv_at hl 1 rfl) ?_
  refine lv_iload_n K.1.1 K.1.2.1 dL_any_64 rfl (lv_at hl 2 rfl) ?_
  refine lv_iload_n K.1.1 K.1.2.1 dL_any_65 rfl (lv_at hl 1 rfl) ?_
  exact x_cV (n := 3) (As := [.int a, .int b, .int a]) (rest := []) (k := 0) K hP hS hD hx hlocks hM (by decide) sh_0 rfl q_699 q_700 q_701 q_15 q_702 hv_X10_setShade ⟨by show _ ≤ 8; omega, by show _ ≤ 133; omega⟩ rfl hl.1 rfl (Nat.le_of_ble_eq_true rfl) dL_any_66 ⟨Nat.le_of_ble_eq_true rfl, Nat.le_of_ble_eq_true rfl⟩

set_option maxHeartbeats 4000000 in
set_option maxRecDepth 100000 in
theorem MA_3_ok (l : Launch) (G : GG) (B : Nat) (μ : Mm) (a b : Int32) (hb : b &&& 7 = 3) {fr lo : Nat} (hfr : fr ≤ 7) (hlo : lo ≤ 110) {v : Int32} {μ' : Mm} (hM : CM l yX10_set (.code yX10_set cX10_set 3 (Option.some FieldType.int)) fr lo G B [.ref (B + 0), .int a, .int b] μ (some (.int v)) μ') : CM l yL_any (.code yL_any cL_any 3 (Option.some FieldType.int)) 8 132 G B [.ref (B + 0), .int a, .int b] μ (some (.int v)) μ' := by
  refine CM.of (by decide) (Nat.le_of_ble_eq_true rfl) ?_
  intro p e s m below meth c ls K hr hlocks hP hl
  have hS : va_S (AA B) s.heap s.heap [] := va_S.rf
  have hl : lv_has ls 3 [(0, .ref (B + 0)), (1, .int a), (2, .int b)] := hl
  refine lv_iload_n K.1.1 K.1.2.1 dL_any_0 rfl (lv_at hl 2 rfl) ?_
  refine lv_bipush (v := 7) K.1.1 K.1.2.1 dL_any_1 (by decide) ?_
  refine lv_iand K.1.1 K.1.2.1 dL_any_3 ?_
  rw [hb]
  refine lv_tableIn (off := 66) (tgt := 70) K.1.1 K.1.2.1 dL_any_4 (by decide) (by decide) rfl (by decide) ?_
  refine lv_aload_n K.1.1 K.1.2.1 dL_any_70 rfl (lv_at hl 0 rfl) ?_
  refine lv_iload_n K.1.1 K.1.2.1 dL_any_71 rfl (lv_at hl 1 rfl) ?_
  refine lv_iload_n K.1.1 K.1.2.1 dL_any_72 rfl (lv_at hl 2 rfl) ?_
  refine m_cV (n := 2) (As := [.int a, .int b]) (rest := []) (k := 0) K hP hS hM (by decide) sh_0 rfl q_709 q_710 q_711 q_15 q_712 hv_X10_set ⟨by show _ ≤ 8; omega, by show _ ≤ 132; omega⟩ rfl hl.1 rfl (Nat.le_of_ble_eq_true rfl) dL_any_73 ⟨Nat.zero_le _, Nat.zero_le _⟩ (fun H locs hP hS => ?_)
  refine lv_topi (fun r_1 er_1 => ?_)
  exact m_iret K hr hlocks hP hS dL_any_76 (by subst er_1; rfl) (by subst er_1; rfl)

set_option maxHeartbeats 4000000 in
set_option maxRecDepth 100000 in
theorem MA_3_x (l : Launch) (G : GG) (B : Nat) (μ : Mm) (a b : Int32) (hb : b &&& 7 = 3) {fr lo : Nat} (hfr : fr ≤ 7) (hlo : lo ≤ 110) {E : String} (hM : XM l yX10_set (.code yX10_set cX10_set 3 (Option.some FieldType.int)) fr lo G B [.ref (B + 0), .int a, .int b] μ E) : XM l yL_any (.code yL_any cL_any 3 (Option.some FieldType.int)) 8 132 G B [.ref (B + 0), .int a, .int b] μ E := by
  refine XM.of (by decide) (Nat.le_of_ble_eq_true rfl) ?_
  intro p e s m below meth c ls K hD hx hr hlocks hP hl
  have hS : va_S (AA B) s.heap s.heap [] := va_S.rf
  have hl : lv_has ls 3 [(0, .ref (B + 0)), (1, .int a), (2, .int b)] := hl
  refine lv_iload_n K.1.1 K.1.2.1 dL_any_0 rfl (lv_at hl 2 rfl) ?_
  refine lv_bipush (v := 7) K.1.1 K.1.2.1 dL_any_1 (by decide) ?_
  refine lv_iand K.1.1 K.1.2.1 dL_any_3 ?_
  rw [hb]
  refine lv_tableIn (off := 66) (tgt := 70) K.1.1 K.1.2.1 dL_any_4 (by decide) (by decide) rfl (by decide) ?_
  refine lv_aload_n K.1.1 K.1.2.1 dL_any_70 rfl (lv_at hl 0 rfl) ?_
  refine lv_iload_n K.1.1 K.1.2.1 dL_any_71 rfl (lv_at hl 1 rfl) ?_
  refine lv_iload_n K.1.1 K.1.2.1 dL_any_72 rfl (lv_at hl 2 rfl) ?_
  exact x_cV (n := 2) (As := [.int a, .int b]) (rest := []) (k := 0) K hP hS hD hx hlocks hM (by decide) sh_0 rfl q_709 q_710 q_711 q_15 q_712 hv_X10_set ⟨by show _ ≤ 8; omega, by show _ ≤ 132; omega⟩ rfl hl.1 rfl (Nat.le_of_ble_eq_true rfl) dL_any_73 ⟨Nat.le_of_ble_eq_true rfl, Nat.le_of_ble_eq_true rfl⟩

set_option maxHeartbeats 4000000 in
set_option maxRecDepth 100000 in
theorem MA_4_ok (l : Launch) (G : GG) (B : Nat) (μ : Mm) (a b : Int32) (hb : b &&& 7 = 4) {fr lo : Nat} (hfr : fr ≤ 7) (hlo : lo ≤ 110) {v : Int32} {μ' : Mm} (hM : CM l yX10_bid (.code yX10_bid cX10_bid 3 (Option.some FieldType.int)) fr lo G B [.ref (B + 0), .int a, .int b] μ (some (.int v)) μ') : CM l yL_any (.code yL_any cL_any 3 (Option.some FieldType.int)) 8 132 G B [.ref (B + 0), .int a, .int b] μ (some (.int v)) μ' := by
  refine CM.of (by decide) (Nat.le_of_ble_eq_true rfl) ?_
  intro p e s m below meth c ls K hr hlocks hP hl
  have hS : va_S (AA B) s.heap s.heap [] := va_S.rf
  have hl : lv_has ls 3 [(0, .ref (B + 0)), (1, .int a), (2, .int b)] := hl
  refine lv_iload_n K.1.1 K.1.2.1 dL_any_0 rfl (lv_at hl 2 rfl) ?_
  refine lv_bipush (v := 7) K.1.1 K.1.2.1 dL_any_1 (by decide) ?_
  refine lv_iand K.1.1 K.1.2.1 dL_any_3 ?_
  rw [hb]
  refine lv_tableIn (off := 73) (tgt := 77) K.1.1 K.1.2.1 dL_any_4 (by decide) (by decide) rfl (by decide) ?_
  refine lv_aload_n K.1.1 K.1.2.1 dL_any_77 rfl (lv_at hl 0 rfl) ?_
  refine lv_iload_n K.1.1 K.1.2.1 dL_any_78 rfl (lv_at hl 1 rfl) ?_
  refine lv_iload_n K.1.1 K.1.2.1 dL_any_79 rfl (lv_at hl 2 rfl) ?_
  refine m_cV (n := 2) (As := [.int a, .int b]) (rest := []) (k := 0) K hP hS hM (by decide) sh_0 rfl q_721 q_722 q_723 q_15 q_724 hv_X10_bid ⟨by show _ ≤ 8; omega, by show _ ≤ 132; omega⟩ rfl hl.1 rfl (Nat.le_of_ble_eq_true rfl) dL_any_80 ⟨Nat.zero_le _, Nat.zero_le _⟩ (fun H locs hP hS => ?_)
  refine lv_topi (fun r_1 er_1 => ?_)
  exact m_iret K hr hlocks hP hS dL_any_83 (by subst er_1; rfl) (by subst er_1; rfl)

set_option maxHeartbeats 4000000 in
set_option maxRecDepth 100000 in
theorem MA_4_x (l : Launch) (G : GG) (B : Nat) (μ : Mm) (a b : Int32) (hb : b &&& 7 = 4) {fr lo : Nat} (hfr : fr ≤ 7) (hlo : lo ≤ 110) {E : String} (hM : XM l yX10_bid (.code yX10_bid cX10_bid 3 (Option.some FieldType.int)) fr lo G B [.ref (B + 0), .int a, .int b] μ E) : XM l yL_any (.code yL_any cL_any 3 (Option.some FieldType.int)) 8 132 G B [.ref (B + 0), .int a, .int b] μ E := by
  refine XM.of (by decide) (Nat.le_of_ble_eq_true rfl) ?_
  intro p e s m below meth c ls K hD hx hr hlocks hP hl
  have hS : va_S (AA B) s.heap s.heap [] := va_S.rf
  have hl : lv_has ls 3 [(0, .ref (B + 0)), (1, .int a), (2, .int b)] := hl
  refine lv_iload_n K.1.1 K.1.2.1 dL_any_0 rfl (lv_at hl 2 rfl) ?_
  refine lv_bipush (v := 7) K.1.1 K.1.2.1 dL_any_1 (by decide) ?_
  refine lv_iand K.1.1 K.1.2.1 dL_any_3 ?_
  rw [hb]
  refine lv_tableIn (off := 73) (tgt := 77) K.1.1 K.1.2.1 dL_any_4 (by decide) (by decide) rfl (by decide) ?_
  refine lv_aload_n K.1.1 K.1.2.1 dL_any_77 rfl (lv_at hl 0 rfl) ?_
  refine lv_iload_n K.1.1 K.1.2.1 dL_any_78 rfl (lv_at hl 1 rfl) ?_
  refine lv_iload_n K.1.1 K.1.2.1 dL_any_79 rfl (lv_at hl 2 rfl) ?_
  exact x_cV (n := 2) (As := [.int a, .int b]) (rest := []) (k := 0) K hP hS hD hx hlocks hM (by decide) sh_0 rfl q_721 q_722 q_723 q_15 q_724 hv_X10_bid ⟨by show _ ≤ 8; omega, by show _ ≤ 132; omega⟩ rfl hl.1 rfl (Nat.le_of_ble_eq_true rfl) dL_any_80 ⟨Nat.le_of_ble_eq_true rfl, Nat.le_of_ble_eq_true rfl⟩

set_option maxHeartbeats 4000000 in
set_option maxRecDepth 100000 in
theorem MA_5_ok (l : Launch) (G : GG) (B : Nat) (μ : Mm) (a b : Int32) (hb : b &&& 7 = 5) {fr lo : Nat} (hfr : fr ≤ 7) (hlo : lo ≤ 110) {v : Int32} {μ' : Mm} (hM : CM l yX10_order (.code yX10_order cX10_order 4 (Option.some FieldType.int)) fr lo G B [.ref (B + 0), .int a, .int b, .int a] μ (some (.int v)) μ') : CM l yL_any (.code yL_any cL_any 3 (Option.some FieldType.int)) 8 133 G B [.ref (B + 0), .int a, .int b] μ (some (.int v)) μ' := by
  refine CM.of (by decide) (Nat.le_of_ble_eq_true rfl) ?_
  intro p e s m below meth c ls K hr hlocks hP hl
  have hS : va_S (AA B) s.heap s.heap [] := va_S.rf
  have hl : lv_has ls 3 [(0, .ref (B + 0)), (1, .int a), (2, .int b)] := hl
  refine lv_iload_n K.1.1 K.1.2.1 dL_any_0 rfl (lv_at hl 2 rfl) ?_
  refine lv_bipush (v := 7) K.1.1 K.1.2.1 dL_any_1 (by decide) ?_
  refine lv_iand K.1.1 K.1.2.1 dL_any_3 ?_
  rw [hb]
  refine lv_tableIn (off := 80) (tgt := 84) K.1.1 K.1.2.1 dL_any_4 (by decide) (by decide) rfl (by decide) ?_
  refine lv_aload_n K.1.1 K.1.2.1 dL_any_84 rfl (lv_at hl 0 rfl) ?_
  refine lv_iload_n K.1.1 K.1.2.1 dL_any_85 rfl (lv_at hl 1 rfl) ?_
  refine lv_iload_n K.1.1 K.1.2.1 dL_any_86 rfl (lv_at hl 2 rfl) ?_
  refine lv_iload_n K.1.1 K.1.2.1 dL_any_87 rfl (lv_at hl 1 rfl) ?_
  refine m_cV (n := 3) (As := [.int a, .int b, .int a]) (rest := []) (k := 0) K hP hS hM (by decide) sh_0 rfl q_746 q_747 q_748 q_15 q_749 hv_X10_order ⟨by show _ ≤ 8; omega, by show _ ≤ 133; omega⟩ rfl hl.1 rfl (Nat.le_of_ble_eq_true rfl) dL_any_88 ⟨Nat.zero_le _, Nat.zero_le _⟩ (fun H locs hP hS => ?_)
  refine lv_topi (fun r_1 er_1 => ?_)
  exact m_iret K hr hlocks hP hS dL_any_91 (by subst er_1; rfl) (by subst er_1; rfl)

set_option maxHeartbeats 4000000 in
set_option maxRecDepth 100000 in
theorem MA_5_x (l : Launch) (G : GG) (B : Nat) (μ : Mm) (a b : Int32) (hb : b &&& 7 = 5) {fr lo : Nat} (hfr : fr ≤ 7) (hlo : lo ≤ 110) {E : String} (hM : XM l yX10_order (.code yX10_order cX10_order 4 (Option.some FieldType.int)) fr lo G B [.ref (B + 0), .int a, .int b, .int a] μ E) : XM l yL_any (.code yL_any cL_any 3 (Option.some FieldType.int)) 8 133 G B [.ref (B + 0), .int a, .int b] μ E := by
  refine XM.of (by decide) (Nat.le_of_ble_eq_true rfl) ?_
  intro p e s m below meth c ls K hD hx hr hlocks hP hl
  have hS : va_S (AA B) s.heap s.heap [] := va_S.rf
  have hl : lv_has ls 3 [(0, .ref (B + 0)), (1, .int a), (2, .int b)] := hl
  refine lv_iload_n K.1.1 K.1.2.1 dL_any_0 rfl (lv_at hl 2 rfl) ?_
  refine lv_bipush (v := 7) K.1.1 K.1.2.1 dL_any_1 (by decide) ?_
  refine lv_iand K.1.1 K.1.2.1 dL_any_3 ?_
  rw [hb]
  refine lv_tableIn (off := 80) (tgt := 84) K.1.1 K.1.2.1 dL_any_4 (by decide) (by decide) rfl (by decide) ?_
  refine lv_aload_n K.1.1 K.1.2.1 dL_any_84 rfl (lv_at hl 0 rfl) ?_
  refine lv_iload_n K.1.1 K.1.2.1 dL_any_85 rfl (lv_at hl 1 rfl) ?_
  refine lv_iload_n K.1.1 K.1.2.1 dL_any_86 rfl (lv_at hl 2 rfl) ?_
  refine lv_iload_n K.1.1 K.1.2.1 dL_any_87 rfl (lv_at hl 1 rfl) ?_
  exact x_cV (n := 3) (As := [.int a, .int b, .int a]) (rest := []) (k := 0) K hP hS hD hx hlocks hM (by decide) sh_0 rfl q_746 q_747 q_748 q_15 q_749 hv_X10_order ⟨by show _ ≤ 8; omega, by show _ ≤ 133; omega⟩ rfl hl.1 rfl (Nat.le_of_ble_eq_true rfl) dL_any_88 ⟨Nat.le_of_ble_eq_true rfl, Nat.le_of_ble_eq_true rfl⟩

set_option maxHeartbeats 4000000 in
set_option maxRecDepth 100000 in
theorem MA_6_ok (l : Launch) (G : GG) (B : Nat) (μ : Mm) (a b : Int32) (hb : b &&& 7 = 6) {fr lo : Nat} (hfr : fr ≤ 7) (hlo : lo ≤ 110) {v : Int32} {μ' : Mm} (hM : CM l yX10_gainWith (.code yX10_gainWith cX10_gainWith 3 (Option.some FieldType.int)) fr lo G B [.ref (B + 0), .int a, .int b] μ (some (.int v)) μ') : CM l yL_any (.code yL_any cL_any 3 (Option.some FieldType.int)) 8 132 G B [.ref (B + 0), .int a, .int b] μ (some (.int v)) μ' := by
  refine CM.of (by decide) (Nat.le_of_ble_eq_true rfl) ?_
  intro p e s m below meth c ls K hr hlocks hP hl
  have hS : va_S (AA B) s.heap s.heap [] := va_S.rf
  have hl : lv_has ls 3 [(0, .ref (B + 0)), (1, .int a), (2, .int b)] := hl
  refine lv_iload_n K.1.1 K.1.2.1 dL_any_0 rfl (lv_at hl 2 rfl) ?_
  refine lv_bipush (v := 7) K.1.1 K.1.2.1 dL_any_1 (by decide) ?_
  refine lv_iand K.1.1 K.1.2.1 dL_any_3 ?_
  rw [hb]
  refine lv_tableIn (off := 88) (tgt := 92) K.1.1 K.1.2.1 dL_any_4 (by decide) (by decide) rfl (by decide) ?_
  refine lv_aload_n K.1.1 K.1.2.1 dL_any_92 rfl (lv_at hl 0 rfl) ?_
  refine lv_iload_n K.1.1 K.1.2.1 dL_any_93 rfl (lv_at hl 1 rfl) ?_
  refine lv_iload_n K.1.1 K.1.2.1 dL_any_94 rfl (lv_at hl 2 rfl) ?_
  refine m_cV (n := 2) (As := [.int a, .int b]) (rest := []) (k := 0) K hP hS hM (by decide) sh_0 rfl q_815 q_816 q_817 q_15 q_818 hv_X10_gainWith ⟨by show _ ≤ 8; omega, by show _ ≤ 132; omega⟩ rfl hl.1 rfl (Nat.le_of_ble_eq_true rfl) dL_any_95 ⟨Nat.zero_le _, Nat.zero_le _⟩ (fun H locs hP hS => ?_)
  refine lv_topi (fun r_1 er_1 => ?_)
  exact m_iret K hr hlocks hP hS dL_any_98 (by subst er_1; rfl) (by subst er_1; rfl)

set_option maxHeartbeats 4000000 in
set_option maxRecDepth 100000 in
theorem MA_6_x (l : Launch) (G : GG) (B : Nat) (μ : Mm) (a b : Int32) (hb : b &&& 7 = 6) {fr lo : Nat} (hfr : fr ≤ 7) (hlo : lo ≤ 110) {E : String} (hM : XM l yX10_gainWith (.code yX10_gainWith cX10_gainWith 3 (Option.some FieldType.int)) fr lo G B [.ref (B + 0), .int a, .int b] μ E) : XM l yL_any (.code yL_any cL_any 3 (Option.some FieldType.int)) 8 132 G B [.ref (B + 0), .int a, .int b] μ E := by
  refine XM.of (by decide) (Nat.le_of_ble_eq_true rfl) ?_
  intro p e s m below meth c ls K hD hx hr hlocks hP hl
  have hS : va_S (AA B) s.heap s.heap [] := va_S.rf
  have hl : lv_has ls 3 [(0, .ref (B + 0)), (1, .int a), (2, .int b)] := hl
  refine lv_iload_n K.1.1 K.1.2.1 dL_any_0 rfl (lv_at hl 2 rfl) ?_
  refine lv_bipush (v := 7) K.1.1 K.1.2.1 dL_any_1 (by decide) ?_
  refine lv_iand K.1.1 K.1.2.1 dL_any_3 ?_
  rw [hb]
  refine lv_tableIn (off := 88) (tgt := 92) K.1.1 K.1.2.1 dL_any_4 (by decide) (by decide) rfl (by decide) ?_
  refine lv_aload_n K.1.1 K.1.2.1 dL_any_92 rfl (lv_at hl 0 rfl) ?_
  refine lv_iload_n K.1.1 K.1.2.1 dL_any_93 rfl (lv_at hl 1 rfl) ?_
  refine lv_iload_n K.1.1 K.1.2.1 dL_any_94 rfl (lv_at hl 2 rfl) ?_
  exact x_cV (n := 2) (As := [.int a, .int b]) (rest := []) (k := 0) K hP hS hD hx hlocks hM (by decide) sh_0 rfl q_815 q_816 q_817 q_15 q_818 hv_X10_gainWith ⟨by show _ ≤ 8; omega, by show _ ≤ 132; omega⟩ rfl hl.1 rfl (Nat.le_of_ble_eq_true rfl) dL_any_95 ⟨Nat.le_of_ble_eq_true rfl, Nat.le_of_ble_eq_true rfl⟩

set_option maxHeartbeats 4000000 in
set_option maxRecDepth 100000 in
theorem MA_7_ok (l : Launch) (G : GG) (B : Nat) (μ : Mm) (a b : Int32) (hb : b &&& 7 = 7) {fr lo : Nat} (hfr : fr ≤ 7) (hlo : lo ≤ 110) {v : Int32} {μ' : Mm} (hM : CM l yX10_reason (.code yX10_reason cX10_reason 2 (Option.some FieldType.int)) fr lo G B [.ref (B + 0), .int a] μ (some (.int v)) μ') : CM l yL_any (.code yL_any cL_any 3 (Option.some FieldType.int)) 8 131 G B [.ref (B + 0), .int a, .int b] μ (some (.int v)) μ' := by
  refine CM.of (by decide) (Nat.le_of_ble_eq_true rfl) ?_
  intro p e s m below meth c ls K hr hlocks hP hl
  have hS : va_S (AA B) s.heap s.heap [] := va_S.rf
  have hl : lv_has ls 3 [(0, .ref (B + 0)), (1, .int a), (2, .int b)] := hl
  refine lv_iload_n K.1.1 K.1.2.1 dL_any_0 rfl (lv_at hl 2 rfl) ?_
  refine lv_bipush (v := 7) K.1.1 K.1.2.1 dL_any_1 (by decide) ?_
  refine lv_iand K.1.1 K.1.2.1 dL_any_3 ?_
  rw [hb]
  refine lv_tableOut (tgt := 99) K.1.1 K.1.2.1 dL_any_4 (Or.inr (by decide)) (by decide) ?_
  refine lv_aload_n K.1.1 K.1.2.1 dL_any_99 rfl (lv_at hl 0 rfl) ?_
  refine lv_iload_n K.1.1 K.1.2.1 dL_any_100 rfl (lv_at hl 1 rfl) ?_
  refine m_cV (n := 1) (As := [.int a]) (rest := []) (k := 0) K hP hS hM (by decide) sh_0 rfl q_842 q_843 q_844 q_15 q_845 hv_X10_reason ⟨by show _ ≤ 8; omega, by show _ ≤ 131; omega⟩ rfl hl.1 rfl (Nat.le_of_ble_eq_true rfl) dL_any_101 ⟨Nat.zero_le _, Nat.zero_le _⟩ (fun H locs hP hS => ?_)
  refine lv_topi (fun r_1 er_1 => ?_)
  exact m_iret K hr hlocks hP hS dL_any_104 (by subst er_1; rfl) (by subst er_1; rfl)

set_option maxHeartbeats 4000000 in
set_option maxRecDepth 100000 in
theorem MA_7_x (l : Launch) (G : GG) (B : Nat) (μ : Mm) (a b : Int32) (hb : b &&& 7 = 7) {fr lo : Nat} (hfr : fr ≤ 7) (hlo : lo ≤ 110) {E : String} (hM : XM l yX10_reason (.code yX10_reason cX10_reason 2 (Option.some FieldType.int)) fr lo G B [.ref (B + 0), .int a] μ E) : XM l yL_any (.code yL_any cL_any 3 (Option.some FieldType.int)) 8 131 G B [.ref (B + 0), .int a, .int b] μ E := by
  refine XM.of (by decide) (Nat.le_of_ble_eq_true rfl) ?_
  intro p e s m below meth c ls K hD hx hr hlocks hP hl
  have hS : va_S (AA B) s.heap s.heap [] := va_S.rf
  have hl : lv_has ls 3 [(0, .ref (B + 0)), (1, .int a), (2, .int b)] := hl
  refine lv_iload_n K.1.1 K.1.2.1 dL_any_0 rfl (lv_at hl 2 rfl) ?_
  refine lv_bipush (v := 7) K.1.1 K.1.2.1 dL_any_1 (by decide) ?_
  refine lv_iand K.1.1 K.1.2.1 dL_any_3 ?_
  rw [hb]
  refine lv_tableOut (tgt := 99) K.1.1 K.1.2.1 dL_any_4 (Or.inr (by decide)) (by decide) ?_
  refine lv_aload_n K.1.1 K.1.2.1 dL_any_99 rfl (lv_at hl 0 rfl) ?_
  refine lv_iload_n K.1.1 K.1.2.1 dL_any_100 rfl (lv_at hl 1 rfl) ?_
  exact x_cV (n := 1) (As := [.int a]) (rest := []) (k := 0) K hP hS hD hx hlocks hM (by decide) sh_0 rfl q_842 q_843 q_844 q_15 q_845 hv_X10_reason ⟨by show _ ≤ 8; omega, by show _ ≤ 131; omega⟩ rfl hl.1 rfl (Nat.le_of_ble_eq_true rfl) dL_any_101 ⟨Nat.le_of_ble_eq_true rfl, Nat.le_of_ble_eq_true rfl⟩

set_option maxHeartbeats 4000000 in
set_option maxRecDepth 100000 in
theorem MT_0_ok (l : Launch) (G : GG) (B : Nat) (μ : Mm) (a b : Int32) {fr lo : Nat} (hfr : fr ≤ 7) (hlo : lo ≤ 110) {v : Int32} {μ' : Mm} (hM : CM l yX10_addTrader (.code yX10_addTrader cX10_addTrader 3 (Option.some FieldType.int)) fr lo G B [.ref (B + 0), .int (b &&& 1), .int (1 + LV_up a 99)] μ (some (.int v)) μ') : CM l yL_turn (.code yL_turn cL_turn 5 (Option.some FieldType.int)) 8 132 G B [.ref (B + 0), .int 0, .int a, .int b] μ (some (.int v)) μ' := by
  refine CM.of (by decide) (Nat.le_of_ble_eq_true rfl) ?_
  intro p e s m below meth c ls K hr hlocks hP hl
  have hS : va_S (AA B) s.heap s.heap [] := va_S.rf
  have hl : lv_has ls 5 [(0, .ref (B + 0)), (1, .int 0), (2, .int a), (3, .int b)] := hl
  refine lv_iload_n K.1.1 K.1.2.1 dL_turn_0 rfl (lv_at hl 2 rfl) ?_
  refine lv_bipush (v := 6) K.1.1 K.1.2.1 dL_turn_1 (by decide) ?_
  refine m_cS (n := 2) (As := [.int a, .int 6]) (rest := []) K hP hS (ML_up l G B _ a 6 (by decide)) q_633 q_634 q_14 q_635 hv_L_up ⟨Nat.le_of_ble_eq_true rfl, Nat.le_of_ble_eq_true rfl⟩ rfl hl.1 rfl (Nat.le_of_ble_eq_true rfl) dL_turn_3 ⟨Nat.zero_le _, Nat.zero_le _⟩ (fun H locs hP hS => ?_)
  refine lv_topi (fun r_1 er_1 => ?_)
  refine lv_istore (lv' := [(4, .int r_1), (0, .ref (B + 0)), (1, .int 0), (2, .int a), (3, .int b)]) K.1.1 K.1.2.1 dL_turn_6 hl (by decide) rfl (fun ls hl => ?_)
  refine lv_iload_n K.1.1 K.1.2.1 dL_turn_8 rfl (lv_at hl 2 rfl) ?_
  refine lv_tableIn (off := 75) (tgt := 84) K.1.1 K.1.2.1 dL_turn_9 (by decide) (by decide) rfl (by decide) ?_
  refine lv_aload_n K.1.1 K.1.2.1 dL_turn_84 rfl (lv_at hl 1 rfl) ?_
  refine lv_iload_n K.1.1 K.1.2.1 dL_turn_85 rfl (lv_at hl 4 rfl) ?_
  refine lv_iconst (v := 1) K.1.1 K.1.2.1 dL_turn_86 (by decide) ?_
  refine lv_iand K.1.1 K.1.2.1 dL_turn_87 ?_
  refine lv_iconst (v := 1) K.1.1 K.1.2.1 dL_turn_88 (by decide) ?_
  refine lv_iload_n K.1.1 K.1.2.1 dL_turn_89 rfl (lv_at hl 3 rfl) ?_
  refine lv_bipush (v := 99) K.1.1 K.1.2.1 dL_turn_90 (by decide) ?_
  refine m_cS (n := 2) (As := [.int a, .int 99]) (rest := [.int 1, .int (b &&& 1), .ref (B + 0)]) K hP hS (ML_up l G B _ a 99 (by decide)) q_633 q_634 q_14 q_635 hv_L_up ⟨Nat.le_of_ble_eq_true rfl, Nat.le_of_ble_eq_true rfl⟩ rfl hl.1 rfl (Nat.le_of_ble_eq_true rfl) dL_turn_92 ⟨Nat.zero_le _, Nat.zero_le _⟩ (fun H locs hP hS => ?_)
  refine lv_topi (fun r_2 er_2 => ?_)
  refine lv_iadd K.1.1 K.1.2.1 dL_turn_95 ?_
  refine m_cV (n := 2) (As := [.int (b &&& 1), .int (1 + r_2)]) (rest := []) (k := 0) K hP hS (by subst er_1 er_2; exact hM) (by decide) sh_0 rfl q_637 q_638 q_639 q_15 q_640 hv_X10_addTrader ⟨by show _ ≤ 8; omega, by show _ ≤ 132; omega⟩ rfl hl.1 rfl (Nat.le_of_ble_eq_true rfl) dL_turn_96 ⟨Nat.zero_le _, Nat.zero_le _⟩ (fun H locs hP hS => ?_)
  refine lv_topi (fun r_3 er_3 => ?_)
  exact m_iret K hr hlocks hP hS dL_turn_99 (by subst er_3; rfl) (by subst er_3; rfl)

set_option maxHeartbeats 4000000 in
set_option maxRecDepth 100000 in
theorem MT_0_x (l : Launch) (G : GG) (B : Nat) (μ : Mm) (a b : Int32) {fr lo : Nat} (hfr : fr ≤ 7) (hlo : lo ≤ 110) {E : String} (hM : XM l yX10_addTrader (.code yX10_addTrader cX10_addTrader 3 (Option.some FieldType.int)) fr lo G B [.ref (B + 0), .int (b &&& 1), .int (1 + LV_up a 99)] μ E) : XM l yL_turn (.code yL_turn cL_turn 5 (Option.some FieldType.int)) 8 132 G B [.ref (B + 0), .int 0, .int a, .int b] μ E := by
  refine XM.of (by decide) (Nat.le_of_ble_eq_true rfl) ?_
  intro p e s m below meth c ls K hD hx hr hlocks hP hl
  have hS : va_S (AA B) s.heap s.heap [] := va_S.rf
  have hl : lv_has ls 5 [(0, .ref (B + 0)), (1, .int 0), (2, .int a), (3, .int b)] := hl
  refine lv_iload_n K.1.1 K.1.2.1 dL_turn_0 rfl (lv_at hl 2 rfl) ?_
  refine lv_bipush (v := 6) K.1.1 K.1.2.1 dL_turn_1 (by decide) ?_
  refine m_cS (n := 2) (As := [.int a, .int 6]) (rest := []) K hP hS (ML_up l G B _ a 6 (by decide)) q_633 q_634 q_14 q_635 hv_L_up ⟨Nat.le_of_ble_eq_true rfl, Nat.le_of_ble_eq_true rfl⟩ rfl hl.1 rfl (Nat.le_of_ble_eq_true rfl) dL_turn_3 ⟨Nat.zero_le _, Nat.zero_le _⟩ (fun H locs hP hS => ?_)
  refine lv_topi (fun r_1 er_1 => ?_)
  refine lv_istore (lv' := [(4, .int r_1), (0, .ref (B + 0)), (1, .int 0), (2, .int a), (3, .int b)]) K.1.1 K.1.2.1 dL_turn_6 hl (by decide) rfl (fun ls hl => ?_)
  refine lv_iload_n K.1.1 K.1.2.1 dL_turn_8 rfl (lv_at hl 2 rfl) ?_
  refine lv_tableIn (off := 75) (tgt := 84) K.1.1 K.1.2.1 dL_turn_9 (by decide) (by decide) rfl (by decide) ?_
  refine lv_aload_n K.1.1 K.1.2.1 dL_turn_84 rfl (lv_at hl 1 rfl) ?_
  refine lv_iload_n K.1.1 K.1.2.1 dL_turn_85 rfl (lv_at hl 4 rfl) ?_
  refine lv_iconst (v := 1) K.1.1 K.1.2.1 dL_turn_86 (by decide) ?_
  refine lv_iand K.1.1 K.1.2.1 dL_turn_87 ?_
  refine lv_iconst (v := 1) K.1.1 K.1.2.1 dL_turn_88 (by decide) ?_
  refine lv_iload_n K.1.1 K.1.2.1 dL_turn_89 rfl (lv_at hl 3 rfl) ?_
  refine lv_bipush (v := 99) K.1.1 K.1.2.1 dL_turn_90 (by decide) ?_
  refine m_cS (n := 2) (As := [.int a, .int 99]) (rest := [.int 1, .int (b &&& 1), .ref (B + 0)]) K hP hS (ML_up l G B _ a 99 (by decide)) q_633 q_634 q_14 q_635 hv_L_up ⟨Nat.le_of_ble_eq_true rfl, Nat.le_of_ble_eq_true rfl⟩ rfl hl.1 rfl (Nat.le_of_ble_eq_true rfl) dL_turn_92 ⟨Nat.zero_le _, Nat.zero_le _⟩ (fun H locs hP hS => ?_)
  refine lv_topi (fun r_2 er_2 => ?_)
  refine lv_iadd K.1.1 K.1.2.1 dL_turn_95 ?_
  exact x_cV (n := 2) (As := [.int (b &&& 1), .int (1 + r_2)]) (rest := []) (k := 0) K hP hS hD hx hlocks (by subst er_1 er_2; exact hM) (by decide) sh_0 rfl q_637 q_638 q_639 q_15 q_640 hv_X10_addTrader ⟨by show _ ≤ 8; omega, by show _ ≤ 132; omega⟩ rfl hl.1 rfl (Nat.le_of_ble_eq_true rfl) dL_turn_96 ⟨Nat.le_of_ble_eq_true rfl, Nat.le_of_ble_eq_true rfl⟩

set_option maxHeartbeats 4000000 in
set_option maxRecDepth 100000 in
theorem MT_1_ok (l : Launch) (G : GG) (B : Nat) (μ : Mm) (a b : Int32) {fr lo : Nat} (hfr : fr ≤ 7) (hlo : lo ≤ 110) {v : Int32} {μ' : Mm} (hM : CM l yX10_setValue (.code yX10_setValue cX10_setValue 4 (Option.some FieldType.int)) fr lo G B [.ref (B + 0), .int (LV_up a 6), .int (1 + LV_up b 99)] μ (some (.int v)) μ') : CM l yL_turn (.code yL_turn cL_turn 5 (Option.some FieldType.int)) 8 133 G B [.ref (B + 0), .int 1, .int a, .int b] μ (some (.int v)) μ' := by
  refine CM.of (by decide) (Nat.le_of_ble_eq_true rfl) ?_
  intro p e s m below meth c ls K hr hlocks hP hl
  have hS : va_S (AA B) s.heap s.heap [] := va_S.rf
  have hl : lv_has ls 5 [(0, .ref (B + 0)), (1, .int 1), (2, .int a), (3, .int b)] := hl
  refine lv_iload_n K.1.1 K.1.2.1 dL_turn_0 rfl (lv_at hl 2 rfl) ?_
  refine lv_bipush (v := 6) K.1.1 K.1.2.1 dL_turn_1 (by decide) ?_
  refine m_cS (n := 2) (As := [.int a, .int 6]) (rest := []) K hP hS (ML_up l G B _ a 6 (by decide)) q_633 q_634 q_14 q_635 hv_L_up ⟨Nat.le_of_ble_eq_true rfl, Nat.le_of_ble_eq_true rfl⟩ rfl hl.1 rfl (Nat.le_of_ble_eq_true rfl) dL_turn_3 ⟨Nat.zero_le _, Nat.zero_le _⟩ (fun H locs hP hS => ?_)
  refine lv_topi (fun r_1 er_1 => ?_)
  refine lv_istore (lv' := [(4, .int r_1), (0, .ref (B + 0)), (1, .int 1), (2, .int a), (3, .int b)]) K.1.1 K.1.2.1 dL_turn_6 hl (by decide) rfl (fun ls hl => ?_)
  refine lv_iload_n K.1.1 K.1.2.1 dL_turn_8 rfl (lv_at hl 2 rfl) ?_
  refine lv_tableIn (off := 91) (tgt := 100) K.1.1 K.1.2.1 dL_turn_9 (by decide) (by decide) rfl (by decide) ?_
  refine lv_aload_n K.1.1 K.1.2.1 dL_turn_100 rfl (lv_at hl 1 rfl) ?_
  refine lv_iload K.1.1 K.1.2.1 dL_turn_101 (lv_at hl 0 rfl) ?_
  refine lv_iconst (v := 1) K.1.1 K.1.2.1 dL_turn_103 (by decide) ?_
  refine lv_iload_n K.1.1 K.1.2.1 dL_turn_104 rfl (lv_at hl 4 rfl) ?_
  refine lv_bipush (v := 99) K.1.1 K.1.2.1 dL_turn_105 (by decide) ?_
  refine m_cS (n := 2) (As := [.int b, .int 99]) (rest := [.int 1, .int r_1, .ref (B + 0)]) K hP hS (ML_up l G B _ b 99 (by decide)) q_633 q_634 q_14 q_635 hv_L_up ⟨Nat.le_of_ble_eq_true rfl, Nat.le_of_ble_eq_true rfl⟩ rfl hl.1 rfl (Nat.le_of_ble_eq_true rfl) dL_turn_107 ⟨Nat.zero_le _, Nat.zero_le _⟩ (fun H locs hP hS => ?_)
  refine lv_topi (fun r_2 er_2 => ?_)
  refine lv_iadd K.1.1 K.1.2.1 dL_turn_110 ?_
  refine m_cV (n := 2) (As := [.int r_1, .int (1 + r_2)]) (rest := []) (k := 0) K hP hS (by subst er_1 er_2; exact hM) (by decide) sh_0 rfl q_689 q_690 q_691 q_15 q_692 hv_X10_setValue ⟨by show _ ≤ 8; omega, by show _ ≤ 133; omega⟩ rfl hl.1 rfl (Nat.le_of_ble_eq_true rfl) dL_turn_111 ⟨Nat.zero_le _, Nat.zero_le _⟩ (fun H locs hP hS => ?_)
  refine lv_topi (fun r_3 er_3 => ?_)
  exact m_iret K hr hlocks hP hS dL_turn_114 (by subst er_3; rfl) (by subst er_3; rfl)

set_option maxHeartbeats 4000000 in
set_option maxRecDepth 100000 in
theorem MT_1_x (l : Launch) (G : GG) (B : Nat) (μ : Mm) (a b : Int32) {fr lo : Nat} (hfr : fr ≤ 7) (hlo : lo ≤ 110) {E : String} (hM : XM l yX10_setValue (.code yX10_setValue cX10_setValue 4 (Option.some FieldType.int)) fr lo G B [.ref (B + 0), .int (LV_up a 6), .int (1 + LV_up b 99)] μ E) : XM l yL_turn (.code yL_turn cL_turn 5 (Option.some FieldType.int)) 8 133 G B [.ref (B + 0), .int 1, .int a, .int b] μ E := by
  refine XM.of (by decide) (Nat.le_of_ble_eq_true rfl) ?_
  intro p e s m below meth c ls K hD hx hr hlocks hP hl
  have hS : va_S (AA B) s.heap s.heap [] := va_S.rf
  have hl : lv_has ls 5 [(0, .ref (B + 0)), (1, .int 1), (2, .int a), (3, .int b)] := hl
  refine lv_iload_n K.1.1 K.1.2.1 dL_turn_0 rfl (lv_at hl 2 rfl) ?_
  refine lv_bipush (v := 6) K.1.1 K.1.2.1 dL_turn_1 (by decide) ?_
  refine m_cS (n := 2) (As := [.int a, .int 6]) (rest := []) K hP hS (ML_up l G B _ a 6 (by decide)) q_633 q_634 q_14 q_635 hv_L_up ⟨Nat.le_of_ble_eq_true rfl, Nat.le_of_ble_eq_true rfl⟩ rfl hl.1 rfl (Nat.le_of_ble_eq_true rfl) dL_turn_3 ⟨Nat.zero_le _, Nat.zero_le _⟩ (fun H locs hP hS => ?_)
  refine lv_topi (fun r_1 er_1 => ?_)
  refine lv_istore (lv' := [(4, .int r_1), (0, .ref (B + 0)), (1, .int 1), (2, .int a), (3, .int b)]) K.1.1 K.1.2.1 dL_turn_6 hl (by decide) rfl (fun ls hl => ?_)
  refine lv_iload_n K.1.1 K.1.2.1 dL_turn_8 rfl (lv_at hl 2 rfl) ?_
  refine lv_tableIn (off := 91) (tgt := 100) K.1.1 K.1.2.1 dL_turn_9 (by decide) (by decide) rfl (by decide) ?_
  refine lv_aload_n K.1.1 K.1.2.1 dL_turn_100 rfl (lv_at hl 1 rfl) ?_
  refine lv_iload K.1.1 K.1.2.1 dL_turn_101 (lv_at hl 0 rfl) ?_
  refine lv_iconst (v := 1) K.1.1 K.1.2.1 dL_turn_103 (by decide) ?_
  refine lv_iload_n K.1.1 K.1.2.1 dL_turn_104 rfl (lv_at hl 4 rfl) ?_
  refine lv_bipush (v := 99) K.1.1 K.1.2.1 dL_turn_105 (by decide) ?_
  refine m_cS (n := 2) (As := [.int b, .int 99]) (rest := [.int 1, .int r_1, .ref (B + 0)]) K hP hS (ML_up l G B _ b 99 (by decide)) q_633 q_634 q_14 q_635 hv_L_up ⟨Nat.le_of_ble_eq_true rfl, Nat.le_of_ble_eq_true rfl⟩ rfl hl.1 rfl (Nat.le_of_ble_eq_true rfl) dL_turn_107 ⟨Nat.zero_le _, Nat.zero_le _⟩ (fun H locs hP hS => ?_)
  refine lv_topi (fun r_2 er_2 => ?_)
  refine lv_iadd K.1.1 K.1.2.1 dL_turn_110 ?_
  exact x_cV (n := 2) (As := [.int r_1, .int (1 + r_2)]) (rest := []) (k := 0) K hP hS hD hx hlocks (by subst er_1 er_2; exact hM) (by decide) sh_0 rfl q_689 q_690 q_691 q_15 q_692 hv_X10_setValue ⟨by show _ ≤ 8; omega, by show _ ≤ 133; omega⟩ rfl hl.1 rfl (Nat.le_of_ble_eq_true rfl) dL_turn_111 ⟨Nat.le_of_ble_eq_true rfl, Nat.le_of_ble_eq_true rfl⟩

set_option maxHeartbeats 4000000 in
set_option maxRecDepth 100000 in
theorem MT_2_ok (l : Launch) (G : GG) (B : Nat) (μ : Mm) (a b : Int32) {fr lo : Nat} (hfr : fr ≤ 7) (hlo : lo ≤ 110) {v : Int32} {μ' : Mm} (hM : CM l yX10_setShade (.code yX10_setShade cX10_setShade 4 (Option.some FieldType.int)) fr lo G B [.ref (B + 0), .int (LV_up a 6), .int (LV_up b 4), .int (LV_up (b >>> ((4 : Int32) &&& 31)) 51)] μ (some (.int v)) μ') : CM l yL_turn (.code yL_turn cL_turn 5 (Option.some FieldType.int)) 8 133 G B [.ref (B + 0), .int 2, .int a, .int b] μ (some (.int v)) μ' := by
  refine CM.of (by decide) (Nat.le_of_ble_eq_true rfl) ?_
  intro p e s m below meth c ls K hr hlocks hP hl
  have hS : va_S (AA B) s.heap s.heap [] := va_S.rf
  have hl : lv_has ls 5 [(0, .ref (B + 0)), (1, .int 2), (2, .int a), (3, .int b)] := hl
  refine lv_iload_n K.1.1 K.1.2.1 dL_turn_0 rfl (lv_at hl 2 rfl) ?_
  refine lv_bipush (v := 6) K.1.1 K.1.2.1 dL_turn_1 (by decide) ?_
  refine m_cS (n := 2) (As := [.int a, .int 6]) (rest := []) K hP hS (ML_up l G B _ a 6 (by decide)) q_633 q_634 q_14 q_635 hv_L_up ⟨Nat.le_of_ble_eq_true rfl, Nat.le_of_ble_eq_true rfl⟩ rfl hl.1 rfl (Nat.le_of_ble_eq_true rfl) dL_turn_3 ⟨Nat.zero_le _, Nat.zero_le _⟩ (fun H locs hP hS => ?_)
  refine lv_topi (fun r_1 er_1 => ?_)
  refine lv_istore (lv' := [(4, .int r_1), (0, .ref (B + 0)), (1, .int 2), (2, .int a), (3, .int b)]) K.1.1 K.1.2.1 dL_turn_6 hl (by decide) rfl (fun ls hl => ?_)
  refine lv_iload_n K.1.1 K.1.2.1 dL_turn_8 rfl (lv_at hl 2 rfl) ?_
  refine lv_tableIn (off := 106) (tgt := 115) K.1.1 K.1.2.1 dL_turn_9 (by decide) (by decide) rfl (by decide) ?_
  refine lv_aload_n K.1.1 K.1.2.1 dL_turn_115 rfl (lv_at hl 1 rfl) ?_
  refine lv_iload K.1.1 K.1.2.1 dL_turn_116 (lv_at hl 0 rfl) ?_
  refine lv_iload_n K.1.1 K.1.2.1 dL_turn_118 rfl (lv_at hl 4 rfl) ?_
  refine lv_iconst (v := 4) K.1.1 K.1.2.1 dL_turn_119 (by decide) ?_
  refine m_cS (n := 2) (As := [.int b, .int 4]) (rest := [.int r_1, .ref (B + 0)]) K hP hS (ML_up l G B _ b 4 (by decide)) q_633 q_634 q_14 q_635 hv_L_up ⟨Nat.le_of_ble_eq_true rfl, Nat.le_of_ble_eq_true rfl⟩ rfl hl.1 rfl (Nat.le_of_ble_eq_true rfl) dL_turn_120 ⟨Nat.zero_le _, Nat.zero_le _⟩ (fun H locs hP hS => ?_)
  refine lv_topi (fun r_2 er_2 => ?_)
  refine lv_iload_n K.1.1 K.1.2.1 dL_turn_123 rfl (lv_at hl 4 rfl) ?_
  refine lv_iconst (v := 4) K.1.1 K.1.2.1 dL_turn_124 (by decide) ?_
  refine lv_ishr K.1.1 K.1.2.1 dL_turn_125 ?_
  refine lv_bipush (v := 51) K.1.1 K.1.2.1 dL_turn_126 (by decide) ?_
  refine m_cS (n := 2) (As := [.int (b >>> (4 &&& 31)), .int 51]) (rest := [.int r_2, .int r_1, .ref (B + 0)]) K hP hS (ML_up l G B _ (b >>> (4 &&& 31)) 51 (by decide)) q_633 q_634 q_14 q_635 hv_L_up ⟨Nat.le_of_ble_eq_true rfl, Nat.le_of_ble_eq_true rfl⟩ rfl hl.1 rfl (Nat.le_of_ble_eq_true rfl) dL_turn_128 ⟨Nat.zero_le _, Nat.zero_le _⟩ (fun H locs hP hS => ?_)
  refine lv_topi (fun r_3 er_3 => ?_)
  refine m_cV (n := 3) (As := [.int r_1, .int r_2, .int r_3]) (rest := []) (k := 0) K hP hS (by subst er_1 er_2 er_3; exact hM) (by decide) sh_0 rfl q_699 q_700 q_701 q_15 q_702 hv_X10_setShade ⟨by show _ ≤ 8; omega, by show _ ≤ 133; omega⟩ rfl hl.1 rfl (Nat.le_of_ble_eq_true rfl) dL_turn_131 ⟨Nat.zero_le _, Nat.zero_le _⟩ (fun H locs hP hS => ?_)
  refine lv_topi (fun r_4 er_4 => ?_)
  exact m_iret K hr hlocks hP hS dL_turn_134 (by subst er_4; rfl) (by subst er_4; rfl)

set_option maxHeartbeats 4000000 in
set_option maxRecDepth 100000 in
theorem MT_2_x (l : Launch) (G : GG) (B : Nat) (μ : Mm) (a b : Int32) {fr lo : Nat} (hfr : fr ≤ 7) (hlo : lo ≤ 110) {E : String} (hM : XM l yX10_setShade (.code yX10_setShade cX10_setShade 4 (Option.some FieldType.int)) fr lo G B [.ref (B + 0), .int (LV_up a 6), .int (LV_up b 4), .int (LV_up (b >>> ((4 : Int32) &&& 31)) 51)] μ E) : XM l yL_turn (.code yL_turn cL_turn 5 (Option.some FieldType.int)) 8 133 G B [.ref (B + 0), .int 2, .int a, .int b] μ E := by
  refine XM.of (by decide) (Nat.le_of_ble_eq_true rfl) ?_
  intro p e s m below meth c ls K hD hx hr hlocks hP hl
  have hS : va_S (AA B) s.heap s.heap [] := va_S.rf
  have hl : lv_has ls 5 [(0, .ref (B + 0)), (1, .int 2), (2, .int a), (3, .int b)] := hl
  refine lv_iload_n K.1.1 K.1.2.1 dL_turn_0 rfl (lv_at hl 2 rfl) ?_
  refine lv_bipush (v := 6) K.1.1 K.1.2.1 dL_turn_1 (by decide) ?_
  refine m_cS (n := 2) (As := [.int a, .int 6]) (rest := []) K hP hS (ML_up l G B _ a 6 (by decide)) q_633 q_634 q_14 q_635 hv_L_up ⟨Nat.le_of_ble_eq_true rfl, Nat.le_of_ble_eq_true rfl⟩ rfl hl.1 rfl (Nat.le_of_ble_eq_true rfl) dL_turn_3 ⟨Nat.zero_le _, Nat.zero_le _⟩ (fun H locs hP hS => ?_)
  refine lv_topi (fun r_1 er_1 => ?_)
  refine lv_istore (lv' := [(4, .int r_1), (0, .ref (B + 0)), (1, .int 2), (2, .int a), (3, .int b)]) K.1.1 K.1.2.1 dL_turn_6 hl (by decide) rfl (fun ls hl => ?_)
  refine lv_iload_n K.1.1 K.1.2.1 dL_turn_8 rfl (lv_at hl 2 rfl) ?_
  refine lv_tableIn (off := 106) (tgt := 115) K.1.1 K.1.2.1 dL_turn_9 (by decide) (by decide) rfl (by decide) ?_
  refine lv_aload_n K.1.1 K.1.2.1 dL_turn_115 rfl (lv_at hl 1 rfl) ?_
  refine lv_iload K.1.1 K.1.2.1 dL_turn_116 (lv_at hl 0 rfl) ?_
  refine lv_iload_n K.1.1 K.1.2.1 dL_turn_118 rfl (lv_at hl 4 rfl) ?_
  refine lv_iconst (v := 4) K.1.1 K.1.2.1 dL_turn_119 (by decide) ?_
  refine m_cS (n := 2) (As := [.int b, .int 4]) (rest := [.int r_1, .ref (B + 0)]) K hP hS (ML_up l G B _ b 4 (by decide)) q_633 q_634 q_14 q_635 hv_L_up ⟨Nat.le_of_ble_eq_true rfl, Nat.le_of_ble_eq_true rfl⟩ rfl hl.1 rfl (Nat.le_of_ble_eq_true rfl) dL_turn_120 ⟨Nat.zero_le _, Nat.zero_le _⟩ (fun H locs hP hS => ?_)
  refine lv_topi (fun r_2 er_2 => ?_)
  refine lv_iload_n K.1.1 K.1.2.1 dL_turn_123 rfl (lv_at hl 4 rfl) ?_
  refine lv_iconst (v := 4) K.1.1 K.1.2.1 dL_turn_124 (by decide) ?_
  refine lv_ishr K.1.1 K.1.2.1 dL_turn_125 ?_
  refine lv_bipush (v := 51) K.1.1 K.1.2.1 dL_turn_126 (by decide) ?_
  refine m_cS (n := 2) (As := [.int (b >>> (4 &&& 31)), .int 51]) (rest := [.int r_2, .int r_1, .ref (B + 0)]) K hP hS (ML_up l G B _ (b >>> (4 &&& 31)) 51 (by decide)) q_633 q_634 q_14 q_635 hv_L_up ⟨Nat.le_of_ble_eq_true rfl, Nat.le_of_ble_eq_true rfl⟩ rfl hl.1 rfl (Nat.le_of_ble_eq_true rfl) dL_turn_128 ⟨Nat.zero_le _, Nat.zero_le _⟩ (fun H locs hP hS => ?_)
  refine lv_topi (fun r_3 er_3 => ?_)
  exact x_cV (n := 3) (As := [.int r_1, .int r_2, .int r_3]) (rest := []) (k := 0) K hP hS hD hx hlocks (by subst er_1 er_2 er_3; exact hM) (by decide) sh_0 rfl q_699 q_700 q_701 q_15 q_702 hv_X10_setShade ⟨by show _ ≤ 8; omega, by show _ ≤ 133; omega⟩ rfl hl.1 rfl (Nat.le_of_ble_eq_true rfl) dL_turn_131 ⟨Nat.le_of_ble_eq_true rfl, Nat.le_of_ble_eq_true rfl⟩

