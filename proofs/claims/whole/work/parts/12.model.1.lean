set_option maxHeartbeats 4000000 in
set_option maxRecDepth 100000 in
theorem MX11_thrown (l : Launch) (G : GG) (B : Nat) (μ : Mm) : CM l yX11_thrown (.code yX11_thrown cX11_thrown 1 (Option.some FieldType.int)) 0 0 G B [.ref (B + 259)] μ (some (.int (μ 259 3))) μ := by
  refine CM.of (by decide) (Nat.le_of_ble_eq_true rfl) ?_
  intro p e s m below meth c ls K hr hlocks hP hl
  have hS : va_S (AA B) s.heap s.heap [] := va_S.rf
  have hl : lv_has ls 1 [(0, .ref (B + 259))] := hl
  refine lv_aload_n K.1.1 K.1.2.1 dX11_thrown_0 rfl (lv_at hl 0 rfl) ?_
  refine m_geti K hP (by decide) sh_259 rfl tuX11 3 (by decide) rfl q_1153 dX11_thrown_1 ?_
  refine lv_topi (fun g_1 eg_1 => ?_)
  exact m_iret K hr hlocks hP hS dX11_thrown_4 (by subst eg_1; rfl) rfl

set_option maxHeartbeats 4000000 in
set_option maxRecDepth 100000 in
theorem MX11_isIn (l : Launch) (G : GG) (B : Nat) (μ : Mm) (x : Int32) (lo : Int32) (hi : Int32) : CM l yX11_isIn (.code yX11_isIn cX11_isIn 3 (Option.some FieldType.boolean)) 0 0 G B [.int x, .int lo, .int hi] μ (some (.int (wI x lo hi))) μ := by
  refine CM.of (by decide) (Nat.le_of_ble_eq_true rfl) ?_
  intro p e s m below meth c ls K hr hlocks hP hl
  have hS : va_S (AA B) s.heap s.heap [] := va_S.rf
  have hl : lv_has ls 3 [(0, .int x), (1, .int lo), (2, .int hi)] := hl
  refine lv_iload_n K.1.1 K.1.2.1 dX11_isIn_0 rfl (lv_at hl 0 rfl) ?_
  refine lv_iload_n K.1.1 K.1.2.1 dX11_isIn_1 rfl (lv_at hl 1 rfl) ?_
  refine lv_icmp_lt (tgt := 14) K.1.1 K.1.2.1 dX11_isIn_2 (by decide) (fun c_2 => ?_) (fun c_2 => ?_)
  · refine lv_iconst (v := 0) K.1.1 K.1.2.1 dX11_isIn_14 (by decide) ?_
    exact m_zret K hr hlocks hP hS dX11_isIn_15 (by first | rfl | (skip; rfl)) (by skip; first | (simp only [wI, c_2, Int32.not_le.mpr c_2, if_true, if_false, ite_true, ite_false, reduceIte, not_true, not_false_iff]; done) | simp [wI, c_2, Int32.not_le.mpr c_2]) rfl
  · refine lv_iload_n K.1.1 K.1.2.1 dX11_isIn_5 rfl (lv_at hl 0 rfl) ?_
    refine lv_iload_n K.1.1 K.1.2.1 dX11_isIn_6 rfl (lv_at hl 2 rfl) ?_
    refine lv_icmp_gt (tgt := 14) K.1.1 K.1.2.1 dX11_isIn_7 (by decide) (fun c_7 => ?_) (fun c_7 => ?_)
    · refine lv_iconst (v := 0) K.1.1 K.1.2.1 dX11_isIn_14 (by decide) ?_
      exact m_zret K hr hlocks hP hS dX11_isIn_15 (by first | rfl | (skip; rfl)) (by skip; first | (simp only [wI, c_2, Int32.not_lt.mp c_2, c_7, Int32.not_le.mpr c_7, if_true, if_false, ite_true, ite_false, reduceIte, not_true, not_false_iff]; done) | simp [wI, c_2, Int32.not_lt.mp c_2, c_7, Int32.not_le.mpr c_7]) rfl
    · refine lv_iconst (v := 1) K.1.1 K.1.2.1 dX11_isIn_10 (by decide) ?_
      refine lv_goto (tgt := 15) K.1.1 K.1.2.1 dX11_isIn_11 (by decide) ?_
      exact m_zret K hr hlocks hP hS dX11_isIn_15 (by first | rfl | (skip; rfl)) (by skip; first | (simp only [wI, c_2, Int32.not_lt.mp c_2, c_7, Int32.not_lt.mp c_7, if_true, if_false, ite_true, ite_false, reduceIte, not_true, not_false_iff]; done) | simp [wI, c_2, Int32.not_lt.mp c_2, c_7, Int32.not_lt.mp c_7]) rfl

set_option maxHeartbeats 4000000 in
set_option maxRecDepth 100000 in
theorem MX11_ofT (l : Launch) (G : GG) (B : Nat) (μ : Mm) (t : Int32) (w : Int32) (h : vp_in (11 + 7 * t + w) 267) : CM l yX11_ofT (.code yX11_ofT cX11_ofT 3 (Option.some FieldType.int)) 0 0 G B [.ref (B + 259), .int t, .int w] μ (some (.int (M_t μ t w))) μ := by
  refine CM.of (by decide) (Nat.le_of_ble_eq_true rfl) ?_
  intro p e s m below meth c ls K hr hlocks hP hl
  have hS : va_S (AA B) s.heap s.heap [] := va_S.rf
  have hl : lv_has ls 3 [(0, .ref (B + 259)), (1, .int t), (2, .int w)] := hl
  refine lv_aload_n K.1.1 K.1.2.1 dX11_ofT_0 rfl (lv_at hl 0 rfl) ?_
  refine m_getr K hP (by decide) sh_259 rfl tuX11 0 (by decide) rfl q_1150 dX11_ofT_1 ?_
  refine lv_bipush (v := 11) K.1.1 K.1.2.1 dX11_ofT_4 (by decide) ?_
  refine lv_bipush (v := 7) K.1.1 K.1.2.1 dX11_ofT_6 (by decide) ?_
  refine lv_iload_n K.1.1 K.1.2.1 dX11_ofT_8 rfl (lv_at hl 1 rfl) ?_
  refine lv_imul K.1.1 K.1.2.1 dX11_ofT_9 ?_
  refine lv_iadd K.1.1 K.1.2.1 dX11_ofT_10 ?_
  refine lv_iload_n K.1.1 K.1.2.1 dX11_ofT_11 rfl (lv_at hl 2 rfl) ?_
  refine lv_iadd K.1.1 K.1.2.1 dX11_ofT_12 ?_
  refine m_iald K hP (by decide) sh_260 (n := 267) (h) dX11_ofT_13 ?_
  refine lv_topi (fun g_1 eg_1 => ?_)
  have eg_1 : g_1 = (_ : Mm) 260 (cn (((11 + (7 * t)) + w))) := eg_1
  exact m_iret K hr hlocks hP hS dX11_ofT_14 (by subst eg_1; rfl) rfl

set_option maxHeartbeats 4000000 in
set_option maxRecDepth 100000 in
theorem MX11_setsT (l : Launch) (G : GG) (B : Nat) (μ : Mm) (t : Int32) (w : Int32) (v : Int32) (h : vp_in (11 + 7 * t + w) 267) : CM l yX11_setsT (.code yX11_setsT cX11_setsT 4 Option.none) 0 0 G B [.ref (B + 259), .int t, .int w, .int v] μ none (M_setT μ t w v) := by
  refine CM.of (by decide) (Nat.le_of_ble_eq_true rfl) ?_
  intro p e s m below meth c ls K hr hlocks hP hl
  have hS : va_S (AA B) s.heap s.heap [] := va_S.rf
  have hl : lv_has ls 4 [(0, .ref (B + 259)), (1, .int t), (2, .int w), (3, .int v)] := hl
  refine lv_aload_n K.1.1 K.1.2.1 dX11_setsT_0 rfl (lv_at hl 0 rfl) ?_
  refine m_getr K hP (by decide) sh_259 rfl tuX11 0 (by decide) rfl q_1150 dX11_setsT_1 ?_
  refine lv_bipush (v := 11) K.1.1 K.1.2.1 dX11_setsT_4 (by decide) ?_
  refine lv_bipush (v := 7) K.1.1 K.1.2.1 dX11_setsT_6 (by decide) ?_
  refine lv_iload_n K.1.1 K.1.2.1 dX11_setsT_8 rfl (lv_at hl 1 rfl) ?_
  refine lv_imul K.1.1 K.1.2.1 dX11_setsT_9 ?_
  refine lv_iadd K.1.1 K.1.2.1 dX11_setsT_10 ?_
  refine lv_iload_n K.1.1 K.1.2.1 dX11_setsT_11 rfl (lv_at hl 2 rfl) ?_
  refine lv_iadd K.1.1 K.1.2.1 dX11_setsT_12 ?_
  refine lv_iload_n K.1.1 K.1.2.1 dX11_setsT_13 rfl (lv_at hl 3 rfl) ?_
  refine m_iast K hP hS (by decide) sh_260 (n := 267) (h) dX11_setsT_14 (fun H locs hP hS => ?_)
  have hP : MP G B (up2 _ 260 (cn (((11 + (7 * t)) + w))) _) H := hP
  exact m_vret K hr hlocks hP hS dX11_setsT_15 rfl (by skip; rfl)

set_option maxHeartbeats 4000000 in
set_option maxRecDepth 100000 in
theorem MX11_ofO (l : Launch) (G : GG) (B : Nat) (μ : Mm) (k : Int32) (w : Int32) (h : vp_in (67 + 5 * k + w) 267) : CM l yX11_ofO (.code yX11_ofO cX11_ofO 3 (Option.some FieldType.int)) 0 0 G B [.ref (B + 259), .int k, .int w] μ (some (.int (M_o μ k w))) μ := by
  refine CM.of (by decide) (Nat.le_of_ble_eq_true rfl) ?_
  intro p e s m below meth c ls K hr hlocks hP hl
  have hS : va_S (AA B) s.heap s.heap [] := va_S.rf
  have hl : lv_has ls 3 [(0, .ref (B + 259)), (1, .int k), (2, .int w)] := hl
  refine lv_aload_n K.1.1 K.1.2.1 dX11_ofO_0 rfl (lv_at hl 0 rfl) ?_
  refine m_getr K hP (by decide) sh_259 rfl tuX11 0 (by decide) rfl q_1150 dX11_ofO_1 ?_
  refine lv_bipush (v := 67) K.1.1 K.1.2.1 dX11_ofO_4 (by decide) ?_
  refine lv_iconst (v := 5) K.1.1 K.1.2.1 dX11_ofO_6 (by decide) ?_
  refine lv_iload_n K.1.1 K.1.2.1 dX11_ofO_7 rfl (lv_at hl 1 rfl) ?_
  refine lv_imul K.1.1 K.1.2.1 dX11_ofO_8 ?_
  refine lv_iadd K.1.1 K.1.2.1 dX11_ofO_9 ?_
  refine lv_iload_n K.1.1 K.1.2.1 dX11_ofO_10 rfl (lv_at hl 2 rfl) ?_
  refine lv_iadd K.1.1 K.1.2.1 dX11_ofO_11 ?_
  refine m_iald K hP (by decide) sh_260 (n := 267) (h) dX11_ofO_12 ?_
  refine lv_topi (fun g_1 eg_1 => ?_)
  have eg_1 : g_1 = (_ : Mm) 260 (cn (((67 + (5 * k)) + w))) := eg_1
  exact m_iret K hr hlocks hP hS dX11_ofO_13 (by subst eg_1; rfl) rfl

set_option maxHeartbeats 4000000 in
set_option maxRecDepth 100000 in
theorem MX11_setsO (l : Launch) (G : GG) (B : Nat) (μ : Mm) (k : Int32) (w : Int32) (v : Int32) (h : vp_in (67 + 5 * k + w) 267) : CM l yX11_setsO (.code yX11_setsO cX11_setsO 4 Option.none) 0 0 G B [.ref (B + 259), .int k, .int w, .int v] μ none (M_setO μ k w v) := by
  refine CM.of (by decide) (Nat.le_of_ble_eq_true rfl) ?_
  intro p e s m below meth c ls K hr hlocks hP hl
  have hS : va_S (AA B) s.heap s.heap [] := va_S.rf
  have hl : lv_has ls 4 [(0, .ref (B + 259)), (1, .int k), (2, .int w), (3, .int v)] := hl
  refine lv_aload_n K.1.1 K.1.2.1 dX11_setsO_0 rfl (lv_at hl 0 rfl) ?_
  refine m_getr K hP (by decide) sh_259 rfl tuX11 0 (by decide) rfl q_1150 dX11_setsO_1 ?_
  refine lv_bipush (v := 67) K.1.1 K.1.2.1 dX11_setsO_4 (by decide) ?_
  refine lv_iconst (v := 5) K.1.1 K.1.2.1 dX11_setsO_6 (by decide) ?_
  refine lv_iload_n K.1.1 K.1.2.1 dX11_setsO_7 rfl (lv_at hl 1 rfl) ?_
  refine lv_imul K.1.1 K.1.2.1 dX11_setsO_8 ?_
  refine lv_iadd K.1.1 K.1.2.1 dX11_setsO_9 ?_
  refine lv_iload_n K.1.1 K.1.2.1 dX11_setsO_10 rfl (lv_at hl 2 rfl) ?_
  refine lv_iadd K.1.1 K.1.2.1 dX11_setsO_11 ?_
  refine lv_iload_n K.1.1 K.1.2.1 dX11_setsO_12 rfl (lv_at hl 3 rfl) ?_
  refine m_iast K hP hS (by decide) sh_260 (n := 267) (h) dX11_setsO_13 (fun H locs hP hS => ?_)
  have hP : MP G B (up2 _ 260 (cn (((67 + (5 * k)) + w))) _) H := hP
  exact m_vret K hr hlocks hP hS dX11_setsO_14 rfl (by skip; rfl)

set_option maxHeartbeats 4000000 in
set_option maxRecDepth 100000 in
theorem MX11_isTrader (l : Launch) (G : GG) (B : Nat) (μ : Mm) (t : Int32) : CM l yX11_isTrader (.code yX11_isTrader cX11_isTrader 2 (Option.some FieldType.boolean)) 1 22 G B [.ref (B + 259), .int t] μ (some (.int (M_isTrader μ t))) μ := by
  refine CM.of (by decide) (Nat.le_of_ble_eq_true rfl) ?_
  intro p e s m below meth c ls K hr hlocks hP hl
  have hS : va_S (AA B) s.heap s.heap [] := va_S.rf
  have hl : lv_has ls 2 [(0, .ref (B + 259)), (1, .int t)] := hl
  refine lv_iload_n K.1.1 K.1.2.1 dX11_isTrader_0 rfl (lv_at hl 1 rfl) ?_
  refine lv_iconst (v := 0) K.1.1 K.1.2.1 dX11_isTrader_1 (by decide) ?_
  refine lv_aload_n K.1.1 K.1.2.1 dX11_isTrader_2 rfl (lv_at hl 0 rfl) ?_
  refine m_getr K hP (by decide) sh_259 rfl tuX11 0 (by decide) rfl q_1150 dX11_isTrader_3 ?_
  refine lv_iconst (v := 0) K.1.1 K.1.2.1 dX11_isTrader_6 (by decide) ?_
  refine m_iald K hP (by decide) sh_260 (n := 267) (vpd rfl) dX11_isTrader_7 ?_
  refine lv_topi (fun g_1 eg_1 => ?_)
  have eg_1 : g_1 = (_ : Mm) 260 0 := eg_1
  refine lv_iconst (v := 1) K.1.1 K.1.2.1 dX11_isTrader_8 (by decide) ?_
  refine lv_isub K.1.1 K.1.2.1 dX11_isTrader_9 ?_
  refine m_cS (n := 3) (As := [.int t, .int 0, .int (g_1 - 1)]) (rest := []) K hP hS (MX11_isIn l G B _ t 0 (g_1 - 1) ) q_1213 q_1214 q_91 q_1215 hv_X11_isIn ⟨Nat.le_of_ble_eq_true rfl, Nat.le_of_ble_eq_true rfl⟩ rfl hl.1 rfl (Nat.le_of_ble_eq_true rfl) dX11_isTrader_10 ⟨Nat.zero_le _, Nat.zero_le _⟩ (fun H locs hP hS => ?_)
  refine lv_topi (fun r_2 er_2 => ?_)
  exact m_zret K hr hlocks hP hS dX11_isTrader_13 (by subst eg_1 er_2; unfold wI; split <;> first | rfl | (split <;> rfl)) (by subst eg_1 er_2; rfl) rfl

set_option maxHeartbeats 4000000 in
set_option maxRecDepth 100000 in
theorem MX11_find (l : Launch) (G : GG) (B : Nat) (μ : Mm) (x : Int32) (hI : MI μ) : CM l yX11_find (.code yX11_find cX11_find 3 (Option.some FieldType.int)) 1 22 G B [.ref (B + 259), .int x] μ (some (.int (M_find μ x))) μ := by
  refine CM.of (by decide) (Nat.le_of_ble_eq_true rfl) ?_
  intro p e s m below meth c ls K hr hlocks hP hl
  have hS : va_S (AA B) s.heap s.heap [] := va_S.rf
  have hl : lv_has ls 3 [(0, .ref (B + 259)), (1, .int x)] := hl
  refine lv_iconst (v := 0) K.1.1 K.1.2.1 dX11_find_0 (by decide) ?_
  refine lv_istore_n (lv' := [(2, .int 0), (0, .ref (B + 259)), (1, .int x)]) K.1.1 K.1.2.1 dX11_find_1 rfl hl (by decide) rfl (fun ls hl => ?_)
  refine up_to (N := cn (μ 260 1)) (P := fun k : Nat => ∀ (v2_2 : Int32) (H : Heap) (locs : List Loc) (ls : Array Slot), (v2_2 = nI k) → (∀ j : Nat, j < k → decide (M_o μ (nI j) 0 = x) = false) → MP G B μ H → va_S (AA B) s.heap H locs → lv_has ls 3 [(2, .int v2_2), (0, .ref (B + 259)), (1, .int x)] → W p l e ({ frames := 1, cells := 0, slots := 0, locals := 22 } : Room) s m ([.ref (B + 259), .int x] : List Value).toArray below meth c H locs 0 0 (MF below G B (some (.int (M_find μ x))) μ ([.ref (B + 259), .int x] : List Value).toArray s) (F0 m 2 ls [])) ?_ ?_ _ _ _ _ (by first | rfl | (skip; rfl)) (by intro j hj; exact absurd hj (Nat.not_lt_zero _)) hP hS (lv_sub hl [0, 1, 2] rfl)
  · intro v2_2 H locs ls ev2_2 inv_2 hP hS hl
    refine lv_iload_n K.1.1 K.1.2.1 dX11_find_2 rfl (lv_at hl 0 rfl) ?_
    refine lv_aload_n K.1.1 K.1.2.1 dX11_find_3 rfl (lv_at hl 1 rfl) ?_
    refine m_getr K hP (by decide) sh_259 rfl tuX11 0 (by decide) rfl q_1150 dX11_find_4 ?_
    refine lv_iconst (v := 1) K.1.1 K.1.2.1 dX11_find_7 (by decide) ?_
    refine m_iald K hP (by decide) sh_260 (n := 267) (vpd rfl) dX11_find_8 ?_
    refine lv_topi (fun g_1 eg_1 => ?_)
    have eg_1 : g_1 = (_ : Mm) 260 1 := eg_1
    refine lv_icmp_ge (tgt := 30) K.1.1 K.1.2.1 dX11_find_9 (by decide) (fun c_9 => ?_) (fun c_9 => ?_)
    · refine lv_iconst (v := (-1)) K.1.1 K.1.2.1 dX11_find_30 (by decide) ?_
      exact m_iret K hr hlocks hP hS dX11_find_31 (by subst ev2_2 eg_1; exact congrArg (fun z => some (Value.int z)) (fstI_none inv_2)) rfl
    · exact absurd c_9 (not_not_intro (by subst ev2_2 eg_1; exact cn_out _))
  · intro k hk ih_2 v2_2 H locs ls ev2_2 inv_2 hP hS hl
    refine lv_iload_n K.1.1 K.1.2.1 dX11_find_2 rfl (lv_at hl 0 rfl) ?_
    refine lv_aload_n K.1.1 K.1.2.1 dX11_find_3 rfl (lv_at hl 1 rfl) ?_
    refine m_getr K hP (by decide) sh_259 rfl tuX11 0 (by decide) rfl q_1150 dX11_find_4 ?_
    refine lv_iconst (v := 1) K.1.1 K.1.2.1 dX11_find_7 (by decide) ?_
    refine m_iald K hP (by decide) sh_260 (n := 267) (vpd rfl) dX11_find_8 ?_
    refine lv_topi (fun g_2 eg_2 => ?_)
    have eg_2 : g_2 = (_ : Mm) 260 1 := eg_2
    refine lv_icmp_ge (tgt := 30) K.1.1 K.1.2.1 dX11_find_9 (by decide) (fun c_9 => ?_) (fun c_9 => ?_)
    · exact absurd c_9 (by subst ev2_2 eg_2; exact cn_in hk)
    · refine lv_aload_n K.1.1 K.1.2.1 dX11_find_12 rfl (lv_at hl 1 rfl) ?_
      refine lv_iload_n K.1.1 K.1.2.1 dX11_find_13 rfl (lv_at hl 0 rfl) ?_
      refine lv_iconst (v := 0) K.1.1 K.1.2.1 dX11_find_14 (by decide) ?_
      refine m_cV (n := 2) (As := [.int v2_2, .int 0]) (rest := []) K hP hS (MX11_ofO l G B _ v2_2 0 (loO (by subst ev2_2 eg_2; first | assumption | exact MI_k hI (by assumption) | exact MI_w hI (by first | assumption | exact MI_k hI (by assumption)) | exact MI_t hI (by assumption)) (vpd rfl))) (by decide) sh_259 rfl q_1291 q_1293 q_39 q_91 q_1294 hv_X11_ofO ⟨Nat.le_of_ble_eq_true rfl, Nat.le_of_ble_eq_true rfl⟩ rfl hl.1 rfl (Nat.le_of_ble_eq_true rfl) dX11_find_15 ⟨Nat.zero_le _, Nat.zero_le _⟩ (fun H locs hP hS => ?_)
      refine lv_topi (fun r_3 er_3 => ?_)
      refine lv_iload_n K.1.1 K.1.2.1 dX11_find_18 rfl (lv_at hl 2 rfl) ?_
      refine lv_icmp_ne (tgt := 24) K.1.1 K.1.2.1 dX11_find_19 (by decide) (fun c_19 => ?_) (fun c_19 => ?_)
      · obtain ⟨x_4, ex_4⟩ : ∃ y : Int32, y = v2_2 + (1) := ⟨_, rfl⟩
        refine lv_iinc (v := x_4) (lv' := [(2, .int x_4), (0, .ref (B + 259)), (1, .int x)]) K.1.1 K.1.2.1 dX11_find_24 hl (k := 0) rfl (by rw [ex_4]; rfl) (by decide) rfl (fun ls hl => ?_)
        refine lv_goto (tgt := 2) K.1.1 K.1.2.1 dX11_find_27 (by decide) ?_
        exact ih_2 _ _ _ _ (by subst ev2_2 eg_2 er_3 ex_4; exact nI_1 _) (by subst ev2_2 eg_2 er_3 ex_4; exact lt_s inv_2 (decide_eq_false c_19)) hP hS (lv_sub hl [0, 1, 2] rfl)
      · refine lv_iload_n K.1.1 K.1.2.1 dX11_find_22 rfl (lv_at hl 0 rfl) ?_
        exact m_iret K hr hlocks hP hS dX11_find_23 (by subst ev2_2 eg_2 er_3; exact congrArg (fun z => some (Value.int z)) (fstI_some hk inv_2 (decide_eq_true c_19))) rfl

set_option maxHeartbeats 4000000 in
set_option maxRecDepth 100000 in
theorem MX11_keeps (l : Launch) (G : GG) (B : Nat) (μ : Mm) (cp : Int32) (hc : vp_in cp 5) : CM l yX11_keeps (.code yX11_keeps cX11_keeps 3 Option.none) 0 0 G B [.ref (B + 259), .int cp] μ none (M_keeps μ cp) := by
  refine CM.of (by decide) (Nat.le_of_ble_eq_true rfl) ?_
  intro p e s m below meth c ls K hr hlocks hP hl
  have hS : va_S (AA B) s.heap s.heap [] := va_S.rf
  have hl : lv_has ls 3 [(0, .ref (B + 259)), (1, .int cp)] := hl
  refine lv_iconst (v := 0) K.1.1 K.1.2.1 dX11_keeps_0 (by decide) ?_
  refine lv_istore_n (lv' := [(2, .int 0), (0, .ref (B + 259)), (1, .int cp)]) K.1.1 K.1.2.1 dX11_keeps_1 rfl hl (by decide) rfl (fun ls hl => ?_)
  refine up_to (N := NN 267) (P := fun k : Nat => ∀ (v2_2 : Int32) (μ_2 : Mm) (H : Heap) (locs : List Loc) (ls : Array Slot), (v2_2 = nI k) → (μ_2 = M_keepK μ (cn cp) k) → MP G B μ_2 H → va_S (AA B) s.heap H locs → lv_has ls 3 [(2, .int v2_2), (0, .ref (B + 259)), (1, .int cp)] → W p l e ({ frames := 0, cells := 0, slots := 0, locals := 0 } : Room) s m ([.ref (B + 259), .int cp] : List Value).toArray below meth c H locs 0 0 (MF below G B none (M_keeps μ cp) ([.ref (B + 259), .int cp] : List Value).toArray s) (F0 m 2 ls [])) ?_ ?_ _ _ _ _ _ (by first | rfl | (skip; rfl)) (by exact M_keepK_0 μ _) hP hS (lv_sub hl [0, 1, 2] rfl)
  · intro v2_2 μ_2 H locs ls ev2_2 eμ_2 hP hS hl
    refine lv_iload_n K.1.1 K.1.2.1 dX11_keeps_2 rfl (lv_at hl 0 rfl) ?_
    refine lv_sipush (v := 267) K.1.1 K.1.2.1 dX11_keeps_3 (by decide) ?_
    refine lv_icmp_ge (tgt := 33) K.1.1 K.1.2.1 dX11_keeps_6 (by decide) (fun c_6 => ?_) (fun c_6 => ?_)
    · exact m_vret K hr hlocks hP hS dX11_keeps_33 rfl (by subst ev2_2 eμ_2; rw [NN_eq]; rfl)
    · exact absurd c_6 (not_not_intro (by subst ev2_2 eμ_2; rw [NN_eq]; decide))
  · intro k hk ih_2 v2_2 μ_2 H locs ls ev2_2 eμ_2 hP hS hl
    rw [NN_eq] at hk
    refine lv_iload_n K.1.1 K.1.2.1 dX11_keeps_2 rfl (lv_at hl 0 rfl) ?_
    refine lv_sipush (v := 267) K.1.1 K.1.2.1 dX11_keeps_3 (by decide) ?_
    refine lv_icmp_ge (tgt := 33) K.1.1 K.1.2.1 dX11_keeps_6 (by decide) (fun c_6 => ?_) (fun c_6 => ?_)
    · exact absurd c_6 (by subst ev2_2 eμ_2; exact nI_ge (a := k) (b := 267) hk (by decide))
    · refine lv_aload_n K.1.1 K.1.2.1 dX11_keeps_9 rfl (lv_at hl 1 rfl) ?_
      refine m_getr K hP (by decide) sh_259 rfl tuX11 1 (by decide) rfl q_1151 dX11_keeps_10 ?_
      refine lv_iload_n K.1.1 K.1.2.1 dX11_keeps_13 rfl (lv_at hl 2 rfl) ?_
      refine lv_sipush (v := 267) K.1.1 K.1.2.1 dX11_keeps_14 (by decide) ?_
      refine lv_imul K.1.1 K.1.2.1 dX11_keeps_17 ?_
      refine lv_iload_n K.1.1 K.1.2.1 dX11_keeps_18 rfl (lv_at hl 0 rfl) ?_
      refine lv_iadd K.1.1 K.1.2.1 dX11_keeps_19 ?_
      refine lv_aload_n K.1.1 K.1.2.1 dX11_keeps_20 rfl (lv_at hl 1 rfl) ?_
      refine m_getr K hP (by decide) sh_259 rfl tuX11 0 (by decide) rfl q_1150 dX11_keeps_21 ?_
      refine lv_iload_n K.1.1 K.1.2.1 dX11_keeps_24 rfl (lv_at hl 0 rfl) ?_
      refine m_iald K hP (by decide) sh_260 (n := 267) (by subst ev2_2 eμ_2; exact vp_ofN (by decide) hk) dX11_keeps_25 ?_
      refine lv_topi (fun g_1 eg_1 => ?_)
      have eg_1 : g_1 = (_ : Mm) 260 (cn v2_2) := eg_1
      refine m_iast K hP hS (by decide) sh_261 (n := 1335) (by subst ev2_2 eμ_2 eg_1; rw [idxK hc]; exact vp_in_nI (by have := vp_cn hc; omega) (by decide)) dX11_keeps_26 (fun H locs hP hS => ?_)
      have hP : MP G B (up2 _ 261 (cn (((cp * 267) + v2_2))) _) H := hP
      obtain ⟨x_2, ex_2⟩ : ∃ y : Int32, y = v2_2 + (1) := ⟨_, rfl⟩
      refine lv_iinc (v := x_2) (lv' := [(2, .int x_2), (0, .ref (B + 259)), (1, .int cp)]) K.1.1 K.1.2.1 dX11_keeps_27 hl (k := 0) rfl (by rw [ex_2]; rfl) (by decide) rfl (fun ls hl => ?_)
      refine lv_goto (tgt := 2) K.1.1 K.1.2.1 dX11_keeps_30 (by decide) ?_
      exact ih_2 _ _ _ _ _ (by subst ev2_2 eμ_2 eg_1 ex_2; exact nI_1 _) (by subst ev2_2 eμ_2 eg_1 ex_2; rw [idxK hc, cn_nI (by have := vp_cn hc; omega), cn_nI (by omega)]; exact M_keepK_s _ _ _) hP hS (lv_sub hl [0, 1, 2] rfl)

set_option maxHeartbeats 4000000 in
set_option maxRecDepth 100000 in
theorem MX11_brings (l : Launch) (G : GG) (B : Nat) (μ : Mm) (cp : Int32) (hc : vp_in cp 5) : CM l yX11_brings (.code yX11_brings cX11_brings 3 Option.none) 0 0 G B [.ref (B + 259), .int cp] μ none (M_brings μ cp) := by
  refine CM.of (by decide) (Nat.le_of_ble_eq_true rfl) ?_
  intro p e s m below meth c ls K hr hlocks hP hl
  have hS : va_S (AA B) s.heap s.heap [] := va_S.rf
  have hl : lv_has ls 3 [(0, .ref (B + 259)), (1, .int cp)] := hl
  refine lv_iconst (v := 0) K.1.1 K.1.2.1 dX11_brings_0 (by decide) ?_
  refine lv_istore_n (lv' := [(2, .int 0), (0, .ref (B + 259)), (1, .int cp)]) K.1.1 K.1.2.1 dX11_brings_1 rfl hl (by decide) rfl (fun ls hl => ?_)
  refine up_to (N := NN 267) (P := fun k : Nat => ∀ (v2_2 : Int32) (μ_2 : Mm) (H : Heap) (locs : List Loc) (ls : Array Slot), (v2_2 = nI k) → (μ_2 = M_bringK μ (cn cp) k) → MP G B μ_2 H → va_S (AA B) s.heap H locs → lv_has ls 3 [(2, .int v2_2), (0, .ref (B + 259)), (1, .int cp)] → W p l e ({ frames := 0, cells := 0, slots := 0, locals := 0 } : Room) s m ([.ref (B + 259), .int cp] : List Value).toArray below meth c H locs 0 0 (MF below G B none (M_brings μ cp) ([.ref (B + 259), .int cp] : List Value).toArray s) (F0 m 2 ls [])) ?_ ?_ _ _ _ _ _ (by first | rfl | (skip; rfl)) (by exact M_bringK_0 μ _) hP hS (lv_sub hl [0, 1, 2] rfl)
  · intro v2_2 μ_2 H locs ls ev2_2 eμ_2 hP hS hl
    refine lv_iload_n K.1.1 K.1.2.1 dX11_brings_2 rfl (lv_at hl 0 rfl) ?_
    refine lv_sipush (v := 267) K.1.1 K.1.2.1 dX11_brings_3 (by decide) ?_
    refine lv_icmp_ge (tgt := 33) K.1.1 K.1.2.1 dX11_brings_6 (by decide) (fun c_6 => ?_) (fun c_6 => ?_)
    · exact m_vret K hr hlocks hP hS dX11_brings_33 rfl (by subst ev2_2 eμ_2; rw [NN_eq]; rfl)
    · exact absurd c_6 (not_not_intro (by subst ev2_2 eμ_2; rw [NN_eq]; decide))
  · intro k hk ih_2 v2_2 μ_2 H locs ls ev2_2 eμ_2 hP hS hl
    rw [NN_eq] at hk
    refine lv_iload_n K.1.1 K.1.2.1 dX11_brings_2 rfl (lv_at hl 0 rfl) ?_
    refine lv_sipush (v := 267) K.1.1 K.1.2.1 dX11_brings_3 (by decide) ?_
    refine lv_icmp_ge (tgt := 33) K.1.1 K.1.2.1 dX11_brings_6 (by decide) (fun c_6 => ?_) (fun c_6 => ?_)
    · exact absurd c_6 (by subst ev2_2 eμ_2; exact nI_ge (a := k) (b := 267) hk (by decide))
    · refine lv_aload_n K.1.1 K.1.2.1 dX11_brings_9 rfl (lv_at hl 1 rfl) ?_
      refine m_getr K hP (by decide) sh_259 rfl tuX11 0 (by decide) rfl q_1150 dX11_brings_10 ?_
      refine lv_iload_n K.1.1 K.1.2.1 dX11_brings_13 rfl (lv_at hl 0 rfl) ?_
      refine lv_aload_n K.1.1 K.1.2.1 dX11_brings_14 rfl (lv_at hl 1 rfl) ?_
      refine m_getr K hP (by decide) sh_259 rfl tuX11 1 (by decide) rfl q_1151 dX11_brings_15 ?_
      refine lv_iload_n K.1.1 K.1.2.1 dX11_brings_18 rfl (lv_at hl 2 rfl) ?_
      refine lv_sipush (v := 267) K.1.1 K.1.2.1 dX11_brings_19 (by decide) ?_
      refine lv_imul K.1.1 K.1.2.1 dX11_brings_22 ?_
      refine lv_iload_n K.1.1 K.1.2.1 dX11_brings_23 rfl (lv_at hl 0 rfl) ?_
      refine lv_iadd K.1.1 K.1.2.1 dX11_brings_24 ?_
      refine m_iald K hP (by decide) sh_261 (n := 1335) (by subst ev2_2 eμ_2; rw [idxK hc]; exact vp_in_nI (by have := vp_cn hc; omega) (by decide)) dX11_brings_25 ?_
      refine lv_topi (fun g_1 eg_1 => ?_)
      have eg_1 : g_1 = (_ : Mm) 261 (cn (((cp * 267) + v2_2))) := eg_1
      refine m_iast K hP hS (by decide) sh_260 (n := 267) (by subst ev2_2 eμ_2 eg_1; exact vp_ofN (by decide) hk) dX11_brings_26 (fun H locs hP hS => ?_)
      have hP : MP G B (up2 _ 260 (cn v2_2) _) H := hP
      obtain ⟨x_2, ex_2⟩ : ∃ y : Int32, y = v2_2 + (1) := ⟨_, rfl⟩
      refine lv_iinc (v := x_2) (lv' := [(2, .int x_2), (0, .ref (B + 259)), (1, .int cp)]) K.1.1 K.1.2.1 dX11_brings_27 hl (k := 0) rfl (by rw [ex_2]; rfl) (by decide) rfl (fun ls hl => ?_)
      refine lv_goto (tgt := 2) K.1.1 K.1.2.1 dX11_brings_30 (by decide) ?_
      exact ih_2 _ _ _ _ _ (by subst ev2_2 eμ_2 eg_1 ex_2; exact nI_1 _) (by subst ev2_2 eμ_2 eg_1 ex_2; rw [idxK hc, cn_nI (n := cn cp * 267 + k) (by have := vp_cn hc; omega), cn_nI (n := k) (by omega)]; exact M_bringK_s _ _ _) hP hS (lv_sub hl [0, 1, 2] rfl)

set_option maxHeartbeats 4000000 in
set_option maxRecDepth 100000 in
theorem MX11_records (l : Launch) (G : GG) (B : Nat) (μ : Mm) (hs : vp_in (μ 259 2) 5) : CM l yX11_records (.code yX11_records cX11_records 2 Option.none) 1 22 G B [.ref (B + 259)] μ none (M_records μ) := by
  refine CM.of (by decide) (Nat.le_of_ble_eq_true rfl) ?_
  intro p e s m below meth c ls K hr hlocks hP hl
  have hS : va_S (AA B) s.heap s.heap [] := va_S.rf
  have hl : lv_has ls 2 [(0, .ref (B + 259))] := hl
  refine lv_aload_n K.1.1 K.1.2.1 dX11_records_0 rfl (lv_at hl 0 rfl) ?_
  refine m_geti K hP (by decide) sh_259 rfl tuX11 2 (by decide) rfl q_1152 dX11_records_1 ?_
  refine lv_topi (fun g_1 eg_1 => ?_)
  refine lv_iconst (v := 4) K.1.1 K.1.2.1 dX11_records_4 (by decide) ?_
  refine lv_icmp_ne (tgt := 49) K.1.1 K.1.2.1 dX11_records_5 (by decide) (fun c_5 => ?_) (fun c_5 => ?_)
  · refine lv_aload_n K.1.1 K.1.2.1 dX11_records_49 rfl (lv_at hl 0 rfl) ?_
    refine lv_aload_n K.1.1 K.1.2.1 dX11_records_50 rfl (lv_at hl 0 rfl) ?_
    refine m_geti K hP (by decide) sh_259 rfl tuX11 2 (by decide) rfl q_1152 dX11_records_51 ?_
    refine lv_topi (fun g_2 eg_2 => ?_)
    refine m_cV (n := 1) (As := [.int g_2]) (rest := []) K hP hS (MX11_keeps l G B _ g_2 (by have h := drop_vp hs; unfold M_drop at h; subst eg_1 eg_2; first | (rw [if_pos c_5] at h; rw [NN_eq]; exact h) | (rw [if_neg c_5] at h; exact h))) (by decide) sh_259 rfl q_1220 q_1222 q_26 q_91 q_1223 hv_X11_keeps ⟨Nat.le_of_ble_eq_true rfl, Nat.le_of_ble_eq_true rfl⟩ rfl hl.1 rfl (Nat.le_of_ble_eq_true rfl) dX11_records_54 ⟨Nat.zero_le _, Nat.zero_le _⟩ (fun H locs hP hS => ?_)
    refine W.eq (g2 := F0 m 57 ls []) rfl ?_
    refine lv_aload_n K.1.1 K.1.2.1 dX11_records_57 rfl (lv_at hl 0 rfl) ?_
    refine lv_dup K.1.1 K.1.2.1 dX11_records_58 rfl ?_
    refine m_geti K hP (by decide) sh_259 rfl tuX11 2 (by decide) rfl q_1152 dX11_records_59 ?_
    refine lv_topi (fun g_3 eg_3 => ?_)
    refine lv_iconst (v := 1) K.1.1 K.1.2.1 dX11_records_62 (by decide) ?_
    refine lv_iadd K.1.1 K.1.2.1 dX11_records_63 ?_
    refine m_puti K hP hS (by decide) sh_259 rfl tuX11 tyX11 tyX11_ok nmX11 2 (by decide) rfl rfl (by decide +kernel) q_1152 dX11_records_64 (fun H locs hP hS => ?_)
    exact m_vret K hr hlocks hP hS dX11_records_67 rfl (by subst eg_1 eg_2 eg_3; rw [M_records, M_drop]; first | (rw [if_pos c_5, NN_eq]; first | done | rfl) | (rw [if_neg c_5]; first | done | rfl))
  · refine lv_iconst (v := 0) K.1.1 K.1.2.1 dX11_records_8 (by decide) ?_
    refine lv_istore_n (lv' := [(1, .int 0), (0, .ref (B + 259))]) K.1.1 K.1.2.1 dX11_records_9 rfl hl (by decide) rfl (fun ls hl => ?_)
    refine up_to (N := NN 801) (P := fun k : Nat => ∀ (v1_10 : Int32) (μ_10 : Mm) (H : Heap) (locs : List Loc) (ls : Array Slot), (v1_10 = nI k) → (μ_10 = M_shiftK μ k) → MP G B μ_10 H → va_S (AA B) s.heap H locs → lv_has ls 2 [(1, .int v1_10), (0, .ref (B + 259))] → W p l e ({ frames := 1, cells := 0, slots := 0, locals := 22 } : Room) s m ([.ref (B + 259)] : List Value).toArray below meth c H locs 0 0 (MF below G B none (M_records μ) ([.ref (B + 259)] : List Value).toArray s) (F0 m 10 ls [])) ?_ ?_ _ _ _ _ _ (by first | rfl | (subst eg_1; rfl)) (by exact M_shiftK_0 μ) hP hS (lv_sub hl [0, 1] rfl)
    · intro v1_10 μ_10 H locs ls ev1_10 eμ_10 hP hS hl
      refine lv_iload_n K.1.1 K.1.2.1 dX11_records_10 rfl (lv_at hl 0 rfl) ?_
      refine lv_sipush (v := 801) K.1.1 K.1.2.1 dX11_records_11 (by decide) ?_
      refine lv_icmp_ge (tgt := 39) K.1.1 K.1.2.1 dX11_records_14 (by decide) (fun c_14 => ?_) (fun c_14 => ?_)
      · refine lv_aload_n K.1.1 K.1.2.1 dX11_records_39 rfl (lv_at hl 1 rfl) ?_
        refine lv_dup K.1.1 K.1.2.1 dX11_records_40 rfl ?_
        refine m_geti K hP (by decide) sh_259 rfl tuX11 2 (by decide) rfl q_1152 dX11_records_41 ?_
        refine lv_topi (fun g_4 eg_4 => ?_)
        refine lv_iconst (v := 1) K.1.1 K.1.2.1 dX11_records_44 (by decide) ?_
        refine lv_isub K.1.1 K.1.2.1 dX11_records_45 ?_
        refine m_puti K hP hS (by decide) sh_259 rfl tuX11 tyX11 tyX11_ok nmX11 2 (by decide) rfl rfl (by decide +kernel) q_1152 dX11_records_46 (fun H locs hP hS => ?_)
        refine lv_aload_n K.1.1 K.1.2.1 dX11_records_49 rfl (lv_at hl 1 rfl) ?_
        refine lv_aload_n K.1.1 K.1.2.1 dX11_records_50 rfl (lv_at hl 1 rfl) ?_
        refine m_geti K hP (by decide) sh_259 rfl tuX11 2 (by decide) rfl q_1152 dX11_records_51 ?_
        refine lv_topi (fun g_5 eg_5 => ?_)
        refine m_cV (n := 1) (As := [.int g_5]) (rest := []) K hP hS (MX11_keeps l G B _ g_5 (by have h := drop_vp hs; unfold M_drop at h; subst eg_1 ev1_10 eμ_10 eg_4 eg_5; first | (rw [if_pos c_5] at h; rw [NN_eq]; exact h) | (rw [if_neg c_5] at h; exact h))) (by decide) sh_259 rfl q_1220 q_1222 q_26 q_91 q_1223 hv_X11_keeps ⟨Nat.le_of_ble_eq_true rfl, Nat.le_of_ble_eq_true rfl⟩ rfl hl.1 rfl (Nat.le_of_ble_eq_true rfl) dX11_records_54 ⟨Nat.zero_le _, Nat.zero_le _⟩ (fun H locs hP hS => ?_)
        refine W.eq (g2 := F0 m 57 ls []) rfl ?_
        refine lv_aload_n K.1.1 K.1.2.1 dX11_records_57 rfl (lv_at hl 1 rfl) ?_
        refine lv_dup K.1.1 K.1.2.1 dX11_records_58 rfl ?_
        refine m_geti K hP (by decide) sh_259 rfl tuX11 2 (by decide) rfl q_1152 dX11_records_59 ?_
        refine lv_topi (fun g_6 eg_6 => ?_)
        refine lv_iconst (v := 1) K.1.1 K.1.2.1 dX11_records_62 (by decide) ?_
        refine lv_iadd K.1.1 K.1.2.1 dX11_records_63 ?_
        refine m_puti K hP hS (by decide) sh_259 rfl tuX11 tyX11 tyX11_ok nmX11 2 (by decide) rfl rfl (by decide +kernel) q_1152 dX11_records_64 (fun H locs hP hS => ?_)
        exact m_vret K hr hlocks hP hS dX11_records_67 rfl (by subst eg_1 ev1_10 eμ_10 eg_4 eg_5 eg_6; rw [M_records, M_drop]; first | (rw [if_pos c_5, NN_eq]; first | done | rfl) | (rw [if_neg c_5]; first | done | rfl))
      · exact absurd c_14 (not_not_intro (by subst eg_1 ev1_10 eμ_10; rw [NN_eq]; decide))
    · intro k hk ih_10 v1_10 μ_10 H locs ls ev1_10 eμ_10 hP hS hl
      rw [NN_eq] at hk
      refine lv_iload_n K.1.1 K.1.2.1 dX11_records_10 rfl (lv_at hl 0 rfl) ?_
      refine lv_sipush (v := 801) K.1.1 K.1.2.1 dX11_records_11 (by decide) ?_
      refine lv_icmp_ge (tgt := 39) K.1.1 K.1.2.1 dX11_records_14 (by decide) (fun c_14 => ?_) (fun c_14 => ?_)
      · exact absurd c_14 (by subst eg_1 ev1_10 eμ_10; exact nI_ge (a := k) (b := 801) hk (by decide))
      · refine lv_aload_n K.1.1 K.1.2.1 dX11_records_17 rfl (lv_at hl 1 rfl) ?_
        refine m_getr K hP (by decide) sh_259 rfl tuX11 1 (by decide) rfl q_1151 dX11_records_18 ?_
        refine lv_iload_n K.1.1 K.1.2.1 dX11_records_21 rfl (lv_at hl 0 rfl) ?_
        refine lv_aload_n K.1.1 K.1.2.1 dX11_records_22 rfl (lv_at hl 1 rfl) ?_
        refine m_getr K hP (by decide) sh_259 rfl tuX11 1 (by decide) rfl q_1151 dX11_records_23 ?_
        refine lv_iload_n K.1.1 K.1.2.1 dX11_records_26 rfl (lv_at hl 0 rfl) ?_
        refine lv_sipush (v := 267) K.1.1 K.1.2.1 dX11_records_27 (by decide) ?_
        refine lv_iadd K.1.1 K.1.2.1 dX11_records_30 ?_
        refine m_iald K hP (by decide) sh_261 (n := 1335) (by subst eg_1 ev1_10 eμ_10; rw [show nI k + 267 = nI (k + 267) from nI_add k 267]; exact vp_in_nI (by omega) (by decide)) dX11_records_31 ?_
        refine lv_topi (fun g_7 eg_7 => ?_)
        have eg_7 : g_7 = (_ : Mm) 261 (cn (v1_10 + 267)) := eg_7
        refine m_iast K hP hS (by decide) sh_261 (n := 1335) (by subst eg_1 ev1_10 eμ_10 eg_7; exact vp_in_nI (by omega) (by decide)) dX11_records_32 (fun H locs hP hS => ?_)
        have hP : MP G B (up2 _ 261 (cn v1_10) _) H := hP
        obtain ⟨x_8, ex_8⟩ : ∃ y : Int32, y = v1_10 + (1) := ⟨_, rfl⟩
        refine lv_iinc (v := x_8) (lv' := [(1, .int x_8), (0, .ref (B + 259))]) K.1.1 K.1.2.1 dX11_records_33 hl (k := 0) rfl (by rw [ex_8]; rfl) (by decide) rfl (fun ls hl => ?_)
        refine lv_goto (tgt := 10) K.1.1 K.1.2.1 dX11_records_36 (by decide) ?_
        exact ih_10 _ _ _ _ _ (by subst eg_1 ev1_10 eμ_10 eg_7 ex_8; exact nI_1 _) (by subst eg_1 ev1_10 eμ_10 eg_7 ex_8; rw [show nI k + 267 = nI (k + 267) from nI_add k 267, cn_nI (n := k + 267) (by omega), cn_nI (n := k) (by omega)]; exact M_shiftK_s _ _) hP hS (lv_sub hl [0, 1] rfl)

set_option maxHeartbeats 4000000 in
set_option maxRecDepth 100000 in
theorem MX11_undo (l : Launch) (G : GG) (B : Nat) (μ : Mm) (hs : vp_in (μ 259 2) 5) : CM l yX11_undo (.code yX11_undo cX11_undo 1 (Option.some FieldType.int)) 1 22 G B [.ref (B + 259)] μ (some (.int ((M_undo μ).2))) ((M_undo μ).1) := by
  refine CM.of (by decide) (Nat.le_of_ble_eq_true rfl) ?_
  intro p e s m below meth c ls K hr hlocks hP hl
  have hS : va_S (AA B) s.heap s.heap [] := va_S.rf
  have hl : lv_has ls 1 [(0, .ref (B + 259))] := hl
  refine lv_aload_n K.1.1 K.1.2.1 dX11_undo_0 rfl (lv_at hl 0 rfl) ?_
  refine lv_aload_n K.1.1 K.1.2.1 dX11_undo_1 rfl (lv_at hl 0 rfl) ?_
  refine m_geti K hP (by decide) sh_259 rfl tuX11 2 (by decide) rfl q_1152 dX11_undo_2 ?_
  refine lv_topi (fun g_1 eg_1 => ?_)
  refine lv_if_le (tgt := 12) K.1.1 K.1.2.1 dX11_undo_5 (by decide) (fun c_5 => ?_) (fun c_5 => ?_)
  · refine lv_iconst (v := 1) K.1.1 K.1.2.1 dX11_undo_12 (by decide) ?_
    refine m_puti K hP hS (by decide) sh_259 rfl tuX11 tyX11 tyX11_ok nmX11 3 (by decide) rfl rfl (by decide +kernel) q_1153 dX11_undo_13 (fun H locs hP hS => ?_)
    refine lv_aload_n K.1.1 K.1.2.1 dX11_undo_16 rfl (lv_at hl 0 rfl) ?_
    refine m_geti K hP (by decide) sh_259 rfl tuX11 3 (by decide) rfl q_1153 dX11_undo_17 ?_
    refine lv_topi (fun g_2 eg_2 => ?_)
    refine lv_if_eq (tgt := 25) K.1.1 K.1.2.1 dX11_undo_20 (by decide) (fun c_20 => ?_) (fun c_20 => ?_)
    · refine lv_aload_n K.1.1 K.1.2.1 dX11_undo_25 rfl (lv_at hl 0 rfl) ?_
      refine lv_dup K.1.1 K.1.2.1 dX11_undo_26 rfl ?_
      refine m_geti K hP (by decide) sh_259 rfl tuX11 2 (by decide) rfl q_1152 dX11_undo_27 ?_
      refine lv_topi (fun g_3 eg_3 => ?_)
      refine lv_iconst (v := 1) K.1.1 K.1.2.1 dX11_undo_30 (by decide) ?_
      refine lv_isub K.1.1 K.1.2.1 dX11_undo_31 ?_
      refine m_puti K hP hS (by decide) sh_259 rfl tuX11 tyX11 tyX11_ok nmX11 2 (by decide) rfl rfl (by decide +kernel) q_1152 dX11_undo_32 (fun H locs hP hS => ?_)
      refine lv_aload_n K.1.1 K.1.2.1 dX11_undo_35 rfl (lv_at hl 0 rfl) ?_
      refine lv_aload_n K.1.1 K.1.2.1 dX11_undo_36 rfl (lv_at hl 0 rfl) ?_
      refine m_geti K hP (by decide) sh_259 rfl tuX11 2 (by decide) rfl q_1152 dX11_undo_37 ?_
      refine lv_topi (fun g_4 eg_4 => ?_)
      refine m_cV (n := 1) (As := [.int g_4]) (rest := []) K hP hS (MX11_brings l G B _ g_4 (by subst eg_1 eg_2 eg_3 eg_4; rw [up2_s] at c_20; first | exact absurd c_20 (by decide) | (rw [up2_s, up2k_states]; exact pred_vp hs (by decide) c_5))) (by decide) sh_259 rfl q_1201 q_1203 q_23 q_91 q_1204 hv_X11_brings ⟨Nat.le_of_ble_eq_true rfl, Nat.le_of_ble_eq_true rfl⟩ rfl hl.1 rfl (Nat.le_of_ble_eq_true rfl) dX11_undo_40 ⟨Nat.zero_le _, Nat.zero_le _⟩ (fun H locs hP hS => ?_)
      refine W.eq (g2 := F0 m 43 ls []) rfl ?_
      refine lv_aload_n K.1.1 K.1.2.1 dX11_undo_43 rfl (lv_at hl 0 rfl) ?_
      refine m_geti K hP (by decide) sh_259 rfl tuX11 2 (by decide) rfl q_1152 dX11_undo_44 ?_
      refine lv_topi (fun g_5 eg_5 => ?_)
      exact m_iret K hr hlocks hP hS dX11_undo_47 (by subst eg_1 eg_2 eg_3 eg_4 eg_5; rw [up2_s] at c_20; first | exact absurd rfl c_20 | exact absurd c_20 (by decide) | (rw [M_undo, if_pos (Int32.not_le.mp c_5)]; first | done | rfl) | (rw [M_undo, if_neg (Int32.not_lt.mpr c_5)]; first | done | rfl)) (by subst eg_1 eg_2 eg_3 eg_4 eg_5; rw [up2_s] at c_20; first | exact absurd rfl c_20 | exact absurd c_20 (by decide) | (rw [M_undo, if_pos (Int32.not_le.mp c_5)]; first | done | rfl) | (rw [M_undo, if_neg (Int32.not_lt.mpr c_5)]; first | done | rfl))
    · refine lv_iconst (v := 0) K.1.1 K.1.2.1 dX11_undo_23 (by decide) ?_
      exact m_iret K hr hlocks hP hS dX11_undo_24 (by subst eg_1 eg_2; rw [up2_s] at c_20; first | exact absurd rfl c_20 | exact absurd c_20 (by decide) | (rw [M_undo, if_pos (Int32.not_le.mp c_5)]; first | done | rfl) | (rw [M_undo, if_neg (Int32.not_lt.mpr c_5)]; first | done | rfl)) (by subst eg_1 eg_2; rw [up2_s] at c_20; first | exact absurd rfl c_20 | exact absurd c_20 (by decide) | (rw [M_undo, if_pos (Int32.not_le.mp c_5)]; first | done | rfl) | (rw [M_undo, if_neg (Int32.not_lt.mpr c_5)]; first | done | rfl))
  · refine lv_iconst (v := 0) K.1.1 K.1.2.1 dX11_undo_8 (by decide) ?_
    refine lv_goto (tgt := 13) K.1.1 K.1.2.1 dX11_undo_9 (by decide) ?_
    refine m_puti K hP hS (by decide) sh_259 rfl tuX11 tyX11 tyX11_ok nmX11 3 (by decide) rfl rfl (by decide +kernel) q_1153 dX11_undo_13 (fun H locs hP hS => ?_)
    refine lv_aload_n K.1.1 K.1.2.1 dX11_undo_16 rfl (lv_at hl 0 rfl) ?_
    refine m_geti K hP (by decide) sh_259 rfl tuX11 3 (by decide) rfl q_1153 dX11_undo_17 ?_
    refine lv_topi (fun g_6 eg_6 => ?_)
    refine lv_if_eq (tgt := 25) K.1.1 K.1.2.1 dX11_undo_20 (by decide) (fun c_20 => ?_) (fun c_20 => ?_)
    · refine lv_aload_n K.1.1 K.1.2.1 dX11_undo_25 rfl (lv_at hl 0 rfl) ?_
      refine lv_dup K.1.1 K.1.2.1 dX11_undo_26 rfl ?_
      refine m_geti K hP (by decide) sh_259 rfl tuX11 2 (by decide) rfl q_1152 dX11_undo_27 ?_
      refine lv_topi (fun g_7 eg_7 => ?_)
      refine lv_iconst (v := 1) K.1.1 K.1.2.1 dX11_undo_30 (by decide) ?_
      refine lv_isub K.1.1 K.1.2.1 dX11_undo_31 ?_
      refine m_puti K hP hS (by decide) sh_259 rfl tuX11 tyX11 tyX11_ok nmX11 2 (by decide) rfl rfl (by decide +kernel) q_1152 dX11_undo_32 (fun H locs hP hS => ?_)
      refine lv_aload_n K.1.1 K.1.2.1 dX11_undo_35 rfl (lv_at hl 0 rfl) ?_
      refine lv_aload_n K.1.1 K.1.2.1 dX11_undo_36 rfl (lv_at hl 0 rfl) ?_
      refine m_geti K hP (by decide) sh_259 rfl tuX11 2 (by decide) rfl q_1152 dX11_undo_37 ?_
      refine lv_topi (fun g_8 eg_8 => ?_)
      refine m_cV (n := 1) (As := [.int g_8]) (rest := []) K hP hS (MX11_brings l G B _ g_8 (by subst eg_1 eg_6 eg_7 eg_8; rw [up2_s] at c_20; first | exact absurd c_20 (by decide) | (rw [up2_s, up2k_states]; exact pred_vp hs (by decide) c_5))) (by decide) sh_259 rfl q_1201 q_1203 q_23 q_91 q_1204 hv_X11_brings ⟨Nat.le_of_ble_eq_true rfl, Nat.le_of_ble_eq_true rfl⟩ rfl hl.1 rfl (Nat.le_of_ble_eq_true rfl) dX11_undo_40 ⟨Nat.zero_le _, Nat.zero_le _⟩ (fun H locs hP hS => ?_)
      refine W.eq (g2 := F0 m 43 ls []) rfl ?_
      refine lv_aload_n K.1.1 K.1.2.1 dX11_undo_43 rfl (lv_at hl 0 rfl) ?_
      refine m_geti K hP (by decide) sh_259 rfl tuX11 2 (by decide) rfl q_1152 dX11_undo_44 ?_
      refine lv_topi (fun g_9 eg_9 => ?_)
      exact m_iret K hr hlocks hP hS dX11_undo_47 (by subst eg_1 eg_6 eg_7 eg_8 eg_9; rw [up2_s] at c_20; first | exact absurd rfl c_20 | exact absurd c_20 (by decide) | (rw [M_undo, if_pos (Int32.not_le.mp c_5)]; first | done | rfl) | (rw [M_undo, if_neg (Int32.not_lt.mpr c_5)]; first | done | rfl)) (by subst eg_1 eg_6 eg_7 eg_8 eg_9; rw [up2_s] at c_20; first | exact absurd rfl c_20 | exact absurd c_20 (by decide) | (rw [M_undo, if_pos (Int32.not_le.mp c_5)]; first | done | rfl) | (rw [M_undo, if_neg (Int32.not_lt.mpr c_5)]; first | done | rfl))
    · refine lv_iconst (v := 0) K.1.1 K.1.2.1 dX11_undo_23 (by decide) ?_
      exact m_iret K hr hlocks hP hS dX11_undo_24 (by subst eg_1 eg_6; rw [up2_s] at c_20; first | exact absurd rfl c_20 | exact absurd c_20 (by decide) | (rw [M_undo, if_pos (Int32.not_le.mp c_5)]; first | done | rfl) | (rw [M_undo, if_neg (Int32.not_lt.mpr c_5)]; first | done | rfl)) (by subst eg_1 eg_6; rw [up2_s] at c_20; first | exact absurd rfl c_20 | exact absurd c_20 (by decide) | (rw [M_undo, if_pos (Int32.not_le.mp c_5)]; first | done | rfl) | (rw [M_undo, if_neg (Int32.not_lt.mpr c_5)]; first | done | rfl))

set_option maxHeartbeats 4000000 in
set_option maxRecDepth 100000 in
theorem MX11_traderError (l : Launch) (G : GG) (B : Nat) (μ : Mm) (sd : Int32) (v : Int32) : CM l yX11_traderError (.code yX11_traderError cX11_traderError 3 (Option.some FieldType.int)) 1 22 G B [.ref (B + 259), .int sd, .int v] μ (some (.int (M_traderError μ sd v))) μ := by
  refine CM.of (by decide) (Nat.le_of_ble_eq_true rfl) ?_
  intro p e s m below meth c ls K hr hlocks hP hl
  have hS : va_S (AA B) s.heap s.heap [] := va_S.rf
  have hl : lv_has ls 3 [(0, .ref (B + 259)), (1, .int sd), (2, .int v)] := hl
  refine lv_iload_n K.1.1 K.1.2.1 dX11_traderError_0 rfl (lv_at hl 1 rfl) ?_
  refine lv_iconst (v := 0) K.1.1 K.1.2.1 dX11_traderError_1 (by decide) ?_
  refine lv_iconst (v := 1) K.1.1 K.1.2.1 dX11_traderError_2 (by decide) ?_
  refine m_cS (n := 3) (As := [.int sd, .int 0, .int 1]) (rest := []) K hP hS (MX11_isIn l G B _ sd 0 1 ) q_1213 q_1214 q_91 q_1215 hv_X11_isIn ⟨Nat.le_of_ble_eq_true rfl, Nat.le_of_ble_eq_true rfl⟩ rfl hl.1 rfl (Nat.le_of_ble_eq_true rfl) dX11_traderError_3 ⟨Nat.zero_le _, Nat.zero_le _⟩ (fun H locs hP hS => ?_)
  refine lv_topi (fun r_1 er_1 => ?_)
  refine lv_if_eq (tgt := 19) K.1.1 K.1.2.1 dX11_traderError_6 (by decide) (fun c_6 => ?_) (fun c_6 => ?_)
  · refine lv_iconst (v := 1) K.1.1 K.1.2.1 dX11_traderError_19 (by decide) ?_
    exact m_iret K hr hlocks hP hS dX11_traderError_20 (by subst er_1; first | (simp only [M_traderError, c_6, if_true, if_false, ite_true, ite_false, reduceIte, not_true, not_false_iff]; done) | simp [M_traderError, c_6]) rfl
  · refine lv_iload_n K.1.1 K.1.2.1 dX11_traderError_9 rfl (lv_at hl 2 rfl) ?_
    refine lv_iconst (v := 1) K.1.1 K.1.2.1 dX11_traderError_10 (by decide) ?_
    refine lv_bipush (v := 99) K.1.1 K.1.2.1 dX11_traderError_11 (by decide) ?_
    refine m_cS (n := 3) (As := [.int v, .int 1, .int 99]) (rest := []) K hP hS (MX11_isIn l G B _ v 1 99 ) q_1213 q_1214 q_91 q_1215 hv_X11_isIn ⟨Nat.le_of_ble_eq_true rfl, Nat.le_of_ble_eq_true rfl⟩ rfl hl.1 rfl (Nat.le_of_ble_eq_true rfl) dX11_traderError_13 ⟨Nat.zero_le _, Nat.zero_le _⟩ (fun H locs hP hS => ?_)
    refine lv_topi (fun r_2 er_2 => ?_)
    refine lv_if_ne (tgt := 21) K.1.1 K.1.2.1 dX11_traderError_16 (by decide) (fun c_16 => ?_) (fun c_16 => ?_)
    · refine lv_aload_n K.1.1 K.1.2.1 dX11_traderError_21 rfl (lv_at hl 0 rfl) ?_
      refine m_getr K hP (by decide) sh_259 rfl tuX11 0 (by decide) rfl q_1150 dX11_traderError_22 ?_
      refine lv_iconst (v := 0) K.1.1 K.1.2.1 dX11_traderError_25 (by decide) ?_
      refine m_iald K hP (by decide) sh_260 (n := 267) (vpd rfl) dX11_traderError_26 ?_
      refine lv_topi (fun g_3 eg_3 => ?_)
      have eg_3 : g_3 = (_ : Mm) 260 0 := eg_3
      refine lv_bipush (v := 8) K.1.1 K.1.2.1 dX11_traderError_27 (by decide) ?_
      refine lv_icmp_ge (tgt := 36) K.1.1 K.1.2.1 dX11_traderError_29 (by decide) (fun c_29 => ?_) (fun c_29 => ?_)
      · refine lv_iconst (v := 2) K.1.1 K.1.2.1 dX11_traderError_36 (by decide) ?_
        exact m_iret K hr hlocks hP hS dX11_traderError_37 (by subst er_1 er_2 eg_3; first | (simp only [M_traderError, c_6, c_16, c_29, Int32.not_lt.mpr c_29, if_true, if_false, ite_true, ite_false, reduceIte, not_true, not_false_iff]; done) | simp [M_traderError, c_6, c_16, c_29, Int32.not_lt.mpr c_29]) rfl
      · refine lv_iconst (v := 0) K.1.1 K.1.2.1 dX11_traderError_32 (by decide) ?_
        refine lv_goto (tgt := 37) K.1.1 K.1.2.1 dX11_traderError_33 (by decide) ?_
        exact m_iret K hr hlocks hP hS dX11_traderError_37 (by subst er_1 er_2 eg_3; first | (simp only [M_traderError, c_6, c_16, c_29, Int32.not_le.mp c_29, if_true, if_false, ite_true, ite_false, reduceIte, not_true, not_false_iff]; done) | simp [M_traderError, c_6, c_16, c_29, Int32.not_le.mp c_29]) rfl
    · refine lv_iconst (v := 1) K.1.1 K.1.2.1 dX11_traderError_19 (by decide) ?_
      exact m_iret K hr hlocks hP hS dX11_traderError_20 (by subst er_1 er_2; first | (simp only [M_traderError, c_6, c_16, if_true, if_false, ite_true, ite_false, reduceIte, not_true, not_false_iff]; done) | simp [M_traderError, c_6, c_16]) rfl

