set_option maxHeartbeats 4000000 in
set_option maxRecDepth 100000 in
theorem MX11_sideOf (l : Launch) (G : GG) (B : Nat) (μ : Mm) (k : Int32) (hI : MI μ) (hk : vp_in k 20) : CM l yX11_sideOf (.code yX11_sideOf cX11_sideOf 2 (Option.some FieldType.int)) 1 22 G B [.ref (B + 259), .int k] μ (some (.int (M_side μ k))) μ := by
  refine CM.of (by decide) (Nat.le_of_ble_eq_true rfl) ?_
  intro p e s m below meth c ls K hr hlocks hP hl
  have hS : va_S (AA B) s.heap s.heap [] := va_S.rf
  have hl : lv_has ls 2 [(0, .ref (B + 259)), (1, .int k)] := hl
  refine lv_aload_n K.1.1 K.1.2.1 dX11_sideOf_0 rfl (lv_at hl 0 rfl) ?_
  refine lv_aload_n K.1.1 K.1.2.1 dX11_sideOf_1 rfl (lv_at hl 0 rfl) ?_
  refine lv_iload_n K.1.1 K.1.2.1 dX11_sideOf_2 rfl (lv_at hl 1 rfl) ?_
  refine lv_iconst (v := 1) K.1.1 K.1.2.1 dX11_sideOf_3 (by decide) ?_
  refine m_cV (n := 2) (As := [.int k, .int 1]) (rest := [.ref (B + 259)]) K hP hS (MX11_ofO l G B _ k 1 (loO (by skip; first | assumption | exact MI_k hI (by assumption) | exact MI_w hI (by first | assumption | exact MI_k hI (by assumption)) | exact MI_t hI (by assumption)) (vpd rfl))) (by decide) sh_259 rfl q_1291 q_1293 q_39 q_91 q_1294 hv_X11_ofO ⟨Nat.le_of_ble_eq_true rfl, Nat.le_of_ble_eq_true rfl⟩ rfl hl.1 rfl (Nat.le_of_ble_eq_true rfl) dX11_sideOf_4 ⟨Nat.zero_le _, Nat.zero_le _⟩ (fun H locs hP hS => ?_)
  refine lv_topi (fun r_1 er_1 => ?_)
  refine lv_iconst (v := 0) K.1.1 K.1.2.1 dX11_sideOf_7 (by decide) ?_
  refine m_cV (n := 2) (As := [.int r_1, .int 0]) (rest := []) K hP hS (MX11_ofT l G B _ r_1 0 (loT (by subst er_1; first | assumption | exact MI_k hI (by assumption) | exact MI_w hI (by first | assumption | exact MI_k hI (by assumption)) | exact MI_t hI (by assumption)) (vpd rfl))) (by decide) sh_259 rfl q_1240 q_1242 q_30 q_91 q_1243 hv_X11_ofT ⟨Nat.le_of_ble_eq_true rfl, Nat.le_of_ble_eq_true rfl⟩ rfl hl.1 rfl (Nat.le_of_ble_eq_true rfl) dX11_sideOf_8 ⟨Nat.zero_le _, Nat.zero_le _⟩ (fun H locs hP hS => ?_)
  refine lv_topi (fun r_2 er_2 => ?_)
  exact m_iret K hr hlocks hP hS dX11_sideOf_11 (by subst er_1 er_2; rfl) rfl

set_option maxHeartbeats 4000000 in
set_option maxRecDepth 100000 in
theorem MX11_isGood (l : Launch) (G : GG) (B : Nat) (μ : Mm) (k : Int32) (pr : Int32) (hI : MI μ) (hk : vp_in k 20) : CM l yX11_isGood (.code yX11_isGood cX11_isGood 3 (Option.some FieldType.boolean)) 2 43 G B [.ref (B + 259), .int k, .int pr] μ (some (.int (M_isGood μ k pr))) μ := by
  refine CM.of (by decide) (Nat.le_of_ble_eq_true rfl) ?_
  intro p e s m below meth c ls K hr hlocks hP hl
  have hS : va_S (AA B) s.heap s.heap [] := va_S.rf
  have hl : lv_has ls 3 [(0, .ref (B + 259)), (1, .int k), (2, .int pr)] := hl
  refine lv_aload_n K.1.1 K.1.2.1 dX11_isGood_0 rfl (lv_at hl 0 rfl) ?_
  refine lv_iload_n K.1.1 K.1.2.1 dX11_isGood_1 rfl (lv_at hl 1 rfl) ?_
  refine m_cV (n := 1) (As := [.int k]) (rest := []) K hP hS (MX11_sideOf l G B _ k hI (by skip; first | assumption | exact MI_k hI (by assumption) | exact MI_w hI (by first | assumption | exact MI_k hI (by assumption)) | exact MI_t hI (by assumption))) (by decide) sh_259 rfl q_1339 q_1341 q_48 q_91 q_1342 hv_X11_sideOf ⟨Nat.le_of_ble_eq_true rfl, Nat.le_of_ble_eq_true rfl⟩ rfl hl.1 rfl (Nat.le_of_ble_eq_true rfl) dX11_isGood_2 ⟨Nat.zero_le _, Nat.zero_le _⟩ (fun H locs hP hS => ?_)
  refine lv_topi (fun r_1 er_1 => ?_)
  refine lv_if_ne (tgt := 26) K.1.1 K.1.2.1 dX11_isGood_5 (by decide) (fun c_5 => ?_) (fun c_5 => ?_)
  · refine lv_aload_n K.1.1 K.1.2.1 dX11_isGood_26 rfl (lv_at hl 0 rfl) ?_
    refine lv_iload_n K.1.1 K.1.2.1 dX11_isGood_27 rfl (lv_at hl 1 rfl) ?_
    refine lv_iconst (v := 2) K.1.1 K.1.2.1 dX11_isGood_28 (by decide) ?_
    refine m_cV (n := 2) (As := [.int k, .int 2]) (rest := []) K hP hS (MX11_ofO l G B _ k 2 (loO (by subst er_1; first | assumption | exact MI_k hI (by assumption) | exact MI_w hI (by first | assumption | exact MI_k hI (by assumption)) | exact MI_t hI (by assumption)) (vpd rfl))) (by decide) sh_259 rfl q_1291 q_1293 q_39 q_91 q_1294 hv_X11_ofO ⟨Nat.le_of_ble_eq_true rfl, Nat.le_of_ble_eq_true rfl⟩ rfl hl.1 rfl (Nat.le_of_ble_eq_true rfl) dX11_isGood_29 ⟨Nat.zero_le _, Nat.zero_le _⟩ (fun H locs hP hS => ?_)
    refine lv_topi (fun r_2 er_2 => ?_)
    refine lv_iload_n K.1.1 K.1.2.1 dX11_isGood_32 rfl (lv_at hl 2 rfl) ?_
    refine lv_icmp_gt (tgt := 40) K.1.1 K.1.2.1 dX11_isGood_33 (by decide) (fun c_33 => ?_) (fun c_33 => ?_)
    · refine lv_iconst (v := 0) K.1.1 K.1.2.1 dX11_isGood_40 (by decide) ?_
      exact m_zret K hr hlocks hP hS dX11_isGood_41 (by first | rfl | (subst er_1 er_2; rfl)) (by subst er_1 er_2; first | (simp only [M_isGood, c_5, c_33, Int32.not_le.mpr c_33, if_true, if_false, ite_true, ite_false, reduceIte, not_true, not_false_iff]; done) | simp [M_isGood, c_5, c_33, Int32.not_le.mpr c_33]) rfl
    · refine lv_iconst (v := 1) K.1.1 K.1.2.1 dX11_isGood_36 (by decide) ?_
      refine lv_goto (tgt := 41) K.1.1 K.1.2.1 dX11_isGood_37 (by decide) ?_
      exact m_zret K hr hlocks hP hS dX11_isGood_41 (by first | rfl | (subst er_1 er_2; rfl)) (by subst er_1 er_2; first | (simp only [M_isGood, c_5, c_33, Int32.not_lt.mp c_33, if_true, if_false, ite_true, ite_false, reduceIte, not_true, not_false_iff]; done) | simp [M_isGood, c_5, c_33, Int32.not_lt.mp c_33]) rfl
  · refine lv_aload_n K.1.1 K.1.2.1 dX11_isGood_8 rfl (lv_at hl 0 rfl) ?_
    refine lv_iload_n K.1.1 K.1.2.1 dX11_isGood_9 rfl (lv_at hl 1 rfl) ?_
    refine lv_iconst (v := 2) K.1.1 K.1.2.1 dX11_isGood_10 (by decide) ?_
    refine m_cV (n := 2) (As := [.int k, .int 2]) (rest := []) K hP hS (MX11_ofO l G B _ k 2 (loO (by subst er_1; first | assumption | exact MI_k hI (by assumption) | exact MI_w hI (by first | assumption | exact MI_k hI (by assumption)) | exact MI_t hI (by assumption)) (vpd rfl))) (by decide) sh_259 rfl q_1291 q_1293 q_39 q_91 q_1294 hv_X11_ofO ⟨Nat.le_of_ble_eq_true rfl, Nat.le_of_ble_eq_true rfl⟩ rfl hl.1 rfl (Nat.le_of_ble_eq_true rfl) dX11_isGood_11 ⟨Nat.zero_le _, Nat.zero_le _⟩ (fun H locs hP hS => ?_)
    refine lv_topi (fun r_3 er_3 => ?_)
    refine lv_iload_n K.1.1 K.1.2.1 dX11_isGood_14 rfl (lv_at hl 2 rfl) ?_
    refine lv_icmp_lt (tgt := 22) K.1.1 K.1.2.1 dX11_isGood_15 (by decide) (fun c_15 => ?_) (fun c_15 => ?_)
    · refine lv_iconst (v := 0) K.1.1 K.1.2.1 dX11_isGood_22 (by decide) ?_
      refine lv_goto (tgt := 41) K.1.1 K.1.2.1 dX11_isGood_23 (by decide) ?_
      exact m_zret K hr hlocks hP hS dX11_isGood_41 (by first | rfl | (subst er_1 er_3; rfl)) (by subst er_1 er_3; first | (simp only [M_isGood, c_5, c_15, Int32.not_le.mpr c_15, if_true, if_false, ite_true, ite_false, reduceIte, not_true, not_false_iff]; done) | simp [M_isGood, c_5, c_15, Int32.not_le.mpr c_15]) rfl
    · refine lv_iconst (v := 1) K.1.1 K.1.2.1 dX11_isGood_18 (by decide) ?_
      refine lv_goto (tgt := 41) K.1.1 K.1.2.1 dX11_isGood_19 (by decide) ?_
      exact m_zret K hr hlocks hP hS dX11_isGood_41 (by first | rfl | (subst er_1 er_3; rfl)) (by subst er_1 er_3; first | (simp only [M_isGood, c_5, c_15, Int32.not_lt.mp c_15, if_true, if_false, ite_true, ite_false, reduceIte, not_true, not_false_iff]; done) | simp [M_isGood, c_5, c_15, Int32.not_lt.mp c_15]) rfl

set_option maxHeartbeats 4000000 in
set_option maxRecDepth 100000 in
theorem MX11_unitsAt (l : Launch) (G : GG) (B : Nat) (μ : Mm) (sd : Int32) (pr : Int32) (hI : MI μ) : CM l yX11_unitsAt (.code yX11_unitsAt cX11_unitsAt 5 (Option.some FieldType.int)) 3 65 G B [.ref (B + 259), .int sd, .int pr] μ (some (.int (M_unitsAt μ sd pr))) μ := by
  refine CM.of (by decide) (Nat.le_of_ble_eq_true rfl) ?_
  intro p e s m below meth c ls K hr hlocks hP hl
  have hS : va_S (AA B) s.heap s.heap [] := va_S.rf
  have hl : lv_has ls 5 [(0, .ref (B + 259)), (1, .int sd), (2, .int pr)] := hl
  refine lv_iconst (v := 0) K.1.1 K.1.2.1 dX11_unitsAt_0 (by decide) ?_
  refine lv_istore_n (lv' := [(3, .int 0), (0, .ref (B + 259)), (1, .int sd), (2, .int pr)]) K.1.1 K.1.2.1 dX11_unitsAt_1 rfl hl (by decide) rfl (fun ls hl => ?_)
  refine lv_iconst (v := 0) K.1.1 K.1.2.1 dX11_unitsAt_2 (by decide) ?_
  refine lv_istore (lv' := [(4, .int 0), (3, .int 0), (0, .ref (B + 259)), (1, .int sd), (2, .int pr)]) K.1.1 K.1.2.1 dX11_unitsAt_3 hl (by decide) rfl (fun ls hl => ?_)
  refine up_to (N := cn (μ 260 1)) (P := fun k : Nat => ∀ (v4_5 : Int32) (v3_5 : Int32) (H : Heap) (locs : List Loc) (ls : Array Slot), (v4_5 = nI k) → (v3_5 = sumI (fun k => if M_side μ (nI k) = sd then (if M_isGood μ (nI k) pr = 0 then 0 else M_o μ (nI k) 3) else 0) k) → MP G B μ H → va_S (AA B) s.heap H locs → lv_has ls 5 [(4, .int v4_5), (3, .int v3_5), (0, .ref (B + 259)), (1, .int sd), (2, .int pr)] → W p l e ({ frames := 3, cells := 0, slots := 0, locals := 65 } : Room) s m ([.ref (B + 259), .int sd, .int pr] : List Value).toArray below meth c H locs 0 0 (MF below G B (some (.int (M_unitsAt μ sd pr))) μ ([.ref (B + 259), .int sd, .int pr] : List Value).toArray s) (F0 m 5 ls [])) ?_ ?_ _ _ _ _ _ (by first | rfl | (skip; rfl)) (by first | rfl | (skip; rfl)) hP hS (lv_sub hl [0, 1, 2, 3, 4] rfl)
  · intro v4_5 v3_5 H locs ls ev4_5 ev3_5 hP hS hl
    refine lv_iload K.1.1 K.1.2.1 dX11_unitsAt_5 (lv_at hl 0 rfl) ?_
    refine lv_aload_n K.1.1 K.1.2.1 dX11_unitsAt_7 rfl (lv_at hl 2 rfl) ?_
    refine m_getr K hP (by decide) sh_259 rfl tuX11 0 (by decide) rfl q_1150 dX11_unitsAt_8 ?_
    refine lv_iconst (v := 1) K.1.1 K.1.2.1 dX11_unitsAt_11 (by decide) ?_
    refine m_iald K hP (by decide) sh_260 (n := 267) (vpd rfl) dX11_unitsAt_12 ?_
    refine lv_topi (fun g_1 eg_1 => ?_)
    have eg_1 : g_1 = (_ : Mm) 260 1 := eg_1
    refine lv_icmp_ge (tgt := 56) K.1.1 K.1.2.1 dX11_unitsAt_13 (by decide) (fun c_13 => ?_) (fun c_13 => ?_)
    · refine lv_iload_n K.1.1 K.1.2.1 dX11_unitsAt_56 rfl (lv_at hl 1 rfl) ?_
      exact m_iret K hr hlocks hP hS dX11_unitsAt_57 (by subst ev4_5 ev3_5 eg_1; rfl) rfl
    · exact absurd c_13 (not_not_intro (by subst ev4_5 ev3_5 eg_1; exact cn_out _))
  · intro k hk ih_5 v4_5 v3_5 H locs ls ev4_5 ev3_5 hP hS hl
    refine lv_iload K.1.1 K.1.2.1 dX11_unitsAt_5 (lv_at hl 0 rfl) ?_
    refine lv_aload_n K.1.1 K.1.2.1 dX11_unitsAt_7 rfl (lv_at hl 2 rfl) ?_
    refine m_getr K hP (by decide) sh_259 rfl tuX11 0 (by decide) rfl q_1150 dX11_unitsAt_8 ?_
    refine lv_iconst (v := 1) K.1.1 K.1.2.1 dX11_unitsAt_11 (by decide) ?_
    refine m_iald K hP (by decide) sh_260 (n := 267) (vpd rfl) dX11_unitsAt_12 ?_
    refine lv_topi (fun g_2 eg_2 => ?_)
    have eg_2 : g_2 = (_ : Mm) 260 1 := eg_2
    refine lv_icmp_ge (tgt := 56) K.1.1 K.1.2.1 dX11_unitsAt_13 (by decide) (fun c_13 => ?_) (fun c_13 => ?_)
    · exact absurd c_13 (by subst ev4_5 ev3_5 eg_2; exact cn_in hk)
    · refine lv_iload_n K.1.1 K.1.2.1 dX11_unitsAt_16 rfl (lv_at hl 1 rfl) ?_
      refine lv_aload_n K.1.1 K.1.2.1 dX11_unitsAt_17 rfl (lv_at hl 2 rfl) ?_
      refine lv_iload K.1.1 K.1.2.1 dX11_unitsAt_18 (lv_at hl 0 rfl) ?_
      refine m_cV (n := 1) (As := [.int v4_5]) (rest := [.int v3_5]) K hP hS (MX11_sideOf l G B _ v4_5 hI (by subst ev4_5 ev3_5 eg_2; first | assumption | exact MI_k hI (by assumption) | exact MI_w hI (by first | assumption | exact MI_k hI (by assumption)) | exact MI_t hI (by assumption))) (by decide) sh_259 rfl q_1339 q_1341 q_48 q_91 q_1342 hv_X11_sideOf ⟨Nat.le_of_ble_eq_true rfl, Nat.le_of_ble_eq_true rfl⟩ rfl hl.1 rfl (Nat.le_of_ble_eq_true rfl) dX11_unitsAt_20 ⟨Nat.zero_le _, Nat.zero_le _⟩ (fun H locs hP hS => ?_)
      refine lv_topi (fun r_3 er_3 => ?_)
      refine lv_iload_n K.1.1 K.1.2.1 dX11_unitsAt_23 rfl (lv_at hl 3 rfl) ?_
      refine lv_icmp_ne (tgt := 47) K.1.1 K.1.2.1 dX11_unitsAt_24 (by decide) (fun c_24 => ?_) (fun c_24 => ?_)
      · refine lv_iconst (v := 0) K.1.1 K.1.2.1 dX11_unitsAt_47 (by decide) ?_
        refine lv_iadd K.1.1 K.1.2.1 dX11_unitsAt_48 ?_
        refine lv_topi (fun x_4 ex_4 => ?_)
        refine lv_istore_n (lv' := [(3, .int x_4), (4, .int v4_5), (0, .ref (B + 259)), (1, .int sd), (2, .int pr)]) K.1.1 K.1.2.1 dX11_unitsAt_49 rfl hl (by decide) rfl (fun ls hl => ?_)
        obtain ⟨x_5, ex_5⟩ : ∃ y : Int32, y = v4_5 + (1) := ⟨_, rfl⟩
        refine lv_iinc (v := x_5) (lv' := [(4, .int x_5), (3, .int x_4), (0, .ref (B + 259)), (1, .int sd), (2, .int pr)]) K.1.1 K.1.2.1 dX11_unitsAt_50 hl (k := 1) rfl (by rw [ex_5]; rfl) (by decide) rfl (fun ls hl => ?_)
        refine lv_goto (tgt := 5) K.1.1 K.1.2.1 dX11_unitsAt_53 (by decide) ?_
        exact ih_5 _ _ _ _ _ (by subst ev4_5 ev3_5 eg_2 er_3 ex_4 ex_5; exact nI_1 _) (by subst ev4_5 ev3_5 eg_2 er_3 ex_4 ex_5; first | (simp only [sumI, c_13, Int32.not_le.mp c_13, c_24, if_true, if_false, ite_true, ite_false, reduceIte, not_true, not_false_iff]; done) | simp [sumI, c_13, Int32.not_le.mp c_13, c_24]) hP hS (lv_sub hl [0, 1, 2, 3, 4] rfl)
      · refine lv_aload_n K.1.1 K.1.2.1 dX11_unitsAt_27 rfl (lv_at hl 2 rfl) ?_
        refine lv_iload K.1.1 K.1.2.1 dX11_unitsAt_28 (lv_at hl 0 rfl) ?_
        refine lv_iload_n K.1.1 K.1.2.1 dX11_unitsAt_30 rfl (lv_at hl 4 rfl) ?_
        refine m_cV (n := 2) (As := [.int v4_5, .int pr]) (rest := [.int v3_5]) K hP hS (MX11_isGood l G B _ v4_5 pr hI (by subst ev4_5 ev3_5 eg_2 er_3; first | assumption | exact MI_k hI (by assumption) | exact MI_w hI (by first | assumption | exact MI_k hI (by assumption)) | exact MI_t hI (by assumption))) (by decide) sh_259 rfl q_1343 q_1345 q_49 q_91 q_1346 hv_X11_isGood ⟨Nat.le_of_ble_eq_true rfl, Nat.le_of_ble_eq_true rfl⟩ rfl hl.1 rfl (Nat.le_of_ble_eq_true rfl) dX11_unitsAt_31 ⟨Nat.zero_le _, Nat.zero_le _⟩ (fun H locs hP hS => ?_)
        refine lv_topi (fun r_6 er_6 => ?_)
        refine lv_if_eq (tgt := 47) K.1.1 K.1.2.1 dX11_unitsAt_34 (by decide) (fun c_34 => ?_) (fun c_34 => ?_)
        · refine lv_iconst (v := 0) K.1.1 K.1.2.1 dX11_unitsAt_47 (by decide) ?_
          refine lv_iadd K.1.1 K.1.2.1 dX11_unitsAt_48 ?_
          refine lv_topi (fun x_7 ex_7 => ?_)
          refine lv_istore_n (lv' := [(3, .int x_7), (4, .int v4_5), (0, .ref (B + 259)), (1, .int sd), (2, .int pr)]) K.1.1 K.1.2.1 dX11_unitsAt_49 rfl hl (by decide) rfl (fun ls hl => ?_)
          obtain ⟨x_8, ex_8⟩ : ∃ y : Int32, y = v4_5 + (1) := ⟨_, rfl⟩
          refine lv_iinc (v := x_8) (lv' := [(4, .int x_8), (3, .int x_7), (0, .ref (B + 259)), (1, .int sd), (2, .int pr)]) K.1.1 K.1.2.1 dX11_unitsAt_50 hl (k := 1) rfl (by rw [ex_8]; rfl) (by decide) rfl (fun ls hl => ?_)
          refine lv_goto (tgt := 5) K.1.1 K.1.2.1 dX11_unitsAt_53 (by decide) ?_
          exact ih_5 _ _ _ _ _ (by subst ev4_5 ev3_5 eg_2 er_3 er_6 ex_7 ex_8; exact nI_1 _) (by subst ev4_5 ev3_5 eg_2 er_3 er_6 ex_7 ex_8; first | (simp only [sumI, c_13, Int32.not_le.mp c_13, c_24, c_34, if_true, if_false, ite_true, ite_false, reduceIte, not_true, not_false_iff]; done) | simp [sumI, c_13, Int32.not_le.mp c_13, c_24, c_34]) hP hS (lv_sub hl [0, 1, 2, 3, 4] rfl)
        · refine lv_aload_n K.1.1 K.1.2.1 dX11_unitsAt_37 rfl (lv_at hl 2 rfl) ?_
          refine lv_iload K.1.1 K.1.2.1 dX11_unitsAt_38 (lv_at hl 0 rfl) ?_
          refine lv_iconst (v := 3) K.1.1 K.1.2.1 dX11_unitsAt_40 (by decide) ?_
          refine m_cV (n := 2) (As := [.int v4_5, .int 3]) (rest := [.int v3_5]) K hP hS (MX11_ofO l G B _ v4_5 3 (loO (by subst ev4_5 ev3_5 eg_2 er_3 er_6; first | assumption | exact MI_k hI (by assumption) | exact MI_w hI (by first | assumption | exact MI_k hI (by assumption)) | exact MI_t hI (by assumption)) (vpd rfl))) (by decide) sh_259 rfl q_1291 q_1293 q_39 q_91 q_1294 hv_X11_ofO ⟨Nat.le_of_ble_eq_true rfl, Nat.le_of_ble_eq_true rfl⟩ rfl hl.1 rfl (Nat.le_of_ble_eq_true rfl) dX11_unitsAt_41 ⟨Nat.zero_le _, Nat.zero_le _⟩ (fun H locs hP hS => ?_)
          refine lv_topi (fun r_9 er_9 => ?_)
          refine lv_goto (tgt := 48) K.1.1 K.1.2.1 dX11_unitsAt_44 (by decide) ?_
          refine lv_iadd K.1.1 K.1.2.1 dX11_unitsAt_48 ?_
          refine lv_topi (fun x_10 ex_10 => ?_)
          refine lv_istore_n (lv' := [(3, .int x_10), (4, .int v4_5), (0, .ref (B + 259)), (1, .int sd), (2, .int pr)]) K.1.1 K.1.2.1 dX11_unitsAt_49 rfl hl (by decide) rfl (fun ls hl => ?_)
          obtain ⟨x_11, ex_11⟩ : ∃ y : Int32, y = v4_5 + (1) := ⟨_, rfl⟩
          refine lv_iinc (v := x_11) (lv' := [(4, .int x_11), (3, .int x_10), (0, .ref (B + 259)), (1, .int sd), (2, .int pr)]) K.1.1 K.1.2.1 dX11_unitsAt_50 hl (k := 1) rfl (by rw [ex_11]; rfl) (by decide) rfl (fun ls hl => ?_)
          refine lv_goto (tgt := 5) K.1.1 K.1.2.1 dX11_unitsAt_53 (by decide) ?_
          exact ih_5 _ _ _ _ _ (by subst ev4_5 ev3_5 eg_2 er_3 er_6 er_9 ex_10 ex_11; exact nI_1 _) (by subst ev4_5 ev3_5 eg_2 er_3 er_6 er_9 ex_10 ex_11; first | (simp only [sumI, c_13, Int32.not_le.mp c_13, c_24, c_34, if_true, if_false, ite_true, ite_false, reduceIte, not_true, not_false_iff]; done) | simp [sumI, c_13, Int32.not_le.mp c_13, c_24, c_34]) hP hS (lv_sub hl [0, 1, 2, 3, 4] rfl)

set_option maxHeartbeats 4000000 in
set_option maxRecDepth 100000 in
theorem MX11_volumeAt (l : Launch) (G : GG) (B : Nat) (μ : Mm) (pr : Int32) (hI : MI μ) : CM l yX11_volumeAt (.code yX11_volumeAt cX11_volumeAt 4 (Option.some FieldType.int)) 4 89 G B [.ref (B + 259), .int pr] μ (some (.int (M_volumeAt μ pr))) μ := by
  refine CM.of (by decide) (Nat.le_of_ble_eq_true rfl) ?_
  intro p e s m below meth c ls K hr hlocks hP hl
  have hS : va_S (AA B) s.heap s.heap [] := va_S.rf
  have hl : lv_has ls 4 [(0, .ref (B + 259)), (1, .int pr)] := hl
  refine lv_aload_n K.1.1 K.1.2.1 dX11_volumeAt_0 rfl (lv_at hl 0 rfl) ?_
  refine lv_iconst (v := 0) K.1.1 K.1.2.1 dX11_volumeAt_1 (by decide) ?_
  refine lv_iload_n K.1.1 K.1.2.1 dX11_volumeAt_2 rfl (lv_at hl 1 rfl) ?_
  refine m_cV (n := 2) (As := [.int 0, .int pr]) (rest := []) K hP hS (MX11_unitsAt l G B _ 0 pr hI) (by decide) sh_259 rfl q_1335 q_1337 q_47 q_91 q_1338 hv_X11_unitsAt ⟨Nat.le_of_ble_eq_true rfl, Nat.le_of_ble_eq_true rfl⟩ rfl hl.1 rfl (Nat.le_of_ble_eq_true rfl) dX11_volumeAt_3 ⟨Nat.zero_le _, Nat.zero_le _⟩ (fun H locs hP hS => ?_)
  refine lv_topi (fun r_1 er_1 => ?_)
  refine lv_istore_n (lv' := [(2, .int r_1), (0, .ref (B + 259)), (1, .int pr)]) K.1.1 K.1.2.1 dX11_volumeAt_6 rfl hl (by decide) rfl (fun ls hl => ?_)
  refine lv_aload_n K.1.1 K.1.2.1 dX11_volumeAt_7 rfl (lv_at hl 1 rfl) ?_
  refine lv_iconst (v := 1) K.1.1 K.1.2.1 dX11_volumeAt_8 (by decide) ?_
  refine lv_iload_n K.1.1 K.1.2.1 dX11_volumeAt_9 rfl (lv_at hl 2 rfl) ?_
  refine m_cV (n := 2) (As := [.int 1, .int pr]) (rest := []) K hP hS (MX11_unitsAt l G B _ 1 pr hI) (by decide) sh_259 rfl q_1335 q_1337 q_47 q_91 q_1338 hv_X11_unitsAt ⟨Nat.le_of_ble_eq_true rfl, Nat.le_of_ble_eq_true rfl⟩ rfl hl.1 rfl (Nat.le_of_ble_eq_true rfl) dX11_volumeAt_10 ⟨Nat.zero_le _, Nat.zero_le _⟩ (fun H locs hP hS => ?_)
  refine lv_topi (fun r_2 er_2 => ?_)
  refine lv_istore_n (lv' := [(3, .int r_2), (2, .int r_1), (0, .ref (B + 259)), (1, .int pr)]) K.1.1 K.1.2.1 dX11_volumeAt_13 rfl hl (by decide) rfl (fun ls hl => ?_)
  refine lv_iload_n K.1.1 K.1.2.1 dX11_volumeAt_14 rfl (lv_at hl 1 rfl) ?_
  refine lv_iload_n K.1.1 K.1.2.1 dX11_volumeAt_15 rfl (lv_at hl 0 rfl) ?_
  refine lv_icmp_ge (tgt := 23) K.1.1 K.1.2.1 dX11_volumeAt_16 (by decide) (fun c_16 => ?_) (fun c_16 => ?_)
  · refine lv_iload_n K.1.1 K.1.2.1 dX11_volumeAt_23 rfl (lv_at hl 0 rfl) ?_
    exact m_iret K hr hlocks hP hS dX11_volumeAt_24 (by subst er_1 er_2; rw [M_volumeAt, lsI]; first | rw [if_neg (Int32.not_lt.mpr c_16)] | rw [if_pos (Int32.not_le.mp c_16)]) rfl
  · refine lv_iload_n K.1.1 K.1.2.1 dX11_volumeAt_19 rfl (lv_at hl 1 rfl) ?_
    refine lv_goto (tgt := 24) K.1.1 K.1.2.1 dX11_volumeAt_20 (by decide) ?_
    exact m_iret K hr hlocks hP hS dX11_volumeAt_24 (by subst er_1 er_2; rw [M_volumeAt, lsI]; first | rw [if_neg (Int32.not_lt.mpr c_16)] | rw [if_pos (Int32.not_le.mp c_16)]) rfl

set_option maxHeartbeats 4000000 in
set_option maxRecDepth 100000 in
theorem MX11_finds (l : Launch) (G : GG) (B : Nat) (μ : Mm) (hI : MI μ) : CM l yX11_finds (.code yX11_finds cX11_finds 3 Option.none) 5 112 G B [.ref (B + 259)] μ none (M_finds μ) := by
  refine CM.of (by decide) (Nat.le_of_ble_eq_true rfl) ?_
  intro p e s m below meth c ls K hr hlocks hP hl
  have hS : va_S (AA B) s.heap s.heap [] := va_S.rf
  have hl : lv_has ls 3 [(0, .ref (B + 259))] := hl
  refine lv_aload_n K.1.1 K.1.2.1 dX11_finds_0 rfl (lv_at hl 0 rfl) ?_
  refine lv_iconst (v := 0) K.1.1 K.1.2.1 dX11_finds_1 (by decide) ?_
  refine m_puti K hP hS (by decide) sh_259 rfl tuX11 tyX11 tyX11_ok nmX11 7 (by decide) rfl rfl (by decide +kernel) q_1157 dX11_finds_2 (fun H locs hP hS => ?_)
  refine lv_aload_n K.1.1 K.1.2.1 dX11_finds_5 rfl (lv_at hl 0 rfl) ?_
  refine lv_sipush (v := (-10000)) K.1.1 K.1.2.1 dX11_finds_6 (by decide) ?_
  refine m_puti K hP hS (by decide) sh_259 rfl tuX11 tyX11 tyX11_ok nmX11 4 (by decide) rfl rfl (by decide +kernel) q_1154 dX11_finds_9 (fun H locs hP hS => ?_)
  refine lv_aload_n K.1.1 K.1.2.1 dX11_finds_12 rfl (lv_at hl 0 rfl) ?_
  refine lv_sipush (v := (-10000)) K.1.1 K.1.2.1 dX11_finds_13 (by decide) ?_
  refine m_puti K hP hS (by decide) sh_259 rfl tuX11 tyX11 tyX11_ok nmX11 5 (by decide) rfl rfl (by decide +kernel) q_1155 dX11_finds_16 (fun H locs hP hS => ?_)
  refine lv_iconst (v := 1) K.1.1 K.1.2.1 dX11_finds_19 (by decide) ?_
  refine lv_istore_n (lv' := [(1, .int 1), (0, .ref (B + 259))]) K.1.1 K.1.2.1 dX11_finds_20 rfl hl (by decide) rfl (fun ls hl => ?_)
  refine up_to (N := NN 120) (P := fun k : Nat => ∀ (v1_21 : Int32) (μ_21 : Mm) (H : Heap) (locs : List Loc) (ls : Array Slot), (v1_21 = nI (k + 1)) → (μ_21 = FI_run μ k) → MP G B μ_21 H → va_S (AA B) s.heap H locs → lv_has ls 3 [(1, .int v1_21), (0, .ref (B + 259))] → W p l e ({ frames := 5, cells := 0, slots := 0, locals := 112 } : Room) s m ([.ref (B + 259)] : List Value).toArray below meth c H locs 0 0 (MF below G B none (M_finds μ) ([.ref (B + 259)] : List Value).toArray s) (F0 m 21 ls [])) ?_ ?_ _ _ _ _ _ (by first | rfl | (skip; rfl)) (by first | rfl | (skip; rfl)) hP hS (lv_sub hl [0, 1] rfl)
  · intro v1_21 μ_21 H locs ls ev1_21 eμ_21 hP hS hl
    refine lv_iload_n K.1.1 K.1.2.1 dX11_finds_21 rfl (lv_at hl 0 rfl) ?_
    refine lv_bipush (v := 120) K.1.1 K.1.2.1 dX11_finds_22 (by decide) ?_
    refine lv_icmp_gt (tgt := 81) K.1.1 K.1.2.1 dX11_finds_24 (by decide) (fun c_24 => ?_) (fun c_24 => ?_)
    · refine lv_aload_n K.1.1 K.1.2.1 dX11_finds_81 rfl (lv_at hl 1 rfl) ?_
      refine lv_aload_n K.1.1 K.1.2.1 dX11_finds_82 rfl (lv_at hl 1 rfl) ?_
      refine m_geti K hP (by decide) sh_259 rfl tuX11 7 (by decide) rfl q_1157 dX11_finds_83 ?_
      refine lv_topi (fun g_1 eg_1 => ?_)
      refine lv_if_ne (tgt := 95) K.1.1 K.1.2.1 dX11_finds_86 (by decide) (fun c_86 => ?_) (fun c_86 => ?_)
      · refine lv_aload_n K.1.1 K.1.2.1 dX11_finds_95 rfl (lv_at hl 1 rfl) ?_
        refine m_geti K hP (by decide) sh_259 rfl tuX11 4 (by decide) rfl q_1154 dX11_finds_96 ?_
        refine lv_topi (fun g_2 eg_2 => ?_)
        refine lv_aload_n K.1.1 K.1.2.1 dX11_finds_99 rfl (lv_at hl 1 rfl) ?_
        refine m_geti K hP (by decide) sh_259 rfl tuX11 5 (by decide) rfl q_1155 dX11_finds_100 ?_
        refine lv_topi (fun g_3 eg_3 => ?_)
        refine lv_aload_n K.1.1 K.1.2.1 dX11_finds_103 rfl (lv_at hl 1 rfl) ?_
        refine m_geti K hP (by decide) sh_259 rfl tuX11 4 (by decide) rfl q_1154 dX11_finds_104 ?_
        refine lv_topi (fun g_4 eg_4 => ?_)
        refine lv_isub K.1.1 K.1.2.1 dX11_finds_107 ?_
        refine lv_aload_n K.1.1 K.1.2.1 dX11_finds_108 rfl (lv_at hl 1 rfl) ?_
        refine m_getr K hP (by decide) sh_259 rfl tuX11 0 (by decide) rfl q_1150 dX11_finds_109 ?_
        refine lv_iconst (v := 3) K.1.1 K.1.2.1 dX11_finds_112 (by decide) ?_
        refine m_iald K hP (by decide) sh_260 (n := 267) (vpd rfl) dX11_finds_113 ?_
        refine lv_topi (fun g_5 eg_5 => ?_)
        have eg_5 : g_5 = (_ : Mm) 260 3 := eg_5
        refine lv_imul K.1.1 K.1.2.1 dX11_finds_114 ?_
        refine lv_bipush (v := 10) K.1.1 K.1.2.1 dX11_finds_115 (by decide) ?_
        refine lv_idiv K.1.1 K.1.2.1 dX11_finds_117 (by decide) ?_
        refine lv_iadd K.1.1 K.1.2.1 dX11_finds_118 ?_
        refine m_puti K hP hS (by decide) sh_259 rfl tuX11 tyX11 tyX11_ok nmX11 6 (by decide) rfl rfl (by decide +kernel) q_1156 dX11_finds_119 (fun H locs hP hS => ?_)
        exact m_vret K hr hlocks hP hS dX11_finds_122 rfl (by subst ev1_21 eμ_21 eg_1 eg_2 eg_3 eg_4 eg_5; rw [M_finds, M_priceOf, FI_260]; first | (rw [if_pos c_86]; done) | (rw [if_neg c_86]; done) | (rw [if_pos c_86]; rfl) | (rw [if_neg c_86]; rfl))
      · refine lv_sipush (v := (-10000)) K.1.1 K.1.2.1 dX11_finds_89 (by decide) ?_
        refine lv_goto (tgt := 119) K.1.1 K.1.2.1 dX11_finds_92 (by decide) ?_
        refine m_puti K hP hS (by decide) sh_259 rfl tuX11 tyX11 tyX11_ok nmX11 6 (by decide) rfl rfl (by decide +kernel) q_1156 dX11_finds_119 (fun H locs hP hS => ?_)
        exact m_vret K hr hlocks hP hS dX11_finds_122 rfl (by subst ev1_21 eμ_21 eg_1; rw [M_finds, M_priceOf, FI_260]; first | (rw [if_pos c_86]; done) | (rw [if_neg c_86]; done) | (rw [if_pos c_86]; rfl) | (rw [if_neg c_86]; rfl))
    · exact absurd c_24 (not_not_intro (by subst ev1_21 eμ_21; rw [NN_eq]; decide))
  · intro k hk ih_21 v1_21 μ_21 H locs ls ev1_21 eμ_21 hP hS hl
    rw [NN_eq] at hk
    refine lv_iload_n K.1.1 K.1.2.1 dX11_finds_21 rfl (lv_at hl 0 rfl) ?_
    refine lv_bipush (v := 120) K.1.1 K.1.2.1 dX11_finds_22 (by decide) ?_
    refine lv_icmp_gt (tgt := 81) K.1.1 K.1.2.1 dX11_finds_24 (by decide) (fun c_24 => ?_) (fun c_24 => ?_)
    · exact absurd c_24 (by subst ev1_21 eμ_21; exact Int32.not_lt.mpr (nI_le (a := k + 1) (b := 120) (by omega) (by decide)))
    · refine lv_aload_n K.1.1 K.1.2.1 dX11_finds_27 rfl (lv_at hl 1 rfl) ?_
      refine lv_iload_n K.1.1 K.1.2.1 dX11_finds_28 rfl (lv_at hl 0 rfl) ?_
      refine m_cV (n := 1) (As := [.int v1_21]) (rest := []) K hP hS (MX11_volumeAt l G B _ v1_21 (by subst ev1_21 eμ_21; exact MI_of hI (FI_260 μ _))) (by decide) sh_259 rfl q_1331 q_1333 q_46 q_91 q_1334 hv_X11_volumeAt ⟨Nat.le_of_ble_eq_true rfl, Nat.le_of_ble_eq_true rfl⟩ rfl hl.1 rfl (Nat.le_of_ble_eq_true rfl) dX11_finds_29 ⟨Nat.zero_le _, Nat.zero_le _⟩ (fun H locs hP hS => ?_)
      refine lv_topi (fun r_6 er_6 => ?_)
      refine lv_istore_n (lv' := [(2, .int r_6), (1, .int v1_21), (0, .ref (B + 259))]) K.1.1 K.1.2.1 dX11_finds_32 rfl hl (by decide) rfl (fun ls hl => ?_)
      refine lv_iload_n K.1.1 K.1.2.1 dX11_finds_33 rfl (lv_at hl 0 rfl) ?_
      refine lv_aload_n K.1.1 K.1.2.1 dX11_finds_34 rfl (lv_at hl 2 rfl) ?_
      refine m_geti K hP (by decide) sh_259 rfl tuX11 7 (by decide) rfl q_1157 dX11_finds_35 ?_
      refine lv_topi (fun g_7 eg_7 => ?_)
      refine lv_icmp_le (tgt := 51) K.1.1 K.1.2.1 dX11_finds_38 (by decide) (fun c_38 => ?_) (fun c_38 => ?_)
      · refine lv_aload_n K.1.1 K.1.2.1 dX11_finds_51 rfl (lv_at hl 2 rfl) ?_
        refine lv_iload_n K.1.1 K.1.2.1 dX11_finds_52 rfl (lv_at hl 0 rfl) ?_
        refine lv_if_le (tgt := 68) K.1.1 K.1.2.1 dX11_finds_53 (by decide) (fun c_53 => ?_) (fun c_53 => ?_)
        · refine lv_aload_n K.1.1 K.1.2.1 dX11_finds_68 rfl (lv_at hl 2 rfl) ?_
          refine m_geti K hP (by decide) sh_259 rfl tuX11 5 (by decide) rfl q_1155 dX11_finds_69 ?_
          refine lv_topi (fun g_8 eg_8 => ?_)
          refine m_puti K hP hS (by decide) sh_259 rfl tuX11 tyX11 tyX11_ok nmX11 5 (by decide) rfl rfl (by decide +kernel) q_1155 dX11_finds_72 (fun H locs hP hS => ?_)
          obtain ⟨x_9, ex_9⟩ : ∃ y : Int32, y = v1_21 + (1) := ⟨_, rfl⟩
          refine lv_iinc (v := x_9) (lv' := [(1, .int x_9), (2, .int r_6), (0, .ref (B + 259))]) K.1.1 K.1.2.1 dX11_finds_75 hl (k := 1) rfl (by rw [ex_9]; rfl) (by decide) rfl (fun ls hl => ?_)
          refine lv_goto (tgt := 21) K.1.1 K.1.2.1 dX11_finds_78 (by decide) ?_
          exact ih_21 _ _ _ _ _ (by subst ev1_21 eμ_21 er_6 eg_7 eg_8 ex_9; exact nI_1 _) (by subst ev1_21 eμ_21 er_6 eg_7 eg_8 ex_9; rw [FI_run_s]; unfold FI_step; try dsimp only; (first | rw [if_pos (Int32.not_le.mp c_38)] | rw [if_neg (Int32.not_lt.mpr c_38)]); first | (rw [if_neg (Int32.not_lt.mpr c_53)]; done) | (rw [if_pos (Int32.not_le.mp c_53), if_neg c_61]; done) | (rw [if_pos (Int32.not_le.mp c_53), if_pos c_61]; done)) hP hS (lv_sub hl [0, 2] rfl)
        · refine lv_iload_n K.1.1 K.1.2.1 dX11_finds_56 rfl (lv_at hl 0 rfl) ?_
          refine lv_aload_n K.1.1 K.1.2.1 dX11_finds_57 rfl (lv_at hl 2 rfl) ?_
          refine m_geti K hP (by decide) sh_259 rfl tuX11 7 (by decide) rfl q_1157 dX11_finds_58 ?_
          refine lv_topi (fun g_10 eg_10 => ?_)
          refine lv_icmp_ne (tgt := 68) K.1.1 K.1.2.1 dX11_finds_61 (by decide) (fun c_61 => ?_) (fun c_61 => ?_)
          · refine lv_aload_n K.1.1 K.1.2.1 dX11_finds_68 rfl (lv_at hl 2 rfl) ?_
            refine m_geti K hP (by decide) sh_259 rfl tuX11 5 (by decide) rfl q_1155 dX11_finds_69 ?_
            refine lv_topi (fun g_11 eg_11 => ?_)
            refine m_puti K hP hS (by decide) sh_259 rfl tuX11 tyX11 tyX11_ok nmX11 5 (by decide) rfl rfl (by decide +kernel) q_1155 dX11_finds_72 (fun H locs hP hS => ?_)
            obtain ⟨x_12, ex_12⟩ : ∃ y : Int32, y = v1_21 + (1) := ⟨_, rfl⟩
            refine lv_iinc (v := x_12) (lv' := [(1, .int x_12), (2, .int r_6), (0, .ref (B + 259))]) K.1.1 K.1.2.1 dX11_finds_75 hl (k := 1) rfl (by rw [ex_12]; rfl) (by decide) rfl (fun ls hl => ?_)
            refine lv_goto (tgt := 21) K.1.1 K.1.2.1 dX11_finds_78 (by decide) ?_
            exact ih_21 _ _ _ _ _ (by subst ev1_21 eμ_21 er_6 eg_7 eg_10 eg_11 ex_12; exact nI_1 _) (by subst ev1_21 eμ_21 er_6 eg_7 eg_10 eg_11 ex_12; rw [FI_run_s]; unfold FI_step; try dsimp only; (first | rw [if_pos (Int32.not_le.mp c_38)] | rw [if_neg (Int32.not_lt.mpr c_38)]); first | (rw [if_neg (Int32.not_lt.mpr c_53)]; done) | (rw [if_pos (Int32.not_le.mp c_53), if_neg c_61]; done) | (rw [if_pos (Int32.not_le.mp c_53), if_pos c_61]; done)) hP hS (lv_sub hl [0, 2] rfl)
          · refine lv_iload_n K.1.1 K.1.2.1 dX11_finds_64 rfl (lv_at hl 1 rfl) ?_
            refine lv_goto (tgt := 72) K.1.1 K.1.2.1 dX11_finds_65 (by decide) ?_
            refine m_puti K hP hS (by decide) sh_259 rfl tuX11 tyX11 tyX11_ok nmX11 5 (by decide) rfl rfl (by decide +kernel) q_1155 dX11_finds_72 (fun H locs hP hS => ?_)
            obtain ⟨x_13, ex_13⟩ : ∃ y : Int32, y = v1_21 + (1) := ⟨_, rfl⟩
            refine lv_iinc (v := x_13) (lv' := [(1, .int x_13), (2, .int r_6), (0, .ref (B + 259))]) K.1.1 K.1.2.1 dX11_finds_75 hl (k := 1) rfl (by rw [ex_13]; rfl) (by decide) rfl (fun ls hl => ?_)
            refine lv_goto (tgt := 21) K.1.1 K.1.2.1 dX11_finds_78 (by decide) ?_
            exact ih_21 _ _ _ _ _ (by subst ev1_21 eμ_21 er_6 eg_7 eg_10 ex_13; exact nI_1 _) (by subst ev1_21 eμ_21 er_6 eg_7 eg_10 ex_13; rw [FI_run_s]; unfold FI_step; try dsimp only; (first | rw [if_pos (Int32.not_le.mp c_38)] | rw [if_neg (Int32.not_lt.mpr c_38)]); first | (rw [if_neg (Int32.not_lt.mpr c_53)]; done) | (rw [if_pos (Int32.not_le.mp c_53), if_neg c_61]; done) | (rw [if_pos (Int32.not_le.mp c_53), if_pos c_61]; done)) hP hS (lv_sub hl [0, 2] rfl)
      · refine lv_aload_n K.1.1 K.1.2.1 dX11_finds_41 rfl (lv_at hl 2 rfl) ?_
        refine lv_iload_n K.1.1 K.1.2.1 dX11_finds_42 rfl (lv_at hl 0 rfl) ?_
        refine m_puti K hP hS (by decide) sh_259 rfl tuX11 tyX11 tyX11_ok nmX11 7 (by decide) rfl rfl (by decide +kernel) q_1157 dX11_finds_43 (fun H locs hP hS => ?_)
        refine lv_aload_n K.1.1 K.1.2.1 dX11_finds_46 rfl (lv_at hl 2 rfl) ?_
        refine lv_iload_n K.1.1 K.1.2.1 dX11_finds_47 rfl (lv_at hl 1 rfl) ?_
        refine m_puti K hP hS (by decide) sh_259 rfl tuX11 tyX11 tyX11_ok nmX11 4 (by decide) rfl rfl (by decide +kernel) q_1154 dX11_finds_48 (fun H locs hP hS => ?_)
        refine lv_aload_n K.1.1 K.1.2.1 dX11_finds_51 rfl (lv_at hl 2 rfl) ?_
        refine lv_iload_n K.1.1 K.1.2.1 dX11_finds_52 rfl (lv_at hl 0 rfl) ?_
        refine lv_if_le (tgt := 68) K.1.1 K.1.2.1 dX11_finds_53 (by decide) (fun c_53 => ?_) (fun c_53 => ?_)
        · refine lv_aload_n K.1.1 K.1.2.1 dX11_finds_68 rfl (lv_at hl 2 rfl) ?_
          refine m_geti K hP (by decide) sh_259 rfl tuX11 5 (by decide) rfl q_1155 dX11_finds_69 ?_
          refine lv_topi (fun g_14 eg_14 => ?_)
          refine m_puti K hP hS (by decide) sh_259 rfl tuX11 tyX11 tyX11_ok nmX11 5 (by decide) rfl rfl (by decide +kernel) q_1155 dX11_finds_72 (fun H locs hP hS => ?_)
          obtain ⟨x_15, ex_15⟩ : ∃ y : Int32, y = v1_21 + (1) := ⟨_, rfl⟩
          refine lv_iinc (v := x_15) (lv' := [(1, .int x_15), (2, .int r_6), (0, .ref (B + 259))]) K.1.1 K.1.2.1 dX11_finds_75 hl (k := 1) rfl (by rw [ex_15]; rfl) (by decide) rfl (fun ls hl => ?_)
          refine lv_goto (tgt := 21) K.1.1 K.1.2.1 dX11_finds_78 (by decide) ?_
          exact ih_21 _ _ _ _ _ (by subst ev1_21 eμ_21 er_6 eg_7 eg_14 ex_15; exact nI_1 _) (by subst ev1_21 eμ_21 er_6 eg_7 eg_14 ex_15; rw [FI_run_s]; unfold FI_step; try dsimp only; (first | rw [if_pos (Int32.not_le.mp c_38)] | rw [if_neg (Int32.not_lt.mpr c_38)]); first | (rw [if_neg (Int32.not_lt.mpr c_53)]; done) | (rw [if_pos (Int32.not_le.mp c_53), if_neg c_61]; done) | (rw [if_pos (Int32.not_le.mp c_53), if_pos c_61]; done)) hP hS (lv_sub hl [0, 2] rfl)
        · refine lv_iload_n K.1.1 K.1.2.1 dX11_finds_56 rfl (lv_at hl 0 rfl) ?_
          refine lv_aload_n K.1.1 K.1.2.1 dX11_finds_57 rfl (lv_at hl 2 rfl) ?_
          refine m_geti K hP (by decide) sh_259 rfl tuX11 7 (by decide) rfl q_1157 dX11_finds_58 ?_
          refine lv_topi (fun g_16 eg_16 => ?_)
          refine lv_icmp_ne (tgt := 68) K.1.1 K.1.2.1 dX11_finds_61 (by decide) (fun c_61 => ?_) (fun c_61 => ?_)
          · refine lv_aload_n K.1.1 K.1.2.1 dX11_finds_68 rfl (lv_at hl 2 rfl) ?_
            refine m_geti K hP (by decide) sh_259 rfl tuX11 5 (by decide) rfl q_1155 dX11_finds_69 ?_
            refine lv_topi (fun g_17 eg_17 => ?_)
            refine m_puti K hP hS (by decide) sh_259 rfl tuX11 tyX11 tyX11_ok nmX11 5 (by decide) rfl rfl (by decide +kernel) q_1155 dX11_finds_72 (fun H locs hP hS => ?_)
            obtain ⟨x_18, ex_18⟩ : ∃ y : Int32, y = v1_21 + (1) := ⟨_, rfl⟩
            refine lv_iinc (v := x_18) (lv' := [(1, .int x_18), (2, .int r_6), (0, .ref (B + 259))]) K.1.1 K.1.2.1 dX11_finds_75 hl (k := 1) rfl (by rw [ex_18]; rfl) (by decide) rfl (fun ls hl => ?_)
            refine lv_goto (tgt := 21) K.1.1 K.1.2.1 dX11_finds_78 (by decide) ?_
            exact ih_21 _ _ _ _ _ (by subst ev1_21 eμ_21 er_6 eg_7 eg_16 eg_17 ex_18; exact nI_1 _) (by subst ev1_21 eμ_21 er_6 eg_7 eg_16 eg_17 ex_18; rw [FI_run_s]; unfold FI_step; try dsimp only; (first | rw [if_pos (Int32.not_le.mp c_38)] | rw [if_neg (Int32.not_lt.mpr c_38)]); first | (rw [if_neg (Int32.not_lt.mpr c_53)]; done) | (rw [if_pos (Int32.not_le.mp c_53), if_neg c_61]; done) | (rw [if_pos (Int32.not_le.mp c_53), if_pos c_61]; done)) hP hS (lv_sub hl [0, 2] rfl)
          · refine lv_iload_n K.1.1 K.1.2.1 dX11_finds_64 rfl (lv_at hl 1 rfl) ?_
            refine lv_goto (tgt := 72) K.1.1 K.1.2.1 dX11_finds_65 (by decide) ?_
            refine m_puti K hP hS (by decide) sh_259 rfl tuX11 tyX11 tyX11_ok nmX11 5 (by decide) rfl rfl (by decide +kernel) q_1155 dX11_finds_72 (fun H locs hP hS => ?_)
            obtain ⟨x_19, ex_19⟩ : ∃ y : Int32, y = v1_21 + (1) := ⟨_, rfl⟩
            refine lv_iinc (v := x_19) (lv' := [(1, .int x_19), (2, .int r_6), (0, .ref (B + 259))]) K.1.1 K.1.2.1 dX11_finds_75 hl (k := 1) rfl (by rw [ex_19]; rfl) (by decide) rfl (fun ls hl => ?_)
            refine lv_goto (tgt := 21) K.1.1 K.1.2.1 dX11_finds_78 (by decide) ?_
            exact ih_21 _ _ _ _ _ (by subst ev1_21 eμ_21 er_6 eg_7 eg_16 ex_19; exact nI_1 _) (by subst ev1_21 eμ_21 er_6 eg_7 eg_16 ex_19; rw [FI_run_s]; unfold FI_step; try dsimp only; (first | rw [if_pos (Int32.not_le.mp c_38)] | rw [if_neg (Int32.not_lt.mpr c_38)]); first | (rw [if_neg (Int32.not_lt.mpr c_53)]; done) | (rw [if_pos (Int32.not_le.mp c_53), if_neg c_61]; done) | (rw [if_pos (Int32.not_le.mp c_53), if_pos c_61]; done)) hP hS (lv_sub hl [0, 2] rfl)

