set_option maxHeartbeats 4000000 in
set_option maxRecDepth 100000 in
theorem MX11_fillOf (l : Launch) (G : GG) (B : Nat) (μ : Mm) (k : Int32) (hI : MI μ) (hk : vp_in k 20) : CM l yX11_fillOf (.code yX11_fillOf cX11_fillOf 4 (Option.some FieldType.int)) 3 68 G B [.ref (B + 259), .int k] μ (some (.int (M_fillOf μ k))) μ := by
  refine CM.of (by decide) (Nat.le_of_ble_eq_true rfl) ?_
  intro p e s m below meth c ls K hr hlocks hP hl
  have hS : va_S (AA B) s.heap s.heap [] := va_S.rf
  have hl : lv_has ls 4 [(0, .ref (B + 259)), (1, .int k)] := hl
  refine lv_aload_n K.1.1 K.1.2.1 dX11_fillOf_0 rfl (lv_at hl 0 rfl) ?_
  refine m_geti K hP (by decide) sh_259 rfl tuX11 7 (by decide) rfl q_1157 dX11_fillOf_1 ?_
  refine lv_topi (fun g_1 eg_1 => ?_)
  refine lv_if_eq (tgt := 19) K.1.1 K.1.2.1 dX11_fillOf_4 (by decide) (fun c_4 => ?_) (fun c_4 => ?_)
  · refine lv_iconst (v := 0) K.1.1 K.1.2.1 dX11_fillOf_19 (by decide) ?_
    exact m_iret K hr hlocks hP hS dX11_fillOf_20 (by subst eg_1; rw [M_fillOf]; first | (rw [if_pos c_4]; done) | (rw [if_neg c_4, if_pos c_16]; done) | (rw [if_neg c_4, if_neg c_16]; first | (rw [if_pos (Int32.not_le.mp c_74)]; done) | (rw [if_neg (Int32.not_lt.mpr c_74), lsI]; first | (rw [if_neg (Int32.not_lt.mpr c_83)]; done) | (rw [if_pos (Int32.not_le.mp c_83)]; done)))) rfl
  · refine lv_aload_n K.1.1 K.1.2.1 dX11_fillOf_7 rfl (lv_at hl 0 rfl) ?_
    refine lv_iload_n K.1.1 K.1.2.1 dX11_fillOf_8 rfl (lv_at hl 1 rfl) ?_
    refine lv_aload_n K.1.1 K.1.2.1 dX11_fillOf_9 rfl (lv_at hl 0 rfl) ?_
    refine m_geti K hP (by decide) sh_259 rfl tuX11 6 (by decide) rfl q_1156 dX11_fillOf_10 ?_
    refine lv_topi (fun g_2 eg_2 => ?_)
    refine m_cV (n := 2) (As := [.int k, .int g_2]) (rest := []) K hP hS (MX11_isGood l G B _ k g_2 hI (by subst eg_1 eg_2; first | assumption | exact MI_k hI (by assumption) | exact MI_w hI (by first | assumption | exact MI_k hI (by assumption)) | exact MI_t hI (by assumption))) (by decide) sh_259 rfl q_1343 q_1345 q_49 q_91 q_1346 hv_X11_isGood ⟨Nat.le_of_ble_eq_true rfl, Nat.le_of_ble_eq_true rfl⟩ rfl hl.1 rfl (Nat.le_of_ble_eq_true rfl) dX11_fillOf_13 ⟨Nat.zero_le _, Nat.zero_le _⟩ (fun H locs hP hS => ?_)
    refine lv_topi (fun r_3 er_3 => ?_)
    refine lv_if_ne (tgt := 21) K.1.1 K.1.2.1 dX11_fillOf_16 (by decide) (fun c_16 => ?_) (fun c_16 => ?_)
    · refine lv_aload_n K.1.1 K.1.2.1 dX11_fillOf_21 rfl (lv_at hl 0 rfl) ?_
      refine m_geti K hP (by decide) sh_259 rfl tuX11 7 (by decide) rfl q_1157 dX11_fillOf_22 ?_
      refine lv_topi (fun g_4 eg_4 => ?_)
      refine lv_istore_n (lv' := [(2, .int g_4), (0, .ref (B + 259)), (1, .int k)]) K.1.1 K.1.2.1 dX11_fillOf_25 rfl hl (by decide) rfl (fun ls hl => ?_)
      refine lv_iconst (v := 0) K.1.1 K.1.2.1 dX11_fillOf_26 (by decide) ?_
      refine lv_istore_n (lv' := [(3, .int 0), (2, .int g_4), (0, .ref (B + 259)), (1, .int k)]) K.1.1 K.1.2.1 dX11_fillOf_27 rfl hl (by decide) rfl (fun ls hl => ?_)
      refine up_to (N := cn (μ 260 1)) (P := fun q : Nat => ∀ (v3_28 : Int32) (v2_28 : Int32) (H : Heap) (locs : List Loc) (ls : Array Slot), (v3_28 = nI q) → (v2_28 = M_leftOf μ k q) → MP G B μ H → va_S (AA B) s.heap H locs → lv_has ls 4 [(3, .int v3_28), (2, .int v2_28), (0, .ref (B + 259)), (1, .int k)] → W p l e ({ frames := 3, cells := 0, slots := 0, locals := 68 } : Room) s m ([.ref (B + 259), .int k] : List Value).toArray below meth c H locs 0 0 (MF below G B (some (.int (M_fillOf μ k))) μ ([.ref (B + 259), .int k] : List Value).toArray s) (F0 m 28 ls [])) ?_ ?_ _ _ _ _ _ (by first | rfl | (subst eg_1 eg_2 er_3 eg_4; rfl)) (by subst eg_1 eg_2 er_3 eg_4; rfl) hP hS (lv_sub hl [0, 1, 2, 3] rfl)
      · intro v3_28 v2_28 H locs ls ev3_28 ev2_28 hP hS hl
        refine lv_iload_n K.1.1 K.1.2.1 dX11_fillOf_28 rfl (lv_at hl 0 rfl) ?_
        refine lv_aload_n K.1.1 K.1.2.1 dX11_fillOf_29 rfl (lv_at hl 2 rfl) ?_
        refine m_getr K hP (by decide) sh_259 rfl tuX11 0 (by decide) rfl q_1150 dX11_fillOf_30 ?_
        refine lv_iconst (v := 1) K.1.1 K.1.2.1 dX11_fillOf_33 (by decide) ?_
        refine m_iald K hP (by decide) sh_260 (n := 267) (vpd rfl) dX11_fillOf_34 ?_
        refine lv_topi (fun g_5 eg_5 => ?_)
        have eg_5 : g_5 = (_ : Mm) 260 1 := eg_5
        refine lv_icmp_ge (tgt := 66) K.1.1 K.1.2.1 dX11_fillOf_35 (by decide) (fun c_35 => ?_) (fun c_35 => ?_)
        · refine lv_aload_n K.1.1 K.1.2.1 dX11_fillOf_66 rfl (lv_at hl 2 rfl) ?_
          refine lv_iload_n K.1.1 K.1.2.1 dX11_fillOf_67 rfl (lv_at hl 3 rfl) ?_
          refine lv_iconst (v := 3) K.1.1 K.1.2.1 dX11_fillOf_68 (by decide) ?_
          refine m_cV (n := 2) (As := [.int k, .int 3]) (rest := []) K hP hS (MX11_ofO l G B _ k 3 (loO (by subst eg_1 eg_2 er_3 eg_4 ev3_28 ev2_28 eg_5; first | assumption | exact MI_k hI (by assumption) | exact MI_w hI (by first | assumption | exact MI_k hI (by assumption)) | exact MI_t hI (by assumption)) (vpd rfl))) (by decide) sh_259 rfl q_1291 q_1293 q_39 q_91 q_1294 hv_X11_ofO ⟨Nat.le_of_ble_eq_true rfl, Nat.le_of_ble_eq_true rfl⟩ rfl hl.1 rfl (Nat.le_of_ble_eq_true rfl) dX11_fillOf_69 ⟨Nat.zero_le _, Nat.zero_le _⟩ (fun H locs hP hS => ?_)
          refine lv_topi (fun r_6 er_6 => ?_)
          refine lv_istore_n (lv' := [(3, .int r_6), (2, .int v2_28), (0, .ref (B + 259)), (1, .int k)]) K.1.1 K.1.2.1 dX11_fillOf_72 rfl hl (by decide) rfl (fun ls hl => ?_)
          refine lv_iload_n K.1.1 K.1.2.1 dX11_fillOf_73 rfl (lv_at hl 1 rfl) ?_
          refine lv_if_ge (tgt := 81) K.1.1 K.1.2.1 dX11_fillOf_74 (by decide) (fun c_74 => ?_) (fun c_74 => ?_)
          · refine lv_iload_n K.1.1 K.1.2.1 dX11_fillOf_81 rfl (lv_at hl 1 rfl) ?_
            refine lv_iload_n K.1.1 K.1.2.1 dX11_fillOf_82 rfl (lv_at hl 0 rfl) ?_
            refine lv_icmp_ge (tgt := 90) K.1.1 K.1.2.1 dX11_fillOf_83 (by decide) (fun c_83 => ?_) (fun c_83 => ?_)
            · refine lv_iload_n K.1.1 K.1.2.1 dX11_fillOf_90 rfl (lv_at hl 0 rfl) ?_
              exact m_iret K hr hlocks hP hS dX11_fillOf_91 (by subst eg_1 eg_2 er_3 eg_4 ev3_28 ev2_28 eg_5 er_6; rw [M_fillOf]; first | (rw [if_pos c_4]; done) | (rw [if_neg c_4, if_pos c_16]; done) | (rw [if_neg c_4, if_neg c_16]; first | (rw [if_pos (Int32.not_le.mp c_74)]; done) | (rw [if_neg (Int32.not_lt.mpr c_74), lsI]; first | (rw [if_neg (Int32.not_lt.mpr c_83)]; done) | (rw [if_pos (Int32.not_le.mp c_83)]; done)))) rfl
            · refine lv_iload_n K.1.1 K.1.2.1 dX11_fillOf_86 rfl (lv_at hl 1 rfl) ?_
              refine lv_goto (tgt := 91) K.1.1 K.1.2.1 dX11_fillOf_87 (by decide) ?_
              exact m_iret K hr hlocks hP hS dX11_fillOf_91 (by subst eg_1 eg_2 er_3 eg_4 ev3_28 ev2_28 eg_5 er_6; rw [M_fillOf]; first | (rw [if_pos c_4]; done) | (rw [if_neg c_4, if_pos c_16]; done) | (rw [if_neg c_4, if_neg c_16]; first | (rw [if_pos (Int32.not_le.mp c_74)]; done) | (rw [if_neg (Int32.not_lt.mpr c_74), lsI]; first | (rw [if_neg (Int32.not_lt.mpr c_83)]; done) | (rw [if_pos (Int32.not_le.mp c_83)]; done)))) rfl
          · refine lv_iconst (v := 0) K.1.1 K.1.2.1 dX11_fillOf_77 (by decide) ?_
            refine lv_goto (tgt := 91) K.1.1 K.1.2.1 dX11_fillOf_78 (by decide) ?_
            exact m_iret K hr hlocks hP hS dX11_fillOf_91 (by subst eg_1 eg_2 er_3 eg_4 ev3_28 ev2_28 eg_5 er_6; rw [M_fillOf]; first | (rw [if_pos c_4]; done) | (rw [if_neg c_4, if_pos c_16]; done) | (rw [if_neg c_4, if_neg c_16]; first | (rw [if_pos (Int32.not_le.mp c_74)]; done) | (rw [if_neg (Int32.not_lt.mpr c_74), lsI]; first | (rw [if_neg (Int32.not_lt.mpr c_83)]; done) | (rw [if_pos (Int32.not_le.mp c_83)]; done)))) rfl
        · exact absurd c_35 (not_not_intro (by subst eg_1 eg_2 er_3 eg_4 ev3_28 ev2_28 eg_5; exact cn_out _))
      · intro q hq ih_28 v3_28 v2_28 H locs ls ev3_28 ev2_28 hP hS hl
        refine lv_iload_n K.1.1 K.1.2.1 dX11_fillOf_28 rfl (lv_at hl 0 rfl) ?_
        refine lv_aload_n K.1.1 K.1.2.1 dX11_fillOf_29 rfl (lv_at hl 2 rfl) ?_
        refine m_getr K hP (by decide) sh_259 rfl tuX11 0 (by decide) rfl q_1150 dX11_fillOf_30 ?_
        refine lv_iconst (v := 1) K.1.1 K.1.2.1 dX11_fillOf_33 (by decide) ?_
        refine m_iald K hP (by decide) sh_260 (n := 267) (vpd rfl) dX11_fillOf_34 ?_
        refine lv_topi (fun g_7 eg_7 => ?_)
        have eg_7 : g_7 = (_ : Mm) 260 1 := eg_7
        refine lv_icmp_ge (tgt := 66) K.1.1 K.1.2.1 dX11_fillOf_35 (by decide) (fun c_35 => ?_) (fun c_35 => ?_)
        · exact absurd c_35 (by subst eg_1 eg_2 er_3 eg_4 ev3_28 ev2_28 eg_7; exact cn_in hq)
        · refine lv_iload_n K.1.1 K.1.2.1 dX11_fillOf_38 rfl (lv_at hl 1 rfl) ?_
          refine lv_aload_n K.1.1 K.1.2.1 dX11_fillOf_39 rfl (lv_at hl 2 rfl) ?_
          refine lv_iload_n K.1.1 K.1.2.1 dX11_fillOf_40 rfl (lv_at hl 0 rfl) ?_
          refine lv_iload_n K.1.1 K.1.2.1 dX11_fillOf_41 rfl (lv_at hl 3 rfl) ?_
          refine m_cV (n := 2) (As := [.int v3_28, .int k]) (rest := [.int v2_28]) K hP hS (MX11_isAhead l G B _ v3_28 k hI (by subst eg_1 eg_2 er_3 eg_4 ev3_28 ev2_28 eg_7; first | assumption | exact MI_k hI (by assumption) | exact MI_w hI (by first | assumption | exact MI_k hI (by assumption)) | exact MI_t hI (by assumption)) (by subst eg_1 eg_2 er_3 eg_4 ev3_28 ev2_28 eg_7; first | assumption | exact MI_k hI (by assumption) | exact MI_w hI (by first | assumption | exact MI_k hI (by assumption)) | exact MI_t hI (by assumption))) (by decide) sh_259 rfl q_1359 q_1361 q_53 q_91 q_1362 hv_X11_isAhead ⟨Nat.le_of_ble_eq_true rfl, Nat.le_of_ble_eq_true rfl⟩ rfl hl.1 rfl (Nat.le_of_ble_eq_true rfl) dX11_fillOf_42 ⟨Nat.zero_le _, Nat.zero_le _⟩ (fun H locs hP hS => ?_)
          refine lv_topi (fun r_8 er_8 => ?_)
          refine lv_if_eq (tgt := 57) K.1.1 K.1.2.1 dX11_fillOf_45 (by decide) (fun c_45 => ?_) (fun c_45 => ?_)
          · refine lv_iconst (v := 0) K.1.1 K.1.2.1 dX11_fillOf_57 (by decide) ?_
            refine lv_isub K.1.1 K.1.2.1 dX11_fillOf_58 ?_
            refine lv_topi (fun x_9 ex_9 => ?_)
            refine lv_istore_n (lv' := [(2, .int x_9), (3, .int v3_28), (0, .ref (B + 259)), (1, .int k)]) K.1.1 K.1.2.1 dX11_fillOf_59 rfl hl (by decide) rfl (fun ls hl => ?_)
            obtain ⟨x_10, ex_10⟩ : ∃ y : Int32, y = v3_28 + (1) := ⟨_, rfl⟩
            refine lv_iinc (v := x_10) (lv' := [(3, .int x_10), (2, .int x_9), (0, .ref (B + 259)), (1, .int k)]) K.1.1 K.1.2.1 dX11_fillOf_60 hl (k := 1) rfl (by rw [ex_10]; rfl) (by decide) rfl (fun ls hl => ?_)
            refine lv_goto (tgt := 28) K.1.1 K.1.2.1 dX11_fillOf_63 (by decide) ?_
            exact ih_28 _ _ _ _ _ (by subst eg_1 eg_2 er_3 eg_4 ev3_28 ev2_28 eg_7 er_8 ex_9 ex_10; exact nI_1 _) (by subst eg_1 eg_2 er_3 eg_4 ev3_28 ev2_28 eg_7 er_8 ex_9 ex_10; first | (simp only [M_leftOf, subI, c_4, c_16, c_35, Int32.not_le.mp c_35, c_45, if_true, if_false, ite_true, ite_false, reduceIte, not_true, not_false_iff]; done) | simp [M_leftOf, subI, c_4, c_16, c_35, Int32.not_le.mp c_35, c_45]) hP hS (lv_sub hl [0, 1, 2, 3] rfl)
          · refine lv_aload_n K.1.1 K.1.2.1 dX11_fillOf_48 rfl (lv_at hl 2 rfl) ?_
            refine lv_iload_n K.1.1 K.1.2.1 dX11_fillOf_49 rfl (lv_at hl 0 rfl) ?_
            refine lv_iconst (v := 3) K.1.1 K.1.2.1 dX11_fillOf_50 (by decide) ?_
            refine m_cV (n := 2) (As := [.int v3_28, .int 3]) (rest := [.int v2_28]) K hP hS (MX11_ofO l G B _ v3_28 3 (loO (by subst eg_1 eg_2 er_3 eg_4 ev3_28 ev2_28 eg_7 er_8; first | assumption | exact MI_k hI (by assumption) | exact MI_w hI (by first | assumption | exact MI_k hI (by assumption)) | exact MI_t hI (by assumption)) (vpd rfl))) (by decide) sh_259 rfl q_1291 q_1293 q_39 q_91 q_1294 hv_X11_ofO ⟨Nat.le_of_ble_eq_true rfl, Nat.le_of_ble_eq_true rfl⟩ rfl hl.1 rfl (Nat.le_of_ble_eq_true rfl) dX11_fillOf_51 ⟨Nat.zero_le _, Nat.zero_le _⟩ (fun H locs hP hS => ?_)
            refine lv_topi (fun r_11 er_11 => ?_)
            refine lv_goto (tgt := 58) K.1.1 K.1.2.1 dX11_fillOf_54 (by decide) ?_
            refine lv_isub K.1.1 K.1.2.1 dX11_fillOf_58 ?_
            refine lv_topi (fun x_12 ex_12 => ?_)
            refine lv_istore_n (lv' := [(2, .int x_12), (3, .int v3_28), (0, .ref (B + 259)), (1, .int k)]) K.1.1 K.1.2.1 dX11_fillOf_59 rfl hl (by decide) rfl (fun ls hl => ?_)
            obtain ⟨x_13, ex_13⟩ : ∃ y : Int32, y = v3_28 + (1) := ⟨_, rfl⟩
            refine lv_iinc (v := x_13) (lv' := [(3, .int x_13), (2, .int x_12), (0, .ref (B + 259)), (1, .int k)]) K.1.1 K.1.2.1 dX11_fillOf_60 hl (k := 1) rfl (by rw [ex_13]; rfl) (by decide) rfl (fun ls hl => ?_)
            refine lv_goto (tgt := 28) K.1.1 K.1.2.1 dX11_fillOf_63 (by decide) ?_
            exact ih_28 _ _ _ _ _ (by subst eg_1 eg_2 er_3 eg_4 ev3_28 ev2_28 eg_7 er_8 er_11 ex_12 ex_13; exact nI_1 _) (by subst eg_1 eg_2 er_3 eg_4 ev3_28 ev2_28 eg_7 er_8 er_11 ex_12 ex_13; first | (simp only [M_leftOf, subI, c_4, c_16, c_35, Int32.not_le.mp c_35, c_45, if_true, if_false, ite_true, ite_false, reduceIte, not_true, not_false_iff]; done) | simp [M_leftOf, subI, c_4, c_16, c_35, Int32.not_le.mp c_35, c_45]) hP hS (lv_sub hl [0, 1, 2, 3] rfl)
    · refine lv_iconst (v := 0) K.1.1 K.1.2.1 dX11_fillOf_19 (by decide) ?_
      exact m_iret K hr hlocks hP hS dX11_fillOf_20 (by subst eg_1 eg_2 er_3; rw [M_fillOf]; first | (rw [if_pos c_4]; done) | (rw [if_neg c_4, if_pos c_16]; done) | (rw [if_neg c_4, if_neg c_16]; first | (rw [if_pos (Int32.not_le.mp c_74)]; done) | (rw [if_neg (Int32.not_lt.mpr c_74), lsI]; first | (rw [if_neg (Int32.not_lt.mpr c_83)]; done) | (rw [if_pos (Int32.not_le.mp c_83)]; done)))) rfl

set_option maxHeartbeats 4000000 in
set_option maxRecDepth 100000 in
theorem MX11_gainOf (l : Launch) (G : GG) (B : Nat) (μ : Mm) (k : Int32) (hI : MI μ) (hk : vp_in k 20) : CM l yX11_gainOf (.code yX11_gainOf cX11_gainOf 3 (Option.some FieldType.int)) 2 43 G B [.ref (B + 259), .int k] μ (some (.int (M_gainOf μ k))) μ := by
  refine CM.of (by decide) (Nat.le_of_ble_eq_true rfl) ?_
  intro p e s m below meth c ls K hr hlocks hP hl
  have hS : va_S (AA B) s.heap s.heap [] := va_S.rf
  have hl : lv_has ls 3 [(0, .ref (B + 259)), (1, .int k)] := hl
  refine lv_aload_n K.1.1 K.1.2.1 dX11_gainOf_0 rfl (lv_at hl 0 rfl) ?_
  refine lv_aload_n K.1.1 K.1.2.1 dX11_gainOf_1 rfl (lv_at hl 0 rfl) ?_
  refine lv_iload_n K.1.1 K.1.2.1 dX11_gainOf_2 rfl (lv_at hl 1 rfl) ?_
  refine lv_iconst (v := 1) K.1.1 K.1.2.1 dX11_gainOf_3 (by decide) ?_
  refine m_cV (n := 2) (As := [.int k, .int 1]) (rest := [.ref (B + 259)]) K hP hS (MX11_ofO l G B _ k 1 (loO (by skip; first | assumption | exact MI_k hI (by assumption) | exact MI_w hI (by first | assumption | exact MI_k hI (by assumption)) | exact MI_t hI (by assumption)) (vpd rfl))) (by decide) sh_259 rfl q_1291 q_1293 q_39 q_91 q_1294 hv_X11_ofO ⟨Nat.le_of_ble_eq_true rfl, Nat.le_of_ble_eq_true rfl⟩ rfl hl.1 rfl (Nat.le_of_ble_eq_true rfl) dX11_gainOf_4 ⟨Nat.zero_le _, Nat.zero_le _⟩ (fun H locs hP hS => ?_)
  refine lv_topi (fun r_1 er_1 => ?_)
  refine lv_iconst (v := 1) K.1.1 K.1.2.1 dX11_gainOf_7 (by decide) ?_
  refine m_cV (n := 2) (As := [.int r_1, .int 1]) (rest := []) K hP hS (MX11_ofT l G B _ r_1 1 (loT (by subst er_1; first | assumption | exact MI_k hI (by assumption) | exact MI_w hI (by first | assumption | exact MI_k hI (by assumption)) | exact MI_t hI (by assumption)) (vpd rfl))) (by decide) sh_259 rfl q_1240 q_1242 q_30 q_91 q_1243 hv_X11_ofT ⟨Nat.le_of_ble_eq_true rfl, Nat.le_of_ble_eq_true rfl⟩ rfl hl.1 rfl (Nat.le_of_ble_eq_true rfl) dX11_gainOf_8 ⟨Nat.zero_le _, Nat.zero_le _⟩ (fun H locs hP hS => ?_)
  refine lv_topi (fun r_2 er_2 => ?_)
  refine lv_istore_n (lv' := [(2, .int r_2), (0, .ref (B + 259)), (1, .int k)]) K.1.1 K.1.2.1 dX11_gainOf_11 rfl hl (by decide) rfl (fun ls hl => ?_)
  refine lv_aload_n K.1.1 K.1.2.1 dX11_gainOf_12 rfl (lv_at hl 1 rfl) ?_
  refine lv_iload_n K.1.1 K.1.2.1 dX11_gainOf_13 rfl (lv_at hl 2 rfl) ?_
  refine m_cV (n := 1) (As := [.int k]) (rest := []) K hP hS (MX11_sideOf l G B _ k hI (by subst er_1 er_2; first | assumption | exact MI_k hI (by assumption) | exact MI_w hI (by first | assumption | exact MI_k hI (by assumption)) | exact MI_t hI (by assumption))) (by decide) sh_259 rfl q_1339 q_1341 q_48 q_91 q_1342 hv_X11_sideOf ⟨Nat.le_of_ble_eq_true rfl, Nat.le_of_ble_eq_true rfl⟩ rfl hl.1 rfl (Nat.le_of_ble_eq_true rfl) dX11_gainOf_14 ⟨Nat.zero_le _, Nat.zero_le _⟩ (fun H locs hP hS => ?_)
  refine lv_topi (fun r_3 er_3 => ?_)
  refine lv_if_ne (tgt := 29) K.1.1 K.1.2.1 dX11_gainOf_17 (by decide) (fun c_17 => ?_) (fun c_17 => ?_)
  · refine lv_aload_n K.1.1 K.1.2.1 dX11_gainOf_29 rfl (lv_at hl 1 rfl) ?_
    refine m_geti K hP (by decide) sh_259 rfl tuX11 6 (by decide) rfl q_1156 dX11_gainOf_30 ?_
    refine lv_topi (fun g_4 eg_4 => ?_)
    refine lv_iload_n K.1.1 K.1.2.1 dX11_gainOf_33 rfl (lv_at hl 0 rfl) ?_
    refine lv_isub K.1.1 K.1.2.1 dX11_gainOf_34 ?_
    exact m_iret K hr hlocks hP hS dX11_gainOf_35 (by subst er_1 er_2 er_3 eg_4; first | (simp only [M_gainOf, M_val, c_17, if_true, if_false, ite_true, ite_false, reduceIte, not_true, not_false_iff]; done) | simp [M_gainOf, M_val, c_17]) rfl
  · refine lv_iload_n K.1.1 K.1.2.1 dX11_gainOf_20 rfl (lv_at hl 0 rfl) ?_
    refine lv_aload_n K.1.1 K.1.2.1 dX11_gainOf_21 rfl (lv_at hl 1 rfl) ?_
    refine m_geti K hP (by decide) sh_259 rfl tuX11 6 (by decide) rfl q_1156 dX11_gainOf_22 ?_
    refine lv_topi (fun g_5 eg_5 => ?_)
    refine lv_isub K.1.1 K.1.2.1 dX11_gainOf_25 ?_
    refine lv_goto (tgt := 35) K.1.1 K.1.2.1 dX11_gainOf_26 (by decide) ?_
    exact m_iret K hr hlocks hP hS dX11_gainOf_35 (by subst er_1 er_2 er_3 eg_5; first | (simp only [M_gainOf, M_val, c_17, if_true, if_false, ite_true, ite_false, reduceIte, not_true, not_false_iff]; done) | simp [M_gainOf, M_val, c_17]) rfl

set_option maxHeartbeats 4000000 in
set_option maxRecDepth 100000 in
theorem MX11_gainsOf (l : Launch) (G : GG) (B : Nat) (μ : Mm) (t : Int32) (hI : MI μ) : CM l yX11_gainsOf (.code yX11_gainsOf cX11_gainsOf 4 (Option.some FieldType.int)) 4 91 G B [.ref (B + 259), .int t] μ (some (.int (M_gainsOf μ t))) μ := by
  refine CM.of (by decide) (Nat.le_of_ble_eq_true rfl) ?_
  intro p e s m below meth c ls K hr hlocks hP hl
  have hS : va_S (AA B) s.heap s.heap [] := va_S.rf
  have hl : lv_has ls 4 [(0, .ref (B + 259)), (1, .int t)] := hl
  refine lv_iconst (v := 0) K.1.1 K.1.2.1 dX11_gainsOf_0 (by decide) ?_
  refine lv_istore_n (lv' := [(2, .int 0), (0, .ref (B + 259)), (1, .int t)]) K.1.1 K.1.2.1 dX11_gainsOf_1 rfl hl (by decide) rfl (fun ls hl => ?_)
  refine lv_iconst (v := 0) K.1.1 K.1.2.1 dX11_gainsOf_2 (by decide) ?_
  refine lv_istore_n (lv' := [(3, .int 0), (2, .int 0), (0, .ref (B + 259)), (1, .int t)]) K.1.1 K.1.2.1 dX11_gainsOf_3 rfl hl (by decide) rfl (fun ls hl => ?_)
  refine up_to (N := cn (μ 260 1)) (P := fun k : Nat => ∀ (v3_4 : Int32) (v2_4 : Int32) (H : Heap) (locs : List Loc) (ls : Array Slot), (v3_4 = nI k) → (v2_4 = sumI (fun k => if M_o μ (nI k) 1 = t then M_fillOf μ (nI k) * (if μ 259 7 = 0 then 0 else M_gainOf μ (nI k)) else 0) k) → MP G B μ H → va_S (AA B) s.heap H locs → lv_has ls 4 [(3, .int v3_4), (2, .int v2_4), (0, .ref (B + 259)), (1, .int t)] → W p l e ({ frames := 4, cells := 0, slots := 0, locals := 91 } : Room) s m ([.ref (B + 259), .int t] : List Value).toArray below meth c H locs 0 0 (MF below G B (some (.int (M_gainsOf μ t))) μ ([.ref (B + 259), .int t] : List Value).toArray s) (F0 m 4 ls [])) ?_ ?_ _ _ _ _ _ (by first | rfl | (skip; rfl)) (by first | rfl | (skip; rfl)) hP hS (lv_sub hl [0, 1, 2, 3] rfl)
  · intro v3_4 v2_4 H locs ls ev3_4 ev2_4 hP hS hl
    refine lv_iload_n K.1.1 K.1.2.1 dX11_gainsOf_4 rfl (lv_at hl 0 rfl) ?_
    refine lv_aload_n K.1.1 K.1.2.1 dX11_gainsOf_5 rfl (lv_at hl 2 rfl) ?_
    refine m_getr K hP (by decide) sh_259 rfl tuX11 0 (by decide) rfl q_1150 dX11_gainsOf_6 ?_
    refine lv_iconst (v := 1) K.1.1 K.1.2.1 dX11_gainsOf_9 (by decide) ?_
    refine m_iald K hP (by decide) sh_260 (n := 267) (vpd rfl) dX11_gainsOf_10 ?_
    refine lv_topi (fun g_1 eg_1 => ?_)
    have eg_1 : g_1 = (_ : Mm) 260 1 := eg_1
    refine lv_icmp_ge (tgt := 59) K.1.1 K.1.2.1 dX11_gainsOf_11 (by decide) (fun c_11 => ?_) (fun c_11 => ?_)
    · refine lv_iload_n K.1.1 K.1.2.1 dX11_gainsOf_59 rfl (lv_at hl 1 rfl) ?_
      exact m_iret K hr hlocks hP hS dX11_gainsOf_60 (by subst ev3_4 ev2_4 eg_1; rfl) rfl
    · exact absurd c_11 (not_not_intro (by subst ev3_4 ev2_4 eg_1; exact cn_out _))
  · intro k hk ih_4 v3_4 v2_4 H locs ls ev3_4 ev2_4 hP hS hl
    refine lv_iload_n K.1.1 K.1.2.1 dX11_gainsOf_4 rfl (lv_at hl 0 rfl) ?_
    refine lv_aload_n K.1.1 K.1.2.1 dX11_gainsOf_5 rfl (lv_at hl 2 rfl) ?_
    refine m_getr K hP (by decide) sh_259 rfl tuX11 0 (by decide) rfl q_1150 dX11_gainsOf_6 ?_
    refine lv_iconst (v := 1) K.1.1 K.1.2.1 dX11_gainsOf_9 (by decide) ?_
    refine m_iald K hP (by decide) sh_260 (n := 267) (vpd rfl) dX11_gainsOf_10 ?_
    refine lv_topi (fun g_2 eg_2 => ?_)
    have eg_2 : g_2 = (_ : Mm) 260 1 := eg_2
    refine lv_icmp_ge (tgt := 59) K.1.1 K.1.2.1 dX11_gainsOf_11 (by decide) (fun c_11 => ?_) (fun c_11 => ?_)
    · exact absurd c_11 (by subst ev3_4 ev2_4 eg_2; exact cn_in hk)
    · refine lv_iload_n K.1.1 K.1.2.1 dX11_gainsOf_14 rfl (lv_at hl 1 rfl) ?_
      refine lv_aload_n K.1.1 K.1.2.1 dX11_gainsOf_15 rfl (lv_at hl 2 rfl) ?_
      refine lv_iload_n K.1.1 K.1.2.1 dX11_gainsOf_16 rfl (lv_at hl 0 rfl) ?_
      refine lv_iconst (v := 1) K.1.1 K.1.2.1 dX11_gainsOf_17 (by decide) ?_
      refine m_cV (n := 2) (As := [.int v3_4, .int 1]) (rest := [.int v2_4]) K hP hS (MX11_ofO l G B _ v3_4 1 (loO (by subst ev3_4 ev2_4 eg_2; first | assumption | exact MI_k hI (by assumption) | exact MI_w hI (by first | assumption | exact MI_k hI (by assumption)) | exact MI_t hI (by assumption)) (vpd rfl))) (by decide) sh_259 rfl q_1291 q_1293 q_39 q_91 q_1294 hv_X11_ofO ⟨Nat.le_of_ble_eq_true rfl, Nat.le_of_ble_eq_true rfl⟩ rfl hl.1 rfl (Nat.le_of_ble_eq_true rfl) dX11_gainsOf_18 ⟨Nat.zero_le _, Nat.zero_le _⟩ (fun H locs hP hS => ?_)
      refine lv_topi (fun r_3 er_3 => ?_)
      refine lv_iload_n K.1.1 K.1.2.1 dX11_gainsOf_21 rfl (lv_at hl 3 rfl) ?_
      refine lv_icmp_ne (tgt := 50) K.1.1 K.1.2.1 dX11_gainsOf_22 (by decide) (fun c_22 => ?_) (fun c_22 => ?_)
      · refine lv_iconst (v := 0) K.1.1 K.1.2.1 dX11_gainsOf_50 (by decide) ?_
        refine lv_iadd K.1.1 K.1.2.1 dX11_gainsOf_51 ?_
        refine lv_topi (fun x_4 ex_4 => ?_)
        refine lv_istore_n (lv' := [(2, .int x_4), (3, .int v3_4), (0, .ref (B + 259)), (1, .int t)]) K.1.1 K.1.2.1 dX11_gainsOf_52 rfl hl (by decide) rfl (fun ls hl => ?_)
        obtain ⟨x_5, ex_5⟩ : ∃ y : Int32, y = v3_4 + (1) := ⟨_, rfl⟩
        refine lv_iinc (v := x_5) (lv' := [(3, .int x_5), (2, .int x_4), (0, .ref (B + 259)), (1, .int t)]) K.1.1 K.1.2.1 dX11_gainsOf_53 hl (k := 1) rfl (by rw [ex_5]; rfl) (by decide) rfl (fun ls hl => ?_)
        refine lv_goto (tgt := 4) K.1.1 K.1.2.1 dX11_gainsOf_56 (by decide) ?_
        exact ih_4 _ _ _ _ _ (by subst ev3_4 ev2_4 eg_2 er_3 ex_4 ex_5; exact nI_1 _) (by subst ev3_4 ev2_4 eg_2 er_3 ex_4 ex_5; first | (simp only [sumI, c_11, Int32.not_le.mp c_11, c_22, if_true, if_false, ite_true, ite_false, reduceIte, not_true, not_false_iff]; done) | simp [sumI, c_11, Int32.not_le.mp c_11, c_22]) hP hS (lv_sub hl [0, 1, 2, 3] rfl)
      · refine lv_aload_n K.1.1 K.1.2.1 dX11_gainsOf_25 rfl (lv_at hl 2 rfl) ?_
        refine lv_iload_n K.1.1 K.1.2.1 dX11_gainsOf_26 rfl (lv_at hl 0 rfl) ?_
        refine m_cV (n := 1) (As := [.int v3_4]) (rest := [.int v2_4]) K hP hS (MX11_fillOf l G B _ v3_4 hI (by subst ev3_4 ev2_4 eg_2 er_3; first | assumption | exact MI_k hI (by assumption) | exact MI_w hI (by first | assumption | exact MI_k hI (by assumption)) | exact MI_t hI (by assumption))) (by decide) sh_259 rfl q_1363 q_1365 q_54 q_91 q_1366 hv_X11_fillOf ⟨Nat.le_of_ble_eq_true rfl, Nat.le_of_ble_eq_true rfl⟩ rfl hl.1 rfl (Nat.le_of_ble_eq_true rfl) dX11_gainsOf_27 ⟨Nat.zero_le _, Nat.zero_le _⟩ (fun H locs hP hS => ?_)
        refine lv_topi (fun r_6 er_6 => ?_)
        refine lv_aload_n K.1.1 K.1.2.1 dX11_gainsOf_30 rfl (lv_at hl 2 rfl) ?_
        refine m_geti K hP (by decide) sh_259 rfl tuX11 7 (by decide) rfl q_1157 dX11_gainsOf_31 ?_
        refine lv_topi (fun g_7 eg_7 => ?_)
        refine lv_if_ne (tgt := 41) K.1.1 K.1.2.1 dX11_gainsOf_34 (by decide) (fun c_34 => ?_) (fun c_34 => ?_)
        · refine lv_aload_n K.1.1 K.1.2.1 dX11_gainsOf_41 rfl (lv_at hl 2 rfl) ?_
          refine lv_iload_n K.1.1 K.1.2.1 dX11_gainsOf_42 rfl (lv_at hl 0 rfl) ?_
          refine m_cV (n := 1) (As := [.int v3_4]) (rest := [.int r_6, .int v2_4]) K hP hS (MX11_gainOf l G B _ v3_4 hI (by subst ev3_4 ev2_4 eg_2 er_3 er_6 eg_7; first | assumption | exact MI_k hI (by assumption) | exact MI_w hI (by first | assumption | exact MI_k hI (by assumption)) | exact MI_t hI (by assumption))) (by decide) sh_259 rfl q_1379 q_1381 q_58 q_91 q_1382 hv_X11_gainOf ⟨Nat.le_of_ble_eq_true rfl, Nat.le_of_ble_eq_true rfl⟩ rfl hl.1 rfl (Nat.le_of_ble_eq_true rfl) dX11_gainsOf_43 ⟨Nat.zero_le _, Nat.zero_le _⟩ (fun H locs hP hS => ?_)
          refine lv_topi (fun r_8 er_8 => ?_)
          refine lv_imul K.1.1 K.1.2.1 dX11_gainsOf_46 ?_
          refine lv_goto (tgt := 51) K.1.1 K.1.2.1 dX11_gainsOf_47 (by decide) ?_
          refine lv_iadd K.1.1 K.1.2.1 dX11_gainsOf_51 ?_
          refine lv_topi (fun x_9 ex_9 => ?_)
          refine lv_istore_n (lv' := [(2, .int x_9), (3, .int v3_4), (0, .ref (B + 259)), (1, .int t)]) K.1.1 K.1.2.1 dX11_gainsOf_52 rfl hl (by decide) rfl (fun ls hl => ?_)
          obtain ⟨x_10, ex_10⟩ : ∃ y : Int32, y = v3_4 + (1) := ⟨_, rfl⟩
          refine lv_iinc (v := x_10) (lv' := [(3, .int x_10), (2, .int x_9), (0, .ref (B + 259)), (1, .int t)]) K.1.1 K.1.2.1 dX11_gainsOf_53 hl (k := 1) rfl (by rw [ex_10]; rfl) (by decide) rfl (fun ls hl => ?_)
          refine lv_goto (tgt := 4) K.1.1 K.1.2.1 dX11_gainsOf_56 (by decide) ?_
          exact ih_4 _ _ _ _ _ (by subst ev3_4 ev2_4 eg_2 er_3 er_6 eg_7 er_8 ex_9 ex_10; exact nI_1 _) (by subst ev3_4 ev2_4 eg_2 er_3 er_6 eg_7 er_8 ex_9 ex_10; first | (simp only [sumI, c_11, Int32.not_le.mp c_11, c_22, c_34, if_true, if_false, ite_true, ite_false, reduceIte, not_true, not_false_iff]; done) | simp [sumI, c_11, Int32.not_le.mp c_11, c_22, c_34]) hP hS (lv_sub hl [0, 1, 2, 3] rfl)
        · refine lv_iconst (v := 0) K.1.1 K.1.2.1 dX11_gainsOf_37 (by decide) ?_
          refine lv_goto (tgt := 46) K.1.1 K.1.2.1 dX11_gainsOf_38 (by decide) ?_
          refine lv_imul K.1.1 K.1.2.1 dX11_gainsOf_46 ?_
          refine lv_goto (tgt := 51) K.1.1 K.1.2.1 dX11_gainsOf_47 (by decide) ?_
          refine lv_iadd K.1.1 K.1.2.1 dX11_gainsOf_51 ?_
          refine lv_topi (fun x_11 ex_11 => ?_)
          refine lv_istore_n (lv' := [(2, .int x_11), (3, .int v3_4), (0, .ref (B + 259)), (1, .int t)]) K.1.1 K.1.2.1 dX11_gainsOf_52 rfl hl (by decide) rfl (fun ls hl => ?_)
          obtain ⟨x_12, ex_12⟩ : ∃ y : Int32, y = v3_4 + (1) := ⟨_, rfl⟩
          refine lv_iinc (v := x_12) (lv' := [(3, .int x_12), (2, .int x_11), (0, .ref (B + 259)), (1, .int t)]) K.1.1 K.1.2.1 dX11_gainsOf_53 hl (k := 1) rfl (by rw [ex_12]; rfl) (by decide) rfl (fun ls hl => ?_)
          refine lv_goto (tgt := 4) K.1.1 K.1.2.1 dX11_gainsOf_56 (by decide) ?_
          exact ih_4 _ _ _ _ _ (by subst ev3_4 ev2_4 eg_2 er_3 er_6 eg_7 ex_11 ex_12; exact nI_1 _) (by subst ev3_4 ev2_4 eg_2 er_3 er_6 eg_7 ex_11 ex_12; first | (simp only [sumI, c_11, Int32.not_le.mp c_11, c_22, c_34, if_true, if_false, ite_true, ite_false, reduceIte, not_true, not_false_iff]; done) | simp [sumI, c_11, Int32.not_le.mp c_11, c_22, c_34]) hP hS (lv_sub hl [0, 1, 2, 3] rfl)

set_option maxHeartbeats 4000000 in
set_option maxRecDepth 100000 in
theorem MX11_surplusNow (l : Launch) (G : GG) (B : Nat) (μ : Mm) (hI : MI μ) : CM l yX11_surplusNow (.code yX11_surplusNow cX11_surplusNow 3 (Option.some FieldType.int)) 5 114 G B [.ref (B + 259)] μ (some (.int (M_surplusNow μ))) μ := by
  refine CM.of (by decide) (Nat.le_of_ble_eq_true rfl) ?_
  intro p e s m below meth c ls K hr hlocks hP hl
  have hS : va_S (AA B) s.heap s.heap [] := va_S.rf
  have hl : lv_has ls 3 [(0, .ref (B + 259))] := hl
  refine lv_iconst (v := 0) K.1.1 K.1.2.1 dX11_surplusNow_0 (by decide) ?_
  refine lv_istore_n (lv' := [(1, .int 0), (0, .ref (B + 259))]) K.1.1 K.1.2.1 dX11_surplusNow_1 rfl hl (by decide) rfl (fun ls hl => ?_)
  refine lv_iconst (v := 0) K.1.1 K.1.2.1 dX11_surplusNow_2 (by decide) ?_
  refine lv_istore_n (lv' := [(2, .int 0), (1, .int 0), (0, .ref (B + 259))]) K.1.1 K.1.2.1 dX11_surplusNow_3 rfl hl (by decide) rfl (fun ls hl => ?_)
  refine up_to (N := cn (μ 260 0)) (P := fun k : Nat => ∀ (v2_4 : Int32) (v1_4 : Int32) (H : Heap) (locs : List Loc) (ls : Array Slot), (v2_4 = nI k) → (v1_4 = sumI (fun t => M_gainsOf μ (nI t)) k) → MP G B μ H → va_S (AA B) s.heap H locs → lv_has ls 3 [(2, .int v2_4), (1, .int v1_4), (0, .ref (B + 259))] → W p l e ({ frames := 5, cells := 0, slots := 0, locals := 114 } : Room) s m ([.ref (B + 259)] : List Value).toArray below meth c H locs 0 0 (MF below G B (some (.int (M_surplusNow μ))) μ ([.ref (B + 259)] : List Value).toArray s) (F0 m 4 ls [])) ?_ ?_ _ _ _ _ _ (by first | rfl | (skip; rfl)) (by first | rfl | (skip; rfl)) hP hS (lv_sub hl [0, 1, 2] rfl)
  · intro v2_4 v1_4 H locs ls ev2_4 ev1_4 hP hS hl
    refine lv_iload_n K.1.1 K.1.2.1 dX11_surplusNow_4 rfl (lv_at hl 0 rfl) ?_
    refine lv_aload_n K.1.1 K.1.2.1 dX11_surplusNow_5 rfl (lv_at hl 2 rfl) ?_
    refine m_getr K hP (by decide) sh_259 rfl tuX11 0 (by decide) rfl q_1150 dX11_surplusNow_6 ?_
    refine lv_iconst (v := 0) K.1.1 K.1.2.1 dX11_surplusNow_9 (by decide) ?_
    refine m_iald K hP (by decide) sh_260 (n := 267) (vpd rfl) dX11_surplusNow_10 ?_
    refine lv_topi (fun g_1 eg_1 => ?_)
    have eg_1 : g_1 = (_ : Mm) 260 0 := eg_1
    refine lv_icmp_ge (tgt := 28) K.1.1 K.1.2.1 dX11_surplusNow_11 (by decide) (fun c_11 => ?_) (fun c_11 => ?_)
    · refine lv_iload_n K.1.1 K.1.2.1 dX11_surplusNow_28 rfl (lv_at hl 1 rfl) ?_
      exact m_iret K hr hlocks hP hS dX11_surplusNow_29 (by subst ev2_4 ev1_4 eg_1; rfl) rfl
    · exact absurd c_11 (not_not_intro (by subst ev2_4 ev1_4 eg_1; exact cn_out _))
  · intro k hk ih_4 v2_4 v1_4 H locs ls ev2_4 ev1_4 hP hS hl
    refine lv_iload_n K.1.1 K.1.2.1 dX11_surplusNow_4 rfl (lv_at hl 0 rfl) ?_
    refine lv_aload_n K.1.1 K.1.2.1 dX11_surplusNow_5 rfl (lv_at hl 2 rfl) ?_
    refine m_getr K hP (by decide) sh_259 rfl tuX11 0 (by decide) rfl q_1150 dX11_surplusNow_6 ?_
    refine lv_iconst (v := 0) K.1.1 K.1.2.1 dX11_surplusNow_9 (by decide) ?_
    refine m_iald K hP (by decide) sh_260 (n := 267) (vpd rfl) dX11_surplusNow_10 ?_
    refine lv_topi (fun g_2 eg_2 => ?_)
    have eg_2 : g_2 = (_ : Mm) 260 0 := eg_2
    refine lv_icmp_ge (tgt := 28) K.1.1 K.1.2.1 dX11_surplusNow_11 (by decide) (fun c_11 => ?_) (fun c_11 => ?_)
    · exact absurd c_11 (by subst ev2_4 ev1_4 eg_2; exact cn_in hk)
    · refine lv_iload_n K.1.1 K.1.2.1 dX11_surplusNow_14 rfl (lv_at hl 1 rfl) ?_
      refine lv_aload_n K.1.1 K.1.2.1 dX11_surplusNow_15 rfl (lv_at hl 2 rfl) ?_
      refine lv_iload_n K.1.1 K.1.2.1 dX11_surplusNow_16 rfl (lv_at hl 0 rfl) ?_
      refine m_cV (n := 1) (As := [.int v2_4]) (rest := [.int v1_4]) K hP hS (MX11_gainsOf l G B _ v2_4 hI) (by decide) sh_259 rfl q_1375 q_1377 q_57 q_91 q_1378 hv_X11_gainsOf ⟨Nat.le_of_ble_eq_true rfl, Nat.le_of_ble_eq_true rfl⟩ rfl hl.1 rfl (Nat.le_of_ble_eq_true rfl) dX11_surplusNow_17 ⟨Nat.zero_le _, Nat.zero_le _⟩ (fun H locs hP hS => ?_)
      refine lv_topi (fun r_3 er_3 => ?_)
      refine lv_iadd K.1.1 K.1.2.1 dX11_surplusNow_20 ?_
      refine lv_topi (fun x_4 ex_4 => ?_)
      refine lv_istore_n (lv' := [(1, .int x_4), (2, .int v2_4), (0, .ref (B + 259))]) K.1.1 K.1.2.1 dX11_surplusNow_21 rfl hl (by decide) rfl (fun ls hl => ?_)
      obtain ⟨x_5, ex_5⟩ : ∃ y : Int32, y = v2_4 + (1) := ⟨_, rfl⟩
      refine lv_iinc (v := x_5) (lv' := [(2, .int x_5), (1, .int x_4), (0, .ref (B + 259))]) K.1.1 K.1.2.1 dX11_surplusNow_22 hl (k := 1) rfl (by rw [ex_5]; rfl) (by decide) rfl (fun ls hl => ?_)
      refine lv_goto (tgt := 4) K.1.1 K.1.2.1 dX11_surplusNow_25 (by decide) ?_
      exact ih_4 _ _ _ _ _ (by subst ev2_4 ev1_4 eg_2 er_3 ex_4 ex_5; exact nI_1 _) (by subst ev2_4 ev1_4 eg_2 er_3 ex_4 ex_5; rfl) hP hS (lv_sub hl [0, 1, 2] rfl)

set_option maxHeartbeats 4000000 in
set_option maxRecDepth 100000 in
theorem MX11_unitsBy (l : Launch) (G : GG) (B : Nat) (μ : Mm) (sd : Int32) (v : Int32) (hI : MI μ) : CM l yX11_unitsBy (.code yX11_unitsBy cX11_unitsBy 5 (Option.some FieldType.int)) 2 43 G B [.ref (B + 259), .int sd, .int v] μ (some (.int (M_unitsBy μ sd v))) μ := by
  refine CM.of (by decide) (Nat.le_of_ble_eq_true rfl) ?_
  intro p e s m below meth c ls K hr hlocks hP hl
  have hS : va_S (AA B) s.heap s.heap [] := va_S.rf
  have hl : lv_has ls 5 [(0, .ref (B + 259)), (1, .int sd), (2, .int v)] := hl
  refine lv_iconst (v := 0) K.1.1 K.1.2.1 dX11_unitsBy_0 (by decide) ?_
  refine lv_istore_n (lv' := [(3, .int 0), (0, .ref (B + 259)), (1, .int sd), (2, .int v)]) K.1.1 K.1.2.1 dX11_unitsBy_1 rfl hl (by decide) rfl (fun ls hl => ?_)
  refine lv_iconst (v := 0) K.1.1 K.1.2.1 dX11_unitsBy_2 (by decide) ?_
  refine lv_istore (lv' := [(4, .int 0), (3, .int 0), (0, .ref (B + 259)), (1, .int sd), (2, .int v)]) K.1.1 K.1.2.1 dX11_unitsBy_3 hl (by decide) rfl (fun ls hl => ?_)
  refine up_to (N := cn (μ 260 1)) (P := fun k : Nat => ∀ (v4_5 : Int32) (v3_5 : Int32) (H : Heap) (locs : List Loc) (ls : Array Slot), (v4_5 = nI k) → (v3_5 = sumI (fun k => if M_side μ (nI k) = sd then (if M_val μ (nI k) = v then M_o μ (nI k) 3 else 0) else 0) k) → MP G B μ H → va_S (AA B) s.heap H locs → lv_has ls 5 [(4, .int v4_5), (3, .int v3_5), (0, .ref (B + 259)), (1, .int sd), (2, .int v)] → W p l e ({ frames := 2, cells := 0, slots := 0, locals := 43 } : Room) s m ([.ref (B + 259), .int sd, .int v] : List Value).toArray below meth c H locs 0 0 (MF below G B (some (.int (M_unitsBy μ sd v))) μ ([.ref (B + 259), .int sd, .int v] : List Value).toArray s) (F0 m 5 ls [])) ?_ ?_ _ _ _ _ _ (by first | rfl | (skip; rfl)) (by first | rfl | (skip; rfl)) hP hS (lv_sub hl [0, 1, 2, 3, 4] rfl)
  · intro v4_5 v3_5 H locs ls ev4_5 ev3_5 hP hS hl
    refine lv_iload K.1.1 K.1.2.1 dX11_unitsBy_5 (lv_at hl 0 rfl) ?_
    refine lv_aload_n K.1.1 K.1.2.1 dX11_unitsBy_7 rfl (lv_at hl 2 rfl) ?_
    refine m_getr K hP (by decide) sh_259 rfl tuX11 0 (by decide) rfl q_1150 dX11_unitsBy_8 ?_
    refine lv_iconst (v := 1) K.1.1 K.1.2.1 dX11_unitsBy_11 (by decide) ?_
    refine m_iald K hP (by decide) sh_260 (n := 267) (vpd rfl) dX11_unitsBy_12 ?_
    refine lv_topi (fun g_1 eg_1 => ?_)
    have eg_1 : g_1 = (_ : Mm) 260 1 := eg_1
    refine lv_icmp_ge (tgt := 62) K.1.1 K.1.2.1 dX11_unitsBy_13 (by decide) (fun c_13 => ?_) (fun c_13 => ?_)
    · refine lv_iload_n K.1.1 K.1.2.1 dX11_unitsBy_62 rfl (lv_at hl 1 rfl) ?_
      exact m_iret K hr hlocks hP hS dX11_unitsBy_63 (by subst ev4_5 ev3_5 eg_1; rfl) rfl
    · exact absurd c_13 (not_not_intro (by subst ev4_5 ev3_5 eg_1; exact cn_out _))
  · intro k hk ih_5 v4_5 v3_5 H locs ls ev4_5 ev3_5 hP hS hl
    refine lv_iload K.1.1 K.1.2.1 dX11_unitsBy_5 (lv_at hl 0 rfl) ?_
    refine lv_aload_n K.1.1 K.1.2.1 dX11_unitsBy_7 rfl (lv_at hl 2 rfl) ?_
    refine m_getr K hP (by decide) sh_259 rfl tuX11 0 (by decide) rfl q_1150 dX11_unitsBy_8 ?_
    refine lv_iconst (v := 1) K.1.1 K.1.2.1 dX11_unitsBy_11 (by decide) ?_
    refine m_iald K hP (by decide) sh_260 (n := 267) (vpd rfl) dX11_unitsBy_12 ?_
    refine lv_topi (fun g_2 eg_2 => ?_)
    have eg_2 : g_2 = (_ : Mm) 260 1 := eg_2
    refine lv_icmp_ge (tgt := 62) K.1.1 K.1.2.1 dX11_unitsBy_13 (by decide) (fun c_13 => ?_) (fun c_13 => ?_)
    · exact absurd c_13 (by subst ev4_5 ev3_5 eg_2; exact cn_in hk)
    · refine lv_iload_n K.1.1 K.1.2.1 dX11_unitsBy_16 rfl (lv_at hl 1 rfl) ?_
      refine lv_aload_n K.1.1 K.1.2.1 dX11_unitsBy_17 rfl (lv_at hl 2 rfl) ?_
      refine lv_iload K.1.1 K.1.2.1 dX11_unitsBy_18 (lv_at hl 0 rfl) ?_
      refine m_cV (n := 1) (As := [.int v4_5]) (rest := [.int v3_5]) K hP hS (MX11_sideOf l G B _ v4_5 hI (by subst ev4_5 ev3_5 eg_2; first | assumption | exact MI_k hI (by assumption) | exact MI_w hI (by first | assumption | exact MI_k hI (by assumption)) | exact MI_t hI (by assumption))) (by decide) sh_259 rfl q_1339 q_1341 q_48 q_91 q_1342 hv_X11_sideOf ⟨Nat.le_of_ble_eq_true rfl, Nat.le_of_ble_eq_true rfl⟩ rfl hl.1 rfl (Nat.le_of_ble_eq_true rfl) dX11_unitsBy_20 ⟨Nat.zero_le _, Nat.zero_le _⟩ (fun H locs hP hS => ?_)
      refine lv_topi (fun r_3 er_3 => ?_)
      refine lv_iload_n K.1.1 K.1.2.1 dX11_unitsBy_23 rfl (lv_at hl 3 rfl) ?_
      refine lv_icmp_ne (tgt := 53) K.1.1 K.1.2.1 dX11_unitsBy_24 (by decide) (fun c_24 => ?_) (fun c_24 => ?_)
      · refine lv_iconst (v := 0) K.1.1 K.1.2.1 dX11_unitsBy_53 (by decide) ?_
        refine lv_iadd K.1.1 K.1.2.1 dX11_unitsBy_54 ?_
        refine lv_topi (fun x_4 ex_4 => ?_)
        refine lv_istore_n (lv' := [(3, .int x_4), (4, .int v4_5), (0, .ref (B + 259)), (1, .int sd), (2, .int v)]) K.1.1 K.1.2.1 dX11_unitsBy_55 rfl hl (by decide) rfl (fun ls hl => ?_)
        obtain ⟨x_5, ex_5⟩ : ∃ y : Int32, y = v4_5 + (1) := ⟨_, rfl⟩
        refine lv_iinc (v := x_5) (lv' := [(4, .int x_5), (3, .int x_4), (0, .ref (B + 259)), (1, .int sd), (2, .int v)]) K.1.1 K.1.2.1 dX11_unitsBy_56 hl (k := 1) rfl (by rw [ex_5]; rfl) (by decide) rfl (fun ls hl => ?_)
        refine lv_goto (tgt := 5) K.1.1 K.1.2.1 dX11_unitsBy_59 (by decide) ?_
        exact ih_5 _ _ _ _ _ (by subst ev4_5 ev3_5 eg_2 er_3 ex_4 ex_5; exact nI_1 _) (by subst ev4_5 ev3_5 eg_2 er_3 ex_4 ex_5; first | (simp only [sumI, M_val, c_13, Int32.not_le.mp c_13, c_24, if_true, if_false, ite_true, ite_false, reduceIte, not_true, not_false_iff]; done) | simp [sumI, M_val, c_13, Int32.not_le.mp c_13, c_24]) hP hS (lv_sub hl [0, 1, 2, 3, 4] rfl)
      · refine lv_aload_n K.1.1 K.1.2.1 dX11_unitsBy_27 rfl (lv_at hl 2 rfl) ?_
        refine lv_aload_n K.1.1 K.1.2.1 dX11_unitsBy_28 rfl (lv_at hl 2 rfl) ?_
        refine lv_iload K.1.1 K.1.2.1 dX11_unitsBy_29 (lv_at hl 0 rfl) ?_
        refine lv_iconst (v := 1) K.1.1 K.1.2.1 dX11_unitsBy_31 (by decide) ?_
        refine m_cV (n := 2) (As := [.int v4_5, .int 1]) (rest := [.ref (B + 259), .int v3_5]) K hP hS (MX11_ofO l G B _ v4_5 1 (loO (by subst ev4_5 ev3_5 eg_2 er_3; first | assumption | exact MI_k hI (by assumption) | exact MI_w hI (by first | assumption | exact MI_k hI (by assumption)) | exact MI_t hI (by assumption)) (vpd rfl))) (by decide) sh_259 rfl q_1291 q_1293 q_39 q_91 q_1294 hv_X11_ofO ⟨Nat.le_of_ble_eq_true rfl, Nat.le_of_ble_eq_true rfl⟩ rfl hl.1 rfl (Nat.le_of_ble_eq_true rfl) dX11_unitsBy_32 ⟨Nat.zero_le _, Nat.zero_le _⟩ (fun H locs hP hS => ?_)
        refine lv_topi (fun r_6 er_6 => ?_)
        refine lv_iconst (v := 1) K.1.1 K.1.2.1 dX11_unitsBy_35 (by decide) ?_
        refine m_cV (n := 2) (As := [.int r_6, .int 1]) (rest := [.int v3_5]) K hP hS (MX11_ofT l G B _ r_6 1 (loT (by subst ev4_5 ev3_5 eg_2 er_3 er_6; first | assumption | exact MI_k hI (by assumption) | exact MI_w hI (by first | assumption | exact MI_k hI (by assumption)) | exact MI_t hI (by assumption)) (vpd rfl))) (by decide) sh_259 rfl q_1240 q_1242 q_30 q_91 q_1243 hv_X11_ofT ⟨Nat.le_of_ble_eq_true rfl, Nat.le_of_ble_eq_true rfl⟩ rfl hl.1 rfl (Nat.le_of_ble_eq_true rfl) dX11_unitsBy_36 ⟨Nat.zero_le _, Nat.zero_le _⟩ (fun H locs hP hS => ?_)
        refine lv_topi (fun r_7 er_7 => ?_)
        refine lv_iload_n K.1.1 K.1.2.1 dX11_unitsBy_39 rfl (lv_at hl 4 rfl) ?_
        refine lv_icmp_ne (tgt := 53) K.1.1 K.1.2.1 dX11_unitsBy_40 (by decide) (fun c_40 => ?_) (fun c_40 => ?_)
        · refine lv_iconst (v := 0) K.1.1 K.1.2.1 dX11_unitsBy_53 (by decide) ?_
          refine lv_iadd K.1.1 K.1.2.1 dX11_unitsBy_54 ?_
          refine lv_topi (fun x_8 ex_8 => ?_)
          refine lv_istore_n (lv' := [(3, .int x_8), (4, .int v4_5), (0, .ref (B + 259)), (1, .int sd), (2, .int v)]) K.1.1 K.1.2.1 dX11_unitsBy_55 rfl hl (by decide) rfl (fun ls hl => ?_)
          obtain ⟨x_9, ex_9⟩ : ∃ y : Int32, y = v4_5 + (1) := ⟨_, rfl⟩
          refine lv_iinc (v := x_9) (lv' := [(4, .int x_9), (3, .int x_8), (0, .ref (B + 259)), (1, .int sd), (2, .int v)]) K.1.1 K.1.2.1 dX11_unitsBy_56 hl (k := 1) rfl (by rw [ex_9]; rfl) (by decide) rfl (fun ls hl => ?_)
          refine lv_goto (tgt := 5) K.1.1 K.1.2.1 dX11_unitsBy_59 (by decide) ?_
          exact ih_5 _ _ _ _ _ (by subst ev4_5 ev3_5 eg_2 er_3 er_6 er_7 ex_8 ex_9; exact nI_1 _) (by subst ev4_5 ev3_5 eg_2 er_3 er_6 er_7 ex_8 ex_9; first | (simp only [sumI, M_val, c_13, Int32.not_le.mp c_13, c_24, c_40, if_true, if_false, ite_true, ite_false, reduceIte, not_true, not_false_iff]; done) | simp [sumI, M_val, c_13, Int32.not_le.mp c_13, c_24, c_40]) hP hS (lv_sub hl [0, 1, 2, 3, 4] rfl)
        · refine lv_aload_n K.1.1 K.1.2.1 dX11_unitsBy_43 rfl (lv_at hl 2 rfl) ?_
          refine lv_iload K.1.1 K.1.2.1 dX11_unitsBy_44 (lv_at hl 0 rfl) ?_
          refine lv_iconst (v := 3) K.1.1 K.1.2.1 dX11_unitsBy_46 (by decide) ?_
          refine m_cV (n := 2) (As := [.int v4_5, .int 3]) (rest := [.int v3_5]) K hP hS (MX11_ofO l G B _ v4_5 3 (loO (by subst ev4_5 ev3_5 eg_2 er_3 er_6 er_7; first | assumption | exact MI_k hI (by assumption) | exact MI_w hI (by first | assumption | exact MI_k hI (by assumption)) | exact MI_t hI (by assumption)) (vpd rfl))) (by decide) sh_259 rfl q_1291 q_1293 q_39 q_91 q_1294 hv_X11_ofO ⟨Nat.le_of_ble_eq_true rfl, Nat.le_of_ble_eq_true rfl⟩ rfl hl.1 rfl (Nat.le_of_ble_eq_true rfl) dX11_unitsBy_47 ⟨Nat.zero_le _, Nat.zero_le _⟩ (fun H locs hP hS => ?_)
          refine lv_topi (fun r_10 er_10 => ?_)
          refine lv_goto (tgt := 54) K.1.1 K.1.2.1 dX11_unitsBy_50 (by decide) ?_
          refine lv_iadd K.1.1 K.1.2.1 dX11_unitsBy_54 ?_
          refine lv_topi (fun x_11 ex_11 => ?_)
          refine lv_istore_n (lv' := [(3, .int x_11), (4, .int v4_5), (0, .ref (B + 259)), (1, .int sd), (2, .int v)]) K.1.1 K.1.2.1 dX11_unitsBy_55 rfl hl (by decide) rfl (fun ls hl => ?_)
          obtain ⟨x_12, ex_12⟩ : ∃ y : Int32, y = v4_5 + (1) := ⟨_, rfl⟩
          refine lv_iinc (v := x_12) (lv' := [(4, .int x_12), (3, .int x_11), (0, .ref (B + 259)), (1, .int sd), (2, .int v)]) K.1.1 K.1.2.1 dX11_unitsBy_56 hl (k := 1) rfl (by rw [ex_12]; rfl) (by decide) rfl (fun ls hl => ?_)
          refine lv_goto (tgt := 5) K.1.1 K.1.2.1 dX11_unitsBy_59 (by decide) ?_
          exact ih_5 _ _ _ _ _ (by subst ev4_5 ev3_5 eg_2 er_3 er_6 er_7 er_10 ex_11 ex_12; exact nI_1 _) (by subst ev4_5 ev3_5 eg_2 er_3 er_6 er_7 er_10 ex_11 ex_12; first | (simp only [sumI, M_val, c_13, Int32.not_le.mp c_13, c_24, c_40, if_true, if_false, ite_true, ite_false, reduceIte, not_true, not_false_iff]; done) | simp [sumI, M_val, c_13, Int32.not_le.mp c_13, c_24, c_40]) hP hS (lv_sub hl [0, 1, 2, 3, 4] rfl)

