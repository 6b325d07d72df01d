set_option maxHeartbeats 4000000 in
set_option maxRecDepth 100000 in
theorem MX11_isAhead (l : Launch) (G : GG) (B : Nat) (μ : Mm) (k : Int32) (j : Int32) (hI : MI μ) (hk : vp_in k 20) (hj : vp_in j 20) : CM l yX11_isAhead (.code yX11_isAhead cX11_isAhead 6 (Option.some FieldType.boolean)) 2 43 G B [.ref (B + 259), .int k, .int j] μ (some (.int (M_isAhead μ k j))) μ := by
  refine CM.of (by decide) (Nat.le_of_ble_eq_true rfl) ?_
  intro p e s m below meth c ls K hr hlocks hP hl
  have hS : va_S (AA B) s.heap s.heap [] := va_S.rf
  have hl : lv_has ls 6 [(0, .ref (B + 259)), (1, .int k), (2, .int j)] := hl
  refine lv_aload_n K.1.1 K.1.2.1 dX11_isAhead_0 rfl (lv_at hl 0 rfl) ?_
  refine lv_iload_n K.1.1 K.1.2.1 dX11_isAhead_1 rfl (lv_at hl 1 rfl) ?_
  refine m_cV (n := 1) (As := [.int k]) (rest := []) K hP hS (MX11_sideOf l G B _ k hI (by skip; first | assumption | exact MI_k hI (by assumption) | exact MI_w hI (by first | assumption | exact MI_k hI (by assumption)) | exact MI_t hI (by assumption))) (by decide) sh_259 rfl q_1339 q_1341 q_48 q_91 q_1342 hv_X11_sideOf ⟨Nat.le_of_ble_eq_true rfl, Nat.le_of_ble_eq_true rfl⟩ rfl hl.1 rfl (Nat.le_of_ble_eq_true rfl) dX11_isAhead_2 ⟨Nat.zero_le _, Nat.zero_le _⟩ (fun H locs hP hS => ?_)
  refine lv_topi (fun r_1 er_1 => ?_)
  refine lv_aload_n K.1.1 K.1.2.1 dX11_isAhead_5 rfl (lv_at hl 0 rfl) ?_
  refine lv_iload_n K.1.1 K.1.2.1 dX11_isAhead_6 rfl (lv_at hl 2 rfl) ?_
  refine m_cV (n := 1) (As := [.int j]) (rest := [.int r_1]) K hP hS (MX11_sideOf l G B _ j hI (by subst er_1; first | assumption | exact MI_k hI (by assumption) | exact MI_w hI (by first | assumption | exact MI_k hI (by assumption)) | exact MI_t hI (by assumption))) (by decide) sh_259 rfl q_1339 q_1341 q_48 q_91 q_1342 hv_X11_sideOf ⟨Nat.le_of_ble_eq_true rfl, Nat.le_of_ble_eq_true rfl⟩ rfl hl.1 rfl (Nat.le_of_ble_eq_true rfl) dX11_isAhead_7 ⟨Nat.zero_le _, Nat.zero_le _⟩ (fun H locs hP hS => ?_)
  refine lv_topi (fun r_2 er_2 => ?_)
  refine lv_icmp_ne (tgt := 18) K.1.1 K.1.2.1 dX11_isAhead_10 (by decide) (fun c_10 => ?_) (fun c_10 => ?_)
  · refine lv_iconst (v := 0) K.1.1 K.1.2.1 dX11_isAhead_18 (by decide) ?_
    exact m_zret K hr hlocks hP hS dX11_isAhead_19 (by first | rfl | (subst er_1 er_2; rfl)) (by subst er_1 er_2; rw [M_isAhead, if_neg c_10]) rfl
  · refine lv_iload_n K.1.1 K.1.2.1 dX11_isAhead_13 rfl (lv_at hl 1 rfl) ?_
    refine lv_iload_n K.1.1 K.1.2.1 dX11_isAhead_14 rfl (lv_at hl 2 rfl) ?_
    refine lv_icmp_ne (tgt := 20) K.1.1 K.1.2.1 dX11_isAhead_15 (by decide) (fun c_15 => ?_) (fun c_15 => ?_)
    · refine lv_aload_n K.1.1 K.1.2.1 dX11_isAhead_20 rfl (lv_at hl 0 rfl) ?_
      refine lv_iload_n K.1.1 K.1.2.1 dX11_isAhead_21 rfl (lv_at hl 1 rfl) ?_
      refine lv_iconst (v := 2) K.1.1 K.1.2.1 dX11_isAhead_22 (by decide) ?_
      refine m_cV (n := 2) (As := [.int k, .int 2]) (rest := []) K hP hS (MX11_ofO l G B _ k 2 (loO (by subst er_1 er_2; first | assumption | exact MI_k hI (by assumption) | exact MI_w hI (by first | assumption | exact MI_k hI (by assumption)) | exact MI_t hI (by assumption)) (vpd rfl))) (by decide) sh_259 rfl q_1291 q_1293 q_39 q_91 q_1294 hv_X11_ofO ⟨Nat.le_of_ble_eq_true rfl, Nat.le_of_ble_eq_true rfl⟩ rfl hl.1 rfl (Nat.le_of_ble_eq_true rfl) dX11_isAhead_23 ⟨Nat.zero_le _, Nat.zero_le _⟩ (fun H locs hP hS => ?_)
      refine lv_topi (fun r_3 er_3 => ?_)
      refine lv_istore_n (lv' := [(3, .int r_3), (0, .ref (B + 259)), (1, .int k), (2, .int j)]) K.1.1 K.1.2.1 dX11_isAhead_26 rfl hl (by decide) rfl (fun ls hl => ?_)
      refine lv_aload_n K.1.1 K.1.2.1 dX11_isAhead_27 rfl (lv_at hl 1 rfl) ?_
      refine lv_iload_n K.1.1 K.1.2.1 dX11_isAhead_28 rfl (lv_at hl 3 rfl) ?_
      refine lv_iconst (v := 2) K.1.1 K.1.2.1 dX11_isAhead_29 (by decide) ?_
      refine m_cV (n := 2) (As := [.int j, .int 2]) (rest := []) K hP hS (MX11_ofO l G B _ j 2 (loO (by subst er_1 er_2 er_3; first | assumption | exact MI_k hI (by assumption) | exact MI_w hI (by first | assumption | exact MI_k hI (by assumption)) | exact MI_t hI (by assumption)) (vpd rfl))) (by decide) sh_259 rfl q_1291 q_1293 q_39 q_91 q_1294 hv_X11_ofO ⟨Nat.le_of_ble_eq_true rfl, Nat.le_of_ble_eq_true rfl⟩ rfl hl.1 rfl (Nat.le_of_ble_eq_true rfl) dX11_isAhead_30 ⟨Nat.zero_le _, Nat.zero_le _⟩ (fun H locs hP hS => ?_)
      refine lv_topi (fun r_4 er_4 => ?_)
      refine lv_istore (lv' := [(4, .int r_4), (3, .int r_3), (0, .ref (B + 259)), (1, .int k), (2, .int j)]) K.1.1 K.1.2.1 dX11_isAhead_33 hl (by decide) rfl (fun ls hl => ?_)
      refine lv_aload_n K.1.1 K.1.2.1 dX11_isAhead_35 rfl (lv_at hl 2 rfl) ?_
      refine lv_iload_n K.1.1 K.1.2.1 dX11_isAhead_36 rfl (lv_at hl 3 rfl) ?_
      refine m_cV (n := 1) (As := [.int k]) (rest := []) K hP hS (MX11_sideOf l G B _ k hI (by subst er_1 er_2 er_3 er_4; first | assumption | exact MI_k hI (by assumption) | exact MI_w hI (by first | assumption | exact MI_k hI (by assumption)) | exact MI_t hI (by assumption))) (by decide) sh_259 rfl q_1339 q_1341 q_48 q_91 q_1342 hv_X11_sideOf ⟨Nat.le_of_ble_eq_true rfl, Nat.le_of_ble_eq_true rfl⟩ rfl hl.1 rfl (Nat.le_of_ble_eq_true rfl) dX11_isAhead_37 ⟨Nat.zero_le _, Nat.zero_le _⟩ (fun H locs hP hS => ?_)
      refine lv_topi (fun r_5 er_5 => ?_)
      refine lv_if_ne (tgt := 57) K.1.1 K.1.2.1 dX11_isAhead_40 (by decide) (fun c_40 => ?_) (fun c_40 => ?_)
      · refine lv_iload_n K.1.1 K.1.2.1 dX11_isAhead_57 rfl (lv_at hl 1 rfl) ?_
        refine lv_iload K.1.1 K.1.2.1 dX11_isAhead_58 (lv_at hl 0 rfl) ?_
        refine lv_icmp_ge (tgt := 67) K.1.1 K.1.2.1 dX11_isAhead_60 (by decide) (fun c_60 => ?_) (fun c_60 => ?_)
        · refine lv_iconst (v := 0) K.1.1 K.1.2.1 dX11_isAhead_67 (by decide) ?_
          refine lv_istore (lv' := [(5, .int 0), (4, .int r_4), (3, .int r_3), (0, .ref (B + 259)), (1, .int k), (2, .int j)]) K.1.1 K.1.2.1 dX11_isAhead_68 hl (by decide) rfl (fun ls hl => ?_)
          refine lv_iload K.1.1 K.1.2.1 dX11_isAhead_70 (lv_at hl 0 rfl) ?_
          refine lv_if_ne (tgt := 96) K.1.1 K.1.2.1 dX11_isAhead_72 (by decide) (fun c_72 => ?_) (fun c_72 => ?_)
          · refine lv_iconst (v := 1) K.1.1 K.1.2.1 dX11_isAhead_96 (by decide) ?_
            refine lv_goto (tgt := 101) K.1.1 K.1.2.1 dX11_isAhead_97 (by decide) ?_
            exact m_zret K hr hlocks hP hS dX11_isAhead_101 (by first | rfl | (subst er_1 er_2 er_3 er_4 er_5; rfl)) (by subst er_1 er_2 er_3 er_4 er_5; first | exact absurd c_72 (by decide) | exact absurd rfl c_72 | (rw [M_isAhead, if_pos c_10, if_neg c_15]; rw [if_neg c_40, if_neg (Int32.not_lt.mpr c_60)]; (first | rw [if_pos (show (0 : Int32) = 0 from rfl)] | rw [if_neg (show ¬ (1 : Int32) = 0 from by decide)]); first | done | skip)) rfl
          · refine lv_iload_n K.1.1 K.1.2.1 dX11_isAhead_75 rfl (lv_at hl 2 rfl) ?_
            refine lv_iload K.1.1 K.1.2.1 dX11_isAhead_76 (lv_at hl 1 rfl) ?_
            refine lv_icmp_ne (tgt := 100) K.1.1 K.1.2.1 dX11_isAhead_78 (by decide) (fun c_78 => ?_) (fun c_78 => ?_)
            · refine lv_iconst (v := 0) K.1.1 K.1.2.1 dX11_isAhead_100 (by decide) ?_
              exact m_zret K hr hlocks hP hS dX11_isAhead_101 (by first | rfl | (subst er_1 er_2 er_3 er_4 er_5; rfl)) (by subst er_1 er_2 er_3 er_4 er_5; first | exact absurd c_72 (by decide) | exact absurd rfl c_72 | (rw [M_isAhead, if_pos c_10, if_neg c_15]; rw [if_neg c_40, if_neg (Int32.not_lt.mpr c_60)]; (first | rw [if_pos (show (0 : Int32) = 0 from rfl)] | rw [if_neg (show ¬ (1 : Int32) = 0 from by decide)]); first | (rw [if_neg c_78]; done) | (rw [if_pos c_78]; first | (rw [if_neg (Int32.not_lt.mpr c_93)]; done) | (rw [if_pos (Int32.not_le.mp c_93)]; done)) | (simp [c_78]; done) | skip)) rfl
            · refine lv_aload_n K.1.1 K.1.2.1 dX11_isAhead_81 rfl (lv_at hl 3 rfl) ?_
              refine lv_iload_n K.1.1 K.1.2.1 dX11_isAhead_82 rfl (lv_at hl 4 rfl) ?_
              refine lv_iconst (v := 0) K.1.1 K.1.2.1 dX11_isAhead_83 (by decide) ?_
              refine m_cV (n := 2) (As := [.int k, .int 0]) (rest := []) K hP hS (MX11_ofO l G B _ k 0 (loO (by subst er_1 er_2 er_3 er_4 er_5; first | assumption | exact MI_k hI (by assumption) | exact MI_w hI (by first | assumption | exact MI_k hI (by assumption)) | exact MI_t hI (by assumption)) (vpd rfl))) (by decide) sh_259 rfl q_1291 q_1293 q_39 q_91 q_1294 hv_X11_ofO ⟨Nat.le_of_ble_eq_true rfl, Nat.le_of_ble_eq_true rfl⟩ rfl hl.1 rfl (Nat.le_of_ble_eq_true rfl) dX11_isAhead_84 ⟨Nat.zero_le _, Nat.zero_le _⟩ (fun H locs hP hS => ?_)
              refine lv_topi (fun r_6 er_6 => ?_)
              refine lv_aload_n K.1.1 K.1.2.1 dX11_isAhead_87 rfl (lv_at hl 3 rfl) ?_
              refine lv_iload_n K.1.1 K.1.2.1 dX11_isAhead_88 rfl (lv_at hl 5 rfl) ?_
              refine lv_iconst (v := 0) K.1.1 K.1.2.1 dX11_isAhead_89 (by decide) ?_
              refine m_cV (n := 2) (As := [.int j, .int 0]) (rest := [.int r_6]) K hP hS (MX11_ofO l G B _ j 0 (loO (by subst er_1 er_2 er_3 er_4 er_5 er_6; first | assumption | exact MI_k hI (by assumption) | exact MI_w hI (by first | assumption | exact MI_k hI (by assumption)) | exact MI_t hI (by assumption)) (vpd rfl))) (by decide) sh_259 rfl q_1291 q_1293 q_39 q_91 q_1294 hv_X11_ofO ⟨Nat.le_of_ble_eq_true rfl, Nat.le_of_ble_eq_true rfl⟩ rfl hl.1 rfl (Nat.le_of_ble_eq_true rfl) dX11_isAhead_90 ⟨Nat.zero_le _, Nat.zero_le _⟩ (fun H locs hP hS => ?_)
              refine lv_topi (fun r_7 er_7 => ?_)
              refine lv_icmp_ge (tgt := 100) K.1.1 K.1.2.1 dX11_isAhead_93 (by decide) (fun c_93 => ?_) (fun c_93 => ?_)
              · refine lv_iconst (v := 0) K.1.1 K.1.2.1 dX11_isAhead_100 (by decide) ?_
                exact m_zret K hr hlocks hP hS dX11_isAhead_101 (by first | rfl | (subst er_1 er_2 er_3 er_4 er_5 er_6 er_7; rfl)) (by subst er_1 er_2 er_3 er_4 er_5 er_6 er_7; first | exact absurd c_72 (by decide) | exact absurd rfl c_72 | (rw [M_isAhead, if_pos c_10, if_neg c_15]; rw [if_neg c_40, if_neg (Int32.not_lt.mpr c_60)]; (first | rw [if_pos (show (0 : Int32) = 0 from rfl)] | rw [if_neg (show ¬ (1 : Int32) = 0 from by decide)]); first | (rw [if_neg c_78]; done) | (rw [if_pos c_78]; first | (rw [if_neg (Int32.not_lt.mpr c_93)]; done) | (rw [if_pos (Int32.not_le.mp c_93)]; done)) | (simp [c_78]; done) | skip)) rfl
              · refine lv_iconst (v := 1) K.1.1 K.1.2.1 dX11_isAhead_96 (by decide) ?_
                refine lv_goto (tgt := 101) K.1.1 K.1.2.1 dX11_isAhead_97 (by decide) ?_
                exact m_zret K hr hlocks hP hS dX11_isAhead_101 (by first | rfl | (subst er_1 er_2 er_3 er_4 er_5 er_6 er_7; rfl)) (by subst er_1 er_2 er_3 er_4 er_5 er_6 er_7; first | exact absurd c_72 (by decide) | exact absurd rfl c_72 | (rw [M_isAhead, if_pos c_10, if_neg c_15]; rw [if_neg c_40, if_neg (Int32.not_lt.mpr c_60)]; (first | rw [if_pos (show (0 : Int32) = 0 from rfl)] | rw [if_neg (show ¬ (1 : Int32) = 0 from by decide)]); first | (rw [if_neg c_78]; done) | (rw [if_pos c_78]; first | (rw [if_neg (Int32.not_lt.mpr c_93)]; done) | (rw [if_pos (Int32.not_le.mp c_93)]; done)) | (simp [c_78]; done) | skip)) rfl
        · refine lv_iconst (v := 1) K.1.1 K.1.2.1 dX11_isAhead_63 (by decide) ?_
          refine lv_goto (tgt := 68) K.1.1 K.1.2.1 dX11_isAhead_64 (by decide) ?_
          refine lv_istore (lv' := [(5, .int 1), (4, .int r_4), (3, .int r_3), (0, .ref (B + 259)), (1, .int k), (2, .int j)]) K.1.1 K.1.2.1 dX11_isAhead_68 hl (by decide) rfl (fun ls hl => ?_)
          refine lv_iload K.1.1 K.1.2.1 dX11_isAhead_70 (lv_at hl 0 rfl) ?_
          refine lv_if_ne (tgt := 96) K.1.1 K.1.2.1 dX11_isAhead_72 (by decide) (fun c_72 => ?_) (fun c_72 => ?_)
          · refine lv_iconst (v := 1) K.1.1 K.1.2.1 dX11_isAhead_96 (by decide) ?_
            refine lv_goto (tgt := 101) K.1.1 K.1.2.1 dX11_isAhead_97 (by decide) ?_
            exact m_zret K hr hlocks hP hS dX11_isAhead_101 (by first | rfl | (subst er_1 er_2 er_3 er_4 er_5; rfl)) (by subst er_1 er_2 er_3 er_4 er_5; first | exact absurd c_72 (by decide) | exact absurd rfl c_72 | (rw [M_isAhead, if_pos c_10, if_neg c_15]; rw [if_neg c_40, if_pos (Int32.not_le.mp c_60)]; (first | rw [if_pos (show (0 : Int32) = 0 from rfl)] | rw [if_neg (show ¬ (1 : Int32) = 0 from by decide)]); first | done | skip)) rfl
          · refine lv_iload_n K.1.1 K.1.2.1 dX11_isAhead_75 rfl (lv_at hl 2 rfl) ?_
            refine lv_iload K.1.1 K.1.2.1 dX11_isAhead_76 (lv_at hl 1 rfl) ?_
            refine lv_icmp_ne (tgt := 100) K.1.1 K.1.2.1 dX11_isAhead_78 (by decide) (fun c_78 => ?_) (fun c_78 => ?_)
            · refine lv_iconst (v := 0) K.1.1 K.1.2.1 dX11_isAhead_100 (by decide) ?_
              exact m_zret K hr hlocks hP hS dX11_isAhead_101 (by first | rfl | (subst er_1 er_2 er_3 er_4 er_5; rfl)) (by subst er_1 er_2 er_3 er_4 er_5; first | exact absurd c_72 (by decide) | exact absurd rfl c_72 | (rw [M_isAhead, if_pos c_10, if_neg c_15]; rw [if_neg c_40, if_pos (Int32.not_le.mp c_60)]; (first | rw [if_pos (show (0 : Int32) = 0 from rfl)] | rw [if_neg (show ¬ (1 : Int32) = 0 from by decide)]); first | (rw [if_neg c_78]; done) | (rw [if_pos c_78]; first | (rw [if_neg (Int32.not_lt.mpr c_93)]; done) | (rw [if_pos (Int32.not_le.mp c_93)]; done)) | (simp [c_78]; done) | skip)) rfl
            · refine lv_aload_n K.1.1 K.1.2.1 dX11_isAhead_81 rfl (lv_at hl 3 rfl) ?_
              refine lv_iload_n K.1.1 K.1.2.1 dX11_isAhead_82 rfl (lv_at hl 4 rfl) ?_
              refine lv_iconst (v := 0) K.1.1 K.1.2.1 dX11_isAhead_83 (by decide) ?_
              refine m_cV (n := 2) (As := [.int k, .int 0]) (rest := []) K hP hS (MX11_ofO l G B _ k 0 (loO (by subst er_1 er_2 er_3 er_4 er_5; first | assumption | exact MI_k hI (by assumption) | exact MI_w hI (by first | assumption | exact MI_k hI (by assumption)) | exact MI_t hI (by assumption)) (vpd rfl))) (by decide) sh_259 rfl q_1291 q_1293 q_39 q_91 q_1294 hv_X11_ofO ⟨Nat.le_of_ble_eq_true rfl, Nat.le_of_ble_eq_true rfl⟩ rfl hl.1 rfl (Nat.le_of_ble_eq_true rfl) dX11_isAhead_84 ⟨Nat.zero_le _, Nat.zero_le _⟩ (fun H locs hP hS => ?_)
              refine lv_topi (fun r_8 er_8 => ?_)
              refine lv_aload_n K.1.1 K.1.2.1 dX11_isAhead_87 rfl (lv_at hl 3 rfl) ?_
              refine lv_iload_n K.1.1 K.1.2.1 dX11_isAhead_88 rfl (lv_at hl 5 rfl) ?_
              refine lv_iconst (v := 0) K.1.1 K.1.2.1 dX11_isAhead_89 (by decide) ?_
              refine m_cV (n := 2) (As := [.int j, .int 0]) (rest := [.int r_8]) K hP hS (MX11_ofO l G B _ j 0 (loO (by subst er_1 er_2 er_3 er_4 er_5 er_8; first | assumption | exact MI_k hI (by assumption) | exact MI_w hI (by first | assumption | exact MI_k hI (by assumption)) | exact MI_t hI (by assumption)) (vpd rfl))) (by decide) sh_259 rfl q_1291 q_1293 q_39 q_91 q_1294 hv_X11_ofO ⟨Nat.le_of_ble_eq_true rfl, Nat.le_of_ble_eq_true rfl⟩ rfl hl.1 rfl (Nat.le_of_ble_eq_true rfl) dX11_isAhead_90 ⟨Nat.zero_le _, Nat.zero_le _⟩ (fun H locs hP hS => ?_)
              refine lv_topi (fun r_9 er_9 => ?_)
              refine lv_icmp_ge (tgt := 100) K.1.1 K.1.2.1 dX11_isAhead_93 (by decide) (fun c_93 => ?_) (fun c_93 => ?_)
              · refine lv_iconst (v := 0) K.1.1 K.1.2.1 dX11_isAhead_100 (by decide) ?_
                exact m_zret K hr hlocks hP hS dX11_isAhead_101 (by first | rfl | (subst er_1 er_2 er_3 er_4 er_5 er_8 er_9; rfl)) (by subst er_1 er_2 er_3 er_4 er_5 er_8 er_9; first | exact absurd c_72 (by decide) | exact absurd rfl c_72 | (rw [M_isAhead, if_pos c_10, if_neg c_15]; rw [if_neg c_40, if_pos (Int32.not_le.mp c_60)]; (first | rw [if_pos (show (0 : Int32) = 0 from rfl)] | rw [if_neg (show ¬ (1 : Int32) = 0 from by decide)]); first | (rw [if_neg c_78]; done) | (rw [if_pos c_78]; first | (rw [if_neg (Int32.not_lt.mpr c_93)]; done) | (rw [if_pos (Int32.not_le.mp c_93)]; done)) | (simp [c_78]; done) | skip)) rfl
              · refine lv_iconst (v := 1) K.1.1 K.1.2.1 dX11_isAhead_96 (by decide) ?_
                refine lv_goto (tgt := 101) K.1.1 K.1.2.1 dX11_isAhead_97 (by decide) ?_
                exact m_zret K hr hlocks hP hS dX11_isAhead_101 (by first | rfl | (subst er_1 er_2 er_3 er_4 er_5 er_8 er_9; rfl)) (by subst er_1 er_2 er_3 er_4 er_5 er_8 er_9; first | exact absurd c_72 (by decide) | exact absurd rfl c_72 | (rw [M_isAhead, if_pos c_10, if_neg c_15]; rw [if_neg c_40, if_pos (Int32.not_le.mp c_60)]; (first | rw [if_pos (show (0 : Int32) = 0 from rfl)] | rw [if_neg (show ¬ (1 : Int32) = 0 from by decide)]); first | (rw [if_neg c_78]; done) | (rw [if_pos c_78]; first | (rw [if_neg (Int32.not_lt.mpr c_93)]; done) | (rw [if_pos (Int32.not_le.mp c_93)]; done)) | (simp [c_78]; done) | skip)) rfl
      · refine lv_iload_n K.1.1 K.1.2.1 dX11_isAhead_43 rfl (lv_at hl 1 rfl) ?_
        refine lv_iload K.1.1 K.1.2.1 dX11_isAhead_44 (lv_at hl 0 rfl) ?_
        refine lv_icmp_le (tgt := 53) K.1.1 K.1.2.1 dX11_isAhead_46 (by decide) (fun c_46 => ?_) (fun c_46 => ?_)
        · refine lv_iconst (v := 0) K.1.1 K.1.2.1 dX11_isAhead_53 (by decide) ?_
          refine lv_goto (tgt := 68) K.1.1 K.1.2.1 dX11_isAhead_54 (by decide) ?_
          refine lv_istore (lv' := [(5, .int 0), (4, .int r_4), (3, .int r_3), (0, .ref (B + 259)), (1, .int k), (2, .int j)]) K.1.1 K.1.2.1 dX11_isAhead_68 hl (by decide) rfl (fun ls hl => ?_)
          refine lv_iload K.1.1 K.1.2.1 dX11_isAhead_70 (lv_at hl 0 rfl) ?_
          refine lv_if_ne (tgt := 96) K.1.1 K.1.2.1 dX11_isAhead_72 (by decide) (fun c_72 => ?_) (fun c_72 => ?_)
          · refine lv_iconst (v := 1) K.1.1 K.1.2.1 dX11_isAhead_96 (by decide) ?_
            refine lv_goto (tgt := 101) K.1.1 K.1.2.1 dX11_isAhead_97 (by decide) ?_
            exact m_zret K hr hlocks hP hS dX11_isAhead_101 (by first | rfl | (subst er_1 er_2 er_3 er_4 er_5; rfl)) (by subst er_1 er_2 er_3 er_4 er_5; first | exact absurd c_72 (by decide) | exact absurd rfl c_72 | (rw [M_isAhead, if_pos c_10, if_neg c_15]; rw [if_pos c_40, if_neg (Int32.not_lt.mpr c_46)]; (first | rw [if_pos (show (0 : Int32) = 0 from rfl)] | rw [if_neg (show ¬ (1 : Int32) = 0 from by decide)]); first | done | skip)) rfl
          · refine lv_iload_n K.1.1 K.1.2.1 dX11_isAhead_75 rfl (lv_at hl 2 rfl) ?_
            refine lv_iload K.1.1 K.1.2.1 dX11_isAhead_76 (lv_at hl 1 rfl) ?_
            refine lv_icmp_ne (tgt := 100) K.1.1 K.1.2.1 dX11_isAhead_78 (by decide) (fun c_78 => ?_) (fun c_78 => ?_)
            · refine lv_iconst (v := 0) K.1.1 K.1.2.1 dX11_isAhead_100 (by decide) ?_
              exact m_zret K hr hlocks hP hS dX11_isAhead_101 (by first | rfl | (subst er_1 er_2 er_3 er_4 er_5; rfl)) (by subst er_1 er_2 er_3 er_4 er_5; first | exact absurd c_72 (by decide) | exact absurd rfl c_72 | (rw [M_isAhead, if_pos c_10, if_neg c_15]; rw [if_pos c_40, if_neg (Int32.not_lt.mpr c_46)]; (first | rw [if_pos (show (0 : Int32) = 0 from rfl)] | rw [if_neg (show ¬ (1 : Int32) = 0 from by decide)]); first | (rw [if_neg c_78]; done) | (rw [if_pos c_78]; first | (rw [if_neg (Int32.not_lt.mpr c_93)]; done) | (rw [if_pos (Int32.not_le.mp c_93)]; done)) | (simp [c_78]; done) | skip)) rfl
            · refine lv_aload_n K.1.1 K.1.2.1 dX11_isAhead_81 rfl (lv_at hl 3 rfl) ?_
              refine lv_iload_n K.1.1 K.1.2.1 dX11_isAhead_82 rfl (lv_at hl 4 rfl) ?_
              refine lv_iconst (v := 0) K.1.1 K.1.2.1 dX11_isAhead_83 (by decide) ?_
              refine m_cV (n := 2) (As := [.int k, .int 0]) (rest := []) K hP hS (MX11_ofO l G B _ k 0 (loO (by subst er_1 er_2 er_3 er_4 er_5; first | assumption | exact MI_k hI (by assumption) | exact MI_w hI (by first | assumption | exact MI_k hI (by assumption)) | exact MI_t hI (by assumption)) (vpd rfl))) (by decide) sh_259 rfl q_1291 q_1293 q_39 q_91 q_1294 hv_X11_ofO ⟨Nat.le_of_ble_eq_true rfl, Nat.le_of_ble_eq_true rfl⟩ rfl hl.1 rfl (Nat.le_of_ble_eq_true rfl) dX11_isAhead_84 ⟨Nat.zero_le _, Nat.zero_le _⟩ (fun H locs hP hS => ?_)
              refine lv_topi (fun r_10 er_10 => ?_)
              refine lv_aload_n K.1.1 K.1.2.1 dX11_isAhead_87 rfl (lv_at hl 3 rfl) ?_
              refine lv_iload_n K.1.1 K.1.2.1 dX11_isAhead_88 rfl (lv_at hl 5 rfl) ?_
              refine lv_iconst (v := 0) K.1.1 K.1.2.1 dX11_isAhead_89 (by decide) ?_
              refine m_cV (n := 2) (As := [.int j, .int 0]) (rest := [.int r_10]) K hP hS (MX11_ofO l G B _ j 0 (loO (by subst er_1 er_2 er_3 er_4 er_5 er_10; first | assumption | exact MI_k hI (by assumption) | exact MI_w hI (by first | assumption | exact MI_k hI (by assumption)) | exact MI_t hI (by assumption)) (vpd rfl))) (by decide) sh_259 rfl q_1291 q_1293 q_39 q_91 q_1294 hv_X11_ofO ⟨Nat.le_of_ble_eq_true rfl, Nat.le_of_ble_eq_true rfl⟩ rfl hl.1 rfl (Nat.le_of_ble_eq_true rfl) dX11_isAhead_90 ⟨Nat.zero_le _, Nat.zero_le _⟩ (fun H locs hP hS => ?_)
              refine lv_topi (fun r_11 er_11 => ?_)
              refine lv_icmp_ge (tgt := 100) K.1.1 K.1.2.1 dX11_isAhead_93 (by decide) (fun c_93 => ?_) (fun c_93 => ?_)
              · refine lv_iconst (v := 0) K.1.1 K.1.2.1 dX11_isAhead_100 (by decide) ?_
                exact m_zret K hr hlocks hP hS dX11_isAhead_101 (by first | rfl | (subst er_1 er_2 er_3 er_4 er_5 er_10 er_11; rfl)) (by subst er_1 er_2 er_3 er_4 er_5 er_10 er_11; first | exact absurd c_72 (by decide) | exact absurd rfl c_72 | (rw [M_isAhead, if_pos c_10, if_neg c_15]; rw [if_pos c_40, if_neg (Int32.not_lt.mpr c_46)]; (first | rw [if_pos (show (0 : Int32) = 0 from rfl)] | rw [if_neg (show ¬ (1 : Int32) = 0 from by decide)]); first | (rw [if_neg c_78]; done) | (rw [if_pos c_78]; first | (rw [if_neg (Int32.not_lt.mpr c_93)]; done) | (rw [if_pos (Int32.not_le.mp c_93)]; done)) | (simp [c_78]; done) | skip)) rfl
              · refine lv_iconst (v := 1) K.1.1 K.1.2.1 dX11_isAhead_96 (by decide) ?_
                refine lv_goto (tgt := 101) K.1.1 K.1.2.1 dX11_isAhead_97 (by decide) ?_
                exact m_zret K hr hlocks hP hS dX11_isAhead_101 (by first | rfl | (subst er_1 er_2 er_3 er_4 er_5 er_10 er_11; rfl)) (by subst er_1 er_2 er_3 er_4 er_5 er_10 er_11; first | exact absurd c_72 (by decide) | exact absurd rfl c_72 | (rw [M_isAhead, if_pos c_10, if_neg c_15]; rw [if_pos c_40, if_neg (Int32.not_lt.mpr c_46)]; (first | rw [if_pos (show (0 : Int32) = 0 from rfl)] | rw [if_neg (show ¬ (1 : Int32) = 0 from by decide)]); first | (rw [if_neg c_78]; done) | (rw [if_pos c_78]; first | (rw [if_neg (Int32.not_lt.mpr c_93)]; done) | (rw [if_pos (Int32.not_le.mp c_93)]; done)) | (simp [c_78]; done) | skip)) rfl
        · refine lv_iconst (v := 1) K.1.1 K.1.2.1 dX11_isAhead_49 (by decide) ?_
          refine lv_goto (tgt := 68) K.1.1 K.1.2.1 dX11_isAhead_50 (by decide) ?_
          refine lv_istore (lv' := [(5, .int 1), (4, .int r_4), (3, .int r_3), (0, .ref (B + 259)), (1, .int k), (2, .int j)]) K.1.1 K.1.2.1 dX11_isAhead_68 hl (by decide) rfl (fun ls hl => ?_)
          refine lv_iload K.1.1 K.1.2.1 dX11_isAhead_70 (lv_at hl 0 rfl) ?_
          refine lv_if_ne (tgt := 96) K.1.1 K.1.2.1 dX11_isAhead_72 (by decide) (fun c_72 => ?_) (fun c_72 => ?_)
          · refine lv_iconst (v := 1) K.1.1 K.1.2.1 dX11_isAhead_96 (by decide) ?_
            refine lv_goto (tgt := 101) K.1.1 K.1.2.1 dX11_isAhead_97 (by decide) ?_
            exact m_zret K hr hlocks hP hS dX11_isAhead_101 (by first | rfl | (subst er_1 er_2 er_3 er_4 er_5; rfl)) (by subst er_1 er_2 er_3 er_4 er_5; first | exact absurd c_72 (by decide) | exact absurd rfl c_72 | (rw [M_isAhead, if_pos c_10, if_neg c_15]; rw [if_pos c_40, if_pos (Int32.not_le.mp c_46)]; (first | rw [if_pos (show (0 : Int32) = 0 from rfl)] | rw [if_neg (show ¬ (1 : Int32) = 0 from by decide)]); first | done | skip)) rfl
          · refine lv_iload_n K.1.1 K.1.2.1 dX11_isAhead_75 rfl (lv_at hl 2 rfl) ?_
            refine lv_iload K.1.1 K.1.2.1 dX11_isAhead_76 (lv_at hl 1 rfl) ?_
            refine lv_icmp_ne (tgt := 100) K.1.1 K.1.2.1 dX11_isAhead_78 (by decide) (fun c_78 => ?_) (fun c_78 => ?_)
            · refine lv_iconst (v := 0) K.1.1 K.1.2.1 dX11_isAhead_100 (by decide) ?_
              exact m_zret K hr hlocks hP hS dX11_isAhead_101 (by first | rfl | (subst er_1 er_2 er_3 er_4 er_5; rfl)) (by subst er_1 er_2 er_3 er_4 er_5; first | exact absurd c_72 (by decide) | exact absurd rfl c_72 | (rw [M_isAhead, if_pos c_10, if_neg c_15]; rw [if_pos c_40, if_pos (Int32.not_le.mp c_46)]; (first | rw [if_pos (show (0 : Int32) = 0 from rfl)] | rw [if_neg (show ¬ (1 : Int32) = 0 from by decide)]); first | (rw [if_neg c_78]; done) | (rw [if_pos c_78]; first | (rw [if_neg (Int32.not_lt.mpr c_93)]; done) | (rw [if_pos (Int32.not_le.mp c_93)]; done)) | (simp [c_78]; done) | skip)) rfl
            · refine lv_aload_n K.1.1 K.1.2.1 dX11_isAhead_81 rfl (lv_at hl 3 rfl) ?_
              refine lv_iload_n K.1.1 K.1.2.1 dX11_isAhead_82 rfl (lv_at hl 4 rfl) ?_
              refine lv_iconst (v := 0) K.1.1 K.1.2.1 dX11_isAhead_83 (by decide) ?_
              refine m_cV (n := 2) (As := [.int k, .int 0]) (rest := []) K hP hS (MX11_ofO l G B _ k 0 (loO (by subst er_1 er_2 er_3 er_4 er_5; first | assumption | exact MI_k hI (by assumption) | exact MI_w hI (by first | assumption | exact MI_k hI (by assumption)) | exact MI_t hI (by assumption)) (vpd rfl))) (by decide) sh_259 rfl q_1291 q_1293 q_39 q_91 q_1294 hv_X11_ofO ⟨Nat.le_of_ble_eq_true rfl, Nat.le_of_ble_eq_true rfl⟩ rfl hl.1 rfl (Nat.le_of_ble_eq_true rfl) dX11_isAhead_84 ⟨Nat.zero_le _, Nat.zero_le _⟩ (fun H locs hP hS => ?_)
              refine lv_topi (fun r_12 er_12 => ?_)
              refine lv_aload_n K.1.1 K.1.2.1 dX11_isAhead_87 rfl (lv_at hl 3 rfl) ?_
              refine lv_iload_n K.1.1 K.1.2.1 dX11_isAhead_88 rfl (lv_at hl 5 rfl) ?_
              refine lv_iconst (v := 0) K.1.1 K.1.2.1 dX11_isAhead_89 (by decide) ?_
              refine m_cV (n := 2) (As := [.int j, .int 0]) (rest := [.int r_12]) K hP hS (MX11_ofO l G B _ j 0 (loO (by subst er_1 er_2 er_3 er_4 er_5 er_12; first | assumption | exact MI_k hI (by assumption) | exact MI_w hI (by first | assumption | exact MI_k hI (by assumption)) | exact MI_t hI (by assumption)) (vpd rfl))) (by decide) sh_259 rfl q_1291 q_1293 q_39 q_91 q_1294 hv_X11_ofO ⟨Nat.le_of_ble_eq_true rfl, Nat.le_of_ble_eq_true rfl⟩ rfl hl.1 rfl (Nat.le_of_ble_eq_true rfl) dX11_isAhead_90 ⟨Nat.zero_le _, Nat.zero_le _⟩ (fun H locs hP hS => ?_)
              refine lv_topi (fun r_13 er_13 => ?_)
              refine lv_icmp_ge (tgt := 100) K.1.1 K.1.2.1 dX11_isAhead_93 (by decide) (fun c_93 => ?_) (fun c_93 => ?_)
              · refine lv_iconst (v := 0) K.1.1 K.1.2.1 dX11_isAhead_100 (by decide) ?_
                exact m_zret K hr hlocks hP hS dX11_isAhead_101 (by first | rfl | (subst er_1 er_2 er_3 er_4 er_5 er_12 er_13; rfl)) (by subst er_1 er_2 er_3 er_4 er_5 er_12 er_13; first | exact absurd c_72 (by decide) | exact absurd rfl c_72 | (rw [M_isAhead, if_pos c_10, if_neg c_15]; rw [if_pos c_40, if_pos (Int32.not_le.mp c_46)]; (first | rw [if_pos (show (0 : Int32) = 0 from rfl)] | rw [if_neg (show ¬ (1 : Int32) = 0 from by decide)]); first | (rw [if_neg c_78]; done) | (rw [if_pos c_78]; first | (rw [if_neg (Int32.not_lt.mpr c_93)]; done) | (rw [if_pos (Int32.not_le.mp c_93)]; done)) | (simp [c_78]; done) | skip)) rfl
              · refine lv_iconst (v := 1) K.1.1 K.1.2.1 dX11_isAhead_96 (by decide) ?_
                refine lv_goto (tgt := 101) K.1.1 K.1.2.1 dX11_isAhead_97 (by decide) ?_
                exact m_zret K hr hlocks hP hS dX11_isAhead_101 (by first | rfl | (subst er_1 er_2 er_3 er_4 er_5 er_12 er_13; rfl)) (by subst er_1 er_2 er_3 er_4 er_5 er_12 er_13; first | exact absurd c_72 (by decide) | exact absurd rfl c_72 | (rw [M_isAhead, if_pos c_10, if_neg c_15]; rw [if_pos c_40, if_pos (Int32.not_le.mp c_46)]; (first | rw [if_pos (show (0 : Int32) = 0 from rfl)] | rw [if_neg (show ¬ (1 : Int32) = 0 from by decide)]); first | (rw [if_neg c_78]; done) | (rw [if_pos c_78]; first | (rw [if_neg (Int32.not_lt.mpr c_93)]; done) | (rw [if_pos (Int32.not_le.mp c_93)]; done)) | (simp [c_78]; done) | skip)) rfl
    · refine lv_iconst (v := 0) K.1.1 K.1.2.1 dX11_isAhead_18 (by decide) ?_
      exact m_zret K hr hlocks hP hS dX11_isAhead_19 (by first | rfl | (subst er_1 er_2; rfl)) (by subst er_1 er_2; rw [M_isAhead]; first | rw [if_pos c_10, if_pos c_15] | simp [c_10, c_15]) rfl

set_option maxHeartbeats 4000000 in
set_option maxRecDepth 100000 in
theorem MX11_placeOf (l : Launch) (G : GG) (B : Nat) (μ : Mm) (k : Int32) (hI : MI μ) (hk : vp_in k 20) : CM l yX11_placeOf (.code yX11_placeOf cX11_placeOf 4 (Option.some FieldType.int)) 3 68 G B [.ref (B + 259), .int k] μ (some (.int (M_placeOf μ k))) μ := by
  refine CM.of (by decide) (Nat.le_of_ble_eq_true rfl) ?_
  intro p e s m below meth c ls K hr hlocks hP hl
  have hS : va_S (AA B) s.heap s.heap [] := va_S.rf
  have hl : lv_has ls 4 [(0, .ref (B + 259)), (1, .int k)] := hl
  refine lv_iconst (v := 0) K.1.1 K.1.2.1 dX11_placeOf_0 (by decide) ?_
  refine lv_istore_n (lv' := [(2, .int 0), (0, .ref (B + 259)), (1, .int k)]) K.1.1 K.1.2.1 dX11_placeOf_1 rfl hl (by decide) rfl (fun ls hl => ?_)
  refine lv_iconst (v := 0) K.1.1 K.1.2.1 dX11_placeOf_2 (by decide) ?_
  refine lv_istore_n (lv' := [(3, .int 0), (2, .int 0), (0, .ref (B + 259)), (1, .int k)]) K.1.1 K.1.2.1 dX11_placeOf_3 rfl hl (by decide) rfl (fun ls hl => ?_)
  refine up_to (N := cn (μ 260 1)) (P := fun q : Nat => ∀ (v3_4 : Int32) (v2_4 : Int32) (H : Heap) (locs : List Loc) (ls : Array Slot), (v3_4 = nI q) → (v2_4 = sumI (fun j => if M_isAhead μ (nI j) k = 0 then 0 else 1) q) → MP G B μ H → va_S (AA B) s.heap H locs → lv_has ls 4 [(3, .int v3_4), (2, .int v2_4), (0, .ref (B + 259)), (1, .int k)] → W p l e ({ frames := 3, cells := 0, slots := 0, locals := 68 } : Room) s m ([.ref (B + 259), .int k] : List Value).toArray below meth c H locs 0 0 (MF below G B (some (.int (M_placeOf μ k))) μ ([.ref (B + 259), .int k] : List Value).toArray s) (F0 m 4 ls [])) ?_ ?_ _ _ _ _ _ (by first | rfl | (skip; rfl)) (by first | rfl | (skip; rfl)) hP hS (lv_sub hl [0, 1, 2, 3] rfl)
  · intro v3_4 v2_4 H locs ls ev3_4 ev2_4 hP hS hl
    refine lv_iload_n K.1.1 K.1.2.1 dX11_placeOf_4 rfl (lv_at hl 0 rfl) ?_
    refine lv_aload_n K.1.1 K.1.2.1 dX11_placeOf_5 rfl (lv_at hl 2 rfl) ?_
    refine m_getr K hP (by decide) sh_259 rfl tuX11 0 (by decide) rfl q_1150 dX11_placeOf_6 ?_
    refine lv_iconst (v := 1) K.1.1 K.1.2.1 dX11_placeOf_9 (by decide) ?_
    refine m_iald K hP (by decide) sh_260 (n := 267) (vpd rfl) dX11_placeOf_10 ?_
    refine lv_topi (fun g_1 eg_1 => ?_)
    have eg_1 : g_1 = (_ : Mm) 260 1 := eg_1
    refine lv_icmp_ge (tgt := 37) K.1.1 K.1.2.1 dX11_placeOf_11 (by decide) (fun c_11 => ?_) (fun c_11 => ?_)
    · refine lv_iload_n K.1.1 K.1.2.1 dX11_placeOf_37 rfl (lv_at hl 1 rfl) ?_
      exact m_iret K hr hlocks hP hS dX11_placeOf_38 (by subst ev3_4 ev2_4 eg_1; rfl) rfl
    · exact absurd c_11 (not_not_intro (by subst ev3_4 ev2_4 eg_1; exact cn_out _))
  · intro q hq ih_4 v3_4 v2_4 H locs ls ev3_4 ev2_4 hP hS hl
    refine lv_iload_n K.1.1 K.1.2.1 dX11_placeOf_4 rfl (lv_at hl 0 rfl) ?_
    refine lv_aload_n K.1.1 K.1.2.1 dX11_placeOf_5 rfl (lv_at hl 2 rfl) ?_
    refine m_getr K hP (by decide) sh_259 rfl tuX11 0 (by decide) rfl q_1150 dX11_placeOf_6 ?_
    refine lv_iconst (v := 1) K.1.1 K.1.2.1 dX11_placeOf_9 (by decide) ?_
    refine m_iald K hP (by decide) sh_260 (n := 267) (vpd rfl) dX11_placeOf_10 ?_
    refine lv_topi (fun g_2 eg_2 => ?_)
    have eg_2 : g_2 = (_ : Mm) 260 1 := eg_2
    refine lv_icmp_ge (tgt := 37) K.1.1 K.1.2.1 dX11_placeOf_11 (by decide) (fun c_11 => ?_) (fun c_11 => ?_)
    · exact absurd c_11 (by subst ev3_4 ev2_4 eg_2; exact cn_in hq)
    · refine lv_iload_n K.1.1 K.1.2.1 dX11_placeOf_14 rfl (lv_at hl 1 rfl) ?_
      refine lv_aload_n K.1.1 K.1.2.1 dX11_placeOf_15 rfl (lv_at hl 2 rfl) ?_
      refine lv_iload_n K.1.1 K.1.2.1 dX11_placeOf_16 rfl (lv_at hl 0 rfl) ?_
      refine lv_iload_n K.1.1 K.1.2.1 dX11_placeOf_17 rfl (lv_at hl 3 rfl) ?_
      refine m_cV (n := 2) (As := [.int v3_4, .int k]) (rest := [.int v2_4]) K hP hS (MX11_isAhead l G B _ v3_4 k hI (by subst ev3_4 ev2_4 eg_2; first | assumption | exact MI_k hI (by assumption) | exact MI_w hI (by first | assumption | exact MI_k hI (by assumption)) | exact MI_t hI (by assumption)) (by subst ev3_4 ev2_4 eg_2; first | assumption | exact MI_k hI (by assumption) | exact MI_w hI (by first | assumption | exact MI_k hI (by assumption)) | exact MI_t hI (by assumption))) (by decide) sh_259 rfl q_1359 q_1361 q_53 q_91 q_1362 hv_X11_isAhead ⟨Nat.le_of_ble_eq_true rfl, Nat.le_of_ble_eq_true rfl⟩ rfl hl.1 rfl (Nat.le_of_ble_eq_true rfl) dX11_placeOf_18 ⟨Nat.zero_le _, Nat.zero_le _⟩ (fun H locs hP hS => ?_)
      refine lv_topi (fun r_3 er_3 => ?_)
      refine lv_if_eq (tgt := 28) K.1.1 K.1.2.1 dX11_placeOf_21 (by decide) (fun c_21 => ?_) (fun c_21 => ?_)
      · refine lv_iconst (v := 0) K.1.1 K.1.2.1 dX11_placeOf_28 (by decide) ?_
        refine lv_iadd K.1.1 K.1.2.1 dX11_placeOf_29 ?_
        refine lv_topi (fun x_4 ex_4 => ?_)
        refine lv_istore_n (lv' := [(2, .int x_4), (3, .int v3_4), (0, .ref (B + 259)), (1, .int k)]) K.1.1 K.1.2.1 dX11_placeOf_30 rfl hl (by decide) rfl (fun ls hl => ?_)
        obtain ⟨x_5, ex_5⟩ : ∃ y : Int32, y = v3_4 + (1) := ⟨_, rfl⟩
        refine lv_iinc (v := x_5) (lv' := [(3, .int x_5), (2, .int x_4), (0, .ref (B + 259)), (1, .int k)]) K.1.1 K.1.2.1 dX11_placeOf_31 hl (k := 1) rfl (by rw [ex_5]; rfl) (by decide) rfl (fun ls hl => ?_)
        refine lv_goto (tgt := 4) K.1.1 K.1.2.1 dX11_placeOf_34 (by decide) ?_
        exact ih_4 _ _ _ _ _ (by subst ev3_4 ev2_4 eg_2 er_3 ex_4 ex_5; exact nI_1 _) (by subst ev3_4 ev2_4 eg_2 er_3 ex_4 ex_5; first | (simp only [sumI, c_11, Int32.not_le.mp c_11, c_21, if_true, if_false, ite_true, ite_false, reduceIte, not_true, not_false_iff]; done) | simp [sumI, c_11, Int32.not_le.mp c_11, c_21]) hP hS (lv_sub hl [0, 1, 2, 3] rfl)
      · refine lv_iconst (v := 1) K.1.1 K.1.2.1 dX11_placeOf_24 (by decide) ?_
        refine lv_goto (tgt := 29) K.1.1 K.1.2.1 dX11_placeOf_25 (by decide) ?_
        refine lv_iadd K.1.1 K.1.2.1 dX11_placeOf_29 ?_
        refine lv_topi (fun x_6 ex_6 => ?_)
        refine lv_istore_n (lv' := [(2, .int x_6), (3, .int v3_4), (0, .ref (B + 259)), (1, .int k)]) K.1.1 K.1.2.1 dX11_placeOf_30 rfl hl (by decide) rfl (fun ls hl => ?_)
        obtain ⟨x_7, ex_7⟩ : ∃ y : Int32, y = v3_4 + (1) := ⟨_, rfl⟩
        refine lv_iinc (v := x_7) (lv' := [(3, .int x_7), (2, .int x_6), (0, .ref (B + 259)), (1, .int k)]) K.1.1 K.1.2.1 dX11_placeOf_31 hl (k := 1) rfl (by rw [ex_7]; rfl) (by decide) rfl (fun ls hl => ?_)
        refine lv_goto (tgt := 4) K.1.1 K.1.2.1 dX11_placeOf_34 (by decide) ?_
        exact ih_4 _ _ _ _ _ (by subst ev3_4 ev2_4 eg_2 er_3 ex_6 ex_7; exact nI_1 _) (by subst ev3_4 ev2_4 eg_2 er_3 ex_6 ex_7; first | (simp only [sumI, c_11, Int32.not_le.mp c_11, c_21, if_true, if_false, ite_true, ite_false, reduceIte, not_true, not_false_iff]; done) | simp [sumI, c_11, Int32.not_le.mp c_11, c_21]) hP hS (lv_sub hl [0, 1, 2, 3] rfl)

