set_option maxHeartbeats 4000000 in
set_option maxRecDepth 100000 in
theorem MX11_setShade (l : Launch) (G : GG) (B : Nat) (μ : Mm) (t : Int32) (k : Int32) (a : Int32) (hI : MI μ) (hs : vp_in (μ 259 2) 5) : CM l yX11_setShade (.code yX11_setShade cX11_setShade 4 (Option.some FieldType.int)) 4 91 G B [.ref (B + 259), .int t, .int k, .int a] μ (some (.int ((M_setShade μ t k a).2))) ((M_setShade μ t k a).1) := by
  refine CM.of (by decide) (Nat.le_of_ble_eq_true rfl) ?_
  intro p e s m below meth c ls K hr hlocks hP hl
  have hS : va_S (AA B) s.heap s.heap [] := va_S.rf
  have hl : lv_has ls 4 [(0, .ref (B + 259)), (1, .int t), (2, .int k), (3, .int a)] := hl
  refine lv_aload_n K.1.1 K.1.2.1 dX11_setShade_0 rfl (lv_at hl 0 rfl) ?_
  refine lv_aload_n K.1.1 K.1.2.1 dX11_setShade_1 rfl (lv_at hl 0 rfl) ?_
  refine lv_iload_n K.1.1 K.1.2.1 dX11_setShade_2 rfl (lv_at hl 1 rfl) ?_
  refine lv_iload_n K.1.1 K.1.2.1 dX11_setShade_3 rfl (lv_at hl 2 rfl) ?_
  refine lv_iload_n K.1.1 K.1.2.1 dX11_setShade_4 rfl (lv_at hl 3 rfl) ?_
  refine m_cV (n := 3) (As := [.int t, .int k, .int a]) (rest := [.ref (B + 259)]) K hP hS (MX11_shadeError l G B _ t k a ) (by decide) sh_259 rfl q_1248 q_1250 q_31 q_91 q_1251 hv_X11_shadeError ⟨Nat.le_of_ble_eq_true rfl, Nat.le_of_ble_eq_true rfl⟩ rfl hl.1 rfl (Nat.le_of_ble_eq_true rfl) dX11_setShade_5 ⟨Nat.zero_le _, Nat.zero_le _⟩ (fun H locs hP hS => ?_)
  refine lv_topi (fun r_1 er_1 => ?_)
  refine m_puti K hP hS (by decide) sh_259 rfl tuX11 tyX11 tyX11_ok nmX11 3 (by decide) rfl rfl (by decide +kernel) q_1153 dX11_setShade_8 (fun H locs hP hS => ?_)
  refine lv_aload_n K.1.1 K.1.2.1 dX11_setShade_11 rfl (lv_at hl 0 rfl) ?_
  refine m_geti K hP (by decide) sh_259 rfl tuX11 3 (by decide) rfl q_1153 dX11_setShade_12 ?_
  refine lv_topi (fun g_2 eg_2 => ?_)
  refine lv_if_eq (tgt := 20) K.1.1 K.1.2.1 dX11_setShade_15 (by decide) (fun c_15 => ?_) (fun c_15 => ?_)
  · refine lv_aload_n K.1.1 K.1.2.1 dX11_setShade_20 rfl (lv_at hl 0 rfl) ?_
    refine m_cV (n := 0) (As := []) (rest := []) K hP hS (MX11_records l G B _  (by subst er_1 eg_2; rw [up2k_states]; exact hs)) (by decide) sh_259 rfl q_1216 q_1218 q_25 q_91 q_1219 hv_X11_records ⟨Nat.le_of_ble_eq_true rfl, Nat.le_of_ble_eq_true rfl⟩ rfl hl.1 rfl (Nat.le_of_ble_eq_true rfl) dX11_setShade_21 ⟨Nat.zero_le _, Nat.zero_le _⟩ (fun H locs hP hS => ?_)
    refine W.eq (g2 := F0 m 24 ls []) rfl ?_
    refine lv_aload_n K.1.1 K.1.2.1 dX11_setShade_24 rfl (lv_at hl 0 rfl) ?_
    refine lv_iload_n K.1.1 K.1.2.1 dX11_setShade_25 rfl (lv_at hl 1 rfl) ?_
    refine lv_iload_n K.1.1 K.1.2.1 dX11_setShade_26 rfl (lv_at hl 2 rfl) ?_
    refine lv_iload_n K.1.1 K.1.2.1 dX11_setShade_27 rfl (lv_at hl 3 rfl) ?_
    refine m_cV (n := 3) (As := [.int t, .int k, .int a]) (rest := []) K hP hS (MX11_shades l G B _ t k a (by subst er_1 eg_2; rw [up2_s] at c_15; exact isTrader_vp hI (shT c_15))) (by decide) sh_259 rfl q_1252 q_1254 q_32 q_91 q_1255 hv_X11_shades ⟨Nat.le_of_ble_eq_true rfl, Nat.le_of_ble_eq_true rfl⟩ rfl hl.1 rfl (Nat.le_of_ble_eq_true rfl) dX11_setShade_28 ⟨Nat.zero_le _, Nat.zero_le _⟩ (fun H locs hP hS => ?_)
    refine lv_topi (fun r_3 er_3 => ?_)
    exact m_iret K hr hlocks hP hS dX11_setShade_31 (by subst er_1 eg_2 er_3; rw [up2_s] at c_15; first | (rw [M_setShade, M_call, if_pos c_15]; first | done | rfl) | (rw [M_setShade, M_call, if_neg c_15]; first | done | rfl)) (by subst er_1 eg_2 er_3; rw [up2_s] at c_15; first | (rw [M_setShade, M_call, if_pos c_15]; first | done | rfl) | (rw [M_setShade, M_call, if_neg c_15]; first | done | rfl))
  · refine lv_iconst (v := 0) K.1.1 K.1.2.1 dX11_setShade_18 (by decide) ?_
    exact m_iret K hr hlocks hP hS dX11_setShade_19 (by subst er_1 eg_2; rw [up2_s] at c_15; first | (rw [M_setShade, M_call, if_pos c_15]; first | done | rfl) | (rw [M_setShade, M_call, if_neg c_15]; first | done | rfl)) (by subst er_1 eg_2; rw [up2_s] at c_15; first | (rw [M_setShade, M_call, if_pos c_15]; first | done | rfl) | (rw [M_setShade, M_call, if_neg c_15]; first | done | rfl))

set_option maxHeartbeats 4000000 in
set_option maxRecDepth 100000 in
theorem MX11_settingError (l : Launch) (G : GG) (B : Nat) (μ : Mm) (w : Int32) (v : Int32) : CM l yX11_settingError (.code yX11_settingError cX11_settingError 3 (Option.some FieldType.int)) 1 22 G B [.int w, .int v] μ (some (.int (M_settingError w v))) μ := by
  refine CM.of (by decide) (Nat.le_of_ble_eq_true rfl) ?_
  intro p e s m below meth c ls K hr hlocks hP hl
  have hS : va_S (AA B) s.heap s.heap [] := va_S.rf
  have hl : lv_has ls 3 [(0, .int w), (1, .int v)] := hl
  refine lv_iload_n K.1.1 K.1.2.1 dX11_settingError_0 rfl (lv_at hl 0 rfl) ?_
  refine lv_if_ne (tgt := 14) K.1.1 K.1.2.1 dX11_settingError_1 (by decide) (fun c_1 => ?_) (fun c_1 => ?_)
  · refine lv_iload_n K.1.1 K.1.2.1 dX11_settingError_14 rfl (lv_at hl 0 rfl) ?_
    refine lv_iconst (v := 1) K.1.1 K.1.2.1 dX11_settingError_15 (by decide) ?_
    refine lv_icmp_ne (tgt := 33) K.1.1 K.1.2.1 dX11_settingError_16 (by decide) (fun c_16 => ?_) (fun c_16 => ?_)
    · refine lv_iconst (v := 0) K.1.1 K.1.2.1 dX11_settingError_33 (by decide) ?_
      refine lv_istore_n (lv' := [(2, .int 0), (0, .int w), (1, .int v)]) K.1.1 K.1.2.1 dX11_settingError_34 rfl hl (by decide) rfl (fun ls hl => ?_)
      refine lv_iload_n K.1.1 K.1.2.1 dX11_settingError_35 rfl (lv_at hl 0 rfl) ?_
      refine lv_if_eq (tgt := 43) K.1.1 K.1.2.1 dX11_settingError_36 (by decide) (fun c_36 => ?_) (fun c_36 => ?_)
      · refine lv_iconst (v := 1) K.1.1 K.1.2.1 dX11_settingError_43 (by decide) ?_
        exact m_iret K hr hlocks hP hS dX11_settingError_44 (by skip; first | exact absurd rfl c_36 | exact absurd c_36 (by decide) | exact absurd (c_1.symm.trans c_16) (by decide) | (simp only [M_settingError, c_1, c_16, c_36, if_true, if_false, reduceIte]; done) | simp [M_settingError, c_1, c_16, c_36]) rfl
      · refine lv_iconst (v := 0) K.1.1 K.1.2.1 dX11_settingError_39 (by decide) ?_
        refine lv_goto (tgt := 44) K.1.1 K.1.2.1 dX11_settingError_40 (by decide) ?_
        exact m_iret K hr hlocks hP hS dX11_settingError_44 (by skip; first | exact absurd rfl c_36 | exact absurd c_36 (by decide) | exact absurd (c_1.symm.trans c_16) (by decide) | (simp only [M_settingError, c_1, c_16, c_36, if_true, if_false, reduceIte]; done) | simp [M_settingError, c_1, c_16, c_36]) rfl
    · refine lv_iload_n K.1.1 K.1.2.1 dX11_settingError_19 rfl (lv_at hl 1 rfl) ?_
      refine lv_iconst (v := 1) K.1.1 K.1.2.1 dX11_settingError_20 (by decide) ?_
      refine lv_bipush (v := 9) K.1.1 K.1.2.1 dX11_settingError_21 (by decide) ?_
      refine m_cS (n := 3) (As := [.int v, .int 1, .int 9]) (rest := []) K hP hS (MX11_isIn l G B _ v 1 9 ) q_1213 q_1214 q_91 q_1215 hv_X11_isIn ⟨Nat.le_of_ble_eq_true rfl, Nat.le_of_ble_eq_true rfl⟩ rfl hl.1 rfl (Nat.le_of_ble_eq_true rfl) dX11_settingError_23 ⟨Nat.zero_le _, Nat.zero_le _⟩ (fun H locs hP hS => ?_)
      refine lv_topi (fun r_1 er_1 => ?_)
      refine lv_if_eq (tgt := 33) K.1.1 K.1.2.1 dX11_settingError_26 (by decide) (fun c_26 => ?_) (fun c_26 => ?_)
      · refine lv_iconst (v := 0) K.1.1 K.1.2.1 dX11_settingError_33 (by decide) ?_
        refine lv_istore_n (lv' := [(2, .int 0), (0, .int w), (1, .int v)]) K.1.1 K.1.2.1 dX11_settingError_34 rfl hl (by decide) rfl (fun ls hl => ?_)
        refine lv_iload_n K.1.1 K.1.2.1 dX11_settingError_35 rfl (lv_at hl 0 rfl) ?_
        refine lv_if_eq (tgt := 43) K.1.1 K.1.2.1 dX11_settingError_36 (by decide) (fun c_36 => ?_) (fun c_36 => ?_)
        · refine lv_iconst (v := 1) K.1.1 K.1.2.1 dX11_settingError_43 (by decide) ?_
          exact m_iret K hr hlocks hP hS dX11_settingError_44 (by subst er_1; first | exact absurd rfl c_36 | exact absurd c_36 (by decide) | exact absurd (c_1.symm.trans c_16) (by decide) | (simp only [M_settingError, c_1, c_16, c_26, c_36, if_true, if_false, reduceIte]; done) | simp [M_settingError, c_1, c_16, c_26, c_36]) rfl
        · refine lv_iconst (v := 0) K.1.1 K.1.2.1 dX11_settingError_39 (by decide) ?_
          refine lv_goto (tgt := 44) K.1.1 K.1.2.1 dX11_settingError_40 (by decide) ?_
          exact m_iret K hr hlocks hP hS dX11_settingError_44 (by subst er_1; first | exact absurd rfl c_36 | exact absurd c_36 (by decide) | exact absurd (c_1.symm.trans c_16) (by decide) | (simp only [M_settingError, c_1, c_16, c_26, c_36, if_true, if_false, reduceIte]; done) | simp [M_settingError, c_1, c_16, c_26, c_36]) rfl
      · refine lv_iconst (v := 1) K.1.1 K.1.2.1 dX11_settingError_29 (by decide) ?_
        refine lv_goto (tgt := 34) K.1.1 K.1.2.1 dX11_settingError_30 (by decide) ?_
        refine lv_istore_n (lv' := [(2, .int 1), (0, .int w), (1, .int v)]) K.1.1 K.1.2.1 dX11_settingError_34 rfl hl (by decide) rfl (fun ls hl => ?_)
        refine lv_iload_n K.1.1 K.1.2.1 dX11_settingError_35 rfl (lv_at hl 0 rfl) ?_
        refine lv_if_eq (tgt := 43) K.1.1 K.1.2.1 dX11_settingError_36 (by decide) (fun c_36 => ?_) (fun c_36 => ?_)
        · refine lv_iconst (v := 1) K.1.1 K.1.2.1 dX11_settingError_43 (by decide) ?_
          exact m_iret K hr hlocks hP hS dX11_settingError_44 (by subst er_1; first | exact absurd rfl c_36 | exact absurd c_36 (by decide) | exact absurd (c_1.symm.trans c_16) (by decide) | (simp only [M_settingError, c_1, c_16, c_26, c_36, if_true, if_false, reduceIte]; done) | simp [M_settingError, c_1, c_16, c_26, c_36]) rfl
        · refine lv_iconst (v := 0) K.1.1 K.1.2.1 dX11_settingError_39 (by decide) ?_
          refine lv_goto (tgt := 44) K.1.1 K.1.2.1 dX11_settingError_40 (by decide) ?_
          exact m_iret K hr hlocks hP hS dX11_settingError_44 (by subst er_1; first | exact absurd rfl c_36 | exact absurd c_36 (by decide) | exact absurd (c_1.symm.trans c_16) (by decide) | (simp only [M_settingError, c_1, c_16, c_26, c_36, if_true, if_false, reduceIte]; done) | simp [M_settingError, c_1, c_16, c_26, c_36]) rfl
  · refine lv_iload_n K.1.1 K.1.2.1 dX11_settingError_4 rfl (lv_at hl 1 rfl) ?_
    refine lv_iconst (v := 0) K.1.1 K.1.2.1 dX11_settingError_5 (by decide) ?_
    refine lv_bipush (v := 10) K.1.1 K.1.2.1 dX11_settingError_6 (by decide) ?_
    refine m_cS (n := 3) (As := [.int v, .int 0, .int 10]) (rest := []) K hP hS (MX11_isIn l G B _ v 0 10 ) q_1213 q_1214 q_91 q_1215 hv_X11_isIn ⟨Nat.le_of_ble_eq_true rfl, Nat.le_of_ble_eq_true rfl⟩ rfl hl.1 rfl (Nat.le_of_ble_eq_true rfl) dX11_settingError_8 ⟨Nat.zero_le _, Nat.zero_le _⟩ (fun H locs hP hS => ?_)
    refine lv_topi (fun r_2 er_2 => ?_)
    refine lv_if_ne (tgt := 29) K.1.1 K.1.2.1 dX11_settingError_11 (by decide) (fun c_11 => ?_) (fun c_11 => ?_)
    · refine lv_iconst (v := 1) K.1.1 K.1.2.1 dX11_settingError_29 (by decide) ?_
      refine lv_goto (tgt := 34) K.1.1 K.1.2.1 dX11_settingError_30 (by decide) ?_
      refine lv_istore_n (lv' := [(2, .int 1), (0, .int w), (1, .int v)]) K.1.1 K.1.2.1 dX11_settingError_34 rfl hl (by decide) rfl (fun ls hl => ?_)
      refine lv_iload_n K.1.1 K.1.2.1 dX11_settingError_35 rfl (lv_at hl 0 rfl) ?_
      refine lv_if_eq (tgt := 43) K.1.1 K.1.2.1 dX11_settingError_36 (by decide) (fun c_36 => ?_) (fun c_36 => ?_)
      · refine lv_iconst (v := 1) K.1.1 K.1.2.1 dX11_settingError_43 (by decide) ?_
        exact m_iret K hr hlocks hP hS dX11_settingError_44 (by subst er_2; first | exact absurd rfl c_36 | exact absurd c_36 (by decide) | exact absurd (c_1.symm.trans c_16) (by decide) | (simp only [M_settingError, c_1, c_11, c_36, if_true, if_false, reduceIte]; done) | simp [M_settingError, c_1, c_11, c_36]) rfl
      · refine lv_iconst (v := 0) K.1.1 K.1.2.1 dX11_settingError_39 (by decide) ?_
        refine lv_goto (tgt := 44) K.1.1 K.1.2.1 dX11_settingError_40 (by decide) ?_
        exact m_iret K hr hlocks hP hS dX11_settingError_44 (by subst er_2; first | exact absurd rfl c_36 | exact absurd c_36 (by decide) | exact absurd (c_1.symm.trans c_16) (by decide) | (simp only [M_settingError, c_1, c_11, c_36, if_true, if_false, reduceIte]; done) | simp [M_settingError, c_1, c_11, c_36]) rfl
    · refine lv_iload_n K.1.1 K.1.2.1 dX11_settingError_14 rfl (lv_at hl 0 rfl) ?_
      refine lv_iconst (v := 1) K.1.1 K.1.2.1 dX11_settingError_15 (by decide) ?_
      refine lv_icmp_ne (tgt := 33) K.1.1 K.1.2.1 dX11_settingError_16 (by decide) (fun c_16 => ?_) (fun c_16 => ?_)
      · refine lv_iconst (v := 0) K.1.1 K.1.2.1 dX11_settingError_33 (by decide) ?_
        refine lv_istore_n (lv' := [(2, .int 0), (0, .int w), (1, .int v)]) K.1.1 K.1.2.1 dX11_settingError_34 rfl hl (by decide) rfl (fun ls hl => ?_)
        refine lv_iload_n K.1.1 K.1.2.1 dX11_settingError_35 rfl (lv_at hl 0 rfl) ?_
        refine lv_if_eq (tgt := 43) K.1.1 K.1.2.1 dX11_settingError_36 (by decide) (fun c_36 => ?_) (fun c_36 => ?_)
        · refine lv_iconst (v := 1) K.1.1 K.1.2.1 dX11_settingError_43 (by decide) ?_
          exact m_iret K hr hlocks hP hS dX11_settingError_44 (by subst er_2; first | exact absurd rfl c_36 | exact absurd c_36 (by decide) | exact absurd (c_1.symm.trans c_16) (by decide) | (simp only [M_settingError, c_1, c_11, c_16, c_36, if_true, if_false, reduceIte]; done) | simp [M_settingError, c_1, c_11, c_16, c_36]) rfl
        · refine lv_iconst (v := 0) K.1.1 K.1.2.1 dX11_settingError_39 (by decide) ?_
          refine lv_goto (tgt := 44) K.1.1 K.1.2.1 dX11_settingError_40 (by decide) ?_
          exact m_iret K hr hlocks hP hS dX11_settingError_44 (by subst er_2; first | exact absurd rfl c_36 | exact absurd c_36 (by decide) | exact absurd (c_1.symm.trans c_16) (by decide) | (simp only [M_settingError, c_1, c_11, c_16, c_36, if_true, if_false, reduceIte]; done) | simp [M_settingError, c_1, c_11, c_16, c_36]) rfl
      · refine lv_iload_n K.1.1 K.1.2.1 dX11_settingError_19 rfl (lv_at hl 1 rfl) ?_
        refine lv_iconst (v := 1) K.1.1 K.1.2.1 dX11_settingError_20 (by decide) ?_
        refine lv_bipush (v := 9) K.1.1 K.1.2.1 dX11_settingError_21 (by decide) ?_
        refine m_cS (n := 3) (As := [.int v, .int 1, .int 9]) (rest := []) K hP hS (MX11_isIn l G B _ v 1 9 ) q_1213 q_1214 q_91 q_1215 hv_X11_isIn ⟨Nat.le_of_ble_eq_true rfl, Nat.le_of_ble_eq_true rfl⟩ rfl hl.1 rfl (Nat.le_of_ble_eq_true rfl) dX11_settingError_23 ⟨Nat.zero_le _, Nat.zero_le _⟩ (fun H locs hP hS => ?_)
        refine lv_topi (fun r_3 er_3 => ?_)
        refine lv_if_eq (tgt := 33) K.1.1 K.1.2.1 dX11_settingError_26 (by decide) (fun c_26 => ?_) (fun c_26 => ?_)
        · refine lv_iconst (v := 0) K.1.1 K.1.2.1 dX11_settingError_33 (by decide) ?_
          refine lv_istore_n (lv' := [(2, .int 0), (0, .int w), (1, .int v)]) K.1.1 K.1.2.1 dX11_settingError_34 rfl hl (by decide) rfl (fun ls hl => ?_)
          refine lv_iload_n K.1.1 K.1.2.1 dX11_settingError_35 rfl (lv_at hl 0 rfl) ?_
          refine lv_if_eq (tgt := 43) K.1.1 K.1.2.1 dX11_settingError_36 (by decide) (fun c_36 => ?_) (fun c_36 => ?_)
          · refine lv_iconst (v := 1) K.1.1 K.1.2.1 dX11_settingError_43 (by decide) ?_
            exact m_iret K hr hlocks hP hS dX11_settingError_44 (by subst er_2 er_3; first | exact absurd rfl c_36 | exact absurd c_36 (by decide) | exact absurd (c_1.symm.trans c_16) (by decide) | (simp only [M_settingError, c_1, c_11, c_16, c_26, c_36, if_true, if_false, reduceIte]; done) | simp [M_settingError, c_1, c_11, c_16, c_26, c_36]) rfl
          · refine lv_iconst (v := 0) K.1.1 K.1.2.1 dX11_settingError_39 (by decide) ?_
            refine lv_goto (tgt := 44) K.1.1 K.1.2.1 dX11_settingError_40 (by decide) ?_
            exact m_iret K hr hlocks hP hS dX11_settingError_44 (by subst er_2 er_3; first | exact absurd rfl c_36 | exact absurd c_36 (by decide) | exact absurd (c_1.symm.trans c_16) (by decide) | (simp only [M_settingError, c_1, c_11, c_16, c_26, c_36, if_true, if_false, reduceIte]; done) | simp [M_settingError, c_1, c_11, c_16, c_26, c_36]) rfl
        · refine lv_iconst (v := 1) K.1.1 K.1.2.1 dX11_settingError_29 (by decide) ?_
          refine lv_goto (tgt := 34) K.1.1 K.1.2.1 dX11_settingError_30 (by decide) ?_
          refine lv_istore_n (lv' := [(2, .int 1), (0, .int w), (1, .int v)]) K.1.1 K.1.2.1 dX11_settingError_34 rfl hl (by decide) rfl (fun ls hl => ?_)
          refine lv_iload_n K.1.1 K.1.2.1 dX11_settingError_35 rfl (lv_at hl 0 rfl) ?_
          refine lv_if_eq (tgt := 43) K.1.1 K.1.2.1 dX11_settingError_36 (by decide) (fun c_36 => ?_) (fun c_36 => ?_)
          · refine lv_iconst (v := 1) K.1.1 K.1.2.1 dX11_settingError_43 (by decide) ?_
            exact m_iret K hr hlocks hP hS dX11_settingError_44 (by subst er_2 er_3; first | exact absurd rfl c_36 | exact absurd c_36 (by decide) | exact absurd (c_1.symm.trans c_16) (by decide) | (simp only [M_settingError, c_1, c_11, c_16, c_26, c_36, if_true, if_false, reduceIte]; done) | simp [M_settingError, c_1, c_11, c_16, c_26, c_36]) rfl
          · refine lv_iconst (v := 0) K.1.1 K.1.2.1 dX11_settingError_39 (by decide) ?_
            refine lv_goto (tgt := 44) K.1.1 K.1.2.1 dX11_settingError_40 (by decide) ?_
            exact m_iret K hr hlocks hP hS dX11_settingError_44 (by subst er_2 er_3; first | exact absurd rfl c_36 | exact absurd c_36 (by decide) | exact absurd (c_1.symm.trans c_16) (by decide) | (simp only [M_settingError, c_1, c_11, c_16, c_26, c_36, if_true, if_false, reduceIte]; done) | simp [M_settingError, c_1, c_11, c_16, c_26, c_36]) rfl

set_option maxHeartbeats 4000000 in
set_option maxRecDepth 100000 in
theorem MX11_sets (l : Launch) (G : GG) (B : Nat) (μ : Mm) (w : Int32) (v : Int32) (h : vp_in (3 + w) 267) : CM l yX11_sets (.code yX11_sets cX11_sets 4 (Option.some FieldType.int)) 0 0 G B [.ref (B + 259), .int w, .int v] μ (some (.int (μ 260 (cn (3 + w))))) (M_setsM μ w v) := by
  refine CM.of (by decide) (Nat.le_of_ble_eq_true rfl) ?_
  intro p e s m below meth c ls K hr hlocks hP hl
  have hS : va_S (AA B) s.heap s.heap [] := va_S.rf
  have hl : lv_has ls 4 [(0, .ref (B + 259)), (1, .int w), (2, .int v)] := hl
  refine lv_aload_n K.1.1 K.1.2.1 dX11_sets_0 rfl (lv_at hl 0 rfl) ?_
  refine m_getr K hP (by decide) sh_259 rfl tuX11 0 (by decide) rfl q_1150 dX11_sets_1 ?_
  refine lv_iconst (v := 3) K.1.1 K.1.2.1 dX11_sets_4 (by decide) ?_
  refine lv_iload_n K.1.1 K.1.2.1 dX11_sets_5 rfl (lv_at hl 1 rfl) ?_
  refine lv_iadd K.1.1 K.1.2.1 dX11_sets_6 ?_
  refine m_iald K hP (by decide) sh_260 (n := 267) (h) dX11_sets_7 ?_
  refine lv_topi (fun g_1 eg_1 => ?_)
  have eg_1 : g_1 = (_ : Mm) 260 (cn (3 + w)) := eg_1
  refine lv_istore_n (lv' := [(3, .int g_1), (0, .ref (B + 259)), (1, .int w), (2, .int v)]) K.1.1 K.1.2.1 dX11_sets_8 rfl hl (by decide) rfl (fun ls hl => ?_)
  refine lv_aload_n K.1.1 K.1.2.1 dX11_sets_9 rfl (lv_at hl 1 rfl) ?_
  refine m_getr K hP (by decide) sh_259 rfl tuX11 0 (by decide) rfl q_1150 dX11_sets_10 ?_
  refine lv_iconst (v := 3) K.1.1 K.1.2.1 dX11_sets_13 (by decide) ?_
  refine lv_iload_n K.1.1 K.1.2.1 dX11_sets_14 rfl (lv_at hl 2 rfl) ?_
  refine lv_iadd K.1.1 K.1.2.1 dX11_sets_15 ?_
  refine lv_iload_n K.1.1 K.1.2.1 dX11_sets_16 rfl (lv_at hl 3 rfl) ?_
  refine m_iast K hP hS (by decide) sh_260 (n := 267) (h) dX11_sets_17 (fun H locs hP hS => ?_)
  have hP : MP G B (up2 _ 260 (cn (3 + w)) _) H := hP
  refine lv_iload_n K.1.1 K.1.2.1 dX11_sets_18 rfl (lv_at hl 0 rfl) ?_
  exact m_iret K hr hlocks hP hS dX11_sets_19 (by subst eg_1; rfl) (by subst eg_1; rfl)

set_option maxHeartbeats 4000000 in
set_option maxRecDepth 100000 in
theorem MX11_set (l : Launch) (G : GG) (B : Nat) (μ : Mm) (w : Int32) (v : Int32) (hI : MI μ) (hs : vp_in (μ 259 2) 5) : CM l yX11_set (.code yX11_set cX11_set 3 (Option.some FieldType.int)) 2 44 G B [.ref (B + 259), .int w, .int v] μ (some (.int ((M_set μ w v).2))) ((M_set μ w v).1) := by
  refine CM.of (by decide) (Nat.le_of_ble_eq_true rfl) ?_
  intro p e s m below meth c ls K hr hlocks hP hl
  have hS : va_S (AA B) s.heap s.heap [] := va_S.rf
  have hl : lv_has ls 3 [(0, .ref (B + 259)), (1, .int w), (2, .int v)] := hl
  refine lv_aload_n K.1.1 K.1.2.1 dX11_set_0 rfl (lv_at hl 0 rfl) ?_
  refine lv_iload_n K.1.1 K.1.2.1 dX11_set_1 rfl (lv_at hl 1 rfl) ?_
  refine lv_iload_n K.1.1 K.1.2.1 dX11_set_2 rfl (lv_at hl 2 rfl) ?_
  refine m_cS (n := 2) (As := [.int w, .int v]) (rest := [.ref (B + 259)]) K hP hS (MX11_settingError l G B _ w v ) q_1268 q_1269 q_91 q_1270 hv_X11_settingError ⟨Nat.le_of_ble_eq_true rfl, Nat.le_of_ble_eq_true rfl⟩ rfl hl.1 rfl (Nat.le_of_ble_eq_true rfl) dX11_set_3 ⟨Nat.zero_le _, Nat.zero_le _⟩ (fun H locs hP hS => ?_)
  refine lv_topi (fun r_1 er_1 => ?_)
  refine m_puti K hP hS (by decide) sh_259 rfl tuX11 tyX11 tyX11_ok nmX11 3 (by decide) rfl rfl (by decide +kernel) q_1153 dX11_set_6 (fun H locs hP hS => ?_)
  refine lv_aload_n K.1.1 K.1.2.1 dX11_set_9 rfl (lv_at hl 0 rfl) ?_
  refine m_geti K hP (by decide) sh_259 rfl tuX11 3 (by decide) rfl q_1153 dX11_set_10 ?_
  refine lv_topi (fun g_2 eg_2 => ?_)
  refine lv_if_eq (tgt := 18) K.1.1 K.1.2.1 dX11_set_13 (by decide) (fun c_13 => ?_) (fun c_13 => ?_)
  · refine lv_aload_n K.1.1 K.1.2.1 dX11_set_18 rfl (lv_at hl 0 rfl) ?_
    refine m_cV (n := 0) (As := []) (rest := []) K hP hS (MX11_records l G B _  (by subst er_1 eg_2; rw [up2k_states]; exact hs)) (by decide) sh_259 rfl q_1216 q_1218 q_25 q_91 q_1219 hv_X11_records ⟨Nat.le_of_ble_eq_true rfl, Nat.le_of_ble_eq_true rfl⟩ rfl hl.1 rfl (Nat.le_of_ble_eq_true rfl) dX11_set_19 ⟨Nat.zero_le _, Nat.zero_le _⟩ (fun H locs hP hS => ?_)
    refine W.eq (g2 := F0 m 22 ls []) rfl ?_
    refine lv_aload_n K.1.1 K.1.2.1 dX11_set_22 rfl (lv_at hl 0 rfl) ?_
    refine lv_iload_n K.1.1 K.1.2.1 dX11_set_23 rfl (lv_at hl 1 rfl) ?_
    refine lv_iload_n K.1.1 K.1.2.1 dX11_set_24 rfl (lv_at hl 2 rfl) ?_
    refine m_cV (n := 2) (As := [.int w, .int v]) (rest := []) K hP hS (MX11_sets l G B _ w v (by subst er_1 eg_2; rw [up2_s] at c_13; exact setting_vp c_13)) (by decide) sh_259 rfl q_1271 q_1273 q_35 q_91 q_1274 hv_X11_sets ⟨Nat.le_of_ble_eq_true rfl, Nat.le_of_ble_eq_true rfl⟩ rfl hl.1 rfl (Nat.le_of_ble_eq_true rfl) dX11_set_25 ⟨Nat.zero_le _, Nat.zero_le _⟩ (fun H locs hP hS => ?_)
    refine lv_topi (fun r_3 er_3 => ?_)
    exact m_iret K hr hlocks hP hS dX11_set_28 (by subst er_1 eg_2 er_3; rw [up2_s] at c_13; first | (rw [M_set, M_call, if_pos c_13]; first | done | rfl) | (rw [M_set, M_call, if_neg c_13]; first | done | rfl)) (by subst er_1 eg_2 er_3; rw [up2_s] at c_13; first | (rw [M_set, M_call, if_pos c_13]; first | done | rfl) | (rw [M_set, M_call, if_neg c_13]; first | done | rfl))
  · refine lv_iconst (v := 0) K.1.1 K.1.2.1 dX11_set_16 (by decide) ?_
    exact m_iret K hr hlocks hP hS dX11_set_17 (by subst er_1 eg_2; rw [up2_s] at c_13; first | (rw [M_set, M_call, if_pos c_13]; first | done | rfl) | (rw [M_set, M_call, if_neg c_13]; first | done | rfl)) (by subst er_1 eg_2; rw [up2_s] at c_13; first | (rw [M_set, M_call, if_pos c_13]; first | done | rfl) | (rw [M_set, M_call, if_neg c_13]; first | done | rfl))

set_option maxHeartbeats 4000000 in
set_option maxRecDepth 100000 in
theorem MX11_orderError (l : Launch) (G : GG) (B : Nat) (μ : Mm) (t : Int32) (pr : Int32) (u : Int32) : CM l yX11_orderError (.code yX11_orderError cX11_orderError 4 (Option.some FieldType.int)) 2 43 G B [.ref (B + 259), .int t, .int pr, .int u] μ (some (.int (M_orderError μ t pr u))) μ := by
  refine CM.of (by decide) (Nat.le_of_ble_eq_true rfl) ?_
  intro p e s m below meth c ls K hr hlocks hP hl
  have hS : va_S (AA B) s.heap s.heap [] := va_S.rf
  have hl : lv_has ls 4 [(0, .ref (B + 259)), (1, .int t), (2, .int pr), (3, .int u)] := hl
  refine lv_aload_n K.1.1 K.1.2.1 dX11_orderError_0 rfl (lv_at hl 0 rfl) ?_
  refine lv_iload_n K.1.1 K.1.2.1 dX11_orderError_1 rfl (lv_at hl 1 rfl) ?_
  refine m_cV (n := 1) (As := [.int t]) (rest := []) K hP hS (MX11_isTrader l G B _ t ) (by decide) sh_259 rfl q_1236 q_1238 q_29 q_91 q_1239 hv_X11_isTrader ⟨Nat.le_of_ble_eq_true rfl, Nat.le_of_ble_eq_true rfl⟩ rfl hl.1 rfl (Nat.le_of_ble_eq_true rfl) dX11_orderError_2 ⟨Nat.zero_le _, Nat.zero_le _⟩ (fun H locs hP hS => ?_)
  refine lv_topi (fun r_1 er_1 => ?_)
  refine lv_if_ne (tgt := 10) K.1.1 K.1.2.1 dX11_orderError_5 (by decide) (fun c_5 => ?_) (fun c_5 => ?_)
  · refine lv_iload_n K.1.1 K.1.2.1 dX11_orderError_10 rfl (lv_at hl 2 rfl) ?_
    refine lv_iconst (v := 1) K.1.1 K.1.2.1 dX11_orderError_11 (by decide) ?_
    refine lv_bipush (v := 120) K.1.1 K.1.2.1 dX11_orderError_12 (by decide) ?_
    refine m_cS (n := 3) (As := [.int pr, .int 1, .int 120]) (rest := []) K hP hS (MX11_isIn l G B _ pr 1 120 ) q_1213 q_1214 q_91 q_1215 hv_X11_isIn ⟨Nat.le_of_ble_eq_true rfl, Nat.le_of_ble_eq_true rfl⟩ rfl hl.1 rfl (Nat.le_of_ble_eq_true rfl) dX11_orderError_14 ⟨Nat.zero_le _, Nat.zero_le _⟩ (fun H locs hP hS => ?_)
    refine lv_topi (fun r_2 er_2 => ?_)
    refine lv_if_eq (tgt := 30) K.1.1 K.1.2.1 dX11_orderError_17 (by decide) (fun c_17 => ?_) (fun c_17 => ?_)
    · refine lv_iconst (v := 2) K.1.1 K.1.2.1 dX11_orderError_30 (by decide) ?_
      exact m_iret K hr hlocks hP hS dX11_orderError_31 (by subst er_1 er_2; first | (simp only [M_orderError, c_5, c_17, if_true, if_false, ite_true, ite_false, reduceIte, not_true, not_false_iff]; done) | simp [M_orderError, c_5, c_17]) rfl
    · refine lv_iload_n K.1.1 K.1.2.1 dX11_orderError_20 rfl (lv_at hl 3 rfl) ?_
      refine lv_iconst (v := 1) K.1.1 K.1.2.1 dX11_orderError_21 (by decide) ?_
      refine lv_bipush (v := 9) K.1.1 K.1.2.1 dX11_orderError_22 (by decide) ?_
      refine m_cS (n := 3) (As := [.int u, .int 1, .int 9]) (rest := []) K hP hS (MX11_isIn l G B _ u 1 9 ) q_1213 q_1214 q_91 q_1215 hv_X11_isIn ⟨Nat.le_of_ble_eq_true rfl, Nat.le_of_ble_eq_true rfl⟩ rfl hl.1 rfl (Nat.le_of_ble_eq_true rfl) dX11_orderError_24 ⟨Nat.zero_le _, Nat.zero_le _⟩ (fun H locs hP hS => ?_)
      refine lv_topi (fun r_3 er_3 => ?_)
      refine lv_if_ne (tgt := 32) K.1.1 K.1.2.1 dX11_orderError_27 (by decide) (fun c_27 => ?_) (fun c_27 => ?_)
      · refine lv_aload_n K.1.1 K.1.2.1 dX11_orderError_32 rfl (lv_at hl 0 rfl) ?_
        refine m_getr K hP (by decide) sh_259 rfl tuX11 0 (by decide) rfl q_1150 dX11_orderError_33 ?_
        refine lv_iconst (v := 1) K.1.1 K.1.2.1 dX11_orderError_36 (by decide) ?_
        refine m_iald K hP (by decide) sh_260 (n := 267) (vpd rfl) dX11_orderError_37 ?_
        refine lv_topi (fun g_4 eg_4 => ?_)
        have eg_4 : g_4 = (_ : Mm) 260 1 := eg_4
        refine lv_bipush (v := 20) K.1.1 K.1.2.1 dX11_orderError_38 (by decide) ?_
        refine lv_icmp_ge (tgt := 47) K.1.1 K.1.2.1 dX11_orderError_40 (by decide) (fun c_40 => ?_) (fun c_40 => ?_)
        · refine lv_iconst (v := 3) K.1.1 K.1.2.1 dX11_orderError_47 (by decide) ?_
          exact m_iret K hr hlocks hP hS dX11_orderError_48 (by subst er_1 er_2 er_3 eg_4; first | (simp only [M_orderError, c_5, c_17, c_27, c_40, Int32.not_lt.mpr c_40, if_true, if_false, ite_true, ite_false, reduceIte, not_true, not_false_iff]; done) | simp [M_orderError, c_5, c_17, c_27, c_40, Int32.not_lt.mpr c_40]) rfl
        · refine lv_iconst (v := 0) K.1.1 K.1.2.1 dX11_orderError_43 (by decide) ?_
          refine lv_goto (tgt := 48) K.1.1 K.1.2.1 dX11_orderError_44 (by decide) ?_
          exact m_iret K hr hlocks hP hS dX11_orderError_48 (by subst er_1 er_2 er_3 eg_4; first | (simp only [M_orderError, c_5, c_17, c_27, c_40, Int32.not_le.mp c_40, if_true, if_false, ite_true, ite_false, reduceIte, not_true, not_false_iff]; done) | simp [M_orderError, c_5, c_17, c_27, c_40, Int32.not_le.mp c_40]) rfl
      · refine lv_iconst (v := 2) K.1.1 K.1.2.1 dX11_orderError_30 (by decide) ?_
        exact m_iret K hr hlocks hP hS dX11_orderError_31 (by subst er_1 er_2 er_3; first | (simp only [M_orderError, c_5, c_17, c_27, if_true, if_false, ite_true, ite_false, reduceIte, not_true, not_false_iff]; done) | simp [M_orderError, c_5, c_17, c_27]) rfl
  · refine lv_iconst (v := 1) K.1.1 K.1.2.1 dX11_orderError_8 (by decide) ?_
    exact m_iret K hr hlocks hP hS dX11_orderError_9 (by subst er_1; first | (simp only [M_orderError, c_5, if_true, if_false, ite_true, ite_false, reduceIte, not_true, not_false_iff]; done) | simp [M_orderError, c_5]) rfl

set_option maxHeartbeats 4000000 in
set_option maxRecDepth 100000 in
theorem MX11_places (l : Launch) (G : GG) (B : Nat) (μ : Mm) (t : Int32) (pr : Int32) (u : Int32) (hk : vp_in (μ 260 1) 20) : CM l yX11_places (.code yX11_places cX11_places 5 (Option.some FieldType.int)) 1 23 G B [.ref (B + 259), .int t, .int pr, .int u] μ (some (.int ((M_places μ t pr u).2))) ((M_places μ t pr u).1) := by
  refine CM.of (by decide) (Nat.le_of_ble_eq_true rfl) ?_
  intro p e s m below meth c ls K hr hlocks hP hl
  have hS : va_S (AA B) s.heap s.heap [] := va_S.rf
  have hl : lv_has ls 5 [(0, .ref (B + 259)), (1, .int t), (2, .int pr), (3, .int u)] := hl
  refine lv_aload_n K.1.1 K.1.2.1 dX11_places_0 rfl (lv_at hl 0 rfl) ?_
  refine m_getr K hP (by decide) sh_259 rfl tuX11 0 (by decide) rfl q_1150 dX11_places_1 ?_
  refine lv_iconst (v := 1) K.1.1 K.1.2.1 dX11_places_4 (by decide) ?_
  refine m_iald K hP (by decide) sh_260 (n := 267) (vpd rfl) dX11_places_5 ?_
  refine lv_topi (fun g_1 eg_1 => ?_)
  have eg_1 : g_1 = (_ : Mm) 260 1 := eg_1
  refine lv_istore (lv' := [(4, .int g_1), (0, .ref (B + 259)), (1, .int t), (2, .int pr), (3, .int u)]) K.1.1 K.1.2.1 dX11_places_6 hl (by decide) rfl (fun ls hl => ?_)
  refine lv_aload_n K.1.1 K.1.2.1 dX11_places_8 rfl (lv_at hl 1 rfl) ?_
  refine m_getr K hP (by decide) sh_259 rfl tuX11 0 (by decide) rfl q_1150 dX11_places_9 ?_
  refine lv_iconst (v := 1) K.1.1 K.1.2.1 dX11_places_12 (by decide) ?_
  refine lv_dup2_11 K.1.1 K.1.2.1 dX11_places_13 rfl rfl ?_
  refine m_iald K hP (by decide) sh_260 (n := 267) (vpd rfl) dX11_places_14 ?_
  refine lv_topi (fun g_2 eg_2 => ?_)
  have eg_2 : g_2 = (_ : Mm) 260 1 := eg_2
  refine lv_iconst (v := 1) K.1.1 K.1.2.1 dX11_places_15 (by decide) ?_
  refine lv_iadd K.1.1 K.1.2.1 dX11_places_16 ?_
  refine m_iast K hP hS (by decide) sh_260 (n := 267) (vpd rfl) dX11_places_17 (fun H locs hP hS => ?_)
  have hP : MP G B (up2 _ 260 1 _) H := hP
  refine lv_aload_n K.1.1 K.1.2.1 dX11_places_18 rfl (lv_at hl 1 rfl) ?_
  refine lv_iload K.1.1 K.1.2.1 dX11_places_19 (lv_at hl 0 rfl) ?_
  refine lv_iconst (v := 0) K.1.1 K.1.2.1 dX11_places_21 (by decide) ?_
  refine lv_aload_n K.1.1 K.1.2.1 dX11_places_22 rfl (lv_at hl 1 rfl) ?_
  refine m_getr K hP (by decide) sh_259 rfl tuX11 0 (by decide) rfl q_1150 dX11_places_23 ?_
  refine lv_iconst (v := 5) K.1.1 K.1.2.1 dX11_places_26 (by decide) ?_
  refine m_iald K hP (by decide) sh_260 (n := 267) (vpd rfl) dX11_places_27 ?_
  refine lv_topi (fun g_3 eg_3 => ?_)
  have eg_3 : g_3 = (_ : Mm) 260 5 := eg_3
  refine m_cV (n := 3) (As := [.int g_1, .int 0, .int g_3]) (rest := []) K hP hS (MX11_setsO l G B _ g_1 0 g_3 (loO (by subst eg_1 eg_2 eg_3; exact hk) (vpd rfl))) (by decide) sh_259 rfl q_1287 q_1289 q_38 q_91 q_1290 hv_X11_setsO ⟨Nat.le_of_ble_eq_true rfl, Nat.le_of_ble_eq_true rfl⟩ rfl hl.1 rfl (Nat.le_of_ble_eq_true rfl) dX11_places_28 ⟨Nat.zero_le _, Nat.zero_le _⟩ (fun H locs hP hS => ?_)
  refine W.eq (g2 := F0 m 31 ls []) rfl ?_
  refine lv_aload_n K.1.1 K.1.2.1 dX11_places_31 rfl (lv_at hl 1 rfl) ?_
  refine lv_iload K.1.1 K.1.2.1 dX11_places_32 (lv_at hl 0 rfl) ?_
  refine lv_iconst (v := 1) K.1.1 K.1.2.1 dX11_places_34 (by decide) ?_
  refine lv_iload_n K.1.1 K.1.2.1 dX11_places_35 rfl (lv_at hl 2 rfl) ?_
  refine m_cV (n := 3) (As := [.int g_1, .int 1, .int t]) (rest := []) K hP hS (MX11_setsO l G B _ g_1 1 t (loO (by subst eg_1 eg_2 eg_3; exact hk) (vpd rfl))) (by decide) sh_259 rfl q_1287 q_1289 q_38 q_91 q_1290 hv_X11_setsO ⟨Nat.le_of_ble_eq_true rfl, Nat.le_of_ble_eq_true rfl⟩ rfl hl.1 rfl (Nat.le_of_ble_eq_true rfl) dX11_places_36 ⟨Nat.zero_le _, Nat.zero_le _⟩ (fun H locs hP hS => ?_)
  refine W.eq (g2 := F0 m 39 ls []) rfl ?_
  refine lv_aload_n K.1.1 K.1.2.1 dX11_places_39 rfl (lv_at hl 1 rfl) ?_
  refine lv_iload K.1.1 K.1.2.1 dX11_places_40 (lv_at hl 0 rfl) ?_
  refine lv_iconst (v := 2) K.1.1 K.1.2.1 dX11_places_42 (by decide) ?_
  refine lv_iload_n K.1.1 K.1.2.1 dX11_places_43 rfl (lv_at hl 3 rfl) ?_
  refine m_cV (n := 3) (As := [.int g_1, .int 2, .int pr]) (rest := []) K hP hS (MX11_setsO l G B _ g_1 2 pr (loO (by subst eg_1 eg_2 eg_3; exact hk) (vpd rfl))) (by decide) sh_259 rfl q_1287 q_1289 q_38 q_91 q_1290 hv_X11_setsO ⟨Nat.le_of_ble_eq_true rfl, Nat.le_of_ble_eq_true rfl⟩ rfl hl.1 rfl (Nat.le_of_ble_eq_true rfl) dX11_places_44 ⟨Nat.zero_le _, Nat.zero_le _⟩ (fun H locs hP hS => ?_)
  refine W.eq (g2 := F0 m 47 ls []) rfl ?_
  refine lv_aload_n K.1.1 K.1.2.1 dX11_places_47 rfl (lv_at hl 1 rfl) ?_
  refine lv_iload K.1.1 K.1.2.1 dX11_places_48 (lv_at hl 0 rfl) ?_
  refine lv_iconst (v := 3) K.1.1 K.1.2.1 dX11_places_50 (by decide) ?_
  refine lv_iload_n K.1.1 K.1.2.1 dX11_places_51 rfl (lv_at hl 4 rfl) ?_
  refine m_cV (n := 3) (As := [.int g_1, .int 3, .int u]) (rest := []) K hP hS (MX11_setsO l G B _ g_1 3 u (loO (by subst eg_1 eg_2 eg_3; exact hk) (vpd rfl))) (by decide) sh_259 rfl q_1287 q_1289 q_38 q_91 q_1290 hv_X11_setsO ⟨Nat.le_of_ble_eq_true rfl, Nat.le_of_ble_eq_true rfl⟩ rfl hl.1 rfl (Nat.le_of_ble_eq_true rfl) dX11_places_52 ⟨Nat.zero_le _, Nat.zero_le _⟩ (fun H locs hP hS => ?_)
  refine W.eq (g2 := F0 m 55 ls []) rfl ?_
  refine lv_aload_n K.1.1 K.1.2.1 dX11_places_55 rfl (lv_at hl 1 rfl) ?_
  refine lv_iload K.1.1 K.1.2.1 dX11_places_56 (lv_at hl 0 rfl) ?_
  refine lv_iconst (v := 4) K.1.1 K.1.2.1 dX11_places_58 (by decide) ?_
  refine lv_aload_n K.1.1 K.1.2.1 dX11_places_59 rfl (lv_at hl 1 rfl) ?_
  refine m_getr K hP (by decide) sh_259 rfl tuX11 0 (by decide) rfl q_1150 dX11_places_60 ?_
  refine lv_iconst (v := 2) K.1.1 K.1.2.1 dX11_places_63 (by decide) ?_
  refine m_iald K hP (by decide) sh_260 (n := 267) (vpd rfl) dX11_places_64 ?_
  refine lv_topi (fun g_4 eg_4 => ?_)
  have eg_4 : g_4 = (_ : Mm) 260 2 := eg_4
  refine m_cV (n := 3) (As := [.int g_1, .int 4, .int g_4]) (rest := []) K hP hS (MX11_setsO l G B _ g_1 4 g_4 (loO (by subst eg_1 eg_2 eg_3 eg_4; exact hk) (vpd rfl))) (by decide) sh_259 rfl q_1287 q_1289 q_38 q_91 q_1290 hv_X11_setsO ⟨Nat.le_of_ble_eq_true rfl, Nat.le_of_ble_eq_true rfl⟩ rfl hl.1 rfl (Nat.le_of_ble_eq_true rfl) dX11_places_65 ⟨Nat.zero_le _, Nat.zero_le _⟩ (fun H locs hP hS => ?_)
  refine W.eq (g2 := F0 m 68 ls []) rfl ?_
  refine lv_aload_n K.1.1 K.1.2.1 dX11_places_68 rfl (lv_at hl 1 rfl) ?_
  refine m_getr K hP (by decide) sh_259 rfl tuX11 0 (by decide) rfl q_1150 dX11_places_69 ?_
  refine lv_iconst (v := 5) K.1.1 K.1.2.1 dX11_places_72 (by decide) ?_
  refine lv_dup2_11 K.1.1 K.1.2.1 dX11_places_73 rfl rfl ?_
  refine m_iald K hP (by decide) sh_260 (n := 267) (vpd rfl) dX11_places_74 ?_
  refine lv_topi (fun g_5 eg_5 => ?_)
  have eg_5 : g_5 = (_ : Mm) 260 5 := eg_5
  refine lv_iconst (v := 1) K.1.1 K.1.2.1 dX11_places_75 (by decide) ?_
  refine lv_iadd K.1.1 K.1.2.1 dX11_places_76 ?_
  refine m_iast K hP hS (by decide) sh_260 (n := 267) (vpd rfl) dX11_places_77 (fun H locs hP hS => ?_)
  have hP : MP G B (up2 _ 260 5 _) H := hP
  refine lv_aload_n K.1.1 K.1.2.1 dX11_places_78 rfl (lv_at hl 1 rfl) ?_
  refine lv_iload K.1.1 K.1.2.1 dX11_places_79 (lv_at hl 0 rfl) ?_
  refine lv_iconst (v := 0) K.1.1 K.1.2.1 dX11_places_81 (by decide) ?_
  refine m_cV (n := 2) (As := [.int g_1, .int 0]) (rest := []) K hP hS (MX11_ofO l G B _ g_1 0 (loO (by subst eg_1 eg_2 eg_3 eg_4 eg_5; exact hk) (vpd rfl))) (by decide) sh_259 rfl q_1291 q_1293 q_39 q_91 q_1294 hv_X11_ofO ⟨Nat.le_of_ble_eq_true rfl, Nat.le_of_ble_eq_true rfl⟩ rfl hl.1 rfl (Nat.le_of_ble_eq_true rfl) dX11_places_82 ⟨Nat.zero_le _, Nat.zero_le _⟩ (fun H locs hP hS => ?_)
  refine lv_topi (fun r_6 er_6 => ?_)
  exact m_iret K hr hlocks hP hS dX11_places_85 (by subst eg_1 eg_2 eg_3 eg_4 eg_5 er_6; rfl) (by subst eg_1 eg_2 eg_3 eg_4 eg_5 er_6; rfl)

set_option maxHeartbeats 4000000 in
set_option maxRecDepth 100000 in
theorem MX11_bid (l : Launch) (G : GG) (B : Nat) (μ : Mm) (t : Int32) (u : Int32) (hI : MI μ) (hs : vp_in (μ 259 2) 5) : CM l yX11_bid (.code yX11_bid cX11_bid 3 (Option.some FieldType.int)) 3 68 G B [.ref (B + 259), .int t, .int u] μ (some (.int ((M_bid μ t u).2))) ((M_bid μ t u).1) := by
  refine CM.of (by decide) (Nat.le_of_ble_eq_true rfl) ?_
  intro p e s m below meth c ls K hr hlocks hP hl
  have hS : va_S (AA B) s.heap s.heap [] := va_S.rf
  have hl : lv_has ls 3 [(0, .ref (B + 259)), (1, .int t), (2, .int u)] := hl
  refine lv_aload_n K.1.1 K.1.2.1 dX11_bid_0 rfl (lv_at hl 0 rfl) ?_
  refine lv_aload_n K.1.1 K.1.2.1 dX11_bid_1 rfl (lv_at hl 0 rfl) ?_
  refine lv_iload_n K.1.1 K.1.2.1 dX11_bid_2 rfl (lv_at hl 1 rfl) ?_
  refine lv_iconst (v := 1) K.1.1 K.1.2.1 dX11_bid_3 (by decide) ?_
  refine lv_iload_n K.1.1 K.1.2.1 dX11_bid_4 rfl (lv_at hl 2 rfl) ?_
  refine m_cV (n := 3) (As := [.int t, .int 1, .int u]) (rest := [.ref (B + 259)]) K hP hS (MX11_orderError l G B _ t 1 u ) (by decide) sh_259 rfl q_1279 q_1281 q_36 q_91 q_1282 hv_X11_orderError ⟨Nat.le_of_ble_eq_true rfl, Nat.le_of_ble_eq_true rfl⟩ rfl hl.1 rfl (Nat.le_of_ble_eq_true rfl) dX11_bid_5 ⟨Nat.zero_le _, Nat.zero_le _⟩ (fun H locs hP hS => ?_)
  refine lv_topi (fun r_1 er_1 => ?_)
  refine m_puti K hP hS (by decide) sh_259 rfl tuX11 tyX11 tyX11_ok nmX11 3 (by decide) rfl rfl (by decide +kernel) q_1153 dX11_bid_8 (fun H locs hP hS => ?_)
  refine lv_aload_n K.1.1 K.1.2.1 dX11_bid_11 rfl (lv_at hl 0 rfl) ?_
  refine m_geti K hP (by decide) sh_259 rfl tuX11 3 (by decide) rfl q_1153 dX11_bid_12 ?_
  refine lv_topi (fun g_2 eg_2 => ?_)
  refine lv_if_eq (tgt := 20) K.1.1 K.1.2.1 dX11_bid_15 (by decide) (fun c_15 => ?_) (fun c_15 => ?_)
  · refine lv_aload_n K.1.1 K.1.2.1 dX11_bid_20 rfl (lv_at hl 0 rfl) ?_
    refine m_cV (n := 0) (As := []) (rest := []) K hP hS (MX11_records l G B _  (by subst er_1 eg_2; rw [up2k_states]; exact hs)) (by decide) sh_259 rfl q_1216 q_1218 q_25 q_91 q_1219 hv_X11_records ⟨Nat.le_of_ble_eq_true rfl, Nat.le_of_ble_eq_true rfl⟩ rfl hl.1 rfl (Nat.le_of_ble_eq_true rfl) dX11_bid_21 ⟨Nat.zero_le _, Nat.zero_le _⟩ (fun H locs hP hS => ?_)
    refine W.eq (g2 := F0 m 24 ls []) rfl ?_
    refine lv_aload_n K.1.1 K.1.2.1 dX11_bid_24 rfl (lv_at hl 0 rfl) ?_
    refine lv_iload_n K.1.1 K.1.2.1 dX11_bid_25 rfl (lv_at hl 1 rfl) ?_
    refine lv_aload_n K.1.1 K.1.2.1 dX11_bid_26 rfl (lv_at hl 0 rfl) ?_
    refine lv_iload_n K.1.1 K.1.2.1 dX11_bid_27 rfl (lv_at hl 1 rfl) ?_
    refine m_cV (n := 1) (As := [.int t]) (rest := [.int t, .ref (B + 259)]) K hP hS (MX11_bidOf l G B _ t (by subst er_1 eg_2; rw [up2_s] at c_15; exact isTrader_vp hI (orT c_15))) (by decide) sh_259 rfl q_1256 q_1258 q_33 q_91 q_1259 hv_X11_bidOf ⟨Nat.le_of_ble_eq_true rfl, Nat.le_of_ble_eq_true rfl⟩ rfl hl.1 rfl (Nat.le_of_ble_eq_true rfl) dX11_bid_28 ⟨Nat.zero_le _, Nat.zero_le _⟩ (fun H locs hP hS => ?_)
    refine lv_topi (fun r_3 er_3 => ?_)
    refine lv_iload_n K.1.1 K.1.2.1 dX11_bid_31 rfl (lv_at hl 2 rfl) ?_
    refine m_cV (n := 3) (As := [.int t, .int r_3, .int u]) (rest := []) K hP hS (MX11_places l G B _ t r_3 u (by subst er_1 eg_2 er_3; rw [up2_s] at c_15; rw [rec_260]; exact orK hI c_15)) (by decide) sh_259 rfl q_1283 q_1285 q_37 q_91 q_1286 hv_X11_places ⟨Nat.le_of_ble_eq_true rfl, Nat.le_of_ble_eq_true rfl⟩ rfl hl.1 rfl (Nat.le_of_ble_eq_true rfl) dX11_bid_32 ⟨Nat.zero_le _, Nat.zero_le _⟩ (fun H locs hP hS => ?_)
    refine lv_topi (fun r_4 er_4 => ?_)
    exact m_iret K hr hlocks hP hS dX11_bid_35 (by subst er_1 eg_2 er_3 er_4; rw [up2_s] at c_15; first | (rw [M_bid, M_call, if_pos c_15]; first | done | rfl) | (rw [M_bid, M_call, if_neg c_15]; first | done | rfl)) (by subst er_1 eg_2 er_3 er_4; rw [up2_s] at c_15; first | (rw [M_bid, M_call, if_pos c_15]; first | done | rfl) | (rw [M_bid, M_call, if_neg c_15]; first | done | rfl))
  · refine lv_iconst (v := 0) K.1.1 K.1.2.1 dX11_bid_18 (by decide) ?_
    exact m_iret K hr hlocks hP hS dX11_bid_19 (by subst er_1 eg_2; rw [up2_s] at c_15; first | (rw [M_bid, M_call, if_pos c_15]; first | done | rfl) | (rw [M_bid, M_call, if_neg c_15]; first | done | rfl)) (by subst er_1 eg_2; rw [up2_s] at c_15; first | (rw [M_bid, M_call, if_pos c_15]; first | done | rfl) | (rw [M_bid, M_call, if_neg c_15]; first | done | rfl))

set_option maxHeartbeats 4000000 in
set_option maxRecDepth 100000 in
theorem MX11_order (l : Launch) (G : GG) (B : Nat) (μ : Mm) (t : Int32) (pr : Int32) (u : Int32) (hI : MI μ) (hs : vp_in (μ 259 2) 5) : CM l yX11_order (.code yX11_order cX11_order 4 (Option.some FieldType.int)) 3 66 G B [.ref (B + 259), .int t, .int pr, .int u] μ (some (.int ((M_order μ t pr u).2))) ((M_order μ t pr u).1) := by
  refine CM.of (by decide) (Nat.le_of_ble_eq_true rfl) ?_
  intro p e s m below meth c ls K hr hlocks hP hl
  have hS : va_S (AA B) s.heap s.heap [] := va_S.rf
  have hl : lv_has ls 4 [(0, .ref (B + 259)), (1, .int t), (2, .int pr), (3, .int u)] := hl
  refine lv_aload_n K.1.1 K.1.2.1 dX11_order_0 rfl (lv_at hl 0 rfl) ?_
  refine lv_aload_n K.1.1 K.1.2.1 dX11_order_1 rfl (lv_at hl 0 rfl) ?_
  refine lv_iload_n K.1.1 K.1.2.1 dX11_order_2 rfl (lv_at hl 1 rfl) ?_
  refine lv_iload_n K.1.1 K.1.2.1 dX11_order_3 rfl (lv_at hl 2 rfl) ?_
  refine lv_iload_n K.1.1 K.1.2.1 dX11_order_4 rfl (lv_at hl 3 rfl) ?_
  refine m_cV (n := 3) (As := [.int t, .int pr, .int u]) (rest := [.ref (B + 259)]) K hP hS (MX11_orderError l G B _ t pr u ) (by decide) sh_259 rfl q_1279 q_1281 q_36 q_91 q_1282 hv_X11_orderError ⟨Nat.le_of_ble_eq_true rfl, Nat.le_of_ble_eq_true rfl⟩ rfl hl.1 rfl (Nat.le_of_ble_eq_true rfl) dX11_order_5 ⟨Nat.zero_le _, Nat.zero_le _⟩ (fun H locs hP hS => ?_)
  refine lv_topi (fun r_1 er_1 => ?_)
  refine m_puti K hP hS (by decide) sh_259 rfl tuX11 tyX11 tyX11_ok nmX11 3 (by decide) rfl rfl (by decide +kernel) q_1153 dX11_order_8 (fun H locs hP hS => ?_)
  refine lv_aload_n K.1.1 K.1.2.1 dX11_order_11 rfl (lv_at hl 0 rfl) ?_
  refine m_geti K hP (by decide) sh_259 rfl tuX11 3 (by decide) rfl q_1153 dX11_order_12 ?_
  refine lv_topi (fun g_2 eg_2 => ?_)
  refine lv_if_eq (tgt := 20) K.1.1 K.1.2.1 dX11_order_15 (by decide) (fun c_15 => ?_) (fun c_15 => ?_)
  · refine lv_aload_n K.1.1 K.1.2.1 dX11_order_20 rfl (lv_at hl 0 rfl) ?_
    refine m_cV (n := 0) (As := []) (rest := []) K hP hS (MX11_records l G B _  (by subst er_1 eg_2; rw [up2k_states]; exact hs)) (by decide) sh_259 rfl q_1216 q_1218 q_25 q_91 q_1219 hv_X11_records ⟨Nat.le_of_ble_eq_true rfl, Nat.le_of_ble_eq_true rfl⟩ rfl hl.1 rfl (Nat.le_of_ble_eq_true rfl) dX11_order_21 ⟨Nat.zero_le _, Nat.zero_le _⟩ (fun H locs hP hS => ?_)
    refine W.eq (g2 := F0 m 24 ls []) rfl ?_
    refine lv_aload_n K.1.1 K.1.2.1 dX11_order_24 rfl (lv_at hl 0 rfl) ?_
    refine lv_iload_n K.1.1 K.1.2.1 dX11_order_25 rfl (lv_at hl 1 rfl) ?_
    refine lv_iload_n K.1.1 K.1.2.1 dX11_order_26 rfl (lv_at hl 2 rfl) ?_
    refine lv_iload_n K.1.1 K.1.2.1 dX11_order_27 rfl (lv_at hl 3 rfl) ?_
    refine m_cV (n := 3) (As := [.int t, .int pr, .int u]) (rest := []) K hP hS (MX11_places l G B _ t pr u (by subst er_1 eg_2; rw [up2_s] at c_15; rw [rec_260]; exact orK hI c_15)) (by decide) sh_259 rfl q_1283 q_1285 q_37 q_91 q_1286 hv_X11_places ⟨Nat.le_of_ble_eq_true rfl, Nat.le_of_ble_eq_true rfl⟩ rfl hl.1 rfl (Nat.le_of_ble_eq_true rfl) dX11_order_28 ⟨Nat.zero_le _, Nat.zero_le _⟩ (fun H locs hP hS => ?_)
    refine lv_topi (fun r_3 er_3 => ?_)
    exact m_iret K hr hlocks hP hS dX11_order_31 (by subst er_1 eg_2 er_3; rw [up2_s] at c_15; first | (rw [M_order, M_call, if_pos c_15]; first | done | rfl) | (rw [M_order, M_call, if_neg c_15]; first | done | rfl)) (by subst er_1 eg_2 er_3; rw [up2_s] at c_15; first | (rw [M_order, M_call, if_pos c_15]; first | done | rfl) | (rw [M_order, M_call, if_neg c_15]; first | done | rfl))
  · refine lv_iconst (v := 0) K.1.1 K.1.2.1 dX11_order_18 (by decide) ?_
    exact m_iret K hr hlocks hP hS dX11_order_19 (by subst er_1 eg_2; rw [up2_s] at c_15; first | (rw [M_order, M_call, if_pos c_15]; first | done | rfl) | (rw [M_order, M_call, if_neg c_15]; first | done | rfl)) (by subst er_1 eg_2; rw [up2_s] at c_15; first | (rw [M_order, M_call, if_pos c_15]; first | done | rfl) | (rw [M_order, M_call, if_neg c_15]; first | done | rfl))

