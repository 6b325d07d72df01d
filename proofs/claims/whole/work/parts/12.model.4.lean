set_option maxHeartbeats 4000000 in
set_option maxRecDepth 100000 in
theorem MX11_removes (l : Launch) (G : GG) (B : Nat) (μ : Mm) (k : Int32) (hI : MI μ) (hj : cn k < cn (μ 260 1)) (hk0 : ¬ k < 0) : CM l yX11_removes (.code yX11_removes cX11_removes 3 Option.none) 0 0 G B [.ref (B + 259), .int k] μ none (M_removes μ k) := by
  refine CM.of (by decide) (Nat.le_of_ble_eq_true rfl) ?_
  intro p e s m below meth c ls K hr hlocks hP hl
  have hS : va_S (AA B) s.heap s.heap [] := va_S.rf
  have hl : lv_has ls 3 [(0, .ref (B + 259)), (1, .int k)] := hl
  have hb := vp_cn hI.2.1
  refine lv_aload_n K.1.1 K.1.2.1 dX11_removes_0 rfl (lv_at hl 0 rfl) ?_
  refine m_getr K hP (by decide) sh_259 rfl tuX11 0 (by decide) rfl q_1150 dX11_removes_1 ?_
  refine lv_iconst (v := 1) K.1.1 K.1.2.1 dX11_removes_4 (by decide) ?_
  refine lv_dup2_11 K.1.1 K.1.2.1 dX11_removes_5 rfl rfl ?_
  refine m_iald K hP (by decide) sh_260 (n := 267) (vpd rfl) dX11_removes_6 ?_
  refine lv_topi (fun g_1 eg_1 => ?_)
  have eg_1 : g_1 = (_ : Mm) 260 1 := eg_1
  refine lv_iconst (v := 1) K.1.1 K.1.2.1 dX11_removes_7 (by decide) ?_
  refine lv_isub K.1.1 K.1.2.1 dX11_removes_8 ?_
  refine m_iast K hP hS (by decide) sh_260 (n := 267) (vpd rfl) dX11_removes_9 (fun H locs hP hS => ?_)
  have hP : MP G B (up2 _ 260 1 _) H := hP
  refine lv_iconst (v := 5) K.1.1 K.1.2.1 dX11_removes_10 (by decide) ?_
  refine lv_iload_n K.1.1 K.1.2.1 dX11_removes_11 rfl (lv_at hl 1 rfl) ?_
  refine lv_imul K.1.1 K.1.2.1 dX11_removes_12 ?_
  refine lv_topi (fun x_2 ex_2 => ?_)
  refine lv_istore_n (lv' := [(2, .int x_2), (0, .ref (B + 259)), (1, .int k)]) K.1.1 K.1.2.1 dX11_removes_13 rfl hl (by decide) rfl (fun ls hl => ?_)
  refine up_to (N := (5 * (cn (μ 260 1) - 1 - cn k))) (P := fun q : Nat => ∀ (v2_14 : Int32) (μ_14 : Mm) (H : Heap) (locs : List Loc) (ls : Array Slot), (v2_14 = nI (5 * cn k + q)) → (μ_14 = M_remK (up2 μ 260 1 (μ 260 1 - 1)) (cn k) q) → MP G B μ_14 H → va_S (AA B) s.heap H locs → lv_has ls 3 [(2, .int v2_14), (0, .ref (B + 259)), (1, .int k)] → W p l e ({ frames := 0, cells := 0, slots := 0, locals := 0 } : Room) s m ([.ref (B + 259), .int k] : List Value).toArray below meth c H locs 0 0 (MF below G B none (M_removes μ k) ([.ref (B + 259), .int k] : List Value).toArray s) (F0 m 14 ls [])) ?_ ?_ _ _ _ _ _ (by subst eg_1 ex_2; exact rmI0 hk0) (by subst eg_1 ex_2; exact M_remK_0 _ _) hP hS (lv_sub hl [0, 1, 2] rfl)
  · intro v2_14 μ_14 H locs ls ev2_14 eμ_14 hP hS hl
    refine lv_iload_n K.1.1 K.1.2.1 dX11_removes_14 rfl (lv_at hl 0 rfl) ?_
    refine lv_iconst (v := 5) K.1.1 K.1.2.1 dX11_removes_15 (by decide) ?_
    refine lv_aload_n K.1.1 K.1.2.1 dX11_removes_16 rfl (lv_at hl 1 rfl) ?_
    refine m_getr K hP (by decide) sh_259 rfl tuX11 0 (by decide) rfl q_1150 dX11_removes_17 ?_
    refine lv_iconst (v := 1) K.1.1 K.1.2.1 dX11_removes_20 (by decide) ?_
    refine m_iald K hP (by decide) sh_260 (n := 267) (vpd rfl) dX11_removes_21 ?_
    refine lv_topi (fun g_3 eg_3 => ?_)
    have eg_3 : g_3 = (_ : Mm) 260 1 := eg_3
    refine lv_imul K.1.1 K.1.2.1 dX11_removes_22 ?_
    refine lv_icmp_ge (tgt := 52) K.1.1 K.1.2.1 dX11_removes_23 (by decide) (fun c_23 => ?_) (fun c_23 => ?_)
    · exact m_vret K hr hlocks hP hS dX11_removes_52 rfl (by subst eg_1 ex_2 ev2_14 eμ_14 eg_3; rfl)
    · exact absurd c_23 (not_not_intro (by subst eg_1 ex_2 ev2_14 eμ_14 eg_3; rw [M_remK_ct (by decide), up2_s, rmIc hI hj]; exact nI_le (by omega) (by omega)))
  · intro q hq ih_14 v2_14 μ_14 H locs ls ev2_14 eμ_14 hP hS hl
    have hkc : cn k < 2 ^ 31 := cn_lt k
    refine lv_iload_n K.1.1 K.1.2.1 dX11_removes_14 rfl (lv_at hl 0 rfl) ?_
    refine lv_iconst (v := 5) K.1.1 K.1.2.1 dX11_removes_15 (by decide) ?_
    refine lv_aload_n K.1.1 K.1.2.1 dX11_removes_16 rfl (lv_at hl 1 rfl) ?_
    refine m_getr K hP (by decide) sh_259 rfl tuX11 0 (by decide) rfl q_1150 dX11_removes_17 ?_
    refine lv_iconst (v := 1) K.1.1 K.1.2.1 dX11_removes_20 (by decide) ?_
    refine m_iald K hP (by decide) sh_260 (n := 267) (vpd rfl) dX11_removes_21 ?_
    refine lv_topi (fun g_4 eg_4 => ?_)
    have eg_4 : g_4 = (_ : Mm) 260 1 := eg_4
    refine lv_imul K.1.1 K.1.2.1 dX11_removes_22 ?_
    refine lv_icmp_ge (tgt := 52) K.1.1 K.1.2.1 dX11_removes_23 (by decide) (fun c_23 => ?_) (fun c_23 => ?_)
    · exact absurd c_23 (by subst eg_1 ex_2 ev2_14 eμ_14 eg_4; rw [M_remK_ct (by decide), up2_s, rmIc hI hj]; exact nI_ge (by omega) (by omega))
    · refine lv_aload_n K.1.1 K.1.2.1 dX11_removes_26 rfl (lv_at hl 1 rfl) ?_
      refine m_getr K hP (by decide) sh_259 rfl tuX11 0 (by decide) rfl q_1150 dX11_removes_27 ?_
      refine lv_bipush (v := 67) K.1.1 K.1.2.1 dX11_removes_30 (by decide) ?_
      refine lv_iload_n K.1.1 K.1.2.1 dX11_removes_32 rfl (lv_at hl 0 rfl) ?_
      refine lv_iadd K.1.1 K.1.2.1 dX11_removes_33 ?_
      refine lv_aload_n K.1.1 K.1.2.1 dX11_removes_34 rfl (lv_at hl 1 rfl) ?_
      refine m_getr K hP (by decide) sh_259 rfl tuX11 0 (by decide) rfl q_1150 dX11_removes_35 ?_
      refine lv_bipush (v := 67) K.1.1 K.1.2.1 dX11_removes_38 (by decide) ?_
      refine lv_iload_n K.1.1 K.1.2.1 dX11_removes_40 rfl (lv_at hl 0 rfl) ?_
      refine lv_iadd K.1.1 K.1.2.1 dX11_removes_41 ?_
      refine lv_iconst (v := 5) K.1.1 K.1.2.1 dX11_removes_42 (by decide) ?_
      refine lv_iadd K.1.1 K.1.2.1 dX11_removes_43 ?_
      refine m_iald K hP (by decide) sh_260 (n := 267) (by subst eg_1 ex_2 ev2_14 eμ_14 eg_4; rw [rmI2]; exact vp_in_nI (by omega) (by decide)) dX11_removes_44 ?_
      refine lv_topi (fun g_5 eg_5 => ?_)
      have eg_5 : g_5 = (_ : Mm) 260 (cn (((67 + v2_14) + 5))) := eg_5
      refine m_iast K hP hS (by decide) sh_260 (n := 267) (by subst eg_1 ex_2 ev2_14 eμ_14 eg_4 eg_5; rw [rmI1]; exact vp_in_nI (by omega) (by decide)) dX11_removes_45 (fun H locs hP hS => ?_)
      have hP : MP G B (up2 _ 260 (cn (67 + v2_14)) _) H := hP
      obtain ⟨x_6, ex_6⟩ : ∃ y : Int32, y = v2_14 + (1) := ⟨_, rfl⟩
      refine lv_iinc (v := x_6) (lv' := [(2, .int x_6), (0, .ref (B + 259)), (1, .int k)]) K.1.1 K.1.2.1 dX11_removes_46 hl (k := 0) rfl (by rw [ex_6]; rfl) (by decide) rfl (fun ls hl => ?_)
      refine lv_goto (tgt := 14) K.1.1 K.1.2.1 dX11_removes_49 (by decide) ?_
      exact ih_14 _ _ _ _ _ (by subst eg_1 ex_2 ev2_14 eμ_14 eg_4 eg_5 ex_6; rw [nI_1]; rfl) (by subst eg_1 ex_2 ev2_14 eμ_14 eg_4 eg_5 ex_6; rw [rmI2, rmI1, cn_nI (n := 67 + (5 * cn k + q) + 5) (by omega), cn_nI (n := 67 + (5 * cn k + q)) (by omega), ← Nat.add_assoc]; exact M_remK_s _ _ _) hP hS (lv_sub hl [0, 1, 2] rfl)

set_option maxHeartbeats 4000000 in
set_option maxRecDepth 100000 in
theorem MX11_cancels (l : Launch) (G : GG) (B : Nat) (μ : Mm) (k : Int32) (hI : MI μ) (hj : cn k < cn (μ 260 1)) (hk0 : ¬ k < 0) (hk : vp_in k 20) : CM l yX11_cancels (.code yX11_cancels cX11_cancels 3 (Option.some FieldType.int)) 1 22 G B [.ref (B + 259), .int k] μ (some (.int (M_o μ k 3))) (M_removes μ k) := by
  refine CM.of (by decide) (Nat.le_of_ble_eq_true rfl) ?_
  intro p e s m below meth c ls K hr hlocks hP hl
  have hS : va_S (AA B) s.heap s.heap [] := va_S.rf
  have hl : lv_has ls 3 [(0, .ref (B + 259)), (1, .int k)] := hl
  refine lv_aload_n K.1.1 K.1.2.1 dX11_cancels_0 rfl (lv_at hl 0 rfl) ?_
  refine lv_iload_n K.1.1 K.1.2.1 dX11_cancels_1 rfl (lv_at hl 1 rfl) ?_
  refine lv_iconst (v := 3) K.1.1 K.1.2.1 dX11_cancels_2 (by decide) ?_
  refine m_cV (n := 2) (As := [.int k, .int 3]) (rest := []) K hP hS (MX11_ofO l G B _ k 3 (loO (by skip; first | assumption | exact MI_k hI (by assumption) | exact MI_w hI (by first | assumption | exact MI_k hI (by assumption)) | exact MI_t hI (by assumption)) (vpd rfl))) (by decide) sh_259 rfl q_1291 q_1293 q_39 q_91 q_1294 hv_X11_ofO ⟨Nat.le_of_ble_eq_true rfl, Nat.le_of_ble_eq_true rfl⟩ rfl hl.1 rfl (Nat.le_of_ble_eq_true rfl) dX11_cancels_3 ⟨Nat.zero_le _, Nat.zero_le _⟩ (fun H locs hP hS => ?_)
  refine lv_topi (fun r_1 er_1 => ?_)
  refine lv_istore_n (lv' := [(2, .int r_1), (0, .ref (B + 259)), (1, .int k)]) K.1.1 K.1.2.1 dX11_cancels_6 rfl hl (by decide) rfl (fun ls hl => ?_)
  refine lv_aload_n K.1.1 K.1.2.1 dX11_cancels_7 rfl (lv_at hl 1 rfl) ?_
  refine lv_iload_n K.1.1 K.1.2.1 dX11_cancels_8 rfl (lv_at hl 2 rfl) ?_
  refine m_cV (n := 1) (As := [.int k]) (rest := []) K hP hS (MX11_removes l G B _ k hI hj hk0) (by decide) sh_259 rfl q_1311 q_1313 q_42 q_91 q_1314 hv_X11_removes ⟨Nat.le_of_ble_eq_true rfl, Nat.le_of_ble_eq_true rfl⟩ rfl hl.1 rfl (Nat.le_of_ble_eq_true rfl) dX11_cancels_9 ⟨Nat.zero_le _, Nat.zero_le _⟩ (fun H locs hP hS => ?_)
  refine W.eq (g2 := F0 m 12 ls []) rfl ?_
  refine lv_iload_n K.1.1 K.1.2.1 dX11_cancels_12 rfl (lv_at hl 0 rfl) ?_
  exact m_iret K hr hlocks hP hS dX11_cancels_13 (by subst er_1; rfl) (by subst er_1; rfl)

set_option maxHeartbeats 4000000 in
set_option maxRecDepth 100000 in
theorem MX11_cancel (l : Launch) (G : GG) (B : Nat) (μ : Mm) (x : Int32) (hI : MI μ) (hs : vp_in (μ 259 2) 5) : CM l yX11_cancel (.code yX11_cancel cX11_cancel 2 (Option.some FieldType.int)) 2 44 G B [.ref (B + 259), .int x] μ (some (.int ((M_cancel μ x).2))) ((M_cancel μ x).1) := by
  refine CM.of (by decide) (Nat.le_of_ble_eq_true rfl) ?_
  intro p e s m below meth c ls K hr hlocks hP hl
  have hS : va_S (AA B) s.heap s.heap [] := va_S.rf
  have hl : lv_has ls 2 [(0, .ref (B + 259)), (1, .int x)] := hl
  refine lv_aload_n K.1.1 K.1.2.1 dX11_cancel_0 rfl (lv_at hl 0 rfl) ?_
  refine lv_aload_n K.1.1 K.1.2.1 dX11_cancel_1 rfl (lv_at hl 0 rfl) ?_
  refine lv_iload_n K.1.1 K.1.2.1 dX11_cancel_2 rfl (lv_at hl 1 rfl) ?_
  refine m_cV (n := 1) (As := [.int x]) (rest := [.ref (B + 259)]) K hP hS (MX11_find l G B _ x hI) (by decide) sh_259 rfl q_1303 q_1305 q_40 q_91 q_1306 hv_X11_find ⟨Nat.le_of_ble_eq_true rfl, Nat.le_of_ble_eq_true rfl⟩ rfl hl.1 rfl (Nat.le_of_ble_eq_true rfl) dX11_cancel_3 ⟨Nat.zero_le _, Nat.zero_le _⟩ (fun H locs hP hS => ?_)
  refine lv_topi (fun r_1 er_1 => ?_)
  refine lv_if_ge (tgt := 13) K.1.1 K.1.2.1 dX11_cancel_6 (by decide) (fun c_6 => ?_) (fun c_6 => ?_)
  · refine lv_iconst (v := 0) K.1.1 K.1.2.1 dX11_cancel_13 (by decide) ?_
    refine m_puti K hP hS (by decide) sh_259 rfl tuX11 tyX11 tyX11_ok nmX11 3 (by decide) rfl rfl (by decide +kernel) q_1153 dX11_cancel_14 (fun H locs hP hS => ?_)
    refine lv_aload_n K.1.1 K.1.2.1 dX11_cancel_17 rfl (lv_at hl 0 rfl) ?_
    refine m_geti K hP (by decide) sh_259 rfl tuX11 3 (by decide) rfl q_1153 dX11_cancel_18 ?_
    refine lv_topi (fun g_2 eg_2 => ?_)
    refine lv_if_eq (tgt := 26) K.1.1 K.1.2.1 dX11_cancel_21 (by decide) (fun c_21 => ?_) (fun c_21 => ?_)
    · refine lv_aload_n K.1.1 K.1.2.1 dX11_cancel_26 rfl (lv_at hl 0 rfl) ?_
      refine m_cV (n := 0) (As := []) (rest := []) K hP hS (MX11_records l G B _  (by subst er_1 eg_2; rw [up2k_states]; exact hs)) (by decide) sh_259 rfl q_1216 q_1218 q_25 q_91 q_1219 hv_X11_records ⟨Nat.le_of_ble_eq_true rfl, Nat.le_of_ble_eq_true rfl⟩ rfl hl.1 rfl (Nat.le_of_ble_eq_true rfl) dX11_cancel_27 ⟨Nat.zero_le _, Nat.zero_le _⟩ (fun H locs hP hS => ?_)
      refine W.eq (g2 := F0 m 30 ls []) rfl ?_
      refine lv_aload_n K.1.1 K.1.2.1 dX11_cancel_30 rfl (lv_at hl 0 rfl) ?_
      refine lv_aload_n K.1.1 K.1.2.1 dX11_cancel_31 rfl (lv_at hl 0 rfl) ?_
      refine lv_iload_n K.1.1 K.1.2.1 dX11_cancel_32 rfl (lv_at hl 1 rfl) ?_
      refine m_cV (n := 1) (As := [.int x]) (rest := [.ref (B + 259)]) K hP hS (MX11_find l G B _ x (MI_of hI (by subst er_1 eg_2; exact rec_260 _ _))) (by decide) sh_259 rfl q_1303 q_1305 q_40 q_91 q_1306 hv_X11_find ⟨Nat.le_of_ble_eq_true rfl, Nat.le_of_ble_eq_true rfl⟩ rfl hl.1 rfl (Nat.le_of_ble_eq_true rfl) dX11_cancel_33 ⟨Nat.zero_le _, Nat.zero_le _⟩ (fun H locs hP hS => ?_)
      refine lv_topi (fun r_3 er_3 => ?_)
      refine m_cV (n := 1) (As := [.int r_3]) (rest := []) K hP hS (MX11_cancels l G B _ r_3 (MI_of hI (by subst er_1 eg_2 er_3; exact rec_260 _ _)) (by subst er_1 eg_2 er_3; rw [up2_s] at c_21; first | exact absurd c_21 (by decide) | exact findJ (by rw [find_260 (rec_260 _ _)]; exact Int32.not_lt.mpr c_6) (MI_of hI (rec_260 _ _))) (by subst er_1 eg_2 er_3; rw [up2_s] at c_21; first | exact absurd c_21 (by decide) | (rw [find_260 (rec_260 _ _)]; exact Int32.not_lt.mpr c_6)) (by subst er_1 eg_2 er_3; rw [up2_s] at c_21; first | exact absurd c_21 (by decide) | exact find_vp (MI_of hI (rec_260 _ _)) (by rw [find_260 (rec_260 _ _)]; exact Int32.not_lt.mpr c_6))) (by decide) sh_259 rfl q_1307 q_1309 q_41 q_91 q_1310 hv_X11_cancels ⟨Nat.le_of_ble_eq_true rfl, Nat.le_of_ble_eq_true rfl⟩ rfl hl.1 rfl (Nat.le_of_ble_eq_true rfl) dX11_cancel_36 ⟨Nat.zero_le _, Nat.zero_le _⟩ (fun H locs hP hS => ?_)
      refine lv_topi (fun r_4 er_4 => ?_)
      exact m_iret K hr hlocks hP hS dX11_cancel_39 (by subst er_1 eg_2 er_3 er_4; rw [up2_s] at c_21; first | exact absurd rfl c_21 | exact absurd c_21 (by decide) | (rw [M_cancel, M_call]; (first | (rw [if_neg (show ¬ M_find μ x < 0 from Int32.not_lt.mpr c_6)]) | (rw [if_pos (show M_find μ x < 0 from Int32.not_le.mp c_6)])); first | done | rfl)) (by subst er_1 eg_2 er_3 er_4; rw [up2_s] at c_21; first | exact absurd rfl c_21 | exact absurd c_21 (by decide) | (rw [M_cancel, M_call]; (first | (rw [if_neg (show ¬ M_find μ x < 0 from Int32.not_lt.mpr c_6)]) | (rw [if_pos (show M_find μ x < 0 from Int32.not_le.mp c_6)])); first | done | rfl))
    · refine lv_iconst (v := 0) K.1.1 K.1.2.1 dX11_cancel_24 (by decide) ?_
      exact m_iret K hr hlocks hP hS dX11_cancel_25 (by subst er_1 eg_2; rw [up2_s] at c_21; first | exact absurd rfl c_21 | exact absurd c_21 (by decide) | (rw [M_cancel, M_call]; (first | (rw [if_neg (show ¬ M_find μ x < 0 from Int32.not_lt.mpr c_6)]) | (rw [if_pos (show M_find μ x < 0 from Int32.not_le.mp c_6)])); first | done | rfl)) (by subst er_1 eg_2; rw [up2_s] at c_21; first | exact absurd rfl c_21 | exact absurd c_21 (by decide) | (rw [M_cancel, M_call]; (first | (rw [if_neg (show ¬ M_find μ x < 0 from Int32.not_lt.mpr c_6)]) | (rw [if_pos (show M_find μ x < 0 from Int32.not_le.mp c_6)])); first | done | rfl))
  · refine lv_iconst (v := 1) K.1.1 K.1.2.1 dX11_cancel_9 (by decide) ?_
    refine lv_goto (tgt := 14) K.1.1 K.1.2.1 dX11_cancel_10 (by decide) ?_
    refine m_puti K hP hS (by decide) sh_259 rfl tuX11 tyX11 tyX11_ok nmX11 3 (by decide) rfl rfl (by decide +kernel) q_1153 dX11_cancel_14 (fun H locs hP hS => ?_)
    refine lv_aload_n K.1.1 K.1.2.1 dX11_cancel_17 rfl (lv_at hl 0 rfl) ?_
    refine m_geti K hP (by decide) sh_259 rfl tuX11 3 (by decide) rfl q_1153 dX11_cancel_18 ?_
    refine lv_topi (fun g_5 eg_5 => ?_)
    refine lv_if_eq (tgt := 26) K.1.1 K.1.2.1 dX11_cancel_21 (by decide) (fun c_21 => ?_) (fun c_21 => ?_)
    · refine lv_aload_n K.1.1 K.1.2.1 dX11_cancel_26 rfl (lv_at hl 0 rfl) ?_
      refine m_cV (n := 0) (As := []) (rest := []) K hP hS (MX11_records l G B _  (by subst er_1 eg_5; rw [up2k_states]; exact hs)) (by decide) sh_259 rfl q_1216 q_1218 q_25 q_91 q_1219 hv_X11_records ⟨Nat.le_of_ble_eq_true rfl, Nat.le_of_ble_eq_true rfl⟩ rfl hl.1 rfl (Nat.le_of_ble_eq_true rfl) dX11_cancel_27 ⟨Nat.zero_le _, Nat.zero_le _⟩ (fun H locs hP hS => ?_)
      refine W.eq (g2 := F0 m 30 ls []) rfl ?_
      refine lv_aload_n K.1.1 K.1.2.1 dX11_cancel_30 rfl (lv_at hl 0 rfl) ?_
      refine lv_aload_n K.1.1 K.1.2.1 dX11_cancel_31 rfl (lv_at hl 0 rfl) ?_
      refine lv_iload_n K.1.1 K.1.2.1 dX11_cancel_32 rfl (lv_at hl 1 rfl) ?_
      refine m_cV (n := 1) (As := [.int x]) (rest := [.ref (B + 259)]) K hP hS (MX11_find l G B _ x (MI_of hI (by subst er_1 eg_5; exact rec_260 _ _))) (by decide) sh_259 rfl q_1303 q_1305 q_40 q_91 q_1306 hv_X11_find ⟨Nat.le_of_ble_eq_true rfl, Nat.le_of_ble_eq_true rfl⟩ rfl hl.1 rfl (Nat.le_of_ble_eq_true rfl) dX11_cancel_33 ⟨Nat.zero_le _, Nat.zero_le _⟩ (fun H locs hP hS => ?_)
      refine lv_topi (fun r_6 er_6 => ?_)
      refine m_cV (n := 1) (As := [.int r_6]) (rest := []) K hP hS (MX11_cancels l G B _ r_6 (MI_of hI (by subst er_1 eg_5 er_6; exact rec_260 _ _)) (by subst er_1 eg_5 er_6; rw [up2_s] at c_21; first | exact absurd c_21 (by decide) | exact findJ (by rw [find_260 (rec_260 _ _)]; exact Int32.not_lt.mpr c_6) (MI_of hI (rec_260 _ _))) (by subst er_1 eg_5 er_6; rw [up2_s] at c_21; first | exact absurd c_21 (by decide) | (rw [find_260 (rec_260 _ _)]; exact Int32.not_lt.mpr c_6)) (by subst er_1 eg_5 er_6; rw [up2_s] at c_21; first | exact absurd c_21 (by decide) | exact find_vp (MI_of hI (rec_260 _ _)) (by rw [find_260 (rec_260 _ _)]; exact Int32.not_lt.mpr c_6))) (by decide) sh_259 rfl q_1307 q_1309 q_41 q_91 q_1310 hv_X11_cancels ⟨Nat.le_of_ble_eq_true rfl, Nat.le_of_ble_eq_true rfl⟩ rfl hl.1 rfl (Nat.le_of_ble_eq_true rfl) dX11_cancel_36 ⟨Nat.zero_le _, Nat.zero_le _⟩ (fun H locs hP hS => ?_)
      refine lv_topi (fun r_7 er_7 => ?_)
      exact m_iret K hr hlocks hP hS dX11_cancel_39 (by subst er_1 eg_5 er_6 er_7; rw [up2_s] at c_21; first | exact absurd rfl c_21 | exact absurd c_21 (by decide) | (rw [M_cancel, M_call]; (first | (rw [if_neg (show ¬ M_find μ x < 0 from Int32.not_lt.mpr c_6)]) | (rw [if_pos (show M_find μ x < 0 from Int32.not_le.mp c_6)])); first | done | rfl)) (by subst er_1 eg_5 er_6 er_7; rw [up2_s] at c_21; first | exact absurd rfl c_21 | exact absurd c_21 (by decide) | (rw [M_cancel, M_call]; (first | (rw [if_neg (show ¬ M_find μ x < 0 from Int32.not_lt.mpr c_6)]) | (rw [if_pos (show M_find μ x < 0 from Int32.not_le.mp c_6)])); first | done | rfl))
    · refine lv_iconst (v := 0) K.1.1 K.1.2.1 dX11_cancel_24 (by decide) ?_
      exact m_iret K hr hlocks hP hS dX11_cancel_25 (by subst er_1 eg_5; rw [up2_s] at c_21; first | exact absurd rfl c_21 | exact absurd c_21 (by decide) | (rw [M_cancel, M_call]; (first | (rw [if_neg (show ¬ M_find μ x < 0 from Int32.not_lt.mpr c_6)]) | (rw [if_pos (show M_find μ x < 0 from Int32.not_le.mp c_6)])); first | done | rfl)) (by subst er_1 eg_5; rw [up2_s] at c_21; first | exact absurd rfl c_21 | exact absurd c_21 (by decide) | (rw [M_cancel, M_call]; (first | (rw [if_neg (show ¬ M_find μ x < 0 from Int32.not_lt.mpr c_6)]) | (rw [if_pos (show M_find μ x < 0 from Int32.not_le.mp c_6)])); first | done | rfl))

