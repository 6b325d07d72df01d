set_option maxHeartbeats 4000000 in
set_option maxRecDepth 100000 in
theorem MX11_addsTrader (l : Launch) (G : GG) (B : Nat) (μ : Mm) (sd : Int32) (v : Int32) (h0 : vp_in (μ 260 0) 8) : CM l yX11_addsTrader (.code yX11_addsTrader cX11_addsTrader 5 (Option.some FieldType.int)) 1 23 G B [.ref (B + 259), .int sd, .int v] μ (some (.int (μ 260 0))) (M_addsTrader μ sd v) := by
  refine CM.of (by decide) (Nat.le_of_ble_eq_true rfl) ?_
  intro p e s m below meth c ls K hr hlocks hP hl
  have hS : va_S (AA B) s.heap s.heap [] := va_S.rf
  have hl : lv_has ls 5 [(0, .ref (B + 259)), (1, .int sd), (2, .int v)] := hl
  refine lv_aload_n K.1.1 K.1.2.1 dX11_addsTrader_0 rfl (lv_at hl 0 rfl) ?_
  refine m_getr K hP (by decide) sh_259 rfl tuX11 0 (by decide) rfl q_1150 dX11_addsTrader_1 ?_
  refine lv_iconst (v := 0) K.1.1 K.1.2.1 dX11_addsTrader_4 (by decide) ?_
  refine m_iald K hP (by decide) sh_260 (n := 267) (vpd rfl) dX11_addsTrader_5 ?_
  refine lv_topi (fun g_1 eg_1 => ?_)
  have eg_1 : g_1 = (_ : Mm) 260 0 := eg_1
  refine lv_istore_n (lv' := [(3, .int g_1), (0, .ref (B + 259)), (1, .int sd), (2, .int v)]) K.1.1 K.1.2.1 dX11_addsTrader_6 rfl hl (by decide) rfl (fun ls hl => ?_)
  refine lv_aload_n K.1.1 K.1.2.1 dX11_addsTrader_7 rfl (lv_at hl 1 rfl) ?_
  refine m_getr K hP (by decide) sh_259 rfl tuX11 0 (by decide) rfl q_1150 dX11_addsTrader_8 ?_
  refine lv_iconst (v := 0) K.1.1 K.1.2.1 dX11_addsTrader_11 (by decide) ?_
  refine lv_dup2_11 K.1.1 K.1.2.1 dX11_addsTrader_12 rfl rfl ?_
  refine m_iald K hP (by decide) sh_260 (n := 267) (vpd rfl) dX11_addsTrader_13 ?_
  refine lv_topi (fun g_2 eg_2 => ?_)
  have eg_2 : g_2 = (_ : Mm) 260 0 := eg_2
  refine lv_iconst (v := 1) K.1.1 K.1.2.1 dX11_addsTrader_14 (by decide) ?_
  refine lv_iadd K.1.1 K.1.2.1 dX11_addsTrader_15 ?_
  refine m_iast K hP hS (by decide) sh_260 (n := 267) (vpd rfl) dX11_addsTrader_16 (fun H locs hP hS => ?_)
  have hP : MP G B (up2 _ 260 0 _) H := hP
  refine lv_iconst (v := 0) K.1.1 K.1.2.1 dX11_addsTrader_17 (by decide) ?_
  refine lv_istore (lv' := [(4, .int 0), (3, .int g_1), (0, .ref (B + 259)), (1, .int sd), (2, .int v)]) K.1.1 K.1.2.1 dX11_addsTrader_18 hl (by decide) rfl (fun ls hl => ?_)
  refine up_to (N := NN 7) (P := fun k : Nat => ∀ (v4_20 : Int32) (μ_20 : Mm) (H : Heap) (locs : List Loc) (ls : Array Slot), (v4_20 = nI k) → (μ_20 = M_zeroT (up2 μ 260 0 (μ 260 0 + 1)) (μ 260 0) k) → MP G B μ_20 H → va_S (AA B) s.heap H locs → lv_has ls 5 [(4, .int v4_20), (3, .int g_1), (0, .ref (B + 259)), (1, .int sd), (2, .int v)] → W p l e ({ frames := 1, cells := 0, slots := 0, locals := 23 } : Room) s m ([.ref (B + 259), .int sd, .int v] : List Value).toArray below meth c H locs 0 0 (MF below G B (some (.int (μ 260 0))) (M_addsTrader μ sd v) ([.ref (B + 259), .int sd, .int v] : List Value).toArray s) (F0 m 20 ls [])) ?_ ?_ _ _ _ _ _ (by first | rfl | (subst eg_1 eg_2; rfl)) (by first | rfl | (subst eg_1 eg_2; rfl)) hP hS (lv_sub hl [0, 1, 2, 3, 4] rfl)
  · intro v4_20 μ_20 H locs ls ev4_20 eμ_20 hP hS hl
    refine lv_iload K.1.1 K.1.2.1 dX11_addsTrader_20 (lv_at hl 0 rfl) ?_
    refine lv_bipush (v := 7) K.1.1 K.1.2.1 dX11_addsTrader_22 (by decide) ?_
    refine lv_icmp_ge (tgt := 41) K.1.1 K.1.2.1 dX11_addsTrader_24 (by decide) (fun c_24 => ?_) (fun c_24 => ?_)
    · refine lv_aload_n K.1.1 K.1.2.1 dX11_addsTrader_41 rfl (lv_at hl 2 rfl) ?_
      refine lv_iload_n K.1.1 K.1.2.1 dX11_addsTrader_42 rfl (lv_at hl 1 rfl) ?_
      refine lv_iconst (v := 0) K.1.1 K.1.2.1 dX11_addsTrader_43 (by decide) ?_
      refine lv_iload_n K.1.1 K.1.2.1 dX11_addsTrader_44 rfl (lv_at hl 3 rfl) ?_
      refine m_cV (n := 3) (As := [.int g_1, .int 0, .int sd]) (rest := []) K hP hS (MX11_setsT l G B _ g_1 0 sd (loT (by subst eg_1 eg_2 ev4_20 eμ_20; exact h0) (vpd rfl))) (by decide) sh_259 rfl q_1228 q_1230 q_28 q_91 q_1231 hv_X11_setsT ⟨Nat.le_of_ble_eq_true rfl, Nat.le_of_ble_eq_true rfl⟩ rfl hl.1 rfl (Nat.le_of_ble_eq_true rfl) dX11_addsTrader_45 ⟨Nat.zero_le _, Nat.zero_le _⟩ (fun H locs hP hS => ?_)
      refine W.eq (g2 := F0 m 48 ls []) rfl ?_
      refine lv_aload_n K.1.1 K.1.2.1 dX11_addsTrader_48 rfl (lv_at hl 2 rfl) ?_
      refine lv_iload_n K.1.1 K.1.2.1 dX11_addsTrader_49 rfl (lv_at hl 1 rfl) ?_
      refine lv_iconst (v := 1) K.1.1 K.1.2.1 dX11_addsTrader_50 (by decide) ?_
      refine lv_iload_n K.1.1 K.1.2.1 dX11_addsTrader_51 rfl (lv_at hl 4 rfl) ?_
      refine m_cV (n := 3) (As := [.int g_1, .int 1, .int v]) (rest := []) K hP hS (MX11_setsT l G B _ g_1 1 v (loT (by subst eg_1 eg_2 ev4_20 eμ_20; exact h0) (vpd rfl))) (by decide) sh_259 rfl q_1228 q_1230 q_28 q_91 q_1231 hv_X11_setsT ⟨Nat.le_of_ble_eq_true rfl, Nat.le_of_ble_eq_true rfl⟩ rfl hl.1 rfl (Nat.le_of_ble_eq_true rfl) dX11_addsTrader_52 ⟨Nat.zero_le _, Nat.zero_le _⟩ (fun H locs hP hS => ?_)
      refine W.eq (g2 := F0 m 55 ls []) rfl ?_
      refine lv_iload_n K.1.1 K.1.2.1 dX11_addsTrader_55 rfl (lv_at hl 1 rfl) ?_
      exact m_iret K hr hlocks hP hS dX11_addsTrader_56 (by subst eg_1 eg_2 ev4_20 eμ_20; rfl) (by subst eg_1 eg_2 ev4_20 eμ_20; rfl)
    · exact absurd c_24 (not_not_intro (by subst eg_1 eg_2 ev4_20 eμ_20; rw [NN_eq]; decide))
  · intro k hk ih_20 v4_20 μ_20 H locs ls ev4_20 eμ_20 hP hS hl
    rw [NN_eq] at hk
    refine lv_iload K.1.1 K.1.2.1 dX11_addsTrader_20 (lv_at hl 0 rfl) ?_
    refine lv_bipush (v := 7) K.1.1 K.1.2.1 dX11_addsTrader_22 (by decide) ?_
    refine lv_icmp_ge (tgt := 41) K.1.1 K.1.2.1 dX11_addsTrader_24 (by decide) (fun c_24 => ?_) (fun c_24 => ?_)
    · exact absurd c_24 (by subst eg_1 eg_2 ev4_20 eμ_20; exact nI_ge (a := k) (b := 7) hk (by decide))
    · refine lv_aload_n K.1.1 K.1.2.1 dX11_addsTrader_27 rfl (lv_at hl 2 rfl) ?_
      refine lv_iload_n K.1.1 K.1.2.1 dX11_addsTrader_28 rfl (lv_at hl 1 rfl) ?_
      refine lv_iload K.1.1 K.1.2.1 dX11_addsTrader_29 (lv_at hl 0 rfl) ?_
      refine lv_iconst (v := 0) K.1.1 K.1.2.1 dX11_addsTrader_31 (by decide) ?_
      refine m_cV (n := 3) (As := [.int g_1, .int v4_20, .int 0]) (rest := []) K hP hS (MX11_setsT l G B _ g_1 v4_20 0 (loT (by subst eg_1 eg_2 ev4_20 eμ_20; exact h0) (by subst eg_1 eg_2 ev4_20 eμ_20; exact vp_ofN (by decide) hk))) (by decide) sh_259 rfl q_1228 q_1230 q_28 q_91 q_1231 hv_X11_setsT ⟨Nat.le_of_ble_eq_true rfl, Nat.le_of_ble_eq_true rfl⟩ rfl hl.1 rfl (Nat.le_of_ble_eq_true rfl) dX11_addsTrader_32 ⟨Nat.zero_le _, Nat.zero_le _⟩ (fun H locs hP hS => ?_)
      refine W.eq (g2 := F0 m 35 ls []) rfl ?_
      obtain ⟨x_3, ex_3⟩ : ∃ y : Int32, y = v4_20 + (1) := ⟨_, rfl⟩
      refine lv_iinc (v := x_3) (lv' := [(4, .int x_3), (3, .int g_1), (0, .ref (B + 259)), (1, .int sd), (2, .int v)]) K.1.1 K.1.2.1 dX11_addsTrader_35 hl (k := 0) rfl (by rw [ex_3]; rfl) (by decide) rfl (fun ls hl => ?_)
      refine lv_goto (tgt := 20) K.1.1 K.1.2.1 dX11_addsTrader_38 (by decide) ?_
      exact ih_20 _ _ _ _ _ (by subst eg_1 eg_2 ev4_20 eμ_20 ex_3; exact nI_1 _) (by subst eg_1 eg_2 ev4_20 eμ_20 ex_3; rfl) hP hS (lv_sub hl [0, 1, 2, 3, 4] rfl)

set_option maxHeartbeats 4000000 in
set_option maxRecDepth 100000 in
theorem MX11_addTrader (l : Launch) (G : GG) (B : Nat) (μ : Mm) (sd : Int32) (v : Int32) (hI : MI μ) (hs : vp_in (μ 259 2) 5) : CM l yX11_addTrader (.code yX11_addTrader cX11_addTrader 3 (Option.some FieldType.int)) 2 47 G B [.ref (B + 259), .int sd, .int v] μ (some (.int ((M_addTrader μ sd v).2))) ((M_addTrader μ sd v).1) := by
  refine CM.of (by decide) (Nat.le_of_ble_eq_true rfl) ?_
  intro p e s m below meth c ls K hr hlocks hP hl
  have hS : va_S (AA B) s.heap s.heap [] := va_S.rf
  have hl : lv_has ls 3 [(0, .ref (B + 259)), (1, .int sd), (2, .int v)] := hl
  refine lv_aload_n K.1.1 K.1.2.1 dX11_addTrader_0 rfl (lv_at hl 0 rfl) ?_
  refine lv_aload_n K.1.1 K.1.2.1 dX11_addTrader_1 rfl (lv_at hl 0 rfl) ?_
  refine lv_iload_n K.1.1 K.1.2.1 dX11_addTrader_2 rfl (lv_at hl 1 rfl) ?_
  refine lv_iload_n K.1.1 K.1.2.1 dX11_addTrader_3 rfl (lv_at hl 2 rfl) ?_
  refine m_cV (n := 2) (As := [.int sd, .int v]) (rest := [.ref (B + 259)]) K hP hS (MX11_traderError l G B _ sd v ) (by decide) sh_259 rfl q_1209 q_1211 q_24 q_91 q_1212 hv_X11_traderError ⟨Nat.le_of_ble_eq_true rfl, Nat.le_of_ble_eq_true rfl⟩ rfl hl.1 rfl (Nat.le_of_ble_eq_true rfl) dX11_addTrader_4 ⟨Nat.zero_le _, Nat.zero_le _⟩ (fun H locs hP hS => ?_)
  refine lv_topi (fun r_1 er_1 => ?_)
  refine m_puti K hP hS (by decide) sh_259 rfl tuX11 tyX11 tyX11_ok nmX11 3 (by decide) rfl rfl (by decide +kernel) q_1153 dX11_addTrader_7 (fun H locs hP hS => ?_)
  refine lv_aload_n K.1.1 K.1.2.1 dX11_addTrader_10 rfl (lv_at hl 0 rfl) ?_
  refine m_geti K hP (by decide) sh_259 rfl tuX11 3 (by decide) rfl q_1153 dX11_addTrader_11 ?_
  refine lv_topi (fun g_2 eg_2 => ?_)
  refine lv_if_eq (tgt := 19) K.1.1 K.1.2.1 dX11_addTrader_14 (by decide) (fun c_14 => ?_) (fun c_14 => ?_)
  · refine lv_aload_n K.1.1 K.1.2.1 dX11_addTrader_19 rfl (lv_at hl 0 rfl) ?_
    refine m_cV (n := 0) (As := []) (rest := []) K hP hS (MX11_records l G B _  (by subst er_1 eg_2; rw [up2k_states]; exact hs)) (by decide) sh_259 rfl q_1216 q_1218 q_25 q_91 q_1219 hv_X11_records ⟨Nat.le_of_ble_eq_true rfl, Nat.le_of_ble_eq_true rfl⟩ rfl hl.1 rfl (Nat.le_of_ble_eq_true rfl) dX11_addTrader_20 ⟨Nat.zero_le _, Nat.zero_le _⟩ (fun H locs hP hS => ?_)
    refine W.eq (g2 := F0 m 23 ls []) rfl ?_
    refine lv_aload_n K.1.1 K.1.2.1 dX11_addTrader_23 rfl (lv_at hl 0 rfl) ?_
    refine lv_iload_n K.1.1 K.1.2.1 dX11_addTrader_24 rfl (lv_at hl 1 rfl) ?_
    refine lv_iload_n K.1.1 K.1.2.1 dX11_addTrader_25 rfl (lv_at hl 2 rfl) ?_
    refine m_cV (n := 2) (As := [.int sd, .int v]) (rest := []) K hP hS (MX11_addsTrader l G B _ sd v (by subst er_1 eg_2; rw [up2_s] at c_14; exact addT_vp hI c_14)) (by decide) sh_259 rfl q_1224 q_1226 q_27 q_91 q_1227 hv_X11_addsTrader ⟨Nat.le_of_ble_eq_true rfl, Nat.le_of_ble_eq_true rfl⟩ rfl hl.1 rfl (Nat.le_of_ble_eq_true rfl) dX11_addTrader_26 ⟨Nat.zero_le _, Nat.zero_le _⟩ (fun H locs hP hS => ?_)
    refine lv_topi (fun r_3 er_3 => ?_)
    exact m_iret K hr hlocks hP hS dX11_addTrader_29 (by subst er_1 eg_2 er_3; rw [up2_s] at c_14; first | (rw [M_addTrader, M_call, if_pos c_14]; first | done | rfl) | (rw [M_addTrader, M_call, if_neg c_14]; first | done | rfl)) (by subst er_1 eg_2 er_3; rw [up2_s] at c_14; first | (rw [M_addTrader, M_call, if_pos c_14]; first | done | rfl) | (rw [M_addTrader, M_call, if_neg c_14]; first | done | rfl))
  · refine lv_iconst (v := 0) K.1.1 K.1.2.1 dX11_addTrader_17 (by decide) ?_
    exact m_iret K hr hlocks hP hS dX11_addTrader_18 (by subst er_1 eg_2; rw [up2_s] at c_14; first | (rw [M_addTrader, M_call, if_pos c_14]; first | done | rfl) | (rw [M_addTrader, M_call, if_neg c_14]; first | done | rfl)) (by subst er_1 eg_2; rw [up2_s] at c_14; first | (rw [M_addTrader, M_call, if_pos c_14]; first | done | rfl) | (rw [M_addTrader, M_call, if_neg c_14]; first | done | rfl))

set_option maxHeartbeats 4000000 in
set_option maxRecDepth 100000 in
theorem MX11_setValue (l : Launch) (G : GG) (B : Nat) (μ : Mm) (t : Int32) (v : Int32) (hI : MI μ) (hs : vp_in (μ 259 2) 5) : CM l yX11_setValue (.code yX11_setValue cX11_setValue 4 (Option.some FieldType.int)) 2 43 G B [.ref (B + 259), .int t, .int v] μ (some (.int ((M_setValue μ t v).2))) ((M_setValue μ t v).1) := by
  refine CM.of (by decide) (Nat.le_of_ble_eq_true rfl) ?_
  intro p e s m below meth c ls K hr hlocks hP hl
  have hS : va_S (AA B) s.heap s.heap [] := va_S.rf
  have hl : lv_has ls 4 [(0, .ref (B + 259)), (1, .int t), (2, .int v)] := hl
  refine lv_aload_n K.1.1 K.1.2.1 dX11_setValue_0 rfl (lv_at hl 0 rfl) ?_
  refine lv_aload_n K.1.1 K.1.2.1 dX11_setValue_1 rfl (lv_at hl 0 rfl) ?_
  refine lv_iload_n K.1.1 K.1.2.1 dX11_setValue_2 rfl (lv_at hl 1 rfl) ?_
  refine m_cV (n := 1) (As := [.int t]) (rest := [.ref (B + 259)]) K hP hS (MX11_isTrader l G B _ t ) (by decide) sh_259 rfl q_1236 q_1238 q_29 q_91 q_1239 hv_X11_isTrader ⟨Nat.le_of_ble_eq_true rfl, Nat.le_of_ble_eq_true rfl⟩ rfl hl.1 rfl (Nat.le_of_ble_eq_true rfl) dX11_setValue_3 ⟨Nat.zero_le _, Nat.zero_le _⟩ (fun H locs hP hS => ?_)
  refine lv_topi (fun r_1 er_1 => ?_)
  refine lv_if_ne (tgt := 13) K.1.1 K.1.2.1 dX11_setValue_6 (by decide) (fun c_6 => ?_) (fun c_6 => ?_)
  · refine lv_iload_n K.1.1 K.1.2.1 dX11_setValue_13 rfl (lv_at hl 2 rfl) ?_
    refine lv_iconst (v := 1) K.1.1 K.1.2.1 dX11_setValue_14 (by decide) ?_
    refine lv_bipush (v := 99) K.1.1 K.1.2.1 dX11_setValue_15 (by decide) ?_
    refine m_cS (n := 3) (As := [.int v, .int 1, .int 99]) (rest := [.ref (B + 259)]) K hP hS (MX11_isIn l G B _ v 1 99 ) q_1213 q_1214 q_91 q_1215 hv_X11_isIn ⟨Nat.le_of_ble_eq_true rfl, Nat.le_of_ble_eq_true rfl⟩ rfl hl.1 rfl (Nat.le_of_ble_eq_true rfl) dX11_setValue_17 ⟨Nat.zero_le _, Nat.zero_le _⟩ (fun H locs hP hS => ?_)
    refine lv_topi (fun r_2 er_2 => ?_)
    refine lv_if_eq (tgt := 27) K.1.1 K.1.2.1 dX11_setValue_20 (by decide) (fun c_20 => ?_) (fun c_20 => ?_)
    · refine lv_iconst (v := 2) K.1.1 K.1.2.1 dX11_setValue_27 (by decide) ?_
      refine m_puti K hP hS (by decide) sh_259 rfl tuX11 tyX11 tyX11_ok nmX11 3 (by decide) rfl rfl (by decide +kernel) q_1153 dX11_setValue_28 (fun H locs hP hS => ?_)
      refine lv_aload_n K.1.1 K.1.2.1 dX11_setValue_31 rfl (lv_at hl 0 rfl) ?_
      refine m_geti K hP (by decide) sh_259 rfl tuX11 3 (by decide) rfl q_1153 dX11_setValue_32 ?_
      refine lv_topi (fun g_3 eg_3 => ?_)
      refine lv_if_eq (tgt := 40) K.1.1 K.1.2.1 dX11_setValue_35 (by decide) (fun c_35 => ?_) (fun c_35 => ?_)
      · refine lv_aload_n K.1.1 K.1.2.1 dX11_setValue_40 rfl (lv_at hl 0 rfl) ?_
        refine m_cV (n := 0) (As := []) (rest := []) K hP hS (MX11_records l G B _  (by subst er_1 er_2 eg_3; rw [up2k_states]; exact hs)) (by decide) sh_259 rfl q_1216 q_1218 q_25 q_91 q_1219 hv_X11_records ⟨Nat.le_of_ble_eq_true rfl, Nat.le_of_ble_eq_true rfl⟩ rfl hl.1 rfl (Nat.le_of_ble_eq_true rfl) dX11_setValue_41 ⟨Nat.zero_le _, Nat.zero_le _⟩ (fun H locs hP hS => ?_)
        refine W.eq (g2 := F0 m 44 ls []) rfl ?_
        refine lv_aload_n K.1.1 K.1.2.1 dX11_setValue_44 rfl (lv_at hl 0 rfl) ?_
        refine lv_iload_n K.1.1 K.1.2.1 dX11_setValue_45 rfl (lv_at hl 1 rfl) ?_
        refine lv_iconst (v := 1) K.1.1 K.1.2.1 dX11_setValue_46 (by decide) ?_
        refine m_cV (n := 2) (As := [.int t, .int 1]) (rest := []) K hP hS (MX11_ofT l G B _ t 1 (loT (isTrader_vp hI (by subst er_1 er_2 eg_3; rw [up2_s] at c_35; first | exact c_6 | exact absurd c_35 (by decide))) (vpd rfl))) (by decide) sh_259 rfl q_1240 q_1242 q_30 q_91 q_1243 hv_X11_ofT ⟨Nat.le_of_ble_eq_true rfl, Nat.le_of_ble_eq_true rfl⟩ rfl hl.1 rfl (Nat.le_of_ble_eq_true rfl) dX11_setValue_47 ⟨Nat.zero_le _, Nat.zero_le _⟩ (fun H locs hP hS => ?_)
        refine lv_topi (fun r_4 er_4 => ?_)
        refine lv_istore_n (lv' := [(3, .int r_4), (0, .ref (B + 259)), (1, .int t), (2, .int v)]) K.1.1 K.1.2.1 dX11_setValue_50 rfl hl (by decide) rfl (fun ls hl => ?_)
        refine lv_aload_n K.1.1 K.1.2.1 dX11_setValue_51 rfl (lv_at hl 1 rfl) ?_
        refine lv_iload_n K.1.1 K.1.2.1 dX11_setValue_52 rfl (lv_at hl 2 rfl) ?_
        refine lv_iconst (v := 1) K.1.1 K.1.2.1 dX11_setValue_53 (by decide) ?_
        refine lv_iload_n K.1.1 K.1.2.1 dX11_setValue_54 rfl (lv_at hl 3 rfl) ?_
        refine m_cV (n := 3) (As := [.int t, .int 1, .int v]) (rest := []) K hP hS (MX11_setsT l G B _ t 1 v (loT (isTrader_vp hI (by subst er_1 er_2 eg_3 er_4; rw [up2_s] at c_35; first | exact c_6 | exact absurd c_35 (by decide))) (vpd rfl))) (by decide) sh_259 rfl q_1228 q_1230 q_28 q_91 q_1231 hv_X11_setsT ⟨Nat.le_of_ble_eq_true rfl, Nat.le_of_ble_eq_true rfl⟩ rfl hl.1 rfl (Nat.le_of_ble_eq_true rfl) dX11_setValue_55 ⟨Nat.zero_le _, Nat.zero_le _⟩ (fun H locs hP hS => ?_)
        refine W.eq (g2 := F0 m 58 ls []) rfl ?_
        refine lv_iload_n K.1.1 K.1.2.1 dX11_setValue_58 rfl (lv_at hl 0 rfl) ?_
        exact m_iret K hr hlocks hP hS dX11_setValue_59 (by subst er_1 er_2 eg_3 er_4; rw [up2_s] at c_35; first | exact absurd rfl c_35 | exact absurd c_35 (by decide) | (rw [M_setValue, M_call, show M_valueError μ t v = 2 from (if_neg c_6).trans (if_pos c_20)]; rfl)) (by subst er_1 er_2 eg_3 er_4; rw [up2_s] at c_35; first | exact absurd rfl c_35 | exact absurd c_35 (by decide) | (rw [M_setValue, M_call, show M_valueError μ t v = 2 from (if_neg c_6).trans (if_pos c_20)]; rfl))
      · refine lv_iconst (v := 0) K.1.1 K.1.2.1 dX11_setValue_38 (by decide) ?_
        exact m_iret K hr hlocks hP hS dX11_setValue_39 (by subst er_1 er_2 eg_3; rw [up2_s] at c_35; first | exact absurd rfl c_35 | exact absurd c_35 (by decide) | (rw [M_setValue, M_call, show M_valueError μ t v = 2 from (if_neg c_6).trans (if_pos c_20)]; rfl)) (by subst er_1 er_2 eg_3; rw [up2_s] at c_35; first | exact absurd rfl c_35 | exact absurd c_35 (by decide) | (rw [M_setValue, M_call, show M_valueError μ t v = 2 from (if_neg c_6).trans (if_pos c_20)]; rfl))
    · refine lv_iconst (v := 0) K.1.1 K.1.2.1 dX11_setValue_23 (by decide) ?_
      refine lv_goto (tgt := 28) K.1.1 K.1.2.1 dX11_setValue_24 (by decide) ?_
      refine m_puti K hP hS (by decide) sh_259 rfl tuX11 tyX11 tyX11_ok nmX11 3 (by decide) rfl rfl (by decide +kernel) q_1153 dX11_setValue_28 (fun H locs hP hS => ?_)
      refine lv_aload_n K.1.1 K.1.2.1 dX11_setValue_31 rfl (lv_at hl 0 rfl) ?_
      refine m_geti K hP (by decide) sh_259 rfl tuX11 3 (by decide) rfl q_1153 dX11_setValue_32 ?_
      refine lv_topi (fun g_5 eg_5 => ?_)
      refine lv_if_eq (tgt := 40) K.1.1 K.1.2.1 dX11_setValue_35 (by decide) (fun c_35 => ?_) (fun c_35 => ?_)
      · refine lv_aload_n K.1.1 K.1.2.1 dX11_setValue_40 rfl (lv_at hl 0 rfl) ?_
        refine m_cV (n := 0) (As := []) (rest := []) K hP hS (MX11_records l G B _  (by subst er_1 er_2 eg_5; rw [up2k_states]; exact hs)) (by decide) sh_259 rfl q_1216 q_1218 q_25 q_91 q_1219 hv_X11_records ⟨Nat.le_of_ble_eq_true rfl, Nat.le_of_ble_eq_true rfl⟩ rfl hl.1 rfl (Nat.le_of_ble_eq_true rfl) dX11_setValue_41 ⟨Nat.zero_le _, Nat.zero_le _⟩ (fun H locs hP hS => ?_)
        refine W.eq (g2 := F0 m 44 ls []) rfl ?_
        refine lv_aload_n K.1.1 K.1.2.1 dX11_setValue_44 rfl (lv_at hl 0 rfl) ?_
        refine lv_iload_n K.1.1 K.1.2.1 dX11_setValue_45 rfl (lv_at hl 1 rfl) ?_
        refine lv_iconst (v := 1) K.1.1 K.1.2.1 dX11_setValue_46 (by decide) ?_
        refine m_cV (n := 2) (As := [.int t, .int 1]) (rest := []) K hP hS (MX11_ofT l G B _ t 1 (loT (isTrader_vp hI (by subst er_1 er_2 eg_5; rw [up2_s] at c_35; first | exact c_6 | exact absurd c_35 (by decide))) (vpd rfl))) (by decide) sh_259 rfl q_1240 q_1242 q_30 q_91 q_1243 hv_X11_ofT ⟨Nat.le_of_ble_eq_true rfl, Nat.le_of_ble_eq_true rfl⟩ rfl hl.1 rfl (Nat.le_of_ble_eq_true rfl) dX11_setValue_47 ⟨Nat.zero_le _, Nat.zero_le _⟩ (fun H locs hP hS => ?_)
        refine lv_topi (fun r_6 er_6 => ?_)
        refine lv_istore_n (lv' := [(3, .int r_6), (0, .ref (B + 259)), (1, .int t), (2, .int v)]) K.1.1 K.1.2.1 dX11_setValue_50 rfl hl (by decide) rfl (fun ls hl => ?_)
        refine lv_aload_n K.1.1 K.1.2.1 dX11_setValue_51 rfl (lv_at hl 1 rfl) ?_
        refine lv_iload_n K.1.1 K.1.2.1 dX11_setValue_52 rfl (lv_at hl 2 rfl) ?_
        refine lv_iconst (v := 1) K.1.1 K.1.2.1 dX11_setValue_53 (by decide) ?_
        refine lv_iload_n K.1.1 K.1.2.1 dX11_setValue_54 rfl (lv_at hl 3 rfl) ?_
        refine m_cV (n := 3) (As := [.int t, .int 1, .int v]) (rest := []) K hP hS (MX11_setsT l G B _ t 1 v (loT (isTrader_vp hI (by subst er_1 er_2 eg_5 er_6; rw [up2_s] at c_35; first | exact c_6 | exact absurd c_35 (by decide))) (vpd rfl))) (by decide) sh_259 rfl q_1228 q_1230 q_28 q_91 q_1231 hv_X11_setsT ⟨Nat.le_of_ble_eq_true rfl, Nat.le_of_ble_eq_true rfl⟩ rfl hl.1 rfl (Nat.le_of_ble_eq_true rfl) dX11_setValue_55 ⟨Nat.zero_le _, Nat.zero_le _⟩ (fun H locs hP hS => ?_)
        refine W.eq (g2 := F0 m 58 ls []) rfl ?_
        refine lv_iload_n K.1.1 K.1.2.1 dX11_setValue_58 rfl (lv_at hl 0 rfl) ?_
        exact m_iret K hr hlocks hP hS dX11_setValue_59 (by subst er_1 er_2 eg_5 er_6; rw [up2_s] at c_35; first | exact absurd rfl c_35 | exact absurd c_35 (by decide) | (rw [M_setValue, M_call, show M_valueError μ t v = 0 from (if_neg c_6).trans (if_neg c_20)]; rfl)) (by subst er_1 er_2 eg_5 er_6; rw [up2_s] at c_35; first | exact absurd rfl c_35 | exact absurd c_35 (by decide) | (rw [M_setValue, M_call, show M_valueError μ t v = 0 from (if_neg c_6).trans (if_neg c_20)]; rfl))
      · refine lv_iconst (v := 0) K.1.1 K.1.2.1 dX11_setValue_38 (by decide) ?_
        exact m_iret K hr hlocks hP hS dX11_setValue_39 (by subst er_1 er_2 eg_5; rw [up2_s] at c_35; first | exact absurd rfl c_35 | exact absurd c_35 (by decide) | (rw [M_setValue, M_call, show M_valueError μ t v = 0 from (if_neg c_6).trans (if_neg c_20)]; rfl)) (by subst er_1 er_2 eg_5; rw [up2_s] at c_35; first | exact absurd rfl c_35 | exact absurd c_35 (by decide) | (rw [M_setValue, M_call, show M_valueError μ t v = 0 from (if_neg c_6).trans (if_neg c_20)]; rfl))
  · refine lv_iconst (v := 1) K.1.1 K.1.2.1 dX11_setValue_9 (by decide) ?_
    refine lv_goto (tgt := 28) K.1.1 K.1.2.1 dX11_setValue_10 (by decide) ?_
    refine m_puti K hP hS (by decide) sh_259 rfl tuX11 tyX11 tyX11_ok nmX11 3 (by decide) rfl rfl (by decide +kernel) q_1153 dX11_setValue_28 (fun H locs hP hS => ?_)
    refine lv_aload_n K.1.1 K.1.2.1 dX11_setValue_31 rfl (lv_at hl 0 rfl) ?_
    refine m_geti K hP (by decide) sh_259 rfl tuX11 3 (by decide) rfl q_1153 dX11_setValue_32 ?_
    refine lv_topi (fun g_7 eg_7 => ?_)
    refine lv_if_eq (tgt := 40) K.1.1 K.1.2.1 dX11_setValue_35 (by decide) (fun c_35 => ?_) (fun c_35 => ?_)
    · refine lv_aload_n K.1.1 K.1.2.1 dX11_setValue_40 rfl (lv_at hl 0 rfl) ?_
      refine m_cV (n := 0) (As := []) (rest := []) K hP hS (MX11_records l G B _  (by subst er_1 eg_7; rw [up2k_states]; exact hs)) (by decide) sh_259 rfl q_1216 q_1218 q_25 q_91 q_1219 hv_X11_records ⟨Nat.le_of_ble_eq_true rfl, Nat.le_of_ble_eq_true rfl⟩ rfl hl.1 rfl (Nat.le_of_ble_eq_true rfl) dX11_setValue_41 ⟨Nat.zero_le _, Nat.zero_le _⟩ (fun H locs hP hS => ?_)
      refine W.eq (g2 := F0 m 44 ls []) rfl ?_
      refine lv_aload_n K.1.1 K.1.2.1 dX11_setValue_44 rfl (lv_at hl 0 rfl) ?_
      refine lv_iload_n K.1.1 K.1.2.1 dX11_setValue_45 rfl (lv_at hl 1 rfl) ?_
      refine lv_iconst (v := 1) K.1.1 K.1.2.1 dX11_setValue_46 (by decide) ?_
      refine m_cV (n := 2) (As := [.int t, .int 1]) (rest := []) K hP hS (MX11_ofT l G B _ t 1 (loT (isTrader_vp hI (by subst er_1 eg_7; rw [up2_s] at c_35; first | exact c_6 | exact absurd c_35 (by decide))) (vpd rfl))) (by decide) sh_259 rfl q_1240 q_1242 q_30 q_91 q_1243 hv_X11_ofT ⟨Nat.le_of_ble_eq_true rfl, Nat.le_of_ble_eq_true rfl⟩ rfl hl.1 rfl (Nat.le_of_ble_eq_true rfl) dX11_setValue_47 ⟨Nat.zero_le _, Nat.zero_le _⟩ (fun H locs hP hS => ?_)
      refine lv_topi (fun r_8 er_8 => ?_)
      refine lv_istore_n (lv' := [(3, .int r_8), (0, .ref (B + 259)), (1, .int t), (2, .int v)]) K.1.1 K.1.2.1 dX11_setValue_50 rfl hl (by decide) rfl (fun ls hl => ?_)
      refine lv_aload_n K.1.1 K.1.2.1 dX11_setValue_51 rfl (lv_at hl 1 rfl) ?_
      refine lv_iload_n K.1.1 K.1.2.1 dX11_setValue_52 rfl (lv_at hl 2 rfl) ?_
      refine lv_iconst (v := 1) K.1.1 K.1.2.1 dX11_setValue_53 (by decide) ?_
      refine lv_iload_n K.1.1 K.1.2.1 dX11_setValue_54 rfl (lv_at hl 3 rfl) ?_
      refine m_cV (n := 3) (As := [.int t, .int 1, .int v]) (rest := []) K hP hS (MX11_setsT l G B _ t 1 v (loT (isTrader_vp hI (by subst er_1 eg_7 er_8; rw [up2_s] at c_35; first | exact c_6 | exact absurd c_35 (by decide))) (vpd rfl))) (by decide) sh_259 rfl q_1228 q_1230 q_28 q_91 q_1231 hv_X11_setsT ⟨Nat.le_of_ble_eq_true rfl, Nat.le_of_ble_eq_true rfl⟩ rfl hl.1 rfl (Nat.le_of_ble_eq_true rfl) dX11_setValue_55 ⟨Nat.zero_le _, Nat.zero_le _⟩ (fun H locs hP hS => ?_)
      refine W.eq (g2 := F0 m 58 ls []) rfl ?_
      refine lv_iload_n K.1.1 K.1.2.1 dX11_setValue_58 rfl (lv_at hl 0 rfl) ?_
      exact m_iret K hr hlocks hP hS dX11_setValue_59 (by subst er_1 eg_7 er_8; rw [up2_s] at c_35; first | exact absurd rfl c_35 | exact absurd c_35 (by decide) | (rw [M_setValue, M_call, show M_valueError μ t v = 1 from if_pos c_6]; rfl)) (by subst er_1 eg_7 er_8; rw [up2_s] at c_35; first | exact absurd rfl c_35 | exact absurd c_35 (by decide) | (rw [M_setValue, M_call, show M_valueError μ t v = 1 from if_pos c_6]; rfl))
    · refine lv_iconst (v := 0) K.1.1 K.1.2.1 dX11_setValue_38 (by decide) ?_
      exact m_iret K hr hlocks hP hS dX11_setValue_39 (by subst er_1 eg_7; rw [up2_s] at c_35; first | exact absurd rfl c_35 | exact absurd c_35 (by decide) | (rw [M_setValue, M_call, show M_valueError μ t v = 1 from if_pos c_6]; rfl)) (by subst er_1 eg_7; rw [up2_s] at c_35; first | exact absurd rfl c_35 | exact absurd c_35 (by decide) | (rw [M_setValue, M_call, show M_valueError μ t v = 1 from if_pos c_6]; rfl))

set_option maxHeartbeats 4000000 in
set_option maxRecDepth 100000 in
theorem MX11_bidBy (l : Launch) (G : GG) (B : Nat) (μ : Mm) (t : Int32) (h : Int32) (ht : vp_in t 8) : CM l yX11_bidBy (.code yX11_bidBy cX11_bidBy 4 (Option.some FieldType.int)) 1 22 G B [.ref (B + 259), .int t, .int h] μ (some (.int (M_bidBy μ t h))) μ := by
  refine CM.of (by decide) (Nat.le_of_ble_eq_true rfl) ?_
  intro p e s m below meth c ls K hr hlocks hP hl
  have hS : va_S (AA B) s.heap s.heap [] := va_S.rf
  have hl : lv_has ls 4 [(0, .ref (B + 259)), (1, .int t), (2, .int h)] := hl
  refine lv_aload_n K.1.1 K.1.2.1 dX11_bidBy_0 rfl (lv_at hl 0 rfl) ?_
  refine lv_iload_n K.1.1 K.1.2.1 dX11_bidBy_1 rfl (lv_at hl 1 rfl) ?_
  refine lv_iconst (v := 1) K.1.1 K.1.2.1 dX11_bidBy_2 (by decide) ?_
  refine m_cV (n := 2) (As := [.int t, .int 1]) (rest := []) K hP hS (MX11_ofT l G B _ t 1 (loT (by skip; first | assumption | exact MI_k hI (by assumption) | exact MI_w hI (by first | assumption | exact MI_k hI (by assumption)) | exact MI_t hI (by assumption)) (vpd rfl))) (by decide) sh_259 rfl q_1240 q_1242 q_30 q_91 q_1243 hv_X11_ofT ⟨Nat.le_of_ble_eq_true rfl, Nat.le_of_ble_eq_true rfl⟩ rfl hl.1 rfl (Nat.le_of_ble_eq_true rfl) dX11_bidBy_3 ⟨Nat.zero_le _, Nat.zero_le _⟩ (fun H locs hP hS => ?_)
  refine lv_topi (fun r_1 er_1 => ?_)
  refine lv_istore_n (lv' := [(3, .int r_1), (0, .ref (B + 259)), (1, .int t), (2, .int h)]) K.1.1 K.1.2.1 dX11_bidBy_6 rfl hl (by decide) rfl (fun ls hl => ?_)
  refine lv_aload_n K.1.1 K.1.2.1 dX11_bidBy_7 rfl (lv_at hl 1 rfl) ?_
  refine lv_iload_n K.1.1 K.1.2.1 dX11_bidBy_8 rfl (lv_at hl 2 rfl) ?_
  refine lv_iconst (v := 0) K.1.1 K.1.2.1 dX11_bidBy_9 (by decide) ?_
  refine m_cV (n := 2) (As := [.int t, .int 0]) (rest := []) K hP hS (MX11_ofT l G B _ t 0 (loT (by subst er_1; first | assumption | exact MI_k hI (by assumption) | exact MI_w hI (by first | assumption | exact MI_k hI (by assumption)) | exact MI_t hI (by assumption)) (vpd rfl))) (by decide) sh_259 rfl q_1240 q_1242 q_30 q_91 q_1243 hv_X11_ofT ⟨Nat.le_of_ble_eq_true rfl, Nat.le_of_ble_eq_true rfl⟩ rfl hl.1 rfl (Nat.le_of_ble_eq_true rfl) dX11_bidBy_10 ⟨Nat.zero_le _, Nat.zero_le _⟩ (fun H locs hP hS => ?_)
  refine lv_topi (fun r_2 er_2 => ?_)
  refine lv_if_ne (tgt := 31) K.1.1 K.1.2.1 dX11_bidBy_13 (by decide) (fun c_13 => ?_) (fun c_13 => ?_)
  · refine lv_iload_n K.1.1 K.1.2.1 dX11_bidBy_31 rfl (lv_at hl 0 rfl) ?_
    refine lv_iload_n K.1.1 K.1.2.1 dX11_bidBy_32 rfl (lv_at hl 3 rfl) ?_
    refine lv_iadd K.1.1 K.1.2.1 dX11_bidBy_33 ?_
    refine lv_bipush (v := 120) K.1.1 K.1.2.1 dX11_bidBy_34 (by decide) ?_
    refine lv_icmp_le (tgt := 44) K.1.1 K.1.2.1 dX11_bidBy_36 (by decide) (fun c_36 => ?_) (fun c_36 => ?_)
    · refine lv_iload_n K.1.1 K.1.2.1 dX11_bidBy_44 rfl (lv_at hl 0 rfl) ?_
      refine lv_iload_n K.1.1 K.1.2.1 dX11_bidBy_45 rfl (lv_at hl 3 rfl) ?_
      refine lv_iadd K.1.1 K.1.2.1 dX11_bidBy_46 ?_
      exact m_iret K hr hlocks hP hS dX11_bidBy_47 (by subst er_1 er_2; first | (simp only [M_bidBy, c_13, c_36, Int32.not_lt.mpr c_36, if_true, if_false, ite_true, ite_false, reduceIte, not_true, not_false_iff]; done) | simp [M_bidBy, c_13, c_36, Int32.not_lt.mpr c_36]) rfl
    · refine lv_bipush (v := 120) K.1.1 K.1.2.1 dX11_bidBy_39 (by decide) ?_
      refine lv_goto (tgt := 47) K.1.1 K.1.2.1 dX11_bidBy_41 (by decide) ?_
      exact m_iret K hr hlocks hP hS dX11_bidBy_47 (by subst er_1 er_2; first | (simp only [M_bidBy, c_13, c_36, Int32.not_le.mp c_36, if_true, if_false, ite_true, ite_false, reduceIte, not_true, not_false_iff]; done) | simp [M_bidBy, c_13, c_36, Int32.not_le.mp c_36]) rfl
  · refine lv_iload_n K.1.1 K.1.2.1 dX11_bidBy_16 rfl (lv_at hl 0 rfl) ?_
    refine lv_iload_n K.1.1 K.1.2.1 dX11_bidBy_17 rfl (lv_at hl 3 rfl) ?_
    refine lv_isub K.1.1 K.1.2.1 dX11_bidBy_18 ?_
    refine lv_iconst (v := 1) K.1.1 K.1.2.1 dX11_bidBy_19 (by decide) ?_
    refine lv_icmp_ge (tgt := 27) K.1.1 K.1.2.1 dX11_bidBy_20 (by decide) (fun c_20 => ?_) (fun c_20 => ?_)
    · refine lv_iload_n K.1.1 K.1.2.1 dX11_bidBy_27 rfl (lv_at hl 0 rfl) ?_
      refine lv_iload_n K.1.1 K.1.2.1 dX11_bidBy_28 rfl (lv_at hl 3 rfl) ?_
      refine lv_isub K.1.1 K.1.2.1 dX11_bidBy_29 ?_
      exact m_iret K hr hlocks hP hS dX11_bidBy_30 (by subst er_1 er_2; first | (simp only [M_bidBy, c_13, c_20, Int32.not_lt.mpr c_20, if_true, if_false, ite_true, ite_false, reduceIte, not_true, not_false_iff]; done) | simp [M_bidBy, c_13, c_20, Int32.not_lt.mpr c_20]) rfl
    · refine lv_iconst (v := 1) K.1.1 K.1.2.1 dX11_bidBy_23 (by decide) ?_
      refine lv_goto (tgt := 30) K.1.1 K.1.2.1 dX11_bidBy_24 (by decide) ?_
      exact m_iret K hr hlocks hP hS dX11_bidBy_30 (by subst er_1 er_2; first | (simp only [M_bidBy, c_13, c_20, Int32.not_le.mp c_20, if_true, if_false, ite_true, ite_false, reduceIte, not_true, not_false_iff]; done) | simp [M_bidBy, c_13, c_20, Int32.not_le.mp c_20]) rfl

set_option maxHeartbeats 4000000 in
set_option maxRecDepth 100000 in
theorem MX11_bidOf (l : Launch) (G : GG) (B : Nat) (μ : Mm) (t : Int32) (ht : vp_in t 8) : CM l yX11_bidOf (.code yX11_bidOf cX11_bidOf 4 (Option.some FieldType.int)) 2 45 G B [.ref (B + 259), .int t] μ (some (.int (M_bidOf μ t))) μ := by
  refine CM.of (by decide) (Nat.le_of_ble_eq_true rfl) ?_
  intro p e s m below meth c ls K hr hlocks hP hl
  have hS : va_S (AA B) s.heap s.heap [] := va_S.rf
  have hl : lv_has ls 4 [(0, .ref (B + 259)), (1, .int t)] := hl
  refine lv_aload_n K.1.1 K.1.2.1 dX11_bidOf_0 rfl (lv_at hl 0 rfl) ?_
  refine lv_iload_n K.1.1 K.1.2.1 dX11_bidOf_1 rfl (lv_at hl 1 rfl) ?_
  refine lv_iconst (v := 2) K.1.1 K.1.2.1 dX11_bidOf_2 (by decide) ?_
  refine m_cV (n := 2) (As := [.int t, .int 2]) (rest := []) K hP hS (MX11_ofT l G B _ t 2 (loT (by skip; first | assumption | exact MI_k hI (by assumption) | exact MI_w hI (by first | assumption | exact MI_k hI (by assumption)) | exact MI_t hI (by assumption)) (vpd rfl))) (by decide) sh_259 rfl q_1240 q_1242 q_30 q_91 q_1243 hv_X11_ofT ⟨Nat.le_of_ble_eq_true rfl, Nat.le_of_ble_eq_true rfl⟩ rfl hl.1 rfl (Nat.le_of_ble_eq_true rfl) dX11_bidOf_3 ⟨Nat.zero_le _, Nat.zero_le _⟩ (fun H locs hP hS => ?_)
  refine lv_topi (fun r_1 er_1 => ?_)
  refine lv_istore_n (lv' := [(2, .int r_1), (0, .ref (B + 259)), (1, .int t)]) K.1.1 K.1.2.1 dX11_bidOf_6 rfl hl (by decide) rfl (fun ls hl => ?_)
  refine lv_aload_n K.1.1 K.1.2.1 dX11_bidOf_7 rfl (lv_at hl 1 rfl) ?_
  refine lv_iload_n K.1.1 K.1.2.1 dX11_bidOf_8 rfl (lv_at hl 2 rfl) ?_
  refine lv_iconst (v := 3) K.1.1 K.1.2.1 dX11_bidOf_9 (by decide) ?_
  refine m_cV (n := 2) (As := [.int t, .int 3]) (rest := []) K hP hS (MX11_ofT l G B _ t 3 (loT (by subst er_1; first | assumption | exact MI_k hI (by assumption) | exact MI_w hI (by first | assumption | exact MI_k hI (by assumption)) | exact MI_t hI (by assumption)) (vpd rfl))) (by decide) sh_259 rfl q_1240 q_1242 q_30 q_91 q_1243 hv_X11_ofT ⟨Nat.le_of_ble_eq_true rfl, Nat.le_of_ble_eq_true rfl⟩ rfl hl.1 rfl (Nat.le_of_ble_eq_true rfl) dX11_bidOf_10 ⟨Nat.zero_le _, Nat.zero_le _⟩ (fun H locs hP hS => ?_)
  refine lv_topi (fun r_2 er_2 => ?_)
  refine lv_istore_n (lv' := [(3, .int r_2), (2, .int r_1), (0, .ref (B + 259)), (1, .int t)]) K.1.1 K.1.2.1 dX11_bidOf_13 rfl hl (by decide) rfl (fun ls hl => ?_)
  refine lv_aload_n K.1.1 K.1.2.1 dX11_bidOf_14 rfl (lv_at hl 2 rfl) ?_
  refine lv_iload_n K.1.1 K.1.2.1 dX11_bidOf_15 rfl (lv_at hl 3 rfl) ?_
  refine lv_iload_n K.1.1 K.1.2.1 dX11_bidOf_16 rfl (lv_at hl 1 rfl) ?_
  refine lv_if_ne (tgt := 24) K.1.1 K.1.2.1 dX11_bidOf_17 (by decide) (fun c_17 => ?_) (fun c_17 => ?_)
  · refine lv_iload_n K.1.1 K.1.2.1 dX11_bidOf_24 rfl (lv_at hl 1 rfl) ?_
    refine lv_iconst (v := 2) K.1.1 K.1.2.1 dX11_bidOf_25 (by decide) ?_
    refine lv_icmp_ne (tgt := 43) K.1.1 K.1.2.1 dX11_bidOf_26 (by decide) (fun c_26 => ?_) (fun c_26 => ?_)
    · refine lv_iload_n K.1.1 K.1.2.1 dX11_bidOf_43 rfl (lv_at hl 0 rfl) ?_
      refine m_cV (n := 2) (As := [.int t, .int r_2]) (rest := []) K hP hS (MX11_bidBy l G B _ t r_2 (by subst er_1 er_2; first | assumption | exact MI_k hI (by assumption) | exact MI_w hI (by first | assumption | exact MI_k hI (by assumption)) | exact MI_t hI (by assumption))) (by decide) sh_259 rfl q_1260 q_1262 q_34 q_91 q_1263 hv_X11_bidBy ⟨Nat.le_of_ble_eq_true rfl, Nat.le_of_ble_eq_true rfl⟩ rfl hl.1 rfl (Nat.le_of_ble_eq_true rfl) dX11_bidOf_44 ⟨Nat.zero_le _, Nat.zero_le _⟩ (fun H locs hP hS => ?_)
      refine lv_topi (fun r_3 er_3 => ?_)
      exact m_iret K hr hlocks hP hS dX11_bidOf_47 (by subst er_1 er_2 er_3; rw [M_bidOf, M_shadeOf]; first | (simp only [c_17, c_26, if_true, if_false, reduceIte]; done) | simp [c_17, c_26]) rfl
    · refine lv_aload_n K.1.1 K.1.2.1 dX11_bidOf_29 rfl (lv_at hl 2 rfl) ?_
      refine lv_iload_n K.1.1 K.1.2.1 dX11_bidOf_30 rfl (lv_at hl 3 rfl) ?_
      refine lv_iconst (v := 1) K.1.1 K.1.2.1 dX11_bidOf_31 (by decide) ?_
      refine m_cV (n := 2) (As := [.int t, .int 1]) (rest := [.int t, .ref (B + 259)]) K hP hS (MX11_ofT l G B _ t 1 (loT (by subst er_1 er_2; first | assumption | exact MI_k hI (by assumption) | exact MI_w hI (by first | assumption | exact MI_k hI (by assumption)) | exact MI_t hI (by assumption)) (vpd rfl))) (by decide) sh_259 rfl q_1240 q_1242 q_30 q_91 q_1243 hv_X11_ofT ⟨Nat.le_of_ble_eq_true rfl, Nat.le_of_ble_eq_true rfl⟩ rfl hl.1 rfl (Nat.le_of_ble_eq_true rfl) dX11_bidOf_32 ⟨Nat.zero_le _, Nat.zero_le _⟩ (fun H locs hP hS => ?_)
      refine lv_topi (fun r_4 er_4 => ?_)
      refine lv_iload_n K.1.1 K.1.2.1 dX11_bidOf_35 rfl (lv_at hl 0 rfl) ?_
      refine lv_imul K.1.1 K.1.2.1 dX11_bidOf_36 ?_
      refine lv_bipush (v := 100) K.1.1 K.1.2.1 dX11_bidOf_37 (by decide) ?_
      refine lv_idiv K.1.1 K.1.2.1 dX11_bidOf_39 (by decide) ?_
      refine lv_goto (tgt := 44) K.1.1 K.1.2.1 dX11_bidOf_40 (by decide) ?_
      refine m_cV (n := 2) (As := [.int t, .int ((r_4 * r_2) / 100)]) (rest := []) K hP hS (MX11_bidBy l G B _ t ((r_4 * r_2) / 100) (by subst er_1 er_2 er_4; first | assumption | exact MI_k hI (by assumption) | exact MI_w hI (by first | assumption | exact MI_k hI (by assumption)) | exact MI_t hI (by assumption))) (by decide) sh_259 rfl q_1260 q_1262 q_34 q_91 q_1263 hv_X11_bidBy ⟨Nat.le_of_ble_eq_true rfl, Nat.le_of_ble_eq_true rfl⟩ rfl hl.1 rfl (Nat.le_of_ble_eq_true rfl) dX11_bidOf_44 ⟨Nat.zero_le _, Nat.zero_le _⟩ (fun H locs hP hS => ?_)
      refine lv_topi (fun r_5 er_5 => ?_)
      exact m_iret K hr hlocks hP hS dX11_bidOf_47 (by subst er_1 er_2 er_4 er_5; rw [M_bidOf, M_shadeOf]; first | (simp only [c_17, c_26, if_true, if_false, reduceIte]; done) | simp [c_17, c_26]) rfl
  · refine lv_iconst (v := 0) K.1.1 K.1.2.1 dX11_bidOf_20 (by decide) ?_
    refine lv_goto (tgt := 44) K.1.1 K.1.2.1 dX11_bidOf_21 (by decide) ?_
    refine m_cV (n := 2) (As := [.int t, .int 0]) (rest := []) K hP hS (MX11_bidBy l G B _ t 0 (by subst er_1 er_2; first | assumption | exact MI_k hI (by assumption) | exact MI_w hI (by first | assumption | exact MI_k hI (by assumption)) | exact MI_t hI (by assumption))) (by decide) sh_259 rfl q_1260 q_1262 q_34 q_91 q_1263 hv_X11_bidBy ⟨Nat.le_of_ble_eq_true rfl, Nat.le_of_ble_eq_true rfl⟩ rfl hl.1 rfl (Nat.le_of_ble_eq_true rfl) dX11_bidOf_44 ⟨Nat.zero_le _, Nat.zero_le _⟩ (fun H locs hP hS => ?_)
    refine lv_topi (fun r_6 er_6 => ?_)
    exact m_iret K hr hlocks hP hS dX11_bidOf_47 (by subst er_1 er_2 er_6; rw [M_bidOf, M_shadeOf]; first | (simp only [c_17, if_true, if_false, reduceIte]; done) | simp [c_17]) rfl

set_option maxHeartbeats 4000000 in
set_option maxRecDepth 100000 in
theorem MX11_shadeError (l : Launch) (G : GG) (B : Nat) (μ : Mm) (t : Int32) (k : Int32) (a : Int32) : CM l yX11_shadeError (.code yX11_shadeError cX11_shadeError 4 (Option.some FieldType.int)) 2 43 G B [.ref (B + 259), .int t, .int k, .int a] μ (some (.int (M_shadeError μ t k a))) μ := by
  refine CM.of (by decide) (Nat.le_of_ble_eq_true rfl) ?_
  intro p e s m below meth c ls K hr hlocks hP hl
  have hS : va_S (AA B) s.heap s.heap [] := va_S.rf
  have hl : lv_has ls 4 [(0, .ref (B + 259)), (1, .int t), (2, .int k), (3, .int a)] := hl
  refine lv_aload_n K.1.1 K.1.2.1 dX11_shadeError_0 rfl (lv_at hl 0 rfl) ?_
  refine lv_iload_n K.1.1 K.1.2.1 dX11_shadeError_1 rfl (lv_at hl 1 rfl) ?_
  refine m_cV (n := 1) (As := [.int t]) (rest := []) K hP hS (MX11_isTrader l G B _ t ) (by decide) sh_259 rfl q_1236 q_1238 q_29 q_91 q_1239 hv_X11_isTrader ⟨Nat.le_of_ble_eq_true rfl, Nat.le_of_ble_eq_true rfl⟩ rfl hl.1 rfl (Nat.le_of_ble_eq_true rfl) dX11_shadeError_2 ⟨Nat.zero_le _, Nat.zero_le _⟩ (fun H locs hP hS => ?_)
  refine lv_topi (fun r_1 er_1 => ?_)
  refine lv_if_ne (tgt := 10) K.1.1 K.1.2.1 dX11_shadeError_5 (by decide) (fun c_5 => ?_) (fun c_5 => ?_)
  · refine lv_iload_n K.1.1 K.1.2.1 dX11_shadeError_10 rfl (lv_at hl 2 rfl) ?_
    refine lv_iconst (v := 0) K.1.1 K.1.2.1 dX11_shadeError_11 (by decide) ?_
    refine lv_iconst (v := 3) K.1.1 K.1.2.1 dX11_shadeError_12 (by decide) ?_
    refine m_cS (n := 3) (As := [.int k, .int 0, .int 3]) (rest := []) K hP hS (MX11_isIn l G B _ k 0 3 ) q_1213 q_1214 q_91 q_1215 hv_X11_isIn ⟨Nat.le_of_ble_eq_true rfl, Nat.le_of_ble_eq_true rfl⟩ rfl hl.1 rfl (Nat.le_of_ble_eq_true rfl) dX11_shadeError_13 ⟨Nat.zero_le _, Nat.zero_le _⟩ (fun H locs hP hS => ?_)
    refine lv_topi (fun r_2 er_2 => ?_)
    refine lv_if_eq (tgt := 33) K.1.1 K.1.2.1 dX11_shadeError_16 (by decide) (fun c_16 => ?_) (fun c_16 => ?_)
    · refine lv_iconst (v := 2) K.1.1 K.1.2.1 dX11_shadeError_33 (by decide) ?_
      exact m_iret K hr hlocks hP hS dX11_shadeError_34 (by subst er_1 er_2; first | (simp only [M_shadeError, c_5, c_16, if_true, if_false, ite_true, ite_false, reduceIte, not_true, not_false_iff]; done) | simp [M_shadeError, c_5, c_16]) rfl
    · refine lv_iload_n K.1.1 K.1.2.1 dX11_shadeError_19 rfl (lv_at hl 3 rfl) ?_
      refine lv_iconst (v := 0) K.1.1 K.1.2.1 dX11_shadeError_20 (by decide) ?_
      refine lv_bipush (v := 50) K.1.1 K.1.2.1 dX11_shadeError_21 (by decide) ?_
      refine m_cS (n := 3) (As := [.int a, .int 0, .int 50]) (rest := []) K hP hS (MX11_isIn l G B _ a 0 50 ) q_1213 q_1214 q_91 q_1215 hv_X11_isIn ⟨Nat.le_of_ble_eq_true rfl, Nat.le_of_ble_eq_true rfl⟩ rfl hl.1 rfl (Nat.le_of_ble_eq_true rfl) dX11_shadeError_23 ⟨Nat.zero_le _, Nat.zero_le _⟩ (fun H locs hP hS => ?_)
      refine lv_topi (fun r_3 er_3 => ?_)
      refine lv_if_eq (tgt := 33) K.1.1 K.1.2.1 dX11_shadeError_26 (by decide) (fun c_26 => ?_) (fun c_26 => ?_)
      · refine lv_iconst (v := 2) K.1.1 K.1.2.1 dX11_shadeError_33 (by decide) ?_
        exact m_iret K hr hlocks hP hS dX11_shadeError_34 (by subst er_1 er_2 er_3; first | (simp only [M_shadeError, c_5, c_16, c_26, if_true, if_false, ite_true, ite_false, reduceIte, not_true, not_false_iff]; done) | simp [M_shadeError, c_5, c_16, c_26]) rfl
      · refine lv_iconst (v := 0) K.1.1 K.1.2.1 dX11_shadeError_29 (by decide) ?_
        refine lv_goto (tgt := 34) K.1.1 K.1.2.1 dX11_shadeError_30 (by decide) ?_
        exact m_iret K hr hlocks hP hS dX11_shadeError_34 (by subst er_1 er_2 er_3; first | (simp only [M_shadeError, c_5, c_16, c_26, if_true, if_false, ite_true, ite_false, reduceIte, not_true, not_false_iff]; done) | simp [M_shadeError, c_5, c_16, c_26]) rfl
  · refine lv_iconst (v := 1) K.1.1 K.1.2.1 dX11_shadeError_8 (by decide) ?_
    exact m_iret K hr hlocks hP hS dX11_shadeError_9 (by subst er_1; first | (simp only [M_shadeError, c_5, if_true, if_false, ite_true, ite_false, reduceIte, not_true, not_false_iff]; done) | simp [M_shadeError, c_5]) rfl

set_option maxHeartbeats 4000000 in
set_option maxRecDepth 100000 in
theorem MX11_shades (l : Launch) (G : GG) (B : Nat) (μ : Mm) (t : Int32) (k : Int32) (a : Int32) (ht : vp_in t 8) : CM l yX11_shades (.code yX11_shades cX11_shades 4 (Option.some FieldType.int)) 3 68 G B [.ref (B + 259), .int t, .int k, .int a] μ (some (.int (M_bidOf (M_shadesM μ t k a) t))) (M_shadesM μ t k a) := by
  refine CM.of (by decide) (Nat.le_of_ble_eq_true rfl) ?_
  intro p e s m below meth c ls K hr hlocks hP hl
  have hS : va_S (AA B) s.heap s.heap [] := va_S.rf
  have hl : lv_has ls 4 [(0, .ref (B + 259)), (1, .int t), (2, .int k), (3, .int a)] := hl
  refine lv_aload_n K.1.1 K.1.2.1 dX11_shades_0 rfl (lv_at hl 0 rfl) ?_
  refine lv_iload_n K.1.1 K.1.2.1 dX11_shades_1 rfl (lv_at hl 1 rfl) ?_
  refine lv_iconst (v := 2) K.1.1 K.1.2.1 dX11_shades_2 (by decide) ?_
  refine lv_iload_n K.1.1 K.1.2.1 dX11_shades_3 rfl (lv_at hl 2 rfl) ?_
  refine m_cV (n := 3) (As := [.int t, .int 2, .int k]) (rest := []) K hP hS (MX11_setsT l G B _ t 2 k (loT (by skip; first | assumption | exact MI_k hI (by assumption) | exact MI_w hI (by first | assumption | exact MI_k hI (by assumption)) | exact MI_t hI (by assumption)) (vpd rfl))) (by decide) sh_259 rfl q_1228 q_1230 q_28 q_91 q_1231 hv_X11_setsT ⟨Nat.le_of_ble_eq_true rfl, Nat.le_of_ble_eq_true rfl⟩ rfl hl.1 rfl (Nat.le_of_ble_eq_true rfl) dX11_shades_4 ⟨Nat.zero_le _, Nat.zero_le _⟩ (fun H locs hP hS => ?_)
  refine W.eq (g2 := F0 m 7 ls []) rfl ?_
  refine lv_aload_n K.1.1 K.1.2.1 dX11_shades_7 rfl (lv_at hl 0 rfl) ?_
  refine lv_iload_n K.1.1 K.1.2.1 dX11_shades_8 rfl (lv_at hl 1 rfl) ?_
  refine lv_iconst (v := 3) K.1.1 K.1.2.1 dX11_shades_9 (by decide) ?_
  refine lv_iload_n K.1.1 K.1.2.1 dX11_shades_10 rfl (lv_at hl 3 rfl) ?_
  refine m_cV (n := 3) (As := [.int t, .int 3, .int a]) (rest := []) K hP hS (MX11_setsT l G B _ t 3 a (loT (by skip; first | assumption | exact MI_k hI (by assumption) | exact MI_w hI (by first | assumption | exact MI_k hI (by assumption)) | exact MI_t hI (by assumption)) (vpd rfl))) (by decide) sh_259 rfl q_1228 q_1230 q_28 q_91 q_1231 hv_X11_setsT ⟨Nat.le_of_ble_eq_true rfl, Nat.le_of_ble_eq_true rfl⟩ rfl hl.1 rfl (Nat.le_of_ble_eq_true rfl) dX11_shades_11 ⟨Nat.zero_le _, Nat.zero_le _⟩ (fun H locs hP hS => ?_)
  refine W.eq (g2 := F0 m 14 ls []) rfl ?_
  refine lv_aload_n K.1.1 K.1.2.1 dX11_shades_14 rfl (lv_at hl 0 rfl) ?_
  refine lv_iload_n K.1.1 K.1.2.1 dX11_shades_15 rfl (lv_at hl 1 rfl) ?_
  refine m_cV (n := 1) (As := [.int t]) (rest := []) K hP hS (MX11_bidOf l G B _ t (by skip; first | assumption | exact MI_k hI (by assumption) | exact MI_w hI (by first | assumption | exact MI_k hI (by assumption)) | exact MI_t hI (by assumption))) (by decide) sh_259 rfl q_1256 q_1258 q_33 q_91 q_1259 hv_X11_bidOf ⟨Nat.le_of_ble_eq_true rfl, Nat.le_of_ble_eq_true rfl⟩ rfl hl.1 rfl (Nat.le_of_ble_eq_true rfl) dX11_shades_16 ⟨Nat.zero_le _, Nat.zero_le _⟩ (fun H locs hP hS => ?_)
  refine lv_topi (fun r_1 er_1 => ?_)
  exact m_iret K hr hlocks hP hS dX11_shades_19 (by subst er_1; rfl) (by subst er_1; rfl)

