set_option maxHeartbeats 4000000 in
set_option maxRecDepth 100000 in
theorem MX11_greatest (l : Launch) (G : GG) (B : Nat) (μ : Mm) (hI : MI μ) (hg : M_grok μ) : CM l yX11_greatest (.code yX11_greatest cX11_greatest 7 (Option.some FieldType.int)) 3 67 G B [.ref (B + 259)] μ (some (.int (M_greatest μ))) μ := by
  refine CM.of (by decide) (Nat.le_of_ble_eq_true rfl) ?_
  intro p e s m below meth c ls K hr hlocks hP hl
  have hS : va_S (AA B) s.heap s.heap [] := va_S.rf
  have hl : lv_has ls 7 [(0, .ref (B + 259))] := hl
  refine lv_iconst (v := 0) K.1.1 K.1.2.1 dX11_greatest_0 (by decide) ?_
  refine lv_istore_n (lv' := [(1, .int 0), (0, .ref (B + 259))]) K.1.1 K.1.2.1 dX11_greatest_1 rfl hl (by decide) rfl (fun ls hl => ?_)
  refine lv_bipush (v := 99) K.1.1 K.1.2.1 dX11_greatest_2 (by decide) ?_
  refine lv_istore_n (lv' := [(2, .int 99), (1, .int 0), (0, .ref (B + 259))]) K.1.1 K.1.2.1 dX11_greatest_4 rfl hl (by decide) rfl (fun ls hl => ?_)
  refine lv_iconst (v := 1) K.1.1 K.1.2.1 dX11_greatest_5 (by decide) ?_
  refine lv_istore_n (lv' := [(3, .int 1), (2, .int 99), (1, .int 0), (0, .ref (B + 259))]) K.1.1 K.1.2.1 dX11_greatest_6 rfl hl (by decide) rfl (fun ls hl => ?_)
  refine lv_aload_n K.1.1 K.1.2.1 dX11_greatest_7 rfl (lv_at hl 3 rfl) ?_
  refine lv_iconst (v := 0) K.1.1 K.1.2.1 dX11_greatest_8 (by decide) ?_
  refine lv_iload_n K.1.1 K.1.2.1 dX11_greatest_9 rfl (lv_at hl 1 rfl) ?_
  refine m_cV (n := 2) (As := [.int 0, .int 99]) (rest := []) K hP hS (MX11_unitsBy l G B _ 0 99 hI) (by decide) sh_259 rfl q_1439 q_1441 q_68 q_91 q_1442 hv_X11_unitsBy ⟨Nat.le_of_ble_eq_true rfl, Nat.le_of_ble_eq_true rfl⟩ rfl hl.1 rfl (Nat.le_of_ble_eq_true rfl) dX11_greatest_10 ⟨Nat.zero_le _, Nat.zero_le _⟩ (fun H locs hP hS => ?_)
  refine lv_topi (fun r_1 er_1 => ?_)
  refine lv_istore (lv' := [(4, .int r_1), (3, .int 1), (2, .int 99), (1, .int 0), (0, .ref (B + 259))]) K.1.1 K.1.2.1 dX11_greatest_13 hl (by decide) rfl (fun ls hl => ?_)
  refine lv_aload_n K.1.1 K.1.2.1 dX11_greatest_15 rfl (lv_at hl 4 rfl) ?_
  refine lv_iconst (v := 1) K.1.1 K.1.2.1 dX11_greatest_16 (by decide) ?_
  refine lv_iload_n K.1.1 K.1.2.1 dX11_greatest_17 rfl (lv_at hl 1 rfl) ?_
  refine m_cV (n := 2) (As := [.int 1, .int 1]) (rest := []) K hP hS (MX11_unitsBy l G B _ 1 1 hI) (by decide) sh_259 rfl q_1439 q_1441 q_68 q_91 q_1442 hv_X11_unitsBy ⟨Nat.le_of_ble_eq_true rfl, Nat.le_of_ble_eq_true rfl⟩ rfl hl.1 rfl (Nat.le_of_ble_eq_true rfl) dX11_greatest_18 ⟨Nat.zero_le _, Nat.zero_le _⟩ (fun H locs hP hS => ?_)
  refine lv_topi (fun r_2 er_2 => ?_)
  refine lv_istore (lv' := [(5, .int r_2), (4, .int r_1), (3, .int 1), (2, .int 99), (1, .int 0), (0, .ref (B + 259))]) K.1.1 K.1.2.1 dX11_greatest_21 hl (by decide) rfl (fun ls hl => ?_)
  have lp_23 : ∀ n : Nat, ∀ (v5_23 : Int32) (v4_23 : Int32) (v3_23 : Int32) (v2_23 : Int32) (v1_23 : Int32) (H : Heap) (locs : List Loc) (ls : Array Slot), (GRok μ n v2_23 v3_23 v4_23 v5_23) → (GR μ (NN 400) 0 99 1 (M_unitsBy μ 0 99) (M_unitsBy μ 1 1) = GR μ n v1_23 v2_23 v3_23 v4_23 v5_23) → MP G B μ H → va_S (AA B) s.heap H locs → lv_has ls 7 [(5, .int v5_23), (4, .int v4_23), (3, .int v3_23), (2, .int v2_23), (1, .int v1_23), (0, .ref (B + 259))] → W p l e ({ frames := 3, cells := 0, slots := 0, locals := 67 } : Room) s m ([.ref (B + 259)] : List Value).toArray below meth c H locs 0 0 (MF below G B (some (.int (M_greatest μ))) μ ([.ref (B + 259)] : List Value).toArray s) (F0 m 23 ls []) := by
    intro n
    induction n with
    | zero =>
      intro v5_23 v4_23 v3_23 v2_23 v1_23 H locs ls inv0_23 fin0_23 hP hS hl
      refine lv_iload_n K.1.1 K.1.2.1 dX11_greatest_23 rfl (lv_at hl 3 rfl) ?_
      refine lv_iload_n K.1.1 K.1.2.1 dX11_greatest_24 rfl (lv_at hl 2 rfl) ?_
      refine lv_icmp_le (tgt := 108) K.1.1 K.1.2.1 dX11_greatest_25 (by decide) (fun c_25 => ?_) (fun c_25 => ?_)
      · refine lv_iload_n K.1.1 K.1.2.1 dX11_greatest_108 rfl (lv_at hl 4 rfl) ?_
        exact m_iret K hr hlocks hP hS dX11_greatest_109 (by subst er_1 er_2; rw [M_greatest, fin0_23]; first | rfl | rw [GR, if_neg (Int32.not_lt.mpr c_25)]) rfl
      · exact absurd c_25 (not_not_intro (Int32.not_lt.mp inv0_23))
    | succ n ih_23 =>
      intro v5_23 v4_23 v3_23 v2_23 v1_23 H locs ls inv0_23 fin0_23 hP hS hl
      refine lv_iload_n K.1.1 K.1.2.1 dX11_greatest_23 rfl (lv_at hl 3 rfl) ?_
      refine lv_iload_n K.1.1 K.1.2.1 dX11_greatest_24 rfl (lv_at hl 2 rfl) ?_
      refine lv_icmp_le (tgt := 108) K.1.1 K.1.2.1 dX11_greatest_25 (by decide) (fun c_25 => ?_) (fun c_25 => ?_)
      · refine lv_iload_n K.1.1 K.1.2.1 dX11_greatest_108 rfl (lv_at hl 4 rfl) ?_
        exact m_iret K hr hlocks hP hS dX11_greatest_109 (by subst er_1 er_2; rw [M_greatest, fin0_23]; first | rfl | rw [GR, if_neg (Int32.not_lt.mpr c_25)]) rfl
      · refine lv_iload K.1.1 K.1.2.1 dX11_greatest_28 (lv_at hl 1 rfl) ?_
        refine lv_if_ne (tgt := 47) K.1.1 K.1.2.1 dX11_greatest_30 (by decide) (fun c_30 => ?_) (fun c_30 => ?_)
        · refine lv_iload K.1.1 K.1.2.1 dX11_greatest_47 (lv_at hl 0 rfl) ?_
          refine lv_if_ne (tgt := 66) K.1.1 K.1.2.1 dX11_greatest_49 (by decide) (fun c_49 => ?_) (fun c_49 => ?_)
          · refine lv_iload K.1.1 K.1.2.1 dX11_greatest_66 (lv_at hl 1 rfl) ?_
            refine lv_iload K.1.1 K.1.2.1 dX11_greatest_68 (lv_at hl 0 rfl) ?_
            refine lv_icmp_ge (tgt := 78) K.1.1 K.1.2.1 dX11_greatest_70 (by decide) (fun c_70 => ?_) (fun c_70 => ?_)
            · refine lv_iload K.1.1 K.1.2.1 dX11_greatest_78 (lv_at hl 0 rfl) ?_
              refine lv_istore (lv' := [(6, .int v5_23), (5, .int v5_23), (4, .int v4_23), (3, .int v3_23), (2, .int v2_23), (1, .int v1_23), (0, .ref (B + 259))]) K.1.1 K.1.2.1 dX11_greatest_80 hl (by decide) rfl (fun ls hl => ?_)
              refine lv_iload_n K.1.1 K.1.2.1 dX11_greatest_82 rfl (lv_at hl 5 rfl) ?_
              refine lv_iload K.1.1 K.1.2.1 dX11_greatest_83 (lv_at hl 0 rfl) ?_
              refine lv_iload_n K.1.1 K.1.2.1 dX11_greatest_85 rfl (lv_at hl 4 rfl) ?_
              refine lv_iload_n K.1.1 K.1.2.1 dX11_greatest_86 rfl (lv_at hl 3 rfl) ?_
              refine lv_isub K.1.1 K.1.2.1 dX11_greatest_87 ?_
              refine lv_imul K.1.1 K.1.2.1 dX11_greatest_88 ?_
              refine lv_iadd K.1.1 K.1.2.1 dX11_greatest_89 ?_
              refine lv_topi (fun x_3 ex_3 => ?_)
              refine lv_istore_n (lv' := [(1, .int x_3), (6, .int v5_23), (5, .int v5_23), (4, .int v4_23), (3, .int v3_23), (2, .int v2_23), (0, .ref (B + 259))]) K.1.1 K.1.2.1 dX11_greatest_90 rfl hl (by decide) rfl (fun ls hl => ?_)
              refine lv_iload K.1.1 K.1.2.1 dX11_greatest_91 (lv_at hl 3 rfl) ?_
              refine lv_iload K.1.1 K.1.2.1 dX11_greatest_93 (lv_at hl 1 rfl) ?_
              refine lv_isub K.1.1 K.1.2.1 dX11_greatest_95 ?_
              refine lv_topi (fun x_4 ex_4 => ?_)
              refine lv_istore (lv' := [(4, .int x_4), (1, .int x_3), (6, .int v5_23), (5, .int v5_23), (3, .int v3_23), (2, .int v2_23), (0, .ref (B + 259))]) K.1.1 K.1.2.1 dX11_greatest_96 hl (by decide) rfl (fun ls hl => ?_)
              refine lv_iload K.1.1 K.1.2.1 dX11_greatest_98 (lv_at hl 3 rfl) ?_
              refine lv_iload K.1.1 K.1.2.1 dX11_greatest_100 (lv_at hl 2 rfl) ?_
              refine lv_isub K.1.1 K.1.2.1 dX11_greatest_102 ?_
              refine lv_topi (fun x_5 ex_5 => ?_)
              refine lv_istore (lv' := [(5, .int x_5), (4, .int x_4), (1, .int x_3), (6, .int v5_23), (3, .int v3_23), (2, .int v2_23), (0, .ref (B + 259))]) K.1.1 K.1.2.1 dX11_greatest_103 hl (by decide) rfl (fun ls hl => ?_)
              refine lv_goto (tgt := 23) K.1.1 K.1.2.1 dX11_greatest_105 (by decide) ?_
              exact ih_23 _ _ _ _ _ _ _ _ (by have h3 := inv0_23 (Int32.not_le.mp c_25); first | (have h4 := h3.1 c_30; subst er_1 er_2 ex_3 ex_4 ex_5; rw [nI_m1s]; exact h4) | (have h4 := h3.2.1 c_30 c_49; subst er_1 er_2 ex_3 ex_4 ex_5; exact h4) | (have h4 := h3.2.2 c_30 c_49; subst er_1 er_2 ex_3 ex_4 ex_5; first | (rw [lsI, if_pos (Int32.not_le.mp c_70)] at h4; exact h4) | (rw [lsI, if_neg (Int32.not_lt.mpr c_70)] at h4; exact h4))) (by subst er_1 er_2 ex_3 ex_4 ex_5; rw [fin0_23, GR, if_pos (Int32.not_le.mp c_25)]; first | (rw [if_pos c_30, nI_m1s]; done) | (rw [if_neg c_30, if_pos c_49]; done) | (rw [if_neg c_30, if_neg c_49, lsI, if_pos (Int32.not_le.mp c_70)]; done) | (rw [if_neg c_30, if_neg c_49, lsI, if_neg (Int32.not_lt.mpr c_70)]; done)) hP hS (lv_sub hl [0, 1, 4, 5, 2, 6] rfl)
            · refine lv_iload K.1.1 K.1.2.1 dX11_greatest_73 (lv_at hl 1 rfl) ?_
              refine lv_goto (tgt := 80) K.1.1 K.1.2.1 dX11_greatest_75 (by decide) ?_
              refine lv_istore (lv' := [(6, .int v4_23), (5, .int v5_23), (4, .int v4_23), (3, .int v3_23), (2, .int v2_23), (1, .int v1_23), (0, .ref (B + 259))]) K.1.1 K.1.2.1 dX11_greatest_80 hl (by decide) rfl (fun ls hl => ?_)
              refine lv_iload_n K.1.1 K.1.2.1 dX11_greatest_82 rfl (lv_at hl 5 rfl) ?_
              refine lv_iload K.1.1 K.1.2.1 dX11_greatest_83 (lv_at hl 0 rfl) ?_
              refine lv_iload_n K.1.1 K.1.2.1 dX11_greatest_85 rfl (lv_at hl 4 rfl) ?_
              refine lv_iload_n K.1.1 K.1.2.1 dX11_greatest_86 rfl (lv_at hl 3 rfl) ?_
              refine lv_isub K.1.1 K.1.2.1 dX11_greatest_87 ?_
              refine lv_imul K.1.1 K.1.2.1 dX11_greatest_88 ?_
              refine lv_iadd K.1.1 K.1.2.1 dX11_greatest_89 ?_
              refine lv_topi (fun x_6 ex_6 => ?_)
              refine lv_istore_n (lv' := [(1, .int x_6), (6, .int v4_23), (5, .int v5_23), (4, .int v4_23), (3, .int v3_23), (2, .int v2_23), (0, .ref (B + 259))]) K.1.1 K.1.2.1 dX11_greatest_90 rfl hl (by decide) rfl (fun ls hl => ?_)
              refine lv_iload K.1.1 K.1.2.1 dX11_greatest_91 (lv_at hl 3 rfl) ?_
              refine lv_iload K.1.1 K.1.2.1 dX11_greatest_93 (lv_at hl 1 rfl) ?_
              refine lv_isub K.1.1 K.1.2.1 dX11_greatest_95 ?_
              refine lv_topi (fun x_7 ex_7 => ?_)
              refine lv_istore (lv' := [(4, .int x_7), (1, .int x_6), (6, .int v4_23), (5, .int v5_23), (3, .int v3_23), (2, .int v2_23), (0, .ref (B + 259))]) K.1.1 K.1.2.1 dX11_greatest_96 hl (by decide) rfl (fun ls hl => ?_)
              refine lv_iload K.1.1 K.1.2.1 dX11_greatest_98 (lv_at hl 3 rfl) ?_
              refine lv_iload K.1.1 K.1.2.1 dX11_greatest_100 (lv_at hl 2 rfl) ?_
              refine lv_isub K.1.1 K.1.2.1 dX11_greatest_102 ?_
              refine lv_topi (fun x_8 ex_8 => ?_)
              refine lv_istore (lv' := [(5, .int x_8), (4, .int x_7), (1, .int x_6), (6, .int v4_23), (3, .int v3_23), (2, .int v2_23), (0, .ref (B + 259))]) K.1.1 K.1.2.1 dX11_greatest_103 hl (by decide) rfl (fun ls hl => ?_)
              refine lv_goto (tgt := 23) K.1.1 K.1.2.1 dX11_greatest_105 (by decide) ?_
              exact ih_23 _ _ _ _ _ _ _ _ (by have h3 := inv0_23 (Int32.not_le.mp c_25); first | (have h4 := h3.1 c_30; subst er_1 er_2 ex_6 ex_7 ex_8; rw [nI_m1s]; exact h4) | (have h4 := h3.2.1 c_30 c_49; subst er_1 er_2 ex_6 ex_7 ex_8; exact h4) | (have h4 := h3.2.2 c_30 c_49; subst er_1 er_2 ex_6 ex_7 ex_8; first | (rw [lsI, if_pos (Int32.not_le.mp c_70)] at h4; exact h4) | (rw [lsI, if_neg (Int32.not_lt.mpr c_70)] at h4; exact h4))) (by subst er_1 er_2 ex_6 ex_7 ex_8; rw [fin0_23, GR, if_pos (Int32.not_le.mp c_25)]; first | (rw [if_pos c_30, nI_m1s]; done) | (rw [if_neg c_30, if_pos c_49]; done) | (rw [if_neg c_30, if_neg c_49, lsI, if_pos (Int32.not_le.mp c_70)]; done) | (rw [if_neg c_30, if_neg c_49, lsI, if_neg (Int32.not_lt.mpr c_70)]; done)) hP hS (lv_sub hl [0, 1, 4, 5, 2, 6] rfl)
          · obtain ⟨x_9, ex_9⟩ : ∃ y : Int32, y = v3_23 + (1) := ⟨_, rfl⟩
            refine lv_iinc (v := x_9) (lv' := [(3, .int x_9), (5, .int v5_23), (4, .int v4_23), (2, .int v2_23), (1, .int v1_23), (0, .ref (B + 259))]) K.1.1 K.1.2.1 dX11_greatest_52 hl (k := 2) rfl (by rw [ex_9]; rfl) (by decide) rfl (fun ls hl => ?_)
            refine lv_aload_n K.1.1 K.1.2.1 dX11_greatest_55 rfl (lv_at hl 5 rfl) ?_
            refine lv_iconst (v := 1) K.1.1 K.1.2.1 dX11_greatest_56 (by decide) ?_
            refine lv_iload_n K.1.1 K.1.2.1 dX11_greatest_57 rfl (lv_at hl 0 rfl) ?_
            refine m_cV (n := 2) (As := [.int 1, .int x_9]) (rest := []) K hP hS (MX11_unitsBy l G B _ 1 x_9 hI) (by decide) sh_259 rfl q_1439 q_1441 q_68 q_91 q_1442 hv_X11_unitsBy ⟨Nat.le_of_ble_eq_true rfl, Nat.le_of_ble_eq_true rfl⟩ rfl hl.1 rfl (Nat.le_of_ble_eq_true rfl) dX11_greatest_58 ⟨Nat.zero_le _, Nat.zero_le _⟩ (fun H locs hP hS => ?_)
            refine lv_topi (fun r_10 er_10 => ?_)
            refine lv_istore (lv' := [(5, .int r_10), (3, .int x_9), (4, .int v4_23), (2, .int v2_23), (1, .int v1_23), (0, .ref (B + 259))]) K.1.1 K.1.2.1 dX11_greatest_61 hl (by decide) rfl (fun ls hl => ?_)
            refine lv_goto (tgt := 23) K.1.1 K.1.2.1 dX11_greatest_63 (by decide) ?_
            exact ih_23 _ _ _ _ _ _ _ _ (by have h3 := inv0_23 (Int32.not_le.mp c_25); first | (have h4 := h3.1 c_30; subst er_1 er_2 ex_9 er_10; rw [nI_m1s]; exact h4) | (have h4 := h3.2.1 c_30 c_49; subst er_1 er_2 ex_9 er_10; exact h4) | (have h4 := h3.2.2 c_30 c_49; subst er_1 er_2 ex_9 er_10; first | (rw [lsI, if_pos (Int32.not_le.mp c_70)] at h4; exact h4) | (rw [lsI, if_neg (Int32.not_lt.mpr c_70)] at h4; exact h4))) (by subst er_1 er_2 ex_9 er_10; rw [fin0_23, GR, if_pos (Int32.not_le.mp c_25)]; first | (rw [if_pos c_30, nI_m1s]; done) | (rw [if_neg c_30, if_pos c_49]; done) | (rw [if_neg c_30, if_neg c_49, lsI, if_pos (Int32.not_le.mp c_70)]; done) | (rw [if_neg c_30, if_neg c_49, lsI, if_neg (Int32.not_lt.mpr c_70)]; done)) hP hS (lv_sub hl [0, 2, 1, 3, 4, 5] rfl)
        · obtain ⟨x_11, ex_11⟩ : ∃ y : Int32, y = v2_23 + (-1) := ⟨_, rfl⟩
          refine lv_iinc (v := x_11) (lv' := [(2, .int x_11), (5, .int v5_23), (4, .int v4_23), (3, .int v3_23), (1, .int v1_23), (0, .ref (B + 259))]) K.1.1 K.1.2.1 dX11_greatest_33 hl (k := 3) rfl (by rw [ex_11]; rfl) (by decide) rfl (fun ls hl => ?_)
          refine lv_aload_n K.1.1 K.1.2.1 dX11_greatest_36 rfl (lv_at hl 5 rfl) ?_
          refine lv_iconst (v := 0) K.1.1 K.1.2.1 dX11_greatest_37 (by decide) ?_
          refine lv_iload_n K.1.1 K.1.2.1 dX11_greatest_38 rfl (lv_at hl 0 rfl) ?_
          refine m_cV (n := 2) (As := [.int 0, .int x_11]) (rest := []) K hP hS (MX11_unitsBy l G B _ 0 x_11 hI) (by decide) sh_259 rfl q_1439 q_1441 q_68 q_91 q_1442 hv_X11_unitsBy ⟨Nat.le_of_ble_eq_true rfl, Nat.le_of_ble_eq_true rfl⟩ rfl hl.1 rfl (Nat.le_of_ble_eq_true rfl) dX11_greatest_39 ⟨Nat.zero_le _, Nat.zero_le _⟩ (fun H locs hP hS => ?_)
          refine lv_topi (fun r_12 er_12 => ?_)
          refine lv_istore (lv' := [(4, .int r_12), (2, .int x_11), (5, .int v5_23), (3, .int v3_23), (1, .int v1_23), (0, .ref (B + 259))]) K.1.1 K.1.2.1 dX11_greatest_42 hl (by decide) rfl (fun ls hl => ?_)
          refine lv_goto (tgt := 23) K.1.1 K.1.2.1 dX11_greatest_44 (by decide) ?_
          exact ih_23 _ _ _ _ _ _ _ _ (by have h3 := inv0_23 (Int32.not_le.mp c_25); first | (have h4 := h3.1 c_30; subst er_1 er_2 ex_11 er_12; rw [nI_m1s]; exact h4) | (have h4 := h3.2.1 c_30 c_49; subst er_1 er_2 ex_11 er_12; exact h4) | (have h4 := h3.2.2 c_30 c_49; subst er_1 er_2 ex_11 er_12; first | (rw [lsI, if_pos (Int32.not_le.mp c_70)] at h4; exact h4) | (rw [lsI, if_neg (Int32.not_lt.mpr c_70)] at h4; exact h4))) (by subst er_1 er_2 ex_11 er_12; rw [fin0_23, GR, if_pos (Int32.not_le.mp c_25)]; first | (rw [if_pos c_30, nI_m1s]; done) | (rw [if_neg c_30, if_pos c_49]; done) | (rw [if_neg c_30, if_neg c_49, lsI, if_pos (Int32.not_le.mp c_70)]; done) | (rw [if_neg c_30, if_neg c_49, lsI, if_neg (Int32.not_lt.mpr c_70)]; done)) hP hS (lv_sub hl [2, 0, 3, 1, 4, 5] rfl)
  exact lp_23 (NN 400) _ _ _ _ _ _ _ _ (by subst er_1 er_2; exact hg) (by subst er_1 er_2; rfl) hP hS (lv_sub hl [0, 1, 2, 3, 4, 5] rfl)

set_option maxHeartbeats 4000000 in
set_option maxRecDepth 100000 in
theorem MX11_orderAt (l : Launch) (G : GG) (B : Nat) (μ : Mm) (sd : Int32) (pl : Int32) (hI : MI μ) : CM l yX11_orderAt (.code yX11_orderAt cX11_orderAt 4 (Option.some FieldType.int)) 4 91 G B [.ref (B + 259), .int sd, .int pl] μ (some (.int (M_orderAt μ sd pl))) μ := by
  refine CM.of (by decide) (Nat.le_of_ble_eq_true rfl) ?_
  intro p e s m below meth c ls K hr hlocks hP hl
  have hS : va_S (AA B) s.heap s.heap [] := va_S.rf
  have hl : lv_has ls 4 [(0, .ref (B + 259)), (1, .int sd), (2, .int pl)] := hl
  refine lv_iconst (v := 0) K.1.1 K.1.2.1 dX11_orderAt_0 (by decide) ?_
  refine lv_istore_n (lv' := [(3, .int 0), (0, .ref (B + 259)), (1, .int sd), (2, .int pl)]) K.1.1 K.1.2.1 dX11_orderAt_1 rfl hl (by decide) rfl (fun ls hl => ?_)
  refine up_to (N := cn (μ 260 1)) (P := fun k : Nat => ∀ (v3_2 : Int32) (H : Heap) (locs : List Loc) (ls : Array Slot), (v3_2 = nI k) → (∀ j : Nat, j < k → decide (M_side μ (nI j) = sd ∧ M_placeOf μ (nI j) = pl) = false) → MP G B μ H → va_S (AA B) s.heap H locs → lv_has ls 4 [(3, .int v3_2), (0, .ref (B + 259)), (1, .int sd), (2, .int pl)] → W p l e ({ frames := 4, cells := 0, slots := 0, locals := 91 } : Room) s m ([.ref (B + 259), .int sd, .int pl] : List Value).toArray below meth c H locs 0 0 (MF below G B (some (.int (M_orderAt μ sd pl))) μ ([.ref (B + 259), .int sd, .int pl] : List Value).toArray s) (F0 m 2 ls [])) ?_ ?_ _ _ _ _ (by first | rfl | (skip; rfl)) (by intro j hj; exact absurd hj (Nat.not_lt_zero _)) hP hS (lv_sub hl [0, 1, 2, 3] rfl)
  · intro v3_2 H locs ls ev3_2 inv_2 hP hS hl
    refine lv_iload_n K.1.1 K.1.2.1 dX11_orderAt_2 rfl (lv_at hl 0 rfl) ?_
    refine lv_aload_n K.1.1 K.1.2.1 dX11_orderAt_3 rfl (lv_at hl 1 rfl) ?_
    refine m_getr K hP (by decide) sh_259 rfl tuX11 0 (by decide) rfl q_1150 dX11_orderAt_4 ?_
    refine lv_iconst (v := 1) K.1.1 K.1.2.1 dX11_orderAt_7 (by decide) ?_
    refine m_iald K hP (by decide) sh_260 (n := 267) (vpd rfl) dX11_orderAt_8 ?_
    refine lv_topi (fun g_1 eg_1 => ?_)
    have eg_1 : g_1 = (_ : Mm) 260 1 := eg_1
    refine lv_icmp_ge (tgt := 38) K.1.1 K.1.2.1 dX11_orderAt_9 (by decide) (fun c_9 => ?_) (fun c_9 => ?_)
    · refine lv_iconst (v := 0) K.1.1 K.1.2.1 dX11_orderAt_38 (by decide) ?_
      exact m_iret K hr hlocks hP hS dX11_orderAt_39 (by subst ev3_2 eg_1; exact congrArg (fun z => some (Value.int z)) (fst0_none inv_2)) rfl
    · exact absurd c_9 (not_not_intro (by subst ev3_2 eg_1; exact cn_out _))
  · intro k hk ih_2 v3_2 H locs ls ev3_2 inv_2 hP hS hl
    refine lv_iload_n K.1.1 K.1.2.1 dX11_orderAt_2 rfl (lv_at hl 0 rfl) ?_
    refine lv_aload_n K.1.1 K.1.2.1 dX11_orderAt_3 rfl (lv_at hl 1 rfl) ?_
    refine m_getr K hP (by decide) sh_259 rfl tuX11 0 (by decide) rfl q_1150 dX11_orderAt_4 ?_
    refine lv_iconst (v := 1) K.1.1 K.1.2.1 dX11_orderAt_7 (by decide) ?_
    refine m_iald K hP (by decide) sh_260 (n := 267) (vpd rfl) dX11_orderAt_8 ?_
    refine lv_topi (fun g_2 eg_2 => ?_)
    have eg_2 : g_2 = (_ : Mm) 260 1 := eg_2
    refine lv_icmp_ge (tgt := 38) K.1.1 K.1.2.1 dX11_orderAt_9 (by decide) (fun c_9 => ?_) (fun c_9 => ?_)
    · exact absurd c_9 (by subst ev3_2 eg_2; exact cn_in hk)
    · refine lv_aload_n K.1.1 K.1.2.1 dX11_orderAt_12 rfl (lv_at hl 1 rfl) ?_
      refine lv_iload_n K.1.1 K.1.2.1 dX11_orderAt_13 rfl (lv_at hl 0 rfl) ?_
      refine m_cV (n := 1) (As := [.int v3_2]) (rest := []) K hP hS (MX11_sideOf l G B _ v3_2 hI (by subst ev3_2 eg_2; first | assumption | exact MI_k hI (by assumption) | exact MI_w hI (by first | assumption | exact MI_k hI (by assumption)) | exact MI_t hI (by assumption))) (by decide) sh_259 rfl q_1339 q_1341 q_48 q_91 q_1342 hv_X11_sideOf ⟨Nat.le_of_ble_eq_true rfl, Nat.le_of_ble_eq_true rfl⟩ rfl hl.1 rfl (Nat.le_of_ble_eq_true rfl) dX11_orderAt_14 ⟨Nat.zero_le _, Nat.zero_le _⟩ (fun H locs hP hS => ?_)
      refine lv_topi (fun r_3 er_3 => ?_)
      refine lv_iload_n K.1.1 K.1.2.1 dX11_orderAt_17 rfl (lv_at hl 2 rfl) ?_
      refine lv_icmp_ne (tgt := 32) K.1.1 K.1.2.1 dX11_orderAt_18 (by decide) (fun c_18 => ?_) (fun c_18 => ?_)
      · obtain ⟨x_4, ex_4⟩ : ∃ y : Int32, y = v3_2 + (1) := ⟨_, rfl⟩
        refine lv_iinc (v := x_4) (lv' := [(3, .int x_4), (0, .ref (B + 259)), (1, .int sd), (2, .int pl)]) K.1.1 K.1.2.1 dX11_orderAt_32 hl (k := 0) rfl (by rw [ex_4]; rfl) (by decide) rfl (fun ls hl => ?_)
        refine lv_goto (tgt := 2) K.1.1 K.1.2.1 dX11_orderAt_35 (by decide) ?_
        exact ih_2 _ _ _ _ (by subst ev3_2 eg_2 er_3 ex_4; exact nI_1 _) (by subst ev3_2 eg_2 er_3 ex_4; exact lt_s inv_2 (decide_eq_false (fun e => by first | exact c_18 e.1 | exact c_27 e.2))) hP hS (lv_sub hl [0, 1, 2, 3] rfl)
      · refine lv_aload_n K.1.1 K.1.2.1 dX11_orderAt_21 rfl (lv_at hl 1 rfl) ?_
        refine lv_iload_n K.1.1 K.1.2.1 dX11_orderAt_22 rfl (lv_at hl 0 rfl) ?_
        refine m_cV (n := 1) (As := [.int v3_2]) (rest := []) K hP hS (MX11_placeOf l G B _ v3_2 hI (by subst ev3_2 eg_2 er_3; first | assumption | exact MI_k hI (by assumption) | exact MI_w hI (by first | assumption | exact MI_k hI (by assumption)) | exact MI_t hI (by assumption))) (by decide) sh_259 rfl q_1355 q_1357 q_52 q_91 q_1358 hv_X11_placeOf ⟨Nat.le_of_ble_eq_true rfl, Nat.le_of_ble_eq_true rfl⟩ rfl hl.1 rfl (Nat.le_of_ble_eq_true rfl) dX11_orderAt_23 ⟨Nat.zero_le _, Nat.zero_le _⟩ (fun H locs hP hS => ?_)
        refine lv_topi (fun r_5 er_5 => ?_)
        refine lv_iload_n K.1.1 K.1.2.1 dX11_orderAt_26 rfl (lv_at hl 3 rfl) ?_
        refine lv_icmp_ne (tgt := 32) K.1.1 K.1.2.1 dX11_orderAt_27 (by decide) (fun c_27 => ?_) (fun c_27 => ?_)
        · obtain ⟨x_6, ex_6⟩ : ∃ y : Int32, y = v3_2 + (1) := ⟨_, rfl⟩
          refine lv_iinc (v := x_6) (lv' := [(3, .int x_6), (0, .ref (B + 259)), (1, .int sd), (2, .int pl)]) K.1.1 K.1.2.1 dX11_orderAt_32 hl (k := 0) rfl (by rw [ex_6]; rfl) (by decide) rfl (fun ls hl => ?_)
          refine lv_goto (tgt := 2) K.1.1 K.1.2.1 dX11_orderAt_35 (by decide) ?_
          exact ih_2 _ _ _ _ (by subst ev3_2 eg_2 er_3 er_5 ex_6; exact nI_1 _) (by subst ev3_2 eg_2 er_3 er_5 ex_6; exact lt_s inv_2 (decide_eq_false (fun e => by first | exact c_18 e.1 | exact c_27 e.2))) hP hS (lv_sub hl [0, 1, 2, 3] rfl)
        · refine lv_iload_n K.1.1 K.1.2.1 dX11_orderAt_30 rfl (lv_at hl 0 rfl) ?_
          exact m_iret K hr hlocks hP hS dX11_orderAt_31 (by subst ev3_2 eg_2 er_3 er_5; exact congrArg (fun z => some (Value.int z)) (fst0_some hk inv_2 (decide_eq_true ⟨c_18, c_27⟩))) rfl

set_option maxHeartbeats 4000000 in
set_option maxRecDepth 100000 in
theorem MX11_adds (l : Launch) (G : GG) (B : Nat) (μ : Mm) (b : Int32) (sl : Int32) (u : Int32) (hI : MI μ) (ht : vp_in (μ 260 9) 20) (hb : vp_in b 20) (hs : vp_in sl 20) : CM l yX11_adds (.code yX11_adds cX11_adds 5 Option.none) 1 22 G B [.ref (B + 259), .int b, .int sl, .int u] μ none (M_adds μ b sl u) := by
  refine CM.of (by decide) (Nat.le_of_ble_eq_true rfl) ?_
  intro p e s m below meth c ls K hr hlocks hP hl
  have hS : va_S (AA B) s.heap s.heap [] := va_S.rf
  have hl : lv_has ls 5 [(0, .ref (B + 259)), (1, .int b), (2, .int sl), (3, .int u)] := hl
  refine lv_sipush (v := 167) K.1.1 K.1.2.1 dX11_adds_0 (by decide) ?_
  refine lv_iconst (v := 5) K.1.1 K.1.2.1 dX11_adds_3 (by decide) ?_
  refine lv_aload_n K.1.1 K.1.2.1 dX11_adds_4 rfl (lv_at hl 0 rfl) ?_
  refine m_getr K hP (by decide) sh_259 rfl tuX11 0 (by decide) rfl q_1150 dX11_adds_5 ?_
  refine lv_bipush (v := 9) K.1.1 K.1.2.1 dX11_adds_8 (by decide) ?_
  refine m_iald K hP (by decide) sh_260 (n := 267) (vpd rfl) dX11_adds_10 ?_
  refine lv_topi (fun g_1 eg_1 => ?_)
  have eg_1 : g_1 = (_ : Mm) 260 9 := eg_1
  refine lv_imul K.1.1 K.1.2.1 dX11_adds_11 ?_
  refine lv_iadd K.1.1 K.1.2.1 dX11_adds_12 ?_
  refine lv_topi (fun x_2 ex_2 => ?_)
  refine lv_istore (lv' := [(4, .int x_2), (0, .ref (B + 259)), (1, .int b), (2, .int sl), (3, .int u)]) K.1.1 K.1.2.1 dX11_adds_13 hl (by decide) rfl (fun ls hl => ?_)
  refine lv_aload_n K.1.1 K.1.2.1 dX11_adds_15 rfl (lv_at hl 1 rfl) ?_
  refine m_getr K hP (by decide) sh_259 rfl tuX11 0 (by decide) rfl q_1150 dX11_adds_16 ?_
  refine lv_iload K.1.1 K.1.2.1 dX11_adds_19 (lv_at hl 0 rfl) ?_
  refine lv_aload_n K.1.1 K.1.2.1 dX11_adds_21 rfl (lv_at hl 1 rfl) ?_
  refine lv_iload_n K.1.1 K.1.2.1 dX11_adds_22 rfl (lv_at hl 2 rfl) ?_
  refine lv_iconst (v := 0) K.1.1 K.1.2.1 dX11_adds_23 (by decide) ?_
  refine m_cV (n := 2) (As := [.int b, .int 0]) (rest := [.int x_2, .ref (B + 260)]) K hP hS (MX11_ofO l G B _ b 0 (loO (by subst eg_1 ex_2; assumption) (vpd rfl))) (by decide) sh_259 rfl q_1291 q_1293 q_39 q_91 q_1294 hv_X11_ofO ⟨Nat.le_of_ble_eq_true rfl, Nat.le_of_ble_eq_true rfl⟩ rfl hl.1 rfl (Nat.le_of_ble_eq_true rfl) dX11_adds_24 ⟨Nat.zero_le _, Nat.zero_le _⟩ (fun H locs hP hS => ?_)
  refine lv_topi (fun r_3 er_3 => ?_)
  refine m_iast K hP hS (by decide) sh_260 (n := 267) (by subst eg_1 ex_2 er_3; exact loD0 ht) dX11_adds_27 (fun H locs hP hS => ?_)
  have hP : MP G B (up2 _ 260 (cn x_2) _) H := hP
  refine lv_aload_n K.1.1 K.1.2.1 dX11_adds_28 rfl (lv_at hl 1 rfl) ?_
  refine m_getr K hP (by decide) sh_259 rfl tuX11 0 (by decide) rfl q_1150 dX11_adds_29 ?_
  refine lv_iload K.1.1 K.1.2.1 dX11_adds_32 (lv_at hl 0 rfl) ?_
  refine lv_iconst (v := 1) K.1.1 K.1.2.1 dX11_adds_34 (by decide) ?_
  refine lv_iadd K.1.1 K.1.2.1 dX11_adds_35 ?_
  refine lv_aload_n K.1.1 K.1.2.1 dX11_adds_36 rfl (lv_at hl 1 rfl) ?_
  refine lv_iload_n K.1.1 K.1.2.1 dX11_adds_37 rfl (lv_at hl 3 rfl) ?_
  refine lv_iconst (v := 0) K.1.1 K.1.2.1 dX11_adds_38 (by decide) ?_
  refine m_cV (n := 2) (As := [.int sl, .int 0]) (rest := [.int (x_2 + 1), .ref (B + 260)]) K hP hS (MX11_ofO l G B _ sl 0 (loO (by subst eg_1 ex_2 er_3; assumption) (vpd rfl))) (by decide) sh_259 rfl q_1291 q_1293 q_39 q_91 q_1294 hv_X11_ofO ⟨Nat.le_of_ble_eq_true rfl, Nat.le_of_ble_eq_true rfl⟩ rfl hl.1 rfl (Nat.le_of_ble_eq_true rfl) dX11_adds_39 ⟨Nat.zero_le _, Nat.zero_le _⟩ (fun H locs hP hS => ?_)
  refine lv_topi (fun r_4 er_4 => ?_)
  refine m_iast K hP hS (by decide) sh_260 (n := 267) (by subst eg_1 ex_2 er_3 er_4; exact loD ht (vpd rfl)) dX11_adds_42 (fun H locs hP hS => ?_)
  have hP : MP G B (up2 _ 260 (cn (x_2 + 1)) _) H := hP
  refine lv_aload_n K.1.1 K.1.2.1 dX11_adds_43 rfl (lv_at hl 1 rfl) ?_
  refine m_getr K hP (by decide) sh_259 rfl tuX11 0 (by decide) rfl q_1150 dX11_adds_44 ?_
  refine lv_iload K.1.1 K.1.2.1 dX11_adds_47 (lv_at hl 0 rfl) ?_
  refine lv_iconst (v := 2) K.1.1 K.1.2.1 dX11_adds_49 (by decide) ?_
  refine lv_iadd K.1.1 K.1.2.1 dX11_adds_50 ?_
  refine lv_iload_n K.1.1 K.1.2.1 dX11_adds_51 rfl (lv_at hl 4 rfl) ?_
  refine m_iast K hP hS (by decide) sh_260 (n := 267) (by subst eg_1 ex_2 er_3 er_4; exact loD ht (vpd rfl)) dX11_adds_52 (fun H locs hP hS => ?_)
  have hP : MP G B (up2 _ 260 (cn (x_2 + 2)) _) H := hP
  refine lv_aload_n K.1.1 K.1.2.1 dX11_adds_53 rfl (lv_at hl 1 rfl) ?_
  refine m_getr K hP (by decide) sh_259 rfl tuX11 0 (by decide) rfl q_1150 dX11_adds_54 ?_
  refine lv_iload K.1.1 K.1.2.1 dX11_adds_57 (lv_at hl 0 rfl) ?_
  refine lv_iconst (v := 3) K.1.1 K.1.2.1 dX11_adds_59 (by decide) ?_
  refine lv_iadd K.1.1 K.1.2.1 dX11_adds_60 ?_
  refine lv_aload_n K.1.1 K.1.2.1 dX11_adds_61 rfl (lv_at hl 1 rfl) ?_
  refine lv_iload_n K.1.1 K.1.2.1 dX11_adds_62 rfl (lv_at hl 2 rfl) ?_
  refine lv_iconst (v := 1) K.1.1 K.1.2.1 dX11_adds_63 (by decide) ?_
  refine m_cV (n := 2) (As := [.int b, .int 1]) (rest := [.int (x_2 + 3), .ref (B + 260)]) K hP hS (MX11_ofO l G B _ b 1 (loO (by subst eg_1 ex_2 er_3 er_4; assumption) (vpd rfl))) (by decide) sh_259 rfl q_1291 q_1293 q_39 q_91 q_1294 hv_X11_ofO ⟨Nat.le_of_ble_eq_true rfl, Nat.le_of_ble_eq_true rfl⟩ rfl hl.1 rfl (Nat.le_of_ble_eq_true rfl) dX11_adds_64 ⟨Nat.zero_le _, Nat.zero_le _⟩ (fun H locs hP hS => ?_)
  refine lv_topi (fun r_5 er_5 => ?_)
  refine m_iast K hP hS (by decide) sh_260 (n := 267) (by subst eg_1 ex_2 er_3 er_4 er_5; exact loD ht (vpd rfl)) dX11_adds_67 (fun H locs hP hS => ?_)
  have hP : MP G B (up2 _ 260 (cn (x_2 + 3)) _) H := hP
  refine lv_aload_n K.1.1 K.1.2.1 dX11_adds_68 rfl (lv_at hl 1 rfl) ?_
  refine m_getr K hP (by decide) sh_259 rfl tuX11 0 (by decide) rfl q_1150 dX11_adds_69 ?_
  refine lv_iload K.1.1 K.1.2.1 dX11_adds_72 (lv_at hl 0 rfl) ?_
  refine lv_iconst (v := 4) K.1.1 K.1.2.1 dX11_adds_74 (by decide) ?_
  refine lv_iadd K.1.1 K.1.2.1 dX11_adds_75 ?_
  refine lv_aload_n K.1.1 K.1.2.1 dX11_adds_76 rfl (lv_at hl 1 rfl) ?_
  refine lv_iload_n K.1.1 K.1.2.1 dX11_adds_77 rfl (lv_at hl 3 rfl) ?_
  refine lv_iconst (v := 1) K.1.1 K.1.2.1 dX11_adds_78 (by decide) ?_
  refine m_cV (n := 2) (As := [.int sl, .int 1]) (rest := [.int (x_2 + 4), .ref (B + 260)]) K hP hS (MX11_ofO l G B _ sl 1 (loO (by subst eg_1 ex_2 er_3 er_4 er_5; assumption) (vpd rfl))) (by decide) sh_259 rfl q_1291 q_1293 q_39 q_91 q_1294 hv_X11_ofO ⟨Nat.le_of_ble_eq_true rfl, Nat.le_of_ble_eq_true rfl⟩ rfl hl.1 rfl (Nat.le_of_ble_eq_true rfl) dX11_adds_79 ⟨Nat.zero_le _, Nat.zero_le _⟩ (fun H locs hP hS => ?_)
  refine lv_topi (fun r_6 er_6 => ?_)
  refine m_iast K hP hS (by decide) sh_260 (n := 267) (by subst eg_1 ex_2 er_3 er_4 er_5 er_6; exact loD ht (vpd rfl)) dX11_adds_82 (fun H locs hP hS => ?_)
  have hP : MP G B (up2 _ 260 (cn (x_2 + 4)) _) H := hP
  refine lv_aload_n K.1.1 K.1.2.1 dX11_adds_83 rfl (lv_at hl 1 rfl) ?_
  refine m_getr K hP (by decide) sh_259 rfl tuX11 0 (by decide) rfl q_1150 dX11_adds_84 ?_
  refine lv_bipush (v := 9) K.1.1 K.1.2.1 dX11_adds_87 (by decide) ?_
  refine lv_dup2_11 K.1.1 K.1.2.1 dX11_adds_89 rfl rfl ?_
  refine m_iald K hP (by decide) sh_260 (n := 267) (vpd rfl) dX11_adds_90 ?_
  refine lv_topi (fun g_7 eg_7 => ?_)
  have eg_7 : g_7 = (_ : Mm) 260 9 := eg_7
  refine lv_iconst (v := 1) K.1.1 K.1.2.1 dX11_adds_91 (by decide) ?_
  refine lv_iadd K.1.1 K.1.2.1 dX11_adds_92 ?_
  refine m_iast K hP hS (by decide) sh_260 (n := 267) (vpd rfl) dX11_adds_93 (fun H locs hP hS => ?_)
  have hP : MP G B (up2 _ 260 9 _) H := hP
  exact m_vret K hr hlocks hP hS dX11_adds_94 rfl (by subst eg_1 ex_2 er_3 er_4 er_5 er_6 eg_7; rfl)

theorem TR_next {n : Nat} {μ : Mm} {l b s x y u ib is' x' y' : Int32} (hl : 0 < l) (hu : TR_u μ b s x y = u) (h1 : (if u = TR_mb μ b x then (1 : Int32) else 0) = ib) (h2 : (if u = TR_ms μ s y then (1 : Int32) else 0) = is') (h3 : (if u = TR_mb μ b x then 0 else x + u) = x') (h4 : (if u = TR_ms μ s y then 0 else y + u) = y') :
    TR (n + 1) μ l b s x y = TR n (M_adds μ (M_orderAt μ 0 b) (M_orderAt μ 1 s) u) (l - u) (b + ib) (s + is') x' y' := by
  subst hu
  subst h1
  subst h2
  subst h3
  subst h4
  rw [TR, if_pos hl]
theorem TRok_next {n : Nat} {μ : Mm} {l b s x y u ib is' x' y' : Int32} (ok : TRok (n + 1) μ l b s x y) (hl : 0 < l) (hu : TR_u μ b s x y = u) (h1 : (if u = TR_mb μ b x then (1 : Int32) else 0) = ib) (h2 : (if u = TR_ms μ s y then (1 : Int32) else 0) = is') (h3 : (if u = TR_mb μ b x then 0 else x + u) = x') (h4 : (if u = TR_ms μ s y then 0 else y + u) = y') :
    TRok n (M_adds μ (M_orderAt μ 0 b) (M_orderAt μ 1 s) u) (l - u) (b + ib) (s + is') x' y' := by
  subst hu
  subst h1
  subst h2
  subst h3
  subst h4
  exact (ok hl).2

