set_option maxHeartbeats 4000000 in
set_option maxRecDepth 100000 in
theorem ML_areRight (l : Launch) (hfl : l.stackTraces = false) (G : GG) (B : Nat) (μ : Mm) (hN : cn (X_whole μ 5) ≤ 40) (h1 : LV_sum μ 7 (cn (X_whole μ 0)) = 2 * X_whole μ 6) (h2 : LV_sum μ 8 (cn (X_whole μ 0)) = X_whole μ 7) (h3 : LV_sum μ 9 (cn (X_whole μ 0)) = 0) (h4 : LV_sum μ 5 (cn (X_whole μ 0)) = X_whole μ 1) (h5 : LV_there μ (cn (X_whole μ 5)) = LV_sum μ 5 (cn (X_whole μ 0))) : ELM l yL_areRight (.code yL_areRight cL_areRight 7 (Option.some FieldType.boolean)) 9 154 40 240 G B [.ref (B + 0)] μ (some (.int (1))) μ := by
  refine ELM.of (by decide) (Nat.le_of_ble_eq_true rfl) ?_
  intro p e s m below meth c ls K hD hr hlocks hP hl
  have hS : va_S (AA B) s.heap s.heap [] := va_S.rf
  have hl : lv_has ls 7 [(0, .ref (B + 0))] := hl
  refine lv_iconst (v := 0) K.1.1 K.1.2.1 dL_areRight_0 (by decide) ?_
  refine lv_istore_n (lv' := [(1, .int 0), (0, .ref (B + 0))]) K.1.1 K.1.2.1 dL_areRight_1 rfl hl (by decide) rfl (fun ls hl => ?_)
  refine lv_iconst (v := 0) K.1.1 K.1.2.1 dL_areRight_2 (by decide) ?_
  refine lv_istore_n (lv' := [(2, .int 0), (1, .int 0), (0, .ref (B + 0))]) K.1.1 K.1.2.1 dL_areRight_3 rfl hl (by decide) rfl (fun ls hl => ?_)
  refine lv_iconst (v := 0) K.1.1 K.1.2.1 dL_areRight_4 (by decide) ?_
  refine lv_istore_n (lv' := [(3, .int 0), (2, .int 0), (1, .int 0), (0, .ref (B + 0))]) K.1.1 K.1.2.1 dL_areRight_5 rfl hl (by decide) rfl (fun ls hl => ?_)
  refine lv_iconst (v := 0) K.1.1 K.1.2.1 dL_areRight_6 (by decide) ?_
  refine lv_istore (lv' := [(4, .int 0), (3, .int 0), (2, .int 0), (1, .int 0), (0, .ref (B + 0))]) K.1.1 K.1.2.1 dL_areRight_7 hl (by decide) rfl (fun ls hl => ?_)
  refine lv_iconst (v := 0) K.1.1 K.1.2.1 dL_areRight_9 (by decide) ?_
  refine lv_istore (lv' := [(5, .int 0), (4, .int 0), (3, .int 0), (2, .int 0), (1, .int 0), (0, .ref (B + 0))]) K.1.1 K.1.2.1 dL_areRight_10 hl (by decide) rfl (fun ls hl => ?_)
  refine up_to (N := cn (X_whole μ 0)) (P := fun t : Nat => ∀ (v5_12 : Int32) (v4_12 : Int32) (v3_12 : Int32) (v2_12 : Int32) (v1_12 : Int32) (H : Heap) (locs : List Loc) (ls : Array Slot), (v5_12 = nI t) → (v4_12 = LV_sum μ 5 t) → (v3_12 = LV_sum μ 9 t) → (v2_12 = LV_sum μ 8 t) → (v1_12 = LV_sum μ 7 t) → MP G B μ H → va_S (AA B) s.heap H locs → lv_has ls 7 [(5, .int v5_12), (4, .int v4_12), (3, .int v3_12), (2, .int v2_12), (1, .int v1_12), (0, .ref (B + 0))] → W p l e ({ frames := 9, cells := 40, slots := 240, locals := 154 } : Room) s m ([.ref (B + 0)] : List Value).toArray below meth c H locs (0) (0) (ELF below G B (some (.int (1))) μ ([.ref (B + 0)] : List Value).toArray s 40 240) (F0 m 12 ls [])) ?_ ?_ _ _ _ _ _ _ _ _ (by first | rfl | (skip; rfl)) (by first | rfl | (skip; rfl)) (by first | rfl | (skip; rfl)) (by first | rfl | (skip; rfl)) (by first | rfl | (skip; rfl)) hP hS (lv_sub hl [0, 1, 2, 3, 4, 5] rfl)
  · intro v5_12 v4_12 v3_12 v2_12 v1_12 H locs ls ev5_12 ev4_12 ev3_12 ev2_12 ev1_12 hP hS hl
    refine lv_iload K.1.1 K.1.2.1 dL_areRight_12 (lv_at hl 0 rfl) ?_
    refine lv_aload_n K.1.1 K.1.2.1 dL_areRight_14 rfl (lv_at hl 5 rfl) ?_
    refine lv_iconst (v := 0) K.1.1 K.1.2.1 dL_areRight_15 (by decide) ?_
    refine m_cV (n := 1) (As := [.int 0]) (rest := [.int v5_12]) K hP hS (MX10_whole l G B _ 0 rfl) (by decide) sh_0 rfl q_322 q_323 q_324 q_15 q_325 hv_X10_whole ⟨Nat.le_of_ble_eq_true rfl, Nat.le_of_ble_eq_true rfl⟩ rfl hl.1 rfl (Nat.le_of_ble_eq_true rfl) dL_areRight_16 ⟨by show _ ≤ 40; omega, by show _ ≤ 240; omega⟩ (fun H locs hP hS => ?_)
    refine lv_topi (fun r_1 er_1 => ?_)
    refine lv_icmp_ge (tgt := 73) K.1.1 K.1.2.1 dL_areRight_19 (by decide) (fun c_19 => ?_) (fun c_19 => ?_)
    · refine lv_iconst (v := 0) K.1.1 K.1.2.1 dL_areRight_73 (by decide) ?_
      refine lv_istore (lv' := [(5, .int 0), (4, .int v4_12), (3, .int v3_12), (2, .int v2_12), (1, .int v1_12), (0, .ref (B + 0))]) K.1.1 K.1.2.1 dL_areRight_74 hl (by decide) rfl (fun ls hl => ?_)
      refine lv_iconst (v := 0) K.1.1 K.1.2.1 dL_areRight_76 (by decide) ?_
      refine lv_istore (lv' := [(6, .int 0), (5, .int 0), (4, .int v4_12), (3, .int v3_12), (2, .int v2_12), (1, .int v1_12), (0, .ref (B + 0))]) K.1.1 K.1.2.1 dL_areRight_77 hl (by decide) rfl (fun ls hl => ?_)
      refine up_to (N := cn (X_whole μ 5)) (P := fun i : Nat => ∀ (v6_79 : Int32) (v5_79 : Int32) (H : Heap) (locs : List Loc) (ls : Array Slot), (v6_79 = nI i) → (v5_79 = LV_there μ i) → MP G B μ H → va_S (AA B) s.heap H locs → lv_has ls 7 [(6, .int v6_79), (5, .int v5_79), (4, .int v4_12), (3, .int v3_12), (2, .int v2_12), (1, .int v1_12), (0, .ref (B + 0))] → W p l e ({ frames := 9, cells := 40, slots := 240, locals := 154 } : Room) s m ([.ref (B + 0)] : List Value).toArray below meth c H locs (i) (6 * i) (ELF below G B (some (.int (1))) μ ([.ref (B + 0)] : List Value).toArray s 40 240) (F0 m 79 ls [])) ?_ ?_ _ _ _ _ _ (by first | rfl | (subst ev5_12 ev4_12 ev3_12 ev2_12 ev1_12 er_1; rfl)) (by first | rfl | (subst ev5_12 ev4_12 ev3_12 ev2_12 ev1_12 er_1; rfl)) hP hS (lv_sub hl [0, 1, 2, 3, 4, 5, 6] rfl)
      · intro v6_79 v5_79 H locs ls ev6_79 ev5_79 hP hS hl
        refine lv_iload K.1.1 K.1.2.1 dL_areRight_79 (lv_at hl 0 rfl) ?_
        refine lv_aload_n K.1.1 K.1.2.1 dL_areRight_81 rfl (lv_at hl 6 rfl) ?_
        refine lv_iconst (v := 5) K.1.1 K.1.2.1 dL_areRight_82 (by decide) ?_
        refine m_cV (n := 1) (As := [.int 5]) (rest := [.int v6_79]) K hP hS (MX10_whole l G B _ 5 rfl) (by decide) sh_0 rfl q_322 q_323 q_324 q_15 q_325 hv_X10_whole ⟨Nat.le_of_ble_eq_true rfl, Nat.le_of_ble_eq_true rfl⟩ rfl hl.1 rfl (Nat.le_of_ble_eq_true rfl) dL_areRight_83 ⟨by show _ ≤ 40; omega, by show _ ≤ 240; omega⟩ (fun H locs hP hS => ?_)
        refine lv_topi (fun r_2 er_2 => ?_)
        refine lv_icmp_ge (tgt := 114) K.1.1 K.1.2.1 dL_areRight_86 (by decide) (fun c_86 => ?_) (fun c_86 => ?_)
        · refine e_wide 40 240 (by subst ev5_12 ev4_12 ev3_12 ev2_12 ev1_12 er_1 ev6_79 ev5_79 er_2; omega) (by subst ev5_12 ev4_12 ev3_12 ev2_12 ev1_12 er_1 ev6_79 ev5_79 er_2; omega) ?_
          refine lv_iload_n K.1.1 K.1.2.1 dL_areRight_114 rfl (lv_at hl 5 rfl) ?_
          refine lv_iconst (v := 2) K.1.1 K.1.2.1 dL_areRight_115 (by decide) ?_
          refine lv_aload_n K.1.1 K.1.2.1 dL_areRight_116 rfl (lv_at hl 6 rfl) ?_
          refine lv_bipush (v := 6) K.1.1 K.1.2.1 dL_areRight_117 (by decide) ?_
          refine m_cV (n := 1) (As := [.int 6]) (rest := [.int 2, .int v1_12]) K hP hS (MX10_whole l G B _ 6 rfl) (by decide) sh_0 rfl q_322 q_323 q_324 q_15 q_325 hv_X10_whole ⟨Nat.le_of_ble_eq_true rfl, Nat.le_of_ble_eq_true rfl⟩ rfl hl.1 rfl (Nat.le_of_ble_eq_true rfl) dL_areRight_119 ⟨by show _ ≤ 40; omega, by show _ ≤ 240; omega⟩ (fun H locs hP hS => ?_)
          refine lv_topi (fun r_3 er_3 => ?_)
          refine lv_imul K.1.1 K.1.2.1 dL_areRight_122 ?_
          refine lv_icmp_ne (tgt := 161) K.1.1 K.1.2.1 dL_areRight_123 (by decide) (fun c_123 => ?_) (fun c_123 => ?_)
          · exact absurd c_123 (not_not_intro (by subst ev5_12 ev4_12 ev3_12 ev2_12 ev1_12 er_1 ev6_79 ev5_79 er_2 er_3; exact h1))
          · refine lv_iload_n K.1.1 K.1.2.1 dL_areRight_126 rfl (lv_at hl 4 rfl) ?_
            refine lv_aload_n K.1.1 K.1.2.1 dL_areRight_127 rfl (lv_at hl 6 rfl) ?_
            refine lv_bipush (v := 7) K.1.1 K.1.2.1 dL_areRight_128 (by decide) ?_
            refine m_cV (n := 1) (As := [.int 7]) (rest := [.int v2_12]) K hP hS (MX10_whole l G B _ 7 rfl) (by decide) sh_0 rfl q_322 q_323 q_324 q_15 q_325 hv_X10_whole ⟨Nat.le_of_ble_eq_true rfl, Nat.le_of_ble_eq_true rfl⟩ rfl hl.1 rfl (Nat.le_of_ble_eq_true rfl) dL_areRight_130 ⟨by show _ ≤ 40; omega, by show _ ≤ 240; omega⟩ (fun H locs hP hS => ?_)
            refine lv_topi (fun r_4 er_4 => ?_)
            refine lv_icmp_ne (tgt := 161) K.1.1 K.1.2.1 dL_areRight_133 (by decide) (fun c_133 => ?_) (fun c_133 => ?_)
            · exact absurd c_133 (not_not_intro (by subst ev5_12 ev4_12 ev3_12 ev2_12 ev1_12 er_1 ev6_79 ev5_79 er_2 er_3 er_4; exact h2))
            · refine lv_iload_n K.1.1 K.1.2.1 dL_areRight_136 rfl (lv_at hl 3 rfl) ?_
              refine lv_if_ne (tgt := 161) K.1.1 K.1.2.1 dL_areRight_137 (by decide) (fun c_137 => ?_) (fun c_137 => ?_)
              · exact absurd c_137 (not_not_intro (by subst ev5_12 ev4_12 ev3_12 ev2_12 ev1_12 er_1 ev6_79 ev5_79 er_2 er_3 er_4; exact h3))
              · refine lv_iload K.1.1 K.1.2.1 dL_areRight_140 (lv_at hl 2 rfl) ?_
                refine lv_aload_n K.1.1 K.1.2.1 dL_areRight_142 rfl (lv_at hl 6 rfl) ?_
                refine lv_iconst (v := 1) K.1.1 K.1.2.1 dL_areRight_143 (by decide) ?_
                refine m_cV (n := 1) (As := [.int 1]) (rest := [.int v4_12]) K hP hS (MX10_whole l G B _ 1 rfl) (by decide) sh_0 rfl q_322 q_323 q_324 q_15 q_325 hv_X10_whole ⟨Nat.le_of_ble_eq_true rfl, Nat.le_of_ble_eq_true rfl⟩ rfl hl.1 rfl (Nat.le_of_ble_eq_true rfl) dL_areRight_144 ⟨by show _ ≤ 40; omega, by show _ ≤ 240; omega⟩ (fun H locs hP hS => ?_)
                refine lv_topi (fun r_5 er_5 => ?_)
                refine lv_icmp_ne (tgt := 161) K.1.1 K.1.2.1 dL_areRight_147 (by decide) (fun c_147 => ?_) (fun c_147 => ?_)
                · exact absurd c_147 (not_not_intro (by subst ev5_12 ev4_12 ev3_12 ev2_12 ev1_12 er_1 ev6_79 ev5_79 er_2 er_3 er_4 er_5; exact h4))
                · refine lv_iload K.1.1 K.1.2.1 dL_areRight_150 (lv_at hl 1 rfl) ?_
                  refine lv_iload K.1.1 K.1.2.1 dL_areRight_152 (lv_at hl 2 rfl) ?_
                  refine lv_icmp_ne (tgt := 161) K.1.1 K.1.2.1 dL_areRight_154 (by decide) (fun c_154 => ?_) (fun c_154 => ?_)
                  · exact absurd c_154 (not_not_intro (by subst ev5_12 ev4_12 ev3_12 ev2_12 ev1_12 er_1 ev6_79 ev5_79 er_2 er_3 er_4 er_5; exact h5))
                  · refine lv_iconst (v := 1) K.1.1 K.1.2.1 dL_areRight_157 (by decide) ?_
                    refine lv_goto (tgt := 162) K.1.1 K.1.2.1 dL_areRight_158 (by decide) ?_
                    exact e_zret K hr hlocks hP hS dL_areRight_162 (by first | rfl | (subst ev5_12 ev4_12 ev3_12 ev2_12 ev1_12 er_1 ev6_79 ev5_79 er_2 er_3 er_4 er_5; rfl)) (by subst ev5_12 ev4_12 ev3_12 ev2_12 ev1_12 er_1 ev6_79 ev5_79 er_2 er_3 er_4 er_5; rfl) rfl (by omega)
        · exact absurd c_86 (not_not_intro (by subst ev5_12 ev4_12 ev3_12 ev2_12 ev1_12 er_1 ev6_79 ev5_79 er_2; exact cn_out _))
      · intro i hi ih_79 v6_79 v5_79 H locs ls ev6_79 ev5_79 hP hS hl
        have hi2 : i < 40 := by omega
        refine lv_iload K.1.1 K.1.2.1 dL_areRight_79 (lv_at hl 0 rfl) ?_
        refine lv_aload_n K.1.1 K.1.2.1 dL_areRight_81 rfl (lv_at hl 6 rfl) ?_
        refine lv_iconst (v := 5) K.1.1 K.1.2.1 dL_areRight_82 (by decide) ?_
        refine m_cV (n := 1) (As := [.int 5]) (rest := [.int v6_79]) K hP hS (MX10_whole l G B _ 5 rfl) (by decide) sh_0 rfl q_322 q_323 q_324 q_15 q_325 hv_X10_whole ⟨Nat.le_of_ble_eq_true rfl, Nat.le_of_ble_eq_true rfl⟩ rfl hl.1 rfl (Nat.le_of_ble_eq_true rfl) dL_areRight_83 ⟨by show _ ≤ 40; omega, by show _ ≤ 240; omega⟩ (fun H locs hP hS => ?_)
        refine lv_topi (fun r_6 er_6 => ?_)
        refine lv_icmp_ge (tgt := 114) K.1.1 K.1.2.1 dL_areRight_86 (by decide) (fun c_86 => ?_) (fun c_86 => ?_)
        · exact absurd c_86 (by subst ev5_12 ev4_12 ev3_12 ev2_12 ev1_12 er_1 ev6_79 ev5_79 er_6; exact cn_in hi)
        · refine lv_iload K.1.1 K.1.2.1 dL_areRight_89 (lv_at hl 1 rfl) ?_
          refine lv_aload_n K.1.1 K.1.2.1 dL_areRight_91 rfl (lv_at hl 6 rfl) ?_
          refine lv_iload K.1.1 K.1.2.1 dL_areRight_92 (lv_at hl 0 rfl) ?_
          refine e_cSW (n := 2) (As := [.ref (B + 0), .int v6_79]) (rest := [.int v5_79]) K hP hS hD (ML_unitsOf l hfl G B _ v6_79 ) q_601 q_602 q_14 q_603 hw_unitsOf.2 ⟨Nat.le_of_ble_eq_true rfl, Nat.le_of_ble_eq_true rfl⟩ rfl hl.1 rfl (Nat.le_of_ble_eq_true rfl) dL_areRight_94 ⟨by show _ ≤ 40; omega, by show _ ≤ 240; omega⟩ (fun H locs hP hS => ?_)
          refine lv_topi (fun r_7 er_7 => ?_)
          refine lv_if_le (tgt := 104) K.1.1 K.1.2.1 dL_areRight_97 (by decide) (fun c_97 => ?_) (fun c_97 => ?_)
          · refine lv_iconst (v := 0) K.1.1 K.1.2.1 dL_areRight_104 (by decide) ?_
            refine lv_iadd K.1.1 K.1.2.1 dL_areRight_105 ?_
            refine lv_topi (fun x_8 ex_8 => ?_)
            refine lv_istore (lv' := [(5, .int x_8), (6, .int v6_79), (4, .int v4_12), (3, .int v3_12), (2, .int v2_12), (1, .int v1_12), (0, .ref (B + 0))]) K.1.1 K.1.2.1 dL_areRight_106 hl (by decide) rfl (fun ls hl => ?_)
            obtain ⟨x_9, ex_9⟩ : ∃ y : Int32, y = v6_79 + (1) := ⟨_, rfl⟩
            refine lv_iinc (v := x_9) (lv' := [(6, .int x_9), (5, .int x_8), (4, .int v4_12), (3, .int v3_12), (2, .int v2_12), (1, .int v1_12), (0, .ref (B + 0))]) K.1.1 K.1.2.1 dL_areRight_108 hl (k := 1) rfl (by rw [ex_9]; rfl) (by decide) rfl (fun ls hl => ?_)
            refine lv_goto (tgt := 79) K.1.1 K.1.2.1 dL_areRight_111 (by decide) ?_
            exact ih_79 _ _ _ _ _ (by subst ev5_12 ev4_12 ev3_12 ev2_12 ev1_12 er_1 ev6_79 ev5_79 er_6 er_7 ex_8 ex_9; exact nI_1 _) (by subst ev5_12 ev4_12 ev3_12 ev2_12 ev1_12 er_1 ev6_79 ev5_79 er_6 er_7 ex_8 ex_9; first | exact congrArg (fun z => LV_there μ i + z) (if_neg c_97).symm | exact congrArg (fun z => LV_there μ i + z) (if_pos c_97).symm) hP hS (lv_sub hl [0, 1, 2, 3, 4, 5, 6] rfl)
          · refine lv_iconst (v := 1) K.1.1 K.1.2.1 dL_areRight_100 (by decide) ?_
            refine lv_goto (tgt := 105) K.1.1 K.1.2.1 dL_areRight_101 (by decide) ?_
            refine lv_iadd K.1.1 K.1.2.1 dL_areRight_105 ?_
            refine lv_topi (fun x_10 ex_10 => ?_)
            refine lv_istore (lv' := [(5, .int x_10), (6, .int v6_79), (4, .int v4_12), (3, .int v3_12), (2, .int v2_12), (1, .int v1_12), (0, .ref (B + 0))]) K.1.1 K.1.2.1 dL_areRight_106 hl (by decide) rfl (fun ls hl => ?_)
            obtain ⟨x_11, ex_11⟩ : ∃ y : Int32, y = v6_79 + (1) := ⟨_, rfl⟩
            refine lv_iinc (v := x_11) (lv' := [(6, .int x_11), (5, .int x_10), (4, .int v4_12), (3, .int v3_12), (2, .int v2_12), (1, .int v1_12), (0, .ref (B + 0))]) K.1.1 K.1.2.1 dL_areRight_108 hl (k := 1) rfl (by rw [ex_11]; rfl) (by decide) rfl (fun ls hl => ?_)
            refine lv_goto (tgt := 79) K.1.1 K.1.2.1 dL_areRight_111 (by decide) ?_
            exact ih_79 _ _ _ _ _ (by subst ev5_12 ev4_12 ev3_12 ev2_12 ev1_12 er_1 ev6_79 ev5_79 er_6 er_7 ex_10 ex_11; exact nI_1 _) (by subst ev5_12 ev4_12 ev3_12 ev2_12 ev1_12 er_1 ev6_79 ev5_79 er_6 er_7 ex_10 ex_11; first | exact congrArg (fun z => LV_there μ i + z) (if_neg c_97).symm | exact congrArg (fun z => LV_there μ i + z) (if_pos c_97).symm) hP hS (lv_sub hl [0, 1, 2, 3, 4, 5, 6] rfl)
    · exact absurd c_19 (not_not_intro (by subst ev5_12 ev4_12 ev3_12 ev2_12 ev1_12 er_1; exact cn_out _))
  · intro t ht ih_12 v5_12 v4_12 v3_12 v2_12 v1_12 H locs ls ev5_12 ev4_12 ev3_12 ev2_12 ev1_12 hP hS hl
    refine lv_iload K.1.1 K.1.2.1 dL_areRight_12 (lv_at hl 0 rfl) ?_
    refine lv_aload_n K.1.1 K.1.2.1 dL_areRight_14 rfl (lv_at hl 5 rfl) ?_
    refine lv_iconst (v := 0) K.1.1 K.1.2.1 dL_areRight_15 (by decide) ?_
    refine m_cV (n := 1) (As := [.int 0]) (rest := [.int v5_12]) K hP hS (MX10_whole l G B _ 0 rfl) (by decide) sh_0 rfl q_322 q_323 q_324 q_15 q_325 hv_X10_whole ⟨Nat.le_of_ble_eq_true rfl, Nat.le_of_ble_eq_true rfl⟩ rfl hl.1 rfl (Nat.le_of_ble_eq_true rfl) dL_areRight_16 ⟨by show _ ≤ 40; omega, by show _ ≤ 240; omega⟩ (fun H locs hP hS => ?_)
    refine lv_topi (fun r_12 er_12 => ?_)
    refine lv_icmp_ge (tgt := 73) K.1.1 K.1.2.1 dL_areRight_19 (by decide) (fun c_19 => ?_) (fun c_19 => ?_)
    · exact absurd c_19 (by subst ev5_12 ev4_12 ev3_12 ev2_12 ev1_12 er_12; exact cn_in ht)
    · refine lv_iload_n K.1.1 K.1.2.1 dL_areRight_22 rfl (lv_at hl 4 rfl) ?_
      refine lv_aload_n K.1.1 K.1.2.1 dL_areRight_23 rfl (lv_at hl 5 rfl) ?_
      refine lv_iload K.1.1 K.1.2.1 dL_areRight_24 (lv_at hl 0 rfl) ?_
      refine lv_bipush (v := 7) K.1.1 K.1.2.1 dL_areRight_26 (by decide) ?_
      refine m_cV (n := 2) (As := [.int v5_12, .int 7]) (rest := [.int v1_12]) K hP hS (MX10_trader l G B _ v5_12 7 (by subst ev5_12 ev4_12 ev3_12 ev2_12 ev1_12 er_12; exact has_ok ht) rfl) (by decide) sh_0 rfl q_589 q_590 q_591 q_15 q_592 hv_X10_trader ⟨Nat.le_of_ble_eq_true rfl, Nat.le_of_ble_eq_true rfl⟩ rfl hl.1 rfl (Nat.le_of_ble_eq_true rfl) dL_areRight_28 ⟨by show _ ≤ 40; omega, by show _ ≤ 240; omega⟩ (fun H locs hP hS => ?_)
      refine lv_topi (fun r_13 er_13 => ?_)
      refine lv_iadd K.1.1 K.1.2.1 dL_areRight_31 ?_
      refine lv_topi (fun x_14 ex_14 => ?_)
      refine lv_istore_n (lv' := [(1, .int x_14), (5, .int v5_12), (4, .int v4_12), (3, .int v3_12), (2, .int v2_12), (0, .ref (B + 0))]) K.1.1 K.1.2.1 dL_areRight_32 rfl hl (by decide) rfl (fun ls hl => ?_)
      refine lv_iload_n K.1.1 K.1.2.1 dL_areRight_33 rfl (lv_at hl 4 rfl) ?_
      refine lv_aload_n K.1.1 K.1.2.1 dL_areRight_34 rfl (lv_at hl 5 rfl) ?_
      refine lv_iload K.1.1 K.1.2.1 dL_areRight_35 (lv_at hl 1 rfl) ?_
      refine lv_bipush (v := 8) K.1.1 K.1.2.1 dL_areRight_37 (by decide) ?_
      refine m_cV (n := 2) (As := [.int v5_12, .int 8]) (rest := [.int v2_12]) K hP hS (MX10_trader l G B _ v5_12 8 (by subst ev5_12 ev4_12 ev3_12 ev2_12 ev1_12 er_12 er_13 ex_14; exact has_ok ht) rfl) (by decide) sh_0 rfl q_589 q_590 q_591 q_15 q_592 hv_X10_trader ⟨Nat.le_of_ble_eq_true rfl, Nat.le_of_ble_eq_true rfl⟩ rfl hl.1 rfl (Nat.le_of_ble_eq_true rfl) dL_areRight_39 ⟨by show _ ≤ 40; omega, by show _ ≤ 240; omega⟩ (fun H locs hP hS => ?_)
      refine lv_topi (fun r_15 er_15 => ?_)
      refine lv_iadd K.1.1 K.1.2.1 dL_areRight_42 ?_
      refine lv_topi (fun x_16 ex_16 => ?_)
      refine lv_istore_n (lv' := [(2, .int x_16), (1, .int x_14), (5, .int v5_12), (4, .int v4_12), (3, .int v3_12), (0, .ref (B + 0))]) K.1.1 K.1.2.1 dL_areRight_43 rfl hl (by decide) rfl (fun ls hl => ?_)
      refine lv_iload_n K.1.1 K.1.2.1 dL_areRight_44 rfl (lv_at hl 4 rfl) ?_
      refine lv_aload_n K.1.1 K.1.2.1 dL_areRight_45 rfl (lv_at hl 5 rfl) ?_
      refine lv_iload K.1.1 K.1.2.1 dL_areRight_46 (lv_at hl 2 rfl) ?_
      refine lv_bipush (v := 9) K.1.1 K.1.2.1 dL_areRight_48 (by decide) ?_
      refine m_cV (n := 2) (As := [.int v5_12, .int 9]) (rest := [.int v3_12]) K hP hS (MX10_trader l G B _ v5_12 9 (by subst ev5_12 ev4_12 ev3_12 ev2_12 ev1_12 er_12 er_13 ex_14 er_15 ex_16; exact has_ok ht) rfl) (by decide) sh_0 rfl q_589 q_590 q_591 q_15 q_592 hv_X10_trader ⟨Nat.le_of_ble_eq_true rfl, Nat.le_of_ble_eq_true rfl⟩ rfl hl.1 rfl (Nat.le_of_ble_eq_true rfl) dL_areRight_50 ⟨by show _ ≤ 40; omega, by show _ ≤ 240; omega⟩ (fun H locs hP hS => ?_)
      refine lv_topi (fun r_17 er_17 => ?_)
      refine lv_iadd K.1.1 K.1.2.1 dL_areRight_53 ?_
      refine lv_topi (fun x_18 ex_18 => ?_)
      refine lv_istore_n (lv' := [(3, .int x_18), (2, .int x_16), (1, .int x_14), (5, .int v5_12), (4, .int v4_12), (0, .ref (B + 0))]) K.1.1 K.1.2.1 dL_areRight_54 rfl hl (by decide) rfl (fun ls hl => ?_)
      refine lv_iload K.1.1 K.1.2.1 dL_areRight_55 (lv_at hl 4 rfl) ?_
      refine lv_aload_n K.1.1 K.1.2.1 dL_areRight_57 rfl (lv_at hl 5 rfl) ?_
      refine lv_iload K.1.1 K.1.2.1 dL_areRight_58 (lv_at hl 3 rfl) ?_
      refine lv_iconst (v := 5) K.1.1 K.1.2.1 dL_areRight_60 (by decide) ?_
      refine m_cV (n := 2) (As := [.int v5_12, .int 5]) (rest := [.int v4_12]) K hP hS (MX10_trader l G B _ v5_12 5 (by subst ev5_12 ev4_12 ev3_12 ev2_12 ev1_12 er_12 er_13 ex_14 er_15 ex_16 er_17 ex_18; exact has_ok ht) rfl) (by decide) sh_0 rfl q_589 q_590 q_591 q_15 q_592 hv_X10_trader ⟨Nat.le_of_ble_eq_true rfl, Nat.le_of_ble_eq_true rfl⟩ rfl hl.1 rfl (Nat.le_of_ble_eq_true rfl) dL_areRight_61 ⟨by show _ ≤ 40; omega, by show _ ≤ 240; omega⟩ (fun H locs hP hS => ?_)
      refine lv_topi (fun r_19 er_19 => ?_)
      refine lv_iadd K.1.1 K.1.2.1 dL_areRight_64 ?_
      refine lv_topi (fun x_20 ex_20 => ?_)
      refine lv_istore (lv' := [(4, .int x_20), (3, .int x_18), (2, .int x_16), (1, .int x_14), (5, .int v5_12), (0, .ref (B + 0))]) K.1.1 K.1.2.1 dL_areRight_65 hl (by decide) rfl (fun ls hl => ?_)
      obtain ⟨x_21, ex_21⟩ : ∃ y : Int32, y = v5_12 + (1) := ⟨_, rfl⟩
      refine lv_iinc (v := x_21) (lv' := [(5, .int x_21), (4, .int x_20), (3, .int x_18), (2, .int x_16), (1, .int x_14), (0, .ref (B + 0))]) K.1.1 K.1.2.1 dL_areRight_67 hl (k := 4) rfl (by rw [ex_21]; rfl) (by decide) rfl (fun ls hl => ?_)
      refine lv_goto (tgt := 12) K.1.1 K.1.2.1 dL_areRight_70 (by decide) ?_
      exact ih_12 _ _ _ _ _ _ _ _ (by subst ev5_12 ev4_12 ev3_12 ev2_12 ev1_12 er_12 er_13 ex_14 er_15 ex_16 er_17 ex_18 er_19 ex_20 ex_21; exact nI_1 _) (by subst ev5_12 ev4_12 ev3_12 ev2_12 ev1_12 er_12 er_13 ex_14 er_15 ex_16 er_17 ex_18 er_19 ex_20 ex_21; rfl) (by subst ev5_12 ev4_12 ev3_12 ev2_12 ev1_12 er_12 er_13 ex_14 er_15 ex_16 er_17 ex_18 er_19 ex_20 ex_21; rfl) (by subst ev5_12 ev4_12 ev3_12 ev2_12 ev1_12 er_12 er_13 ex_14 er_15 ex_16 er_17 ex_18 er_19 ex_20 ex_21; rfl) (by subst ev5_12 ev4_12 ev3_12 ev2_12 ev1_12 er_12 er_13 ex_14 er_15 ex_16 er_17 ex_18 er_19 ex_20 ex_21; rfl) hP hS (lv_sub hl [0, 1, 2, 3, 4, 5] rfl)

