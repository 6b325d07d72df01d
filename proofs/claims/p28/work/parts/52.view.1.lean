set_option maxHeartbeats 4000000 in
set_option maxRecDepth 100000 in
theorem ML_view (l : Launch) (hfl : l.stackTraces = false) (G : GG) (B : Nat) (μ : Mm) (hN : cn (X_whole (V_2 μ (NN 7)).1 5) ≤ 40) : ELM l yL_view (.code yL_view cL_view 6 (Option.some FieldType.long)) 9 154 40 240 G B [.ref (B + 0)] μ (some (.long (LV_view μ))) (V_M μ) := by
  refine ELM.of (by decide) (Nat.le_of_ble_eq_true rfl) ?_
  intro p e s m below meth c ls K hD hr hlocks hP hl
  have hS : va_S (AA B) s.heap s.heap [] := va_S.rf
  have hl : lv_has ls 6 [(0, .ref (B + 0))] := hl
  refine lv_ldc2 (own := RL) (v := 7) K.1.1 K.1.2.1 K.1.2.2.2.1 (K.w q_583) dL_view_0 ?_
  refine lv_lstore_n (lv' := [(1, .long 7), (0, .ref (B + 0))]) K.1.1 K.1.2.1 dL_view_3 rfl hl (by decide) rfl (fun ls hl => ?_)
  refine lv_iconst (v := 0) K.1.1 K.1.2.1 dL_view_4 (by decide) ?_
  refine lv_istore_n (lv' := [(3, .int 0), (1, .long 7), (0, .ref (B + 0))]) K.1.1 K.1.2.1 dL_view_5 rfl hl (by decide) rfl (fun ls hl => ?_)
  refine up_to (N := NN 11) (P := fun w : Nat => ∀ (v3_6 : Int32) (v1_6 : Int64) (H : Heap) (locs : List Loc) (ls : Array Slot), (v3_6 = nI w) → (v1_6 = V_1 μ w) → MP G B μ H → va_S (AA B) s.heap H locs → lv_has ls 6 [(3, .int v3_6), (1, .long v1_6), (0, .ref (B + 0))] → W p l e ({ frames := 9, cells := 40, slots := 240, locals := 154 } : Room) s m ([.ref (B + 0)] : List Value).toArray below meth c H locs (0) (0) (ELF below G B (some (.long (LV_view μ))) (V_M μ) ([.ref (B + 0)] : List Value).toArray s 40 240) (F0 m 6 ls [])) ?_ ?_ _ _ _ _ _ (by first | rfl | (skip; rfl)) (by first | rfl | (skip; rfl)) hP hS (lv_sub hl [0, 1, 2] rfl)
  · intro v3_6 v1_6 H locs ls ev3_6 ev1_6 hP hS hl
    refine lv_iload_n K.1.1 K.1.2.1 dL_view_6 rfl (lv_at hl 0 rfl) ?_
    refine lv_bipush (v := 11) K.1.1 K.1.2.1 dL_view_7 (by decide) ?_
    refine lv_icmp_ge (tgt := 31) K.1.1 K.1.2.1 dL_view_9 (by decide) (fun c_9 => ?_) (fun c_9 => ?_)
    · refine lv_iconst (v := 0) K.1.1 K.1.2.1 dL_view_31 (by decide) ?_
      refine lv_istore_n (lv' := [(3, .int 0), (1, .long v1_6), (0, .ref (B + 0))]) K.1.1 K.1.2.1 dL_view_32 rfl hl (by decide) rfl (fun ls hl => ?_)
      refine up_to (N := NN 7) (P := fun w : Nat => ∀ (v3_33 : Int32) (v1_33 : Int64) (μ_33 : Mm) (H : Heap) (locs : List Loc) (ls : Array Slot), (v3_33 = nI w) → (v1_33 = (V_2 μ w).2) → (μ_33 = (V_2 μ w).1) → MP G B μ_33 H → va_S (AA B) s.heap H locs → lv_has ls 6 [(3, .int v3_33), (1, .long v1_33), (0, .ref (B + 0))] → W p l e ({ frames := 9, cells := 40, slots := 240, locals := 154 } : Room) s m ([.ref (B + 0)] : List Value).toArray below meth c H locs (0) (0) (ELF below G B (some (.long (LV_view μ))) (V_M μ) ([.ref (B + 0)] : List Value).toArray s 40 240) (F0 m 33 ls [])) ?_ ?_ _ _ _ _ _ _ (by first | rfl | (subst ev3_6 ev1_6; rfl)) (by first | rfl | (subst ev3_6 ev1_6; rfl)) (by first | rfl | (subst ev3_6 ev1_6; rfl)) hP hS (lv_sub hl [0, 1, 2] rfl)
      · intro v3_33 v1_33 μ_33 H locs ls ev3_33 ev1_33 eμ_33 hP hS hl
        refine lv_iload_n K.1.1 K.1.2.1 dL_view_33 rfl (lv_at hl 0 rfl) ?_
        refine lv_bipush (v := 7) K.1.1 K.1.2.1 dL_view_34 (by decide) ?_
        refine lv_icmp_ge (tgt := 58) K.1.1 K.1.2.1 dL_view_36 (by decide) (fun c_36 => ?_) (fun c_36 => ?_)
        · refine lv_iconst (v := 0) K.1.1 K.1.2.1 dL_view_58 (by decide) ?_
          refine lv_istore_n (lv' := [(3, .int 0), (1, .long v1_33), (0, .ref (B + 0))]) K.1.1 K.1.2.1 dL_view_59 rfl hl (by decide) rfl (fun ls hl => ?_)
          refine up_to (N := cn (X_whole μ_33 0)) (P := fun t : Nat => ∀ (v3_60 : Int32) (v1_60 : Int64) (H : Heap) (locs : List Loc) (ls : Array Slot), (v3_60 = nI t) → (v1_60 = V_3 μ_33 (V_v2 μ) t) → MP G B μ_33 H → va_S (AA B) s.heap H locs → lv_has ls 6 [(3, .int v3_60), (1, .long v1_60), (0, .ref (B + 0))] → W p l e ({ frames := 9, cells := 40, slots := 240, locals := 154 } : Room) s m ([.ref (B + 0)] : List Value).toArray below meth c H locs (0) (0) (ELF below G B (some (.long (LV_view μ))) (V_M μ) ([.ref (B + 0)] : List Value).toArray s 40 240) (F0 m 60 ls [])) ?_ ?_ _ _ _ _ _ (by first | rfl | (subst ev3_6 ev1_6 ev3_33 ev1_33 eμ_33; rfl)) (by first | rfl | (subst ev3_6 ev1_6 ev3_33 ev1_33 eμ_33; rfl)) hP hS (lv_sub hl [0, 1, 2] rfl)
          · intro v3_60 v1_60 H locs ls ev3_60 ev1_60 hP hS hl
            refine lv_iload_n K.1.1 K.1.2.1 dL_view_60 rfl (lv_at hl 0 rfl) ?_
            refine lv_aload_n K.1.1 K.1.2.1 dL_view_61 rfl (lv_at hl 2 rfl) ?_
            refine lv_iconst (v := 0) K.1.1 K.1.2.1 dL_view_62 (by decide) ?_
            refine m_cV (n := 1) (As := [.int 0]) (rest := [.int v3_60]) K hP hS (MX10_whole l G B _ 0 rfl) (by decide) sh_0 rfl q_322 q_323 q_324 q_15 q_325 hv_X10_whole ⟨Nat.le_of_ble_eq_true rfl, Nat.le_of_ble_eq_true rfl⟩ rfl hl.1 rfl (Nat.le_of_ble_eq_true rfl) dL_view_63 ⟨by show _ ≤ 40; first | omega | (subst eμ_33; omega), by show _ ≤ 240; first | omega | (subst eμ_33; omega)⟩ (fun H locs hP hS => ?_)
            refine lv_topi (fun r_1 er_1 => ?_)
            refine lv_icmp_ge (tgt := 106) K.1.1 K.1.2.1 dL_view_66 (by decide) (fun c_66 => ?_) (fun c_66 => ?_)
            · refine lv_iconst (v := 0) K.1.1 K.1.2.1 dL_view_106 (by decide) ?_
              refine lv_istore_n (lv' := [(3, .int 0), (1, .long v1_60), (0, .ref (B + 0))]) K.1.1 K.1.2.1 dL_view_107 rfl hl (by decide) rfl (fun ls hl => ?_)
              refine up_to (N := cn (X_whole μ_33 5)) (P := fun i : Nat => ∀ (v3_108 : Int32) (v1_108 : Int64) (H : Heap) (locs : List Loc) (ls : Array Slot), (v3_108 = nI i) → (v1_108 = V_4 μ_33 (V_e3 μ_33 (V_v2 μ)) i) → MP G B μ_33 H → va_S (AA B) s.heap H locs → lv_has ls 6 [(3, .int v3_108), (1, .long v1_108), (0, .ref (B + 0))] → W p l e ({ frames := 9, cells := 40, slots := 240, locals := 154 } : Room) s m ([.ref (B + 0)] : List Value).toArray below meth c H locs (i) (6 * i) (ELF below G B (some (.long (LV_view μ))) (V_M μ) ([.ref (B + 0)] : List Value).toArray s 40 240) (F0 m 108 ls [])) ?_ ?_ _ _ _ _ _ (by first | rfl | (subst ev3_6 ev1_6 ev3_33 ev1_33 eμ_33 ev3_60 ev1_60 er_1; rfl)) (by first | rfl | (subst ev3_6 ev1_6 ev3_33 ev1_33 eμ_33 ev3_60 ev1_60 er_1; rfl)) hP hS (lv_sub hl [0, 1, 2] rfl)
              · intro v3_108 v1_108 H locs ls ev3_108 ev1_108 hP hS hl
                refine lv_iload_n K.1.1 K.1.2.1 dL_view_108 rfl (lv_at hl 0 rfl) ?_
                refine lv_aload_n K.1.1 K.1.2.1 dL_view_109 rfl (lv_at hl 2 rfl) ?_
                refine lv_iconst (v := 5) K.1.1 K.1.2.1 dL_view_110 (by decide) ?_
                refine m_cV (n := 1) (As := [.int 5]) (rest := [.int v3_108]) K hP hS (MX10_whole l G B _ 5 rfl) (by decide) sh_0 rfl q_322 q_323 q_324 q_15 q_325 hv_X10_whole ⟨Nat.le_of_ble_eq_true rfl, Nat.le_of_ble_eq_true rfl⟩ rfl hl.1 rfl (Nat.le_of_ble_eq_true rfl) dL_view_111 ⟨by show _ ≤ 40; first | omega | (subst eμ_33; omega), by show _ ≤ 240; first | omega | (subst eμ_33; omega)⟩ (fun H locs hP hS => ?_)
                refine lv_topi (fun r_2 er_2 => ?_)
                refine lv_icmp_ge (tgt := 173) K.1.1 K.1.2.1 dL_view_114 (by decide) (fun c_114 => ?_) (fun c_114 => ?_)
                · refine e_wide 40 240 (by subst ev3_6 ev1_6 ev3_33 ev1_33 eμ_33 ev3_60 ev1_60 er_1 ev3_108 ev1_108 er_2; omega) (by subst ev3_6 ev1_6 ev3_33 ev1_33 eμ_33 ev3_60 ev1_60 er_1 ev3_108 ev1_108 er_2; omega) ?_
                  refine lv_iconst (v := 0) K.1.1 K.1.2.1 dL_view_173 (by decide) ?_
                  refine lv_istore_n (lv' := [(3, .int 0), (1, .long v1_108), (0, .ref (B + 0))]) K.1.1 K.1.2.1 dL_view_174 rfl hl (by decide) rfl (fun ls hl => ?_)
                  refine up_to (N := cn (X_whole μ_33 9)) (P := fun i : Nat => ∀ (v3_175 : Int32) (v1_175 : Int64) (H : Heap) (locs : List Loc) (ls : Array Slot), (v3_175 = nI i) → (v1_175 = V_5 μ_33 (V_e4 μ_33 (V_e3 μ_33 (V_v2 μ))) i) → MP G B μ_33 H → va_S (AA B) s.heap H locs → lv_has ls 6 [(3, .int v3_175), (1, .long v1_175), (0, .ref (B + 0))] → W p l e ({ frames := 9, cells := 40, slots := 240, locals := 154 } : Room) s m ([.ref (B + 0)] : List Value).toArray below meth c H locs (40) (240) (ELF below G B (some (.long (LV_view μ))) (V_M μ) ([.ref (B + 0)] : List Value).toArray s 40 240) (F0 m 175 ls [])) ?_ ?_ _ _ _ _ _ (by first | rfl | (subst ev3_6 ev1_6 ev3_33 ev1_33 eμ_33 ev3_60 ev1_60 er_1 ev3_108 ev1_108 er_2; rfl)) (by first | rfl | (subst ev3_6 ev1_6 ev3_33 ev1_33 eμ_33 ev3_60 ev1_60 er_1 ev3_108 ev1_108 er_2; rfl)) hP hS (lv_sub hl [0, 1, 2] rfl)
                  · intro v3_175 v1_175 H locs ls ev3_175 ev1_175 hP hS hl
                    refine lv_iload_n K.1.1 K.1.2.1 dL_view_175 rfl (lv_at hl 0 rfl) ?_
                    refine lv_aload_n K.1.1 K.1.2.1 dL_view_176 rfl (lv_at hl 2 rfl) ?_
                    refine lv_bipush (v := 9) K.1.1 K.1.2.1 dL_view_177 (by decide) ?_
                    refine m_cV (n := 1) (As := [.int 9]) (rest := [.int v3_175]) K hP hS (MX10_whole l G B _ 9 rfl) (by decide) sh_0 rfl q_322 q_323 q_324 q_15 q_325 hv_X10_whole ⟨Nat.le_of_ble_eq_true rfl, Nat.le_of_ble_eq_true rfl⟩ rfl hl.1 rfl (Nat.le_of_ble_eq_true rfl) dL_view_179 ⟨by show _ ≤ 40; first | omega | (subst eμ_33; omega), by show _ ≤ 240; first | omega | (subst eμ_33; omega)⟩ (fun H locs hP hS => ?_)
                    refine lv_topi (fun r_3 er_3 => ?_)
                    refine lv_icmp_ge (tgt := 221) K.1.1 K.1.2.1 dL_view_182 (by decide) (fun c_182 => ?_) (fun c_182 => ?_)
                    · refine lv_lload_n K.1.1 K.1.2.1 dL_view_221 rfl (lv_at hl 1 rfl) ?_
                      exact e_lret K hr hlocks hP hS dL_view_222 (by subst ev3_6 ev1_6 ev3_33 ev1_33 eμ_33 ev3_60 ev1_60 er_1 ev3_108 ev1_108 er_2 ev3_175 ev1_175 er_3; rfl) (by subst ev3_6 ev1_6 ev3_33 ev1_33 eμ_33 ev3_60 ev1_60 er_1 ev3_108 ev1_108 er_2 ev3_175 ev1_175 er_3; rfl) (by omega)
                    · exact absurd c_182 (not_not_intro (by subst ev3_6 ev1_6 ev3_33 ev1_33 eμ_33 ev3_60 ev1_60 er_1 ev3_108 ev1_108 er_2 ev3_175 ev1_175 er_3; exact cn_out _))
                  · intro i hi ih_175 v3_175 v1_175 H locs ls ev3_175 ev1_175 hP hS hl
                    refine lv_iload_n K.1.1 K.1.2.1 dL_view_175 rfl (lv_at hl 0 rfl) ?_
                    refine lv_aload_n K.1.1 K.1.2.1 dL_view_176 rfl (lv_at hl 2 rfl) ?_
                    refine lv_bipush (v := 9) K.1.1 K.1.2.1 dL_view_177 (by decide) ?_
                    refine m_cV (n := 1) (As := [.int 9]) (rest := [.int v3_175]) K hP hS (MX10_whole l G B _ 9 rfl) (by decide) sh_0 rfl q_322 q_323 q_324 q_15 q_325 hv_X10_whole ⟨Nat.le_of_ble_eq_true rfl, Nat.le_of_ble_eq_true rfl⟩ rfl hl.1 rfl (Nat.le_of_ble_eq_true rfl) dL_view_179 ⟨by show _ ≤ 40; first | omega | (subst eμ_33; omega), by show _ ≤ 240; first | omega | (subst eμ_33; omega)⟩ (fun H locs hP hS => ?_)
                    refine lv_topi (fun r_4 er_4 => ?_)
                    refine lv_icmp_ge (tgt := 221) K.1.1 K.1.2.1 dL_view_182 (by decide) (fun c_182 => ?_) (fun c_182 => ?_)
                    · exact absurd c_182 (by subst ev3_6 ev1_6 ev3_33 ev1_33 eμ_33 ev3_60 ev1_60 er_1 ev3_108 ev1_108 er_2 ev3_175 ev1_175 er_4; exact cn_in hi)
                    · refine lv_iconst (v := 0) K.1.1 K.1.2.1 dL_view_185 (by decide) ?_
                      refine lv_istore (lv' := [(4, .int 0), (3, .int v3_175), (1, .long v1_175), (0, .ref (B + 0))]) K.1.1 K.1.2.1 dL_view_186 hl (by decide) rfl (fun ls hl => ?_)
                      refine up_to (N := NN 5) (P := fun w : Nat => ∀ (v4_188 : Int32) (v1_188 : Int64) (H : Heap) (locs : List Loc) (ls : Array Slot), (v4_188 = nI w) → (v1_188 = V_5t μ_33 i (V_5 μ_33 (V_e4 μ_33 (V_e3 μ_33 (V_v2 μ))) i) w) → MP G B μ_33 H → va_S (AA B) s.heap H locs → lv_has ls 6 [(4, .int v4_188), (3, .int v3_175), (1, .long v1_188), (0, .ref (B + 0))] → W p l e ({ frames := 9, cells := 40, slots := 240, locals := 154 } : Room) s m ([.ref (B + 0)] : List Value).toArray below meth c H locs (40) (240) (ELF below G B (some (.long (LV_view μ))) (V_M μ) ([.ref (B + 0)] : List Value).toArray s 40 240) (F0 m 188 ls [])) ?_ ?_ _ _ _ _ _ (by first | rfl | (subst ev3_6 ev1_6 ev3_33 ev1_33 eμ_33 ev3_60 ev1_60 er_1 ev3_108 ev1_108 er_2 ev3_175 ev1_175 er_4; rfl)) (by first | rfl | (subst ev3_6 ev1_6 ev3_33 ev1_33 eμ_33 ev3_60 ev1_60 er_1 ev3_108 ev1_108 er_2 ev3_175 ev1_175 er_4; rfl)) hP hS (lv_sub hl [0, 1, 2, 3] rfl)
                      · intro v4_188 v1_188 H locs ls ev4_188 ev1_188 hP hS hl
                        refine lv_iload K.1.1 K.1.2.1 dL_view_188 (lv_at hl 0 rfl) ?_
                        refine lv_iconst (v := 5) K.1.1 K.1.2.1 dL_view_190 (by decide) ?_
                        refine lv_icmp_ge (tgt := 215) K.1.1 K.1.2.1 dL_view_191 (by decide) (fun c_191 => ?_) (fun c_191 => ?_)
                        · obtain ⟨x_5, ex_5⟩ : ∃ y : Int32, y = v3_175 + (1) := ⟨_, rfl⟩
                          refine lv_iinc (v := x_5) (lv' := [(3, .int x_5), (4, .int v4_188), (1, .long v1_188), (0, .ref (B + 0))]) K.1.1 K.1.2.1 dL_view_215 hl (k := 1) rfl (by rw [ex_5]; rfl) (by decide) rfl (fun ls hl => ?_)
                          refine lv_goto (tgt := 175) K.1.1 K.1.2.1 dL_view_218 (by decide) ?_
                          exact ih_175 _ _ _ _ _ (by subst ev3_6 ev1_6 ev3_33 ev1_33 eμ_33 ev3_60 ev1_60 er_1 ev3_108 ev1_108 er_2 ev3_175 ev1_175 er_4 ev4_188 ev1_188 ex_5; exact nI_1 _) (by subst ev3_6 ev1_6 ev3_33 ev1_33 eμ_33 ev3_60 ev1_60 er_1 ev3_108 ev1_108 er_2 ev3_175 ev1_175 er_4 ev4_188 ev1_188 ex_5; rfl) hP hS (lv_sub hl [0, 2, 3] rfl)
                        · exact absurd c_191 (not_not_intro (by subst ev3_6 ev1_6 ev3_33 ev1_33 eμ_33 ev3_60 ev1_60 er_1 ev3_108 ev1_108 er_2 ev3_175 ev1_175 er_4 ev4_188 ev1_188; rw [NN_eq]; decide))
                      · intro w hw ih_188 v4_188 v1_188 H locs ls ev4_188 ev1_188 hP hS hl
                        rw [NN_eq] at hw
                        refine lv_iload K.1.1 K.1.2.1 dL_view_188 (lv_at hl 0 rfl) ?_
                        refine lv_iconst (v := 5) K.1.1 K.1.2.1 dL_view_190 (by decide) ?_
                        refine lv_icmp_ge (tgt := 215) K.1.1 K.1.2.1 dL_view_191 (by decide) (fun c_191 => ?_) (fun c_191 => ?_)
                        · exact absurd c_191 (by subst ev3_6 ev1_6 ev3_33 ev1_33 eμ_33 ev3_60 ev1_60 er_1 ev3_108 ev1_108 er_2 ev3_175 ev1_175 er_4 ev4_188 ev1_188; exact nI_ge (a := w) (b := 5) hw (by decide))
                        · refine lv_ldc2 (own := RL) (v := 31) K.1.1 K.1.2.1 K.1.2.2.2.1 (K.w q_584) dL_view_194 ?_
                          refine lv_lload_n K.1.1 K.1.2.1 dL_view_197 rfl (lv_at hl 2 rfl) ?_
                          refine lv_lmul K.1.1 K.1.2.1 dL_view_198 ?_
                          refine lv_aload_n K.1.1 K.1.2.1 dL_view_199 rfl (lv_at hl 3 rfl) ?_
                          refine lv_iload_n K.1.1 K.1.2.1 dL_view_200 rfl (lv_at hl 1 rfl) ?_
                          refine lv_iload K.1.1 K.1.2.1 dL_view_201 (lv_at hl 0 rfl) ?_
                          refine m_cV (n := 2) (As := [.int v3_175, .int v4_188]) (rest := [.long (31 * v1_188)]) K hP hS (MX10_trade l G B _ v3_175 v4_188 (by subst ev3_6 ev1_6 ev3_33 ev1_33 eμ_33 ev3_60 ev1_60 er_1 ev3_108 ev1_108 er_2 ev3_175 ev1_175 er_4 ev4_188 ev1_188; exact nI_pos (lt_31 hi)) (by subst ev3_6 ev1_6 ev3_33 ev1_33 eμ_33 ev3_60 ev1_60 er_1 ev3_108 ev1_108 er_2 ev3_175 ev1_175 er_4 ev4_188 ev1_188; exact what_ok (n := 5) hw (by decide))) (by decide) sh_0 rfl q_619 q_620 q_621 q_15 q_622 hv_X10_trade ⟨Nat.le_of_ble_eq_true rfl, Nat.le_of_ble_eq_true rfl⟩ rfl hl.1 rfl (Nat.le_of_ble_eq_true rfl) dL_view_203 ⟨by show _ ≤ 40; first | omega | (subst eμ_33; omega), by show _ ≤ 240; first | omega | (subst eμ_33; omega)⟩ (fun H locs hP hS => ?_)
                          refine lv_topi (fun r_6 er_6 => ?_)
                          refine lv_i2l K.1.1 K.1.2.1 dL_view_206 rfl ?_
                          refine lv_ladd K.1.1 K.1.2.1 dL_view_207 ?_
                          refine lv_topl (fun x_7 ex_7 => ?_)
                          refine lv_lstore_n (lv' := [(1, .long x_7), (4, .int v4_188), (3, .int v3_175), (0, .ref (B + 0))]) K.1.1 K.1.2.1 dL_view_208 rfl hl (by decide) rfl (fun ls hl => ?_)
                          obtain ⟨x_8, ex_8⟩ : ∃ y : Int32, y = v4_188 + (1) := ⟨_, rfl⟩
                          refine lv_iinc (v := x_8) (lv' := [(4, .int x_8), (1, .long x_7), (3, .int v3_175), (0, .ref (B + 0))]) K.1.1 K.1.2.1 dL_view_209 hl (k := 1) rfl (by rw [ex_8]; rfl) (by decide) rfl (fun ls hl => ?_)
                          refine lv_goto (tgt := 188) K.1.1 K.1.2.1 dL_view_212 (by decide) ?_
                          exact ih_188 _ _ _ _ _ (by subst ev3_6 ev1_6 ev3_33 ev1_33 eμ_33 ev3_60 ev1_60 er_1 ev3_108 ev1_108 er_2 ev3_175 ev1_175 er_4 ev4_188 ev1_188 er_6 ex_7 ex_8; exact nI_1 _) (by subst ev3_6 ev1_6 ev3_33 ev1_33 eμ_33 ev3_60 ev1_60 er_1 ev3_108 ev1_108 er_2 ev3_175 ev1_175 er_4 ev4_188 ev1_188 er_6 ex_7 ex_8; rfl) hP hS (lv_sub hl [0, 2, 1, 3] rfl)
                · exact absurd c_114 (not_not_intro (by subst ev3_6 ev1_6 ev3_33 ev1_33 eμ_33 ev3_60 ev1_60 er_1 ev3_108 ev1_108 er_2; exact cn_out _))
              · intro i hi ih_108 v3_108 v1_108 H locs ls ev3_108 ev1_108 hP hS hl
                have hi2 : i < 40 := by subst_vars; omega
                refine lv_iload_n K.1.1 K.1.2.1 dL_view_108 rfl (lv_at hl 0 rfl) ?_
                refine lv_aload_n K.1.1 K.1.2.1 dL_view_109 rfl (lv_at hl 2 rfl) ?_
                refine lv_iconst (v := 5) K.1.1 K.1.2.1 dL_view_110 (by decide) ?_
                refine m_cV (n := 1) (As := [.int 5]) (rest := [.int v3_108]) K hP hS (MX10_whole l G B _ 5 rfl) (by decide) sh_0 rfl q_322 q_323 q_324 q_15 q_325 hv_X10_whole ⟨Nat.le_of_ble_eq_true rfl, Nat.le_of_ble_eq_true rfl⟩ rfl hl.1 rfl (Nat.le_of_ble_eq_true rfl) dL_view_111 ⟨by show _ ≤ 40; first | omega | (subst eμ_33; omega), by show _ ≤ 240; first | omega | (subst eμ_33; omega)⟩ (fun H locs hP hS => ?_)
                refine lv_topi (fun r_9 er_9 => ?_)
                refine lv_icmp_ge (tgt := 173) K.1.1 K.1.2.1 dL_view_114 (by decide) (fun c_114 => ?_) (fun c_114 => ?_)
                · exact absurd c_114 (by subst ev3_6 ev1_6 ev3_33 ev1_33 eμ_33 ev3_60 ev1_60 er_1 ev3_108 ev1_108 er_9; exact cn_in hi)
                · refine lv_aload_n K.1.1 K.1.2.1 dL_view_117 rfl (lv_at hl 2 rfl) ?_
                  refine lv_iload_n K.1.1 K.1.2.1 dL_view_118 rfl (lv_at hl 0 rfl) ?_
                  refine e_cSW (n := 2) (As := [.ref (B + 0), .int v3_108]) (rest := []) K hP hS hD (ML_unitsOf l hfl G B _ v3_108 ) q_601 q_602 q_14 q_603 hw_unitsOf.2 ⟨Nat.le_of_ble_eq_true rfl, Nat.le_of_ble_eq_true rfl⟩ rfl hl.1 rfl (Nat.le_of_ble_eq_true rfl) dL_view_119 ⟨by show _ ≤ 40; omega, by show _ ≤ 240; omega⟩ (fun H locs hP hS => ?_)
                  refine lv_topi (fun r_10 er_10 => ?_)
                  refine lv_if_le (tgt := 129) K.1.1 K.1.2.1 dL_view_122 (by decide) (fun c_122 => ?_) (fun c_122 => ?_)
                  · refine lv_iconst (v := 0) K.1.1 K.1.2.1 dL_view_129 (by decide) ?_
                    refine lv_istore (lv' := [(4, .int 0), (3, .int v3_108), (1, .long v1_108), (0, .ref (B + 0))]) K.1.1 K.1.2.1 dL_view_130 hl (by decide) rfl (fun ls hl => ?_)
                    refine lv_iconst (v := 0) K.1.1 K.1.2.1 dL_view_132 (by decide) ?_
                    refine lv_istore (lv' := [(5, .int 0), (4, .int 0), (3, .int v3_108), (1, .long v1_108), (0, .ref (B + 0))]) K.1.1 K.1.2.1 dL_view_133 hl (by decide) rfl (fun ls hl => ?_)
                    refine lv_iload K.1.1 K.1.2.1 dL_view_135 (lv_at hl 0 rfl) ?_
                    refine lv_iconst (v := 5) K.1.1 K.1.2.1 dL_view_137 (by decide) ?_
                    refine lv_icmp_ge (tgt := 167) K.1.1 K.1.2.1 dL_view_138 (by decide) (fun c => absurd c (by decide)) (fun _ => ?_)
                    refine lv_iload K.1.1 K.1.2.1 dL_view_141 (lv_at hl 1 rfl) ?_
                    refine lv_if_eq (tgt := 167) K.1.1 K.1.2.1 dL_view_143 (by decide) (fun _ => ?_) (fun c => absurd rfl c)
                    obtain ⟨x_11, ex_11⟩ : ∃ y : Int32, y = v3_108 + (1) := ⟨_, rfl⟩
                    refine lv_iinc (v := x_11) (lv' := [(3, .int x_11), (5, .int 0), (4, .int 0), (1, .long v1_108), (0, .ref (B + 0))]) K.1.1 K.1.2.1 dL_view_167 hl (k := 2) rfl (by rw [ex_11]; rfl) (by decide) rfl (fun ls hl => ?_)
                    refine lv_goto (tgt := 108) K.1.1 K.1.2.1 dL_view_170 (by decide) ?_
                    exact ih_108 _ _ _ _ _ (by subst ev3_6 ev1_6 ev3_33 ev1_33 eμ_33 ev3_60 ev1_60 er_1 ev3_108 ev1_108 er_9 er_10 ex_11; exact nI_1 _) (by subst ev3_6 ev1_6 ev3_33 ev1_33 eμ_33 ev3_60 ev1_60 er_1 ev3_108 ev1_108 er_9 er_10 ex_11; first | exact (if_neg c_122).symm | exact (if_pos c_122).symm) hP hS (lv_sub hl [0, 3, 4] rfl)
                  · refine lv_iconst (v := 1) K.1.1 K.1.2.1 dL_view_125 (by decide) ?_
                    refine lv_goto (tgt := 130) K.1.1 K.1.2.1 dL_view_126 (by decide) ?_
                    refine lv_istore (lv' := [(4, .int 1), (3, .int v3_108), (1, .long v1_108), (0, .ref (B + 0))]) K.1.1 K.1.2.1 dL_view_130 hl (by decide) rfl (fun ls hl => ?_)
                    refine lv_iconst (v := 0) K.1.1 K.1.2.1 dL_view_132 (by decide) ?_
                    refine lv_istore (lv' := [(5, .int 0), (4, .int 1), (3, .int v3_108), (1, .long v1_108), (0, .ref (B + 0))]) K.1.1 K.1.2.1 dL_view_133 hl (by decide) rfl (fun ls hl => ?_)
                    refine up_to (N := NN 5) (P := fun w : Nat => ∀ (v5_135 : Int32) (v1_135 : Int64) (H : Heap) (locs : List Loc) (ls : Array Slot), (v5_135 = nI w) → (v1_135 = V_4o μ_33 i (V_4 μ_33 (V_e3 μ_33 (V_v2 μ)) i) w) → MP G B μ_33 H → va_S (AA B) s.heap H locs → lv_has ls 6 [(5, .int v5_135), (4, .int 1), (3, .int v3_108), (1, .long v1_135), (0, .ref (B + 0))] → W p l e ({ frames := 9, cells := 40, slots := 240, locals := 154 } : Room) s m ([.ref (B + 0)] : List Value).toArray below meth c H locs (i + 1) (6 * i + 6) (ELF below G B (some (.long (LV_view μ))) (V_M μ) ([.ref (B + 0)] : List Value).toArray s 40 240) (F0 m 135 ls [])) ?_ ?_ _ _ _ _ _ (by first | rfl | (subst ev3_6 ev1_6 ev3_33 ev1_33 eμ_33 ev3_60 ev1_60 er_1 ev3_108 ev1_108 er_9 er_10; rfl)) (by first | rfl | (subst ev3_6 ev1_6 ev3_33 ev1_33 eμ_33 ev3_60 ev1_60 er_1 ev3_108 ev1_108 er_9 er_10; rfl)) hP hS (lv_sub hl [0, 1, 2, 3, 4] rfl)
                    · intro v5_135 v1_135 H locs ls ev5_135 ev1_135 hP hS hl
                      refine lv_iload K.1.1 K.1.2.1 dL_view_135 (lv_at hl 0 rfl) ?_
                      refine lv_iconst (v := 5) K.1.1 K.1.2.1 dL_view_137 (by decide) ?_
                      refine lv_icmp_ge (tgt := 167) K.1.1 K.1.2.1 dL_view_138 (by decide) (fun c_138 => ?_) (fun c_138 => ?_)
                      · obtain ⟨x_12, ex_12⟩ : ∃ y : Int32, y = v3_108 + (1) := ⟨_, rfl⟩
                        refine lv_iinc (v := x_12) (lv' := [(3, .int x_12), (5, .int v5_135), (4, .int 1), (1, .long v1_135), (0, .ref (B + 0))]) K.1.1 K.1.2.1 dL_view_167 hl (k := 2) rfl (by rw [ex_12]; rfl) (by decide) rfl (fun ls hl => ?_)
                        refine lv_goto (tgt := 108) K.1.1 K.1.2.1 dL_view_170 (by decide) ?_
                        exact ih_108 _ _ _ _ _ (by subst ev3_6 ev1_6 ev3_33 ev1_33 eμ_33 ev3_60 ev1_60 er_1 ev3_108 ev1_108 er_9 er_10 ev5_135 ev1_135 ex_12; exact nI_1 _) (by subst ev3_6 ev1_6 ev3_33 ev1_33 eμ_33 ev3_60 ev1_60 er_1 ev3_108 ev1_108 er_9 er_10 ev5_135 ev1_135 ex_12; first | exact (if_neg c_122).symm | exact (if_pos c_122).symm) hP hS (lv_sub hl [0, 3, 4] rfl)
                      · exact absurd c_138 (not_not_intro (by subst ev3_6 ev1_6 ev3_33 ev1_33 eμ_33 ev3_60 ev1_60 er_1 ev3_108 ev1_108 er_9 er_10 ev5_135 ev1_135; rw [NN_eq]; decide))
                    · intro w hw ih_135 v5_135 v1_135 H locs ls ev5_135 ev1_135 hP hS hl
                      rw [NN_eq] at hw
                      refine lv_iload K.1.1 K.1.2.1 dL_view_135 (lv_at hl 0 rfl) ?_
                      refine lv_iconst (v := 5) K.1.1 K.1.2.1 dL_view_137 (by decide) ?_
                      refine lv_icmp_ge (tgt := 167) K.1.1 K.1.2.1 dL_view_138 (by decide) (fun c_138 => ?_) (fun c_138 => ?_)
                      · exact absurd c_138 (by subst ev3_6 ev1_6 ev3_33 ev1_33 eμ_33 ev3_60 ev1_60 er_1 ev3_108 ev1_108 er_9 er_10 ev5_135 ev1_135; exact nI_ge (a := w) (b := 5) hw (by decide))
                      · refine lv_iload K.1.1 K.1.2.1 dL_view_141 (lv_at hl 1 rfl) ?_
                        refine lv_if_eq (tgt := 167) K.1.1 K.1.2.1 dL_view_143 (by decide) (fun c_143 => ?_) (fun c_143 => ?_)
                        · exact absurd c_143 (by decide)
                        · refine lv_ldc2 (own := RL) (v := 31) K.1.1 K.1.2.1 K.1.2.2.2.1 (K.w q_584) dL_view_146 ?_
                          refine lv_lload_n K.1.1 K.1.2.1 dL_view_149 rfl (lv_at hl 3 rfl) ?_
                          refine lv_lmul K.1.1 K.1.2.1 dL_view_150 ?_
                          refine lv_aload_n K.1.1 K.1.2.1 dL_view_151 rfl (lv_at hl 4 rfl) ?_
                          refine lv_iload_n K.1.1 K.1.2.1 dL_view_152 rfl (lv_at hl 2 rfl) ?_
                          refine lv_iload K.1.1 K.1.2.1 dL_view_153 (lv_at hl 0 rfl) ?_
                          refine m_cV (n := 2) (As := [.int v3_108, .int v5_135]) (rest := [.long (31 * v1_135)]) K hP hS (MX10_orderOf l G B _ v3_108 v5_135 (by subst ev3_6 ev1_6 ev3_33 ev1_33 eμ_33 ev3_60 ev1_60 er_1 ev3_108 ev1_108 er_9 er_10 ev5_135 ev1_135; exact units_ok c_122) (by subst ev3_6 ev1_6 ev3_33 ev1_33 eμ_33 ev3_60 ev1_60 er_1 ev3_108 ev1_108 er_9 er_10 ev5_135 ev1_135; exact what_ok (n := 5) hw (by decide))) (by decide) sh_0 rfl q_606 q_607 q_608 q_15 q_609 hv_X10_orderOf ⟨Nat.le_of_ble_eq_true rfl, Nat.le_of_ble_eq_true rfl⟩ rfl hl.1 rfl (Nat.le_of_ble_eq_true rfl) dL_view_155 ⟨by show _ ≤ 40; first | omega | (subst eμ_33; omega), by show _ ≤ 240; first | omega | (subst eμ_33; omega)⟩ (fun H locs hP hS => ?_)
                          refine lv_topi (fun r_13 er_13 => ?_)
                          refine lv_i2l K.1.1 K.1.2.1 dL_view_158 rfl ?_
                          refine lv_ladd K.1.1 K.1.2.1 dL_view_159 ?_
                          refine lv_topl (fun x_14 ex_14 => ?_)
                          refine lv_lstore_n (lv' := [(1, .long x_14), (5, .int v5_135), (4, .int 1), (3, .int v3_108), (0, .ref (B + 0))]) K.1.1 K.1.2.1 dL_view_160 rfl hl (by decide) rfl (fun ls hl => ?_)
                          obtain ⟨x_15, ex_15⟩ : ∃ y : Int32, y = v5_135 + (1) := ⟨_, rfl⟩
                          refine lv_iinc (v := x_15) (lv' := [(5, .int x_15), (1, .long x_14), (4, .int 1), (3, .int v3_108), (0, .ref (B + 0))]) K.1.1 K.1.2.1 dL_view_161 hl (k := 1) rfl (by rw [ex_15]; rfl) (by decide) rfl (fun ls hl => ?_)
                          refine lv_goto (tgt := 135) K.1.1 K.1.2.1 dL_view_164 (by decide) ?_
                          exact ih_135 _ _ _ _ _ (by subst ev3_6 ev1_6 ev3_33 ev1_33 eμ_33 ev3_60 ev1_60 er_1 ev3_108 ev1_108 er_9 er_10 ev5_135 ev1_135 er_13 ex_14 ex_15; exact nI_1 _) (by subst ev3_6 ev1_6 ev3_33 ev1_33 eμ_33 ev3_60 ev1_60 er_1 ev3_108 ev1_108 er_9 er_10 ev5_135 ev1_135 er_13 ex_14 ex_15; rfl) hP hS (lv_sub hl [0, 2, 3, 1, 4] rfl)
            · exact absurd c_66 (not_not_intro (by subst ev3_6 ev1_6 ev3_33 ev1_33 eμ_33 ev3_60 ev1_60 er_1; exact cn_out _))
          · intro t ht ih_60 v3_60 v1_60 H locs ls ev3_60 ev1_60 hP hS hl
            refine lv_iload_n K.1.1 K.1.2.1 dL_view_60 rfl (lv_at hl 0 rfl) ?_
            refine lv_aload_n K.1.1 K.1.2.1 dL_view_61 rfl (lv_at hl 2 rfl) ?_
            refine lv_iconst (v := 0) K.1.1 K.1.2.1 dL_view_62 (by decide) ?_
            refine m_cV (n := 1) (As := [.int 0]) (rest := [.int v3_60]) K hP hS (MX10_whole l G B _ 0 rfl) (by decide) sh_0 rfl q_322 q_323 q_324 q_15 q_325 hv_X10_whole ⟨Nat.le_of_ble_eq_true rfl, Nat.le_of_ble_eq_true rfl⟩ rfl hl.1 rfl (Nat.le_of_ble_eq_true rfl) dL_view_63 ⟨by show _ ≤ 40; first | omega | (subst eμ_33; omega), by show _ ≤ 240; first | omega | (subst eμ_33; omega)⟩ (fun H locs hP hS => ?_)
            refine lv_topi (fun r_16 er_16 => ?_)
            refine lv_icmp_ge (tgt := 106) K.1.1 K.1.2.1 dL_view_66 (by decide) (fun c_66 => ?_) (fun c_66 => ?_)
            · exact absurd c_66 (by subst ev3_6 ev1_6 ev3_33 ev1_33 eμ_33 ev3_60 ev1_60 er_16; exact cn_in ht)
            · refine lv_iconst (v := 0) K.1.1 K.1.2.1 dL_view_69 (by decide) ?_
              refine lv_istore (lv' := [(4, .int 0), (3, .int v3_60), (1, .long v1_60), (0, .ref (B + 0))]) K.1.1 K.1.2.1 dL_view_70 hl (by decide) rfl (fun ls hl => ?_)
              refine up_to (N := NN 10) (P := fun w : Nat => ∀ (v4_72 : Int32) (v1_72 : Int64) (H : Heap) (locs : List Loc) (ls : Array Slot), (v4_72 = nI w) → (v1_72 = V_3t μ_33 t (V_3 μ_33 (V_v2 μ) t) w) → MP G B μ_33 H → va_S (AA B) s.heap H locs → lv_has ls 6 [(4, .int v4_72), (3, .int v3_60), (1, .long v1_72), (0, .ref (B + 0))] → W p l e ({ frames := 9, cells := 40, slots := 240, locals := 154 } : Room) s m ([.ref (B + 0)] : List Value).toArray below meth c H locs (0) (0) (ELF below G B (some (.long (LV_view μ))) (V_M μ) ([.ref (B + 0)] : List Value).toArray s 40 240) (F0 m 72 ls [])) ?_ ?_ _ _ _ _ _ (by first | rfl | (subst ev3_6 ev1_6 ev3_33 ev1_33 eμ_33 ev3_60 ev1_60 er_16; rfl)) (by first | rfl | (subst ev3_6 ev1_6 ev3_33 ev1_33 eμ_33 ev3_60 ev1_60 er_16; rfl)) hP hS (lv_sub hl [0, 1, 2, 3] rfl)
              · intro v4_72 v1_72 H locs ls ev4_72 ev1_72 hP hS hl
                refine lv_iload K.1.1 K.1.2.1 dL_view_72 (lv_at hl 0 rfl) ?_
                refine lv_bipush (v := 10) K.1.1 K.1.2.1 dL_view_74 (by decide) ?_
                refine lv_icmp_ge (tgt := 100) K.1.1 K.1.2.1 dL_view_76 (by decide) (fun c_76 => ?_) (fun c_76 => ?_)
                · obtain ⟨x_17, ex_17⟩ : ∃ y : Int32, y = v3_60 + (1) := ⟨_, rfl⟩
                  refine lv_iinc (v := x_17) (lv' := [(3, .int x_17), (4, .int v4_72), (1, .long v1_72), (0, .ref (B + 0))]) K.1.1 K.1.2.1 dL_view_100 hl (k := 1) rfl (by rw [ex_17]; rfl) (by decide) rfl (fun ls hl => ?_)
                  refine lv_goto (tgt := 60) K.1.1 K.1.2.1 dL_view_103 (by decide) ?_
                  exact ih_60 _ _ _ _ _ (by subst ev3_6 ev1_6 ev3_33 ev1_33 eμ_33 ev3_60 ev1_60 er_16 ev4_72 ev1_72 ex_17; exact nI_1 _) (by subst ev3_6 ev1_6 ev3_33 ev1_33 eμ_33 ev3_60 ev1_60 er_16 ev4_72 ev1_72 ex_17; rfl) hP hS (lv_sub hl [0, 2, 3] rfl)
                · exact absurd c_76 (not_not_intro (by subst ev3_6 ev1_6 ev3_33 ev1_33 eμ_33 ev3_60 ev1_60 er_16 ev4_72 ev1_72; rw [NN_eq]; decide))
              · intro w hw ih_72 v4_72 v1_72 H locs ls ev4_72 ev1_72 hP hS hl
                rw [NN_eq] at hw
                refine lv_iload K.1.1 K.1.2.1 dL_view_72 (lv_at hl 0 rfl) ?_
                refine lv_bipush (v := 10) K.1.1 K.1.2.1 dL_view_74 (by decide) ?_
                refine lv_icmp_ge (tgt := 100) K.1.1 K.1.2.1 dL_view_76 (by decide) (fun c_76 => ?_) (fun c_76 => ?_)
                · exact absurd c_76 (by subst ev3_6 ev1_6 ev3_33 ev1_33 eμ_33 ev3_60 ev1_60 er_16 ev4_72 ev1_72; exact nI_ge (a := w) (b := 10) hw (by decide))
                · refine lv_ldc2 (own := RL) (v := 31) K.1.1 K.1.2.1 K.1.2.2.2.1 (K.w q_584) dL_view_79 ?_
                  refine lv_lload_n K.1.1 K.1.2.1 dL_view_82 rfl (lv_at hl 2 rfl) ?_
                  refine lv_lmul K.1.1 K.1.2.1 dL_view_83 ?_
                  refine lv_aload_n K.1.1 K.1.2.1 dL_view_84 rfl (lv_at hl 3 rfl) ?_
                  refine lv_iload_n K.1.1 K.1.2.1 dL_view_85 rfl (lv_at hl 1 rfl) ?_
                  refine lv_iload K.1.1 K.1.2.1 dL_view_86 (lv_at hl 0 rfl) ?_
                  refine m_cV (n := 2) (As := [.int v3_60, .int v4_72]) (rest := [.long (31 * v1_72)]) K hP hS (MX10_trader l G B _ v3_60 v4_72 (by subst ev3_6 ev1_6 ev3_33 ev1_33 eμ_33 ev3_60 ev1_60 er_16 ev4_72 ev1_72; exact has_ok ht) (by subst ev3_6 ev1_6 ev3_33 ev1_33 eμ_33 ev3_60 ev1_60 er_16 ev4_72 ev1_72; exact what_ok (n := 10) hw (by decide))) (by decide) sh_0 rfl q_589 q_590 q_591 q_15 q_592 hv_X10_trader ⟨Nat.le_of_ble_eq_true rfl, Nat.le_of_ble_eq_true rfl⟩ rfl hl.1 rfl (Nat.le_of_ble_eq_true rfl) dL_view_88 ⟨by show _ ≤ 40; first | omega | (subst eμ_33; omega), by show _ ≤ 240; first | omega | (subst eμ_33; omega)⟩ (fun H locs hP hS => ?_)
                  refine lv_topi (fun r_18 er_18 => ?_)
                  refine lv_i2l K.1.1 K.1.2.1 dL_view_91 rfl ?_
                  refine lv_ladd K.1.1 K.1.2.1 dL_view_92 ?_
                  refine lv_topl (fun x_19 ex_19 => ?_)
                  refine lv_lstore_n (lv' := [(1, .long x_19), (4, .int v4_72), (3, .int v3_60), (0, .ref (B + 0))]) K.1.1 K.1.2.1 dL_view_93 rfl hl (by decide) rfl (fun ls hl => ?_)
                  obtain ⟨x_20, ex_20⟩ : ∃ y : Int32, y = v4_72 + (1) := ⟨_, rfl⟩
                  refine lv_iinc (v := x_20) (lv' := [(4, .int x_20), (1, .long x_19), (3, .int v3_60), (0, .ref (B + 0))]) K.1.1 K.1.2.1 dL_view_94 hl (k := 1) rfl (by rw [ex_20]; rfl) (by decide) rfl (fun ls hl => ?_)
                  refine lv_goto (tgt := 72) K.1.1 K.1.2.1 dL_view_97 (by decide) ?_
                  exact ih_72 _ _ _ _ _ (by subst ev3_6 ev1_6 ev3_33 ev1_33 eμ_33 ev3_60 ev1_60 er_16 ev4_72 ev1_72 er_18 ex_19 ex_20; exact nI_1 _) (by subst ev3_6 ev1_6 ev3_33 ev1_33 eμ_33 ev3_60 ev1_60 er_16 ev4_72 ev1_72 er_18 ex_19 ex_20; rfl) hP hS (lv_sub hl [0, 2, 1, 3] rfl)
        · exact absurd c_36 (not_not_intro (by subst ev3_6 ev1_6 ev3_33 ev1_33 eμ_33; rw [NN_eq]; decide))
      · intro w hw ih_33 v3_33 v1_33 μ_33 H locs ls ev3_33 ev1_33 eμ_33 hP hS hl
        rw [NN_eq] at hw
        refine lv_iload_n K.1.1 K.1.2.1 dL_view_33 rfl (lv_at hl 0 rfl) ?_
        refine lv_bipush (v := 7) K.1.1 K.1.2.1 dL_view_34 (by decide) ?_
        refine lv_icmp_ge (tgt := 58) K.1.1 K.1.2.1 dL_view_36 (by decide) (fun c_36 => ?_) (fun c_36 => ?_)
        · exact absurd c_36 (by subst ev3_6 ev1_6 ev3_33 ev1_33 eμ_33; exact nI_ge (a := w) (b := 7) hw (by decide))
        · refine lv_ldc2 (own := RL) (v := 31) K.1.1 K.1.2.1 K.1.2.2.2.1 (K.w q_584) dL_view_39 ?_
          refine lv_lload_n K.1.1 K.1.2.1 dL_view_42 rfl (lv_at hl 1 rfl) ?_
          refine lv_lmul K.1.1 K.1.2.1 dL_view_43 ?_
          refine lv_aload_n K.1.1 K.1.2.1 dL_view_44 rfl (lv_at hl 2 rfl) ?_
          refine lv_iload_n K.1.1 K.1.2.1 dL_view_45 rfl (lv_at hl 0 rfl) ?_
          refine m_cV (n := 1) (As := [.int v3_33]) (rest := [.long (31 * v1_33)]) K hP hS (MX10_now l G B _ v3_33 (by subst ev3_6 ev1_6 ev3_33 ev1_33 eμ_33; exact what_ok (n := 7) hw (by decide))) (by decide) sh_0 rfl q_585 q_586 q_587 q_15 q_588 hv_X10_now ⟨Nat.le_of_ble_eq_true rfl, Nat.le_of_ble_eq_true rfl⟩ rfl hl.1 rfl (Nat.le_of_ble_eq_true rfl) dL_view_46 ⟨by show _ ≤ 40; first | omega | (subst eμ_33; omega), by show _ ≤ 240; first | omega | (subst eμ_33; omega)⟩ (fun H locs hP hS => ?_)
          refine lv_topi (fun r_21 er_21 => ?_)
          refine lv_i2l K.1.1 K.1.2.1 dL_view_49 rfl ?_
          refine lv_ladd K.1.1 K.1.2.1 dL_view_50 ?_
          refine lv_topl (fun x_22 ex_22 => ?_)
          refine lv_lstore_n (lv' := [(1, .long x_22), (3, .int v3_33), (0, .ref (B + 0))]) K.1.1 K.1.2.1 dL_view_51 rfl hl (by decide) rfl (fun ls hl => ?_)
          obtain ⟨x_23, ex_23⟩ : ∃ y : Int32, y = v3_33 + (1) := ⟨_, rfl⟩
          refine lv_iinc (v := x_23) (lv' := [(3, .int x_23), (1, .long x_22), (0, .ref (B + 0))]) K.1.1 K.1.2.1 dL_view_52 hl (k := 1) rfl (by rw [ex_23]; rfl) (by decide) rfl (fun ls hl => ?_)
          refine lv_goto (tgt := 33) K.1.1 K.1.2.1 dL_view_55 (by decide) ?_
          exact ih_33 _ _ _ _ _ _ (by subst ev3_6 ev1_6 ev3_33 ev1_33 eμ_33 er_21 ex_22 ex_23; exact nI_1 _) (by subst ev3_6 ev1_6 ev3_33 ev1_33 eμ_33 er_21 ex_22 ex_23; rfl) (by subst ev3_6 ev1_6 ev3_33 ev1_33 eμ_33 er_21 ex_22 ex_23; rfl) hP hS (lv_sub hl [0, 1, 2] rfl)
    · exact absurd c_9 (not_not_intro (by subst ev3_6 ev1_6; rw [NN_eq]; decide))
  · intro w hw ih_6 v3_6 v1_6 H locs ls ev3_6 ev1_6 hP hS hl
    rw [NN_eq] at hw
    refine lv_iload_n K.1.1 K.1.2.1 dL_view_6 rfl (lv_at hl 0 rfl) ?_
    refine lv_bipush (v := 11) K.1.1 K.1.2.1 dL_view_7 (by decide) ?_
    refine lv_icmp_ge (tgt := 31) K.1.1 K.1.2.1 dL_view_9 (by decide) (fun c_9 => ?_) (fun c_9 => ?_)
    · exact absurd c_9 (by subst ev3_6 ev1_6; exact nI_ge (a := w) (b := 11) hw (by decide))
    · refine lv_ldc2 (own := RL) (v := 31) K.1.1 K.1.2.1 K.1.2.2.2.1 (K.w q_584) dL_view_12 ?_
      refine lv_lload_n K.1.1 K.1.2.1 dL_view_15 rfl (lv_at hl 1 rfl) ?_
      refine lv_lmul K.1.1 K.1.2.1 dL_view_16 ?_
      refine lv_aload_n K.1.1 K.1.2.1 dL_view_17 rfl (lv_at hl 2 rfl) ?_
      refine lv_iload_n K.1.1 K.1.2.1 dL_view_18 rfl (lv_at hl 0 rfl) ?_
      refine m_cV (n := 1) (As := [.int v3_6]) (rest := [.long (31 * v1_6)]) K hP hS (MX10_whole l G B _ v3_6 (by subst ev3_6 ev1_6; exact what_ok (n := 12) (by omega) (by decide))) (by decide) sh_0 rfl q_322 q_323 q_324 q_15 q_325 hv_X10_whole ⟨Nat.le_of_ble_eq_true rfl, Nat.le_of_ble_eq_true rfl⟩ rfl hl.1 rfl (Nat.le_of_ble_eq_true rfl) dL_view_19 ⟨by show _ ≤ 40; first | omega | (subst eμ_33; omega), by show _ ≤ 240; first | omega | (subst eμ_33; omega)⟩ (fun H locs hP hS => ?_)
      refine lv_topi (fun r_24 er_24 => ?_)
      refine lv_i2l K.1.1 K.1.2.1 dL_view_22 rfl ?_
      refine lv_ladd K.1.1 K.1.2.1 dL_view_23 ?_
      refine lv_topl (fun x_25 ex_25 => ?_)
      refine lv_lstore_n (lv' := [(1, .long x_25), (3, .int v3_6), (0, .ref (B + 0))]) K.1.1 K.1.2.1 dL_view_24 rfl hl (by decide) rfl (fun ls hl => ?_)
      obtain ⟨x_26, ex_26⟩ : ∃ y : Int32, y = v3_6 + (1) := ⟨_, rfl⟩
      refine lv_iinc (v := x_26) (lv' := [(3, .int x_26), (1, .long x_25), (0, .ref (B + 0))]) K.1.1 K.1.2.1 dL_view_25 hl (k := 1) rfl (by rw [ex_26]; rfl) (by decide) rfl (fun ls hl => ?_)
      refine lv_goto (tgt := 6) K.1.1 K.1.2.1 dL_view_28 (by decide) ?_
      exact ih_6 _ _ _ _ _ (by subst ev3_6 ev1_6 er_24 ex_25 ex_26; exact nI_1 _) (by subst ev3_6 ev1_6 er_24 ex_25 ex_26; rfl) hP hS (lv_sub hl [0, 1, 2] rfl)

