set_option maxHeartbeats 4000000 in
set_option maxRecDepth 100000 in
theorem MX11_digest (l : Launch) (G : GG) (B : Nat) (μ : Mm) (hI : MI μ) (hg : ∀ w, w < 7 → M_grok (M_finds (M_dg2 μ w).1)) : CM l yX11_digest (.code yX11_digest cX11_digest 4 (Option.some FieldType.long)) 7 157 G B [.ref (B + 259)] μ (some (.long (M_digest μ))) (M_dgM μ) := by
  refine CM.of (by decide) (Nat.le_of_ble_eq_true rfl) ?_
  intro p e s m below meth c ls K hr hlocks hP hl
  have hS : va_S (AA B) s.heap s.heap [] := va_S.rf
  have hl : lv_has ls 4 [(0, .ref (B + 259))] := hl
  refine lv_aload_n K.1.1 K.1.2.1 dX11_digest_0 rfl (lv_at hl 0 rfl) ?_
  refine lv_iconst (v := 0) K.1.1 K.1.2.1 dX11_digest_1 (by decide) ?_
  refine m_puti K hP hS (by decide) sh_259 rfl tuX11 tyX11 tyX11_ok nmX11 3 (by decide) rfl rfl (by decide +kernel) q_1153 dX11_digest_2 (fun H locs hP hS => ?_)
  refine lv_ldc2 (own := RX11) (v := 1352096) K.1.1 K.1.2.1 K.1.2.2.2.1 (K.w q_1539) dX11_digest_5 ?_
  refine lv_aload_n K.1.1 K.1.2.1 dX11_digest_8 rfl (lv_at hl 0 rfl) ?_
  refine m_geti K hP (by decide) sh_259 rfl tuX11 2 (by decide) rfl q_1152 dX11_digest_9 ?_
  refine lv_topi (fun g_1 eg_1 => ?_)
  refine lv_i2l K.1.1 K.1.2.1 dX11_digest_12 rfl ?_
  refine lv_ladd K.1.1 K.1.2.1 dX11_digest_13 ?_
  refine lv_topl (fun x_2 ex_2 => ?_)
  refine lv_lstore_n (lv' := [(1, .long x_2), (0, .ref (B + 259))]) K.1.1 K.1.2.1 dX11_digest_14 rfl hl (by decide) rfl (fun ls hl => ?_)
  refine lv_iconst (v := 0) K.1.1 K.1.2.1 dX11_digest_15 (by decide) ?_
  refine lv_istore_n (lv' := [(3, .int 0), (1, .long x_2), (0, .ref (B + 259))]) K.1.1 K.1.2.1 dX11_digest_16 rfl hl (by decide) rfl (fun ls hl => ?_)
  refine up_to (N := NN 12) (P := fun k : Nat => ∀ (v3_17 : Int32) (v1_17 : Int64) (μ_17 : Mm) (H : Heap) (locs : List Loc) (ls : Array Slot), (v3_17 = nI k) → (v1_17 = M_dg1 μ k) → (μ_17 = (up2 μ 259 3 0)) → MP G B μ_17 H → va_S (AA B) s.heap H locs → lv_has ls 4 [(3, .int v3_17), (1, .long v1_17), (0, .ref (B + 259))] → W p l e ({ frames := 7, cells := 0, slots := 0, locals := 157 } : Room) s m ([.ref (B + 259)] : List Value).toArray below meth c H locs 0 0 (MF below G B (some (.long (M_digest μ))) (M_dgM μ) ([.ref (B + 259)] : List Value).toArray s) (F0 m 17 ls [])) ?_ ?_ _ _ _ _ _ _ (by first | rfl | (subst eg_1 ex_2; rfl)) (by subst eg_1 ex_2; show _ = (31 * 43616 : Int64) + _; rw [show (31 * 43616 : Int64) = 1352096 from rfl]; rfl) (by rfl) hP hS (lv_sub hl [0, 1, 2] rfl)
  · intro v3_17 v1_17 μ_17 H locs ls ev3_17 ev1_17 eμ_17 hP hS hl
    refine lv_iload_n K.1.1 K.1.2.1 dX11_digest_17 rfl (lv_at hl 0 rfl) ?_
    refine lv_bipush (v := 12) K.1.1 K.1.2.1 dX11_digest_18 (by decide) ?_
    refine lv_icmp_ge (tgt := 42) K.1.1 K.1.2.1 dX11_digest_20 (by decide) (fun c_20 => ?_) (fun c_20 => ?_)
    · refine lv_iconst (v := 0) K.1.1 K.1.2.1 dX11_digest_42 (by decide) ?_
      refine lv_istore_n (lv' := [(3, .int 0), (1, .long v1_17), (0, .ref (B + 259))]) K.1.1 K.1.2.1 dX11_digest_43 rfl hl (by decide) rfl (fun ls hl => ?_)
      refine up_to (N := NN 7) (P := fun k : Nat => ∀ (v3_44 : Int32) (v1_44 : Int64) (μ_44 : Mm) (H : Heap) (locs : List Loc) (ls : Array Slot), (v3_44 = nI k) → (v1_44 = (M_dg2 μ k).2) → (μ_44 = (M_dg2 μ k).1) → MP G B μ_44 H → va_S (AA B) s.heap H locs → lv_has ls 4 [(3, .int v3_44), (1, .long v1_44), (0, .ref (B + 259))] → W p l e ({ frames := 7, cells := 0, slots := 0, locals := 157 } : Room) s m ([.ref (B + 259)] : List Value).toArray below meth c H locs 0 0 (MF below G B (some (.long (M_digest μ))) (M_dgM μ) ([.ref (B + 259)] : List Value).toArray s) (F0 m 44 ls [])) ?_ ?_ _ _ _ _ _ _ (by first | rfl | (subst eg_1 ex_2 ev3_17 ev1_17 eμ_17; rfl)) (by first | rfl | (subst eg_1 ex_2 ev3_17 ev1_17 eμ_17; rfl)) (by first | rfl | (subst eg_1 ex_2 ev3_17 ev1_17 eμ_17; rfl)) hP hS (lv_sub hl [0, 1, 2] rfl)
      · intro v3_44 v1_44 μ_44 H locs ls ev3_44 ev1_44 eμ_44 hP hS hl
        refine lv_iload_n K.1.1 K.1.2.1 dX11_digest_44 rfl (lv_at hl 0 rfl) ?_
        refine lv_bipush (v := 7) K.1.1 K.1.2.1 dX11_digest_45 (by decide) ?_
        refine lv_icmp_ge (tgt := 69) K.1.1 K.1.2.1 dX11_digest_47 (by decide) (fun c_47 => ?_) (fun c_47 => ?_)
        · refine lv_iconst (v := 0) K.1.1 K.1.2.1 dX11_digest_69 (by decide) ?_
          refine lv_istore_n (lv' := [(3, .int 0), (1, .long v1_44), (0, .ref (B + 259))]) K.1.1 K.1.2.1 dX11_digest_70 rfl hl (by decide) rfl (fun ls hl => ?_)
          refine up_to (N := cn (M_dgM μ 260 0)) (P := fun k : Nat => ∀ (v3_71 : Int32) (v1_71 : Int64) (H : Heap) (locs : List Loc) (ls : Array Slot), (v3_71 = nI k) → (v1_71 = M_dg3 μ k) → MP G B μ_44 H → va_S (AA B) s.heap H locs → lv_has ls 4 [(3, .int v3_71), (1, .long v1_71), (0, .ref (B + 259))] → W p l e ({ frames := 7, cells := 0, slots := 0, locals := 157 } : Room) s m ([.ref (B + 259)] : List Value).toArray below meth c H locs 0 0 (MF below G B (some (.long (M_digest μ))) (M_dgM μ) ([.ref (B + 259)] : List Value).toArray s) (F0 m 71 ls [])) ?_ ?_ _ _ _ _ _ (by first | rfl | (subst eg_1 ex_2 ev3_17 ev1_17 eμ_17 ev3_44 ev1_44 eμ_44; rfl)) (by first | rfl | (subst eg_1 ex_2 ev3_17 ev1_17 eμ_17 ev3_44 ev1_44 eμ_44; rfl)) hP hS (lv_sub hl [0, 1, 2] rfl)
          · intro v3_71 v1_71 H locs ls ev3_71 ev1_71 hP hS hl
            refine lv_iload_n K.1.1 K.1.2.1 dX11_digest_71 rfl (lv_at hl 0 rfl) ?_
            refine lv_aload_n K.1.1 K.1.2.1 dX11_digest_72 rfl (lv_at hl 2 rfl) ?_
            refine m_getr K hP (by decide) sh_259 rfl tuX11 0 (by decide) rfl q_1150 dX11_digest_73 ?_
            refine lv_iconst (v := 0) K.1.1 K.1.2.1 dX11_digest_76 (by decide) ?_
            refine m_iald K hP (by decide) sh_260 (n := 267) (vpd rfl) dX11_digest_77 ?_
            refine lv_topi (fun g_3 eg_3 => ?_)
            have eg_3 : g_3 = (_ : Mm) 260 0 := eg_3
            refine lv_icmp_ge (tgt := 94) K.1.1 K.1.2.1 dX11_digest_78 (by decide) (fun c_78 => ?_) (fun c_78 => ?_)
            · refine lv_iconst (v := 0) K.1.1 K.1.2.1 dX11_digest_94 (by decide) ?_
              refine lv_istore_n (lv' := [(3, .int 0), (1, .long v1_71), (0, .ref (B + 259))]) K.1.1 K.1.2.1 dX11_digest_95 rfl hl (by decide) rfl (fun ls hl => ?_)
              refine up_to (N := cn (M_dgM μ 260 1)) (P := fun k : Nat => ∀ (v3_96 : Int32) (v1_96 : Int64) (H : Heap) (locs : List Loc) (ls : Array Slot), (v3_96 = nI k) → (v1_96 = M_dg4 μ k) → MP G B μ_44 H → va_S (AA B) s.heap H locs → lv_has ls 4 [(3, .int v3_96), (1, .long v1_96), (0, .ref (B + 259))] → W p l e ({ frames := 7, cells := 0, slots := 0, locals := 157 } : Room) s m ([.ref (B + 259)] : List Value).toArray below meth c H locs 0 0 (MF below G B (some (.long (M_digest μ))) (M_dgM μ) ([.ref (B + 259)] : List Value).toArray s) (F0 m 96 ls [])) ?_ ?_ _ _ _ _ _ (by first | rfl | (subst eg_1 ex_2 ev3_17 ev1_17 eμ_17 ev3_44 ev1_44 eμ_44 ev3_71 ev1_71 eg_3; rfl)) (by first | rfl | (subst eg_1 ex_2 ev3_17 ev1_17 eμ_17 ev3_44 ev1_44 eμ_44 ev3_71 ev1_71 eg_3; rfl)) hP hS (lv_sub hl [0, 1, 2] rfl)
              · intro v3_96 v1_96 H locs ls ev3_96 ev1_96 hP hS hl
                refine lv_iload_n K.1.1 K.1.2.1 dX11_digest_96 rfl (lv_at hl 0 rfl) ?_
                refine lv_aload_n K.1.1 K.1.2.1 dX11_digest_97 rfl (lv_at hl 2 rfl) ?_
                refine m_getr K hP (by decide) sh_259 rfl tuX11 0 (by decide) rfl q_1150 dX11_digest_98 ?_
                refine lv_iconst (v := 1) K.1.1 K.1.2.1 dX11_digest_101 (by decide) ?_
                refine m_iald K hP (by decide) sh_260 (n := 267) (vpd rfl) dX11_digest_102 ?_
                refine lv_topi (fun g_4 eg_4 => ?_)
                have eg_4 : g_4 = (_ : Mm) 260 1 := eg_4
                refine lv_icmp_ge (tgt := 119) K.1.1 K.1.2.1 dX11_digest_103 (by decide) (fun c_103 => ?_) (fun c_103 => ?_)
                · refine lv_iconst (v := 0) K.1.1 K.1.2.1 dX11_digest_119 (by decide) ?_
                  refine lv_istore_n (lv' := [(3, .int 0), (1, .long v1_96), (0, .ref (B + 259))]) K.1.1 K.1.2.1 dX11_digest_120 rfl hl (by decide) rfl (fun ls hl => ?_)
                  refine up_to (N := 5 * cn (M_dgM μ 260 9)) (P := fun k : Nat => ∀ (v3_121 : Int32) (v1_121 : Int64) (H : Heap) (locs : List Loc) (ls : Array Slot), (v3_121 = nI k) → (v1_121 = M_dg5 μ k) → MP G B μ_44 H → va_S (AA B) s.heap H locs → lv_has ls 4 [(3, .int v3_121), (1, .long v1_121), (0, .ref (B + 259))] → W p l e ({ frames := 7, cells := 0, slots := 0, locals := 157 } : Room) s m ([.ref (B + 259)] : List Value).toArray below meth c H locs 0 0 (MF below G B (some (.long (M_digest μ))) (M_dgM μ) ([.ref (B + 259)] : List Value).toArray s) (F0 m 121 ls [])) ?_ ?_ _ _ _ _ _ (by first | rfl | (subst eg_1 ex_2 ev3_17 ev1_17 eμ_17 ev3_44 ev1_44 eμ_44 ev3_71 ev1_71 eg_3 ev3_96 ev1_96 eg_4; rfl)) (by first | rfl | (subst eg_1 ex_2 ev3_17 ev1_17 eμ_17 ev3_44 ev1_44 eμ_44 ev3_71 ev1_71 eg_3 ev3_96 ev1_96 eg_4; rfl)) hP hS (lv_sub hl [0, 1, 2] rfl)
                  · intro v3_121 v1_121 H locs ls ev3_121 ev1_121 hP hS hl
                    refine lv_iload_n K.1.1 K.1.2.1 dX11_digest_121 rfl (lv_at hl 0 rfl) ?_
                    refine lv_iconst (v := 5) K.1.1 K.1.2.1 dX11_digest_122 (by decide) ?_
                    refine lv_aload_n K.1.1 K.1.2.1 dX11_digest_123 rfl (lv_at hl 2 rfl) ?_
                    refine m_getr K hP (by decide) sh_259 rfl tuX11 0 (by decide) rfl q_1150 dX11_digest_124 ?_
                    refine lv_bipush (v := 9) K.1.1 K.1.2.1 dX11_digest_127 (by decide) ?_
                    refine m_iald K hP (by decide) sh_260 (n := 267) (vpd rfl) dX11_digest_129 ?_
                    refine lv_topi (fun g_5 eg_5 => ?_)
                    have eg_5 : g_5 = (_ : Mm) 260 9 := eg_5
                    refine lv_imul K.1.1 K.1.2.1 dX11_digest_130 ?_
                    refine lv_icmp_ge (tgt := 158) K.1.1 K.1.2.1 dX11_digest_131 (by decide) (fun c_131 => ?_) (fun c_131 => ?_)
                    · refine lv_lload_n K.1.1 K.1.2.1 dX11_digest_158 rfl (lv_at hl 1 rfl) ?_
                      exact m_lret K hr hlocks hP hS dX11_digest_159 (by subst eg_1 ex_2 ev3_17 ev1_17 eμ_17 ev3_44 ev1_44 eμ_44 ev3_71 ev1_71 eg_3 ev3_96 ev1_96 eg_4 ev3_121 ev1_121 eg_5; rfl) (by subst eg_1 ex_2 ev3_17 ev1_17 eμ_17 ev3_44 ev1_44 eμ_44 ev3_71 ev1_71 eg_3 ev3_96 ev1_96 eg_4 ev3_121 ev1_121 eg_5; rfl)
                    · exact absurd c_131 (not_not_intro (by subst eg_1 ex_2 ev3_17 ev1_17 eμ_17 ev3_44 ev1_44 eμ_44 ev3_71 ev1_71 eg_3 ev3_96 ev1_96 eg_4 ev3_121 ev1_121 eg_5; show 5 * (M_dgM μ 260 9) ≤ nI (5 * cn (M_dgM μ 260 9)); rw [five (MI_dgM hI).2.2.1]; exact Int32.le_refl _))
                  · intro k hk ih_121 v3_121 v1_121 H locs ls ev3_121 ev1_121 hP hS hl
                    refine lv_iload_n K.1.1 K.1.2.1 dX11_digest_121 rfl (lv_at hl 0 rfl) ?_
                    refine lv_iconst (v := 5) K.1.1 K.1.2.1 dX11_digest_122 (by decide) ?_
                    refine lv_aload_n K.1.1 K.1.2.1 dX11_digest_123 rfl (lv_at hl 2 rfl) ?_
                    refine m_getr K hP (by decide) sh_259 rfl tuX11 0 (by decide) rfl q_1150 dX11_digest_124 ?_
                    refine lv_bipush (v := 9) K.1.1 K.1.2.1 dX11_digest_127 (by decide) ?_
                    refine m_iald K hP (by decide) sh_260 (n := 267) (vpd rfl) dX11_digest_129 ?_
                    refine lv_topi (fun g_6 eg_6 => ?_)
                    have eg_6 : g_6 = (_ : Mm) 260 9 := eg_6
                    refine lv_imul K.1.1 K.1.2.1 dX11_digest_130 ?_
                    refine lv_icmp_ge (tgt := 158) K.1.1 K.1.2.1 dX11_digest_131 (by decide) (fun c_131 => ?_) (fun c_131 => ?_)
                    · exact absurd c_131 (by subst eg_1 ex_2 ev3_17 ev1_17 eμ_17 ev3_44 ev1_44 eμ_44 ev3_71 ev1_71 eg_3 ev3_96 ev1_96 eg_4 ev3_121 ev1_121 eg_6; show ¬ 5 * (M_dgM μ 260 9) ≤ nI k; rw [five (MI_dgM hI).2.2.1]; have h9 := vp_cn (MI_dgM hI).2.2.1; exact nI_ge hk (by omega))
                    · refine lv_ldc2 (own := RX11) (v := 31) K.1.1 K.1.2.1 K.1.2.2.2.1 (K.w q_1540) dX11_digest_134 ?_
                      refine lv_lload_n K.1.1 K.1.2.1 dX11_digest_137 rfl (lv_at hl 1 rfl) ?_
                      refine lv_lmul K.1.1 K.1.2.1 dX11_digest_138 ?_
                      refine lv_aload_n K.1.1 K.1.2.1 dX11_digest_139 rfl (lv_at hl 2 rfl) ?_
                      refine m_getr K hP (by decide) sh_259 rfl tuX11 0 (by decide) rfl q_1150 dX11_digest_140 ?_
                      refine lv_sipush (v := 167) K.1.1 K.1.2.1 dX11_digest_143 (by decide) ?_
                      refine lv_iload_n K.1.1 K.1.2.1 dX11_digest_146 rfl (lv_at hl 0 rfl) ?_
                      refine lv_iadd K.1.1 K.1.2.1 dX11_digest_147 ?_
                      refine m_iald K hP (by decide) sh_260 (n := 267) (by subst eg_1 ex_2 ev3_17 ev1_17 eμ_17 ev3_44 ev1_44 eμ_44 ev3_71 ev1_71 eg_3 ev3_96 ev1_96 eg_4 ev3_121 ev1_121 eg_6; have h9 := vp_cn (MI_dgM hI).2.2.1; rw [at167]; exact vp_in_nI (by omega) (by decide)) dX11_digest_148 ?_
                      refine lv_topi (fun g_7 eg_7 => ?_)
                      have eg_7 : g_7 = (_ : Mm) 260 (cn (167 + v3_121)) := eg_7
                      refine lv_i2l K.1.1 K.1.2.1 dX11_digest_149 rfl ?_
                      refine lv_ladd K.1.1 K.1.2.1 dX11_digest_150 ?_
                      refine lv_topl (fun x_8 ex_8 => ?_)
                      refine lv_lstore_n (lv' := [(1, .long x_8), (3, .int v3_121), (0, .ref (B + 259))]) K.1.1 K.1.2.1 dX11_digest_151 rfl hl (by decide) rfl (fun ls hl => ?_)
                      obtain ⟨x_9, ex_9⟩ : ∃ y : Int32, y = v3_121 + (1) := ⟨_, rfl⟩
                      refine lv_iinc (v := x_9) (lv' := [(3, .int x_9), (1, .long x_8), (0, .ref (B + 259))]) K.1.1 K.1.2.1 dX11_digest_152 hl (k := 1) rfl (by rw [ex_9]; rfl) (by decide) rfl (fun ls hl => ?_)
                      refine lv_goto (tgt := 121) K.1.1 K.1.2.1 dX11_digest_155 (by decide) ?_
                      exact ih_121 _ _ _ _ _ (by subst eg_1 ex_2 ev3_17 ev1_17 eμ_17 ev3_44 ev1_44 eμ_44 ev3_71 ev1_71 eg_3 ev3_96 ev1_96 eg_4 ev3_121 ev1_121 eg_6 eg_7 ex_8 ex_9; exact nI_1 _) (by subst eg_1 ex_2 ev3_17 ev1_17 eμ_17 ev3_44 ev1_44 eμ_44 ev3_71 ev1_71 eg_3 ev3_96 ev1_96 eg_4 ev3_121 ev1_121 eg_6 eg_7 ex_8 ex_9; have h9 := vp_cn (MI_dgM hI).2.2.1; rw [at167, cn_nI (by omega)]; rfl) hP hS (lv_sub hl [0, 1, 2] rfl)
                · exact absurd c_103 (not_not_intro (by subst eg_1 ex_2 ev3_17 ev1_17 eμ_17 ev3_44 ev1_44 eμ_44 ev3_71 ev1_71 eg_3 ev3_96 ev1_96 eg_4; exact cn_out _))
              · intro k hk ih_96 v3_96 v1_96 H locs ls ev3_96 ev1_96 hP hS hl
                refine lv_iload_n K.1.1 K.1.2.1 dX11_digest_96 rfl (lv_at hl 0 rfl) ?_
                refine lv_aload_n K.1.1 K.1.2.1 dX11_digest_97 rfl (lv_at hl 2 rfl) ?_
                refine m_getr K hP (by decide) sh_259 rfl tuX11 0 (by decide) rfl q_1150 dX11_digest_98 ?_
                refine lv_iconst (v := 1) K.1.1 K.1.2.1 dX11_digest_101 (by decide) ?_
                refine m_iald K hP (by decide) sh_260 (n := 267) (vpd rfl) dX11_digest_102 ?_
                refine lv_topi (fun g_10 eg_10 => ?_)
                have eg_10 : g_10 = (_ : Mm) 260 1 := eg_10
                refine lv_icmp_ge (tgt := 119) K.1.1 K.1.2.1 dX11_digest_103 (by decide) (fun c_103 => ?_) (fun c_103 => ?_)
                · exact absurd c_103 (by subst eg_1 ex_2 ev3_17 ev1_17 eμ_17 ev3_44 ev1_44 eμ_44 ev3_71 ev1_71 eg_3 ev3_96 ev1_96 eg_10; exact cn_in hk)
                · refine lv_aload_n K.1.1 K.1.2.1 dX11_digest_106 rfl (lv_at hl 2 rfl) ?_
                  refine lv_lload_n K.1.1 K.1.2.1 dX11_digest_107 rfl (lv_at hl 1 rfl) ?_
                  refine lv_iload_n K.1.1 K.1.2.1 dX11_digest_108 rfl (lv_at hl 0 rfl) ?_
                  refine m_cV (n := 2) (As := [.long v1_96, .int v3_96]) (rest := []) K hP hS (MX11_digestOrder l G B _ v1_96 v3_96 (by subst eg_1 ex_2 ev3_17 ev1_17 eμ_17 ev3_44 ev1_44 eμ_44 ev3_71 ev1_71 eg_3 ev3_96 ev1_96 eg_10; exact MI_dgM hI) (by subst eg_1 ex_2 ev3_17 ev1_17 eμ_17 ev3_44 ev1_44 eμ_44 ev3_71 ev1_71 eg_3 ev3_96 ev1_96 eg_10; exact MI_k (MI_dgM hI) hk)) (by decide) sh_259 rfl q_1545 q_1547 q_80 q_91 q_1548 hv_X11_digestOrder ⟨Nat.le_of_ble_eq_true rfl, Nat.le_of_ble_eq_true rfl⟩ rfl hl.1 rfl (Nat.le_of_ble_eq_true rfl) dX11_digest_109 ⟨Nat.zero_le _, Nat.zero_le _⟩ (fun H locs hP hS => ?_)
                  refine lv_topl (fun r_11 er_11 => ?_)
                  refine lv_lstore_n (lv' := [(1, .long r_11), (3, .int v3_96), (0, .ref (B + 259))]) K.1.1 K.1.2.1 dX11_digest_112 rfl hl (by decide) rfl (fun ls hl => ?_)
                  obtain ⟨x_12, ex_12⟩ : ∃ y : Int32, y = v3_96 + (1) := ⟨_, rfl⟩
                  refine lv_iinc (v := x_12) (lv' := [(3, .int x_12), (1, .long r_11), (0, .ref (B + 259))]) K.1.1 K.1.2.1 dX11_digest_113 hl (k := 1) rfl (by rw [ex_12]; rfl) (by decide) rfl (fun ls hl => ?_)
                  refine lv_goto (tgt := 96) K.1.1 K.1.2.1 dX11_digest_116 (by decide) ?_
                  exact ih_96 _ _ _ _ _ (by subst eg_1 ex_2 ev3_17 ev1_17 eμ_17 ev3_44 ev1_44 eμ_44 ev3_71 ev1_71 eg_3 ev3_96 ev1_96 eg_10 er_11 ex_12; exact nI_1 _) (by subst eg_1 ex_2 ev3_17 ev1_17 eμ_17 ev3_44 ev1_44 eμ_44 ev3_71 ev1_71 eg_3 ev3_96 ev1_96 eg_10 er_11 ex_12; rfl) hP hS (lv_sub hl [0, 1, 2] rfl)
            · exact absurd c_78 (not_not_intro (by subst eg_1 ex_2 ev3_17 ev1_17 eμ_17 ev3_44 ev1_44 eμ_44 ev3_71 ev1_71 eg_3; exact cn_out _))
          · intro k hk ih_71 v3_71 v1_71 H locs ls ev3_71 ev1_71 hP hS hl
            refine lv_iload_n K.1.1 K.1.2.1 dX11_digest_71 rfl (lv_at hl 0 rfl) ?_
            refine lv_aload_n K.1.1 K.1.2.1 dX11_digest_72 rfl (lv_at hl 2 rfl) ?_
            refine m_getr K hP (by decide) sh_259 rfl tuX11 0 (by decide) rfl q_1150 dX11_digest_73 ?_
            refine lv_iconst (v := 0) K.1.1 K.1.2.1 dX11_digest_76 (by decide) ?_
            refine m_iald K hP (by decide) sh_260 (n := 267) (vpd rfl) dX11_digest_77 ?_
            refine lv_topi (fun g_13 eg_13 => ?_)
            have eg_13 : g_13 = (_ : Mm) 260 0 := eg_13
            refine lv_icmp_ge (tgt := 94) K.1.1 K.1.2.1 dX11_digest_78 (by decide) (fun c_78 => ?_) (fun c_78 => ?_)
            · exact absurd c_78 (by subst eg_1 ex_2 ev3_17 ev1_17 eμ_17 ev3_44 ev1_44 eμ_44 ev3_71 ev1_71 eg_13; exact cn_in hk)
            · refine lv_aload_n K.1.1 K.1.2.1 dX11_digest_81 rfl (lv_at hl 2 rfl) ?_
              refine lv_lload_n K.1.1 K.1.2.1 dX11_digest_82 rfl (lv_at hl 1 rfl) ?_
              refine lv_iload_n K.1.1 K.1.2.1 dX11_digest_83 rfl (lv_at hl 0 rfl) ?_
              refine m_cV (n := 2) (As := [.long v1_71, .int v3_71]) (rest := []) K hP hS (MX11_digestTrader l G B _ v1_71 v3_71 (by subst eg_1 ex_2 ev3_17 ev1_17 eμ_17 ev3_44 ev1_44 eμ_44 ev3_71 ev1_71 eg_13; exact MI_dgM hI) (by subst eg_1 ex_2 ev3_17 ev1_17 eμ_17 ev3_44 ev1_44 eμ_44 ev3_71 ev1_71 eg_13; exact MI_t (MI_dgM hI) hk)) (by decide) sh_259 rfl q_1541 q_1543 q_79 q_91 q_1544 hv_X11_digestTrader ⟨Nat.le_of_ble_eq_true rfl, Nat.le_of_ble_eq_true rfl⟩ rfl hl.1 rfl (Nat.le_of_ble_eq_true rfl) dX11_digest_84 ⟨Nat.zero_le _, Nat.zero_le _⟩ (fun H locs hP hS => ?_)
              refine lv_topl (fun r_14 er_14 => ?_)
              refine lv_lstore_n (lv' := [(1, .long r_14), (3, .int v3_71), (0, .ref (B + 259))]) K.1.1 K.1.2.1 dX11_digest_87 rfl hl (by decide) rfl (fun ls hl => ?_)
              obtain ⟨x_15, ex_15⟩ : ∃ y : Int32, y = v3_71 + (1) := ⟨_, rfl⟩
              refine lv_iinc (v := x_15) (lv' := [(3, .int x_15), (1, .long r_14), (0, .ref (B + 259))]) K.1.1 K.1.2.1 dX11_digest_88 hl (k := 1) rfl (by rw [ex_15]; rfl) (by decide) rfl (fun ls hl => ?_)
              refine lv_goto (tgt := 71) K.1.1 K.1.2.1 dX11_digest_91 (by decide) ?_
              exact ih_71 _ _ _ _ _ (by subst eg_1 ex_2 ev3_17 ev1_17 eμ_17 ev3_44 ev1_44 eμ_44 ev3_71 ev1_71 eg_13 er_14 ex_15; exact nI_1 _) (by subst eg_1 ex_2 ev3_17 ev1_17 eμ_17 ev3_44 ev1_44 eμ_44 ev3_71 ev1_71 eg_13 er_14 ex_15; rfl) hP hS (lv_sub hl [0, 1, 2] rfl)
        · exact absurd c_47 (not_not_intro (by subst eg_1 ex_2 ev3_17 ev1_17 eμ_17 ev3_44 ev1_44 eμ_44; rw [NN_eq]; decide))
      · intro k hk ih_44 v3_44 v1_44 μ_44 H locs ls ev3_44 ev1_44 eμ_44 hP hS hl
        rw [NN_eq] at hk
        refine lv_iload_n K.1.1 K.1.2.1 dX11_digest_44 rfl (lv_at hl 0 rfl) ?_
        refine lv_bipush (v := 7) K.1.1 K.1.2.1 dX11_digest_45 (by decide) ?_
        refine lv_icmp_ge (tgt := 69) K.1.1 K.1.2.1 dX11_digest_47 (by decide) (fun c_47 => ?_) (fun c_47 => ?_)
        · exact absurd c_47 (by subst eg_1 ex_2 ev3_17 ev1_17 eμ_17 ev3_44 ev1_44 eμ_44; exact nI_ge (a := k) (b := 7) hk (by decide))
        · refine lv_ldc2 (own := RX11) (v := 31) K.1.1 K.1.2.1 K.1.2.2.2.1 (K.w q_1540) dX11_digest_50 ?_
          refine lv_lload_n K.1.1 K.1.2.1 dX11_digest_53 rfl (lv_at hl 1 rfl) ?_
          refine lv_lmul K.1.1 K.1.2.1 dX11_digest_54 ?_
          refine lv_aload_n K.1.1 K.1.2.1 dX11_digest_55 rfl (lv_at hl 2 rfl) ?_
          refine lv_iload_n K.1.1 K.1.2.1 dX11_digest_56 rfl (lv_at hl 0 rfl) ?_
          refine m_cV (n := 1) (As := [.int v3_44]) (rest := [.long (31 * v1_44)]) K hP hS (MX11_tellsNow l G B _ v3_44 (by subst eg_1 ex_2 ev3_17 ev1_17 eμ_17 ev3_44 ev1_44 eμ_44; exact MI_dg2 hI k) (by subst eg_1 ex_2 ev3_17 ev1_17 eμ_17 ev3_44 ev1_44 eμ_44; exact hg k hk)) (by decide) sh_259 rfl q_1431 q_1433 q_66 q_91 q_1434 hv_X11_tellsNow ⟨Nat.le_of_ble_eq_true rfl, Nat.le_of_ble_eq_true rfl⟩ rfl hl.1 rfl (Nat.le_of_ble_eq_true rfl) dX11_digest_57 ⟨Nat.zero_le _, Nat.zero_le _⟩ (fun H locs hP hS => ?_)
          refine lv_topi (fun r_16 er_16 => ?_)
          refine lv_i2l K.1.1 K.1.2.1 dX11_digest_60 rfl ?_
          refine lv_ladd K.1.1 K.1.2.1 dX11_digest_61 ?_
          refine lv_topl (fun x_17 ex_17 => ?_)
          refine lv_lstore_n (lv' := [(1, .long x_17), (3, .int v3_44), (0, .ref (B + 259))]) K.1.1 K.1.2.1 dX11_digest_62 rfl hl (by decide) rfl (fun ls hl => ?_)
          obtain ⟨x_18, ex_18⟩ : ∃ y : Int32, y = v3_44 + (1) := ⟨_, rfl⟩
          refine lv_iinc (v := x_18) (lv' := [(3, .int x_18), (1, .long x_17), (0, .ref (B + 259))]) K.1.1 K.1.2.1 dX11_digest_63 hl (k := 1) rfl (by rw [ex_18]; rfl) (by decide) rfl (fun ls hl => ?_)
          refine lv_goto (tgt := 44) K.1.1 K.1.2.1 dX11_digest_66 (by decide) ?_
          exact ih_44 _ _ _ _ _ _ (by subst eg_1 ex_2 ev3_17 ev1_17 eμ_17 ev3_44 ev1_44 eμ_44 er_16 ex_17 ex_18; exact nI_1 _) (by subst eg_1 ex_2 ev3_17 ev1_17 eμ_17 ev3_44 ev1_44 eμ_44 er_16 ex_17 ex_18; rfl) (by subst eg_1 ex_2 ev3_17 ev1_17 eμ_17 ev3_44 ev1_44 eμ_44 er_16 ex_17 ex_18; rfl) hP hS (lv_sub hl [0, 1, 2] rfl)
    · exact absurd c_20 (not_not_intro (by subst eg_1 ex_2 ev3_17 ev1_17 eμ_17; rw [NN_eq]; decide))
  · intro k hk ih_17 v3_17 v1_17 μ_17 H locs ls ev3_17 ev1_17 eμ_17 hP hS hl
    rw [NN_eq] at hk
    refine lv_iload_n K.1.1 K.1.2.1 dX11_digest_17 rfl (lv_at hl 0 rfl) ?_
    refine lv_bipush (v := 12) K.1.1 K.1.2.1 dX11_digest_18 (by decide) ?_
    refine lv_icmp_ge (tgt := 42) K.1.1 K.1.2.1 dX11_digest_20 (by decide) (fun c_20 => ?_) (fun c_20 => ?_)
    · exact absurd c_20 (by subst eg_1 ex_2 ev3_17 ev1_17 eμ_17; exact nI_ge (a := k) (b := 12) hk (by decide))
    · refine lv_ldc2 (own := RX11) (v := 31) K.1.1 K.1.2.1 K.1.2.2.2.1 (K.w q_1540) dX11_digest_23 ?_
      refine lv_lload_n K.1.1 K.1.2.1 dX11_digest_26 rfl (lv_at hl 1 rfl) ?_
      refine lv_lmul K.1.1 K.1.2.1 dX11_digest_27 ?_
      refine lv_aload_n K.1.1 K.1.2.1 dX11_digest_28 rfl (lv_at hl 2 rfl) ?_
      refine lv_iload_n K.1.1 K.1.2.1 dX11_digest_29 rfl (lv_at hl 0 rfl) ?_
      refine m_cV (n := 1) (As := [.int v3_17]) (rest := [.long (31 * v1_17)]) K hP hS (MX11_tellsWhole l G B _ v3_17 (by subst eg_1 ex_2 ev3_17 ev1_17 eμ_17; exact vp_ofN (by decide) hk)) (by decide) sh_259 rfl q_1450 q_1452 q_69 q_91 q_1453 hv_X11_tellsWhole ⟨Nat.le_of_ble_eq_true rfl, Nat.le_of_ble_eq_true rfl⟩ rfl hl.1 rfl (Nat.le_of_ble_eq_true rfl) dX11_digest_30 ⟨Nat.zero_le _, Nat.zero_le _⟩ (fun H locs hP hS => ?_)
      refine lv_topi (fun r_19 er_19 => ?_)
      refine lv_i2l K.1.1 K.1.2.1 dX11_digest_33 rfl ?_
      refine lv_ladd K.1.1 K.1.2.1 dX11_digest_34 ?_
      refine lv_topl (fun x_20 ex_20 => ?_)
      refine lv_lstore_n (lv' := [(1, .long x_20), (3, .int v3_17), (0, .ref (B + 259))]) K.1.1 K.1.2.1 dX11_digest_35 rfl hl (by decide) rfl (fun ls hl => ?_)
      obtain ⟨x_21, ex_21⟩ : ∃ y : Int32, y = v3_17 + (1) := ⟨_, rfl⟩
      refine lv_iinc (v := x_21) (lv' := [(3, .int x_21), (1, .long x_20), (0, .ref (B + 259))]) K.1.1 K.1.2.1 dX11_digest_36 hl (k := 1) rfl (by rw [ex_21]; rfl) (by decide) rfl (fun ls hl => ?_)
      refine lv_goto (tgt := 17) K.1.1 K.1.2.1 dX11_digest_39 (by decide) ?_
      exact ih_17 _ _ _ _ _ _ (by subst eg_1 ex_2 ev3_17 ev1_17 eμ_17 er_19 ex_20 ex_21; exact nI_1 _) (by subst eg_1 ex_2 ev3_17 ev1_17 eμ_17 er_19 ex_20 ex_21; rfl) (by subst eg_1 ex_2 ev3_17 ev1_17 eμ_17 er_19 ex_20 ex_21; rfl) hP hS (lv_sub hl [0, 1, 2] rfl)

