set_option maxHeartbeats 4000000 in
set_option maxRecDepth 100000 in
theorem MX11_manyOf (l : Launch) (G : GG) (B : Nat) (μ : Mm) (k : Int32) : CM l yX11_manyOf (.code yX11_manyOf cX11_manyOf 1 (Option.some FieldType.int)) 0 0 G B [.int k] μ (some (.int (M_manyOf k))) μ := by
  refine CM.of (by decide) (Nat.le_of_ble_eq_true rfl) ?_
  intro p e s m below meth c ls K hr hlocks hP hl
  have hS : va_S (AA B) s.heap s.heap [] := va_S.rf
  have hl : lv_has ls 1 [(0, .int k)] := hl
  refine lv_iload_n K.1.1 K.1.2.1 dX11_manyOf_0 rfl (lv_at hl 0 rfl) ?_
  refine lv_iconst (v := 2) K.1.1 K.1.2.1 dX11_manyOf_1 (by decide) ?_
  refine lv_icmp_eq (tgt := 10) K.1.1 K.1.2.1 dX11_manyOf_2 (by decide) (fun c_2 => ?_) (fun c_2 => ?_)
  · refine lv_iconst (v := 3) K.1.1 K.1.2.1 dX11_manyOf_10 (by decide) ?_
    exact m_iret K hr hlocks hP hS dX11_manyOf_11 (by skip; rw [M_manyOf]; simp only [if_pos c_2]) rfl
  · refine lv_iload_n K.1.1 K.1.2.1 dX11_manyOf_5 rfl (lv_at hl 0 rfl) ?_
    refine lv_iconst (v := 4) K.1.1 K.1.2.1 dX11_manyOf_6 (by decide) ?_
    refine lv_icmp_ne (tgt := 12) K.1.1 K.1.2.1 dX11_manyOf_7 (by decide) (fun c_7 => ?_) (fun c_7 => ?_)
    · refine lv_iload_n K.1.1 K.1.2.1 dX11_manyOf_12 rfl (lv_at hl 0 rfl) ?_
      refine lv_iconst (v := 3) K.1.1 K.1.2.1 dX11_manyOf_13 (by decide) ?_
      refine lv_icmp_eq (tgt := 23) K.1.1 K.1.2.1 dX11_manyOf_14 (by decide) (fun c_14 => ?_) (fun c_14 => ?_)
      · refine lv_iconst (v := 2) K.1.1 K.1.2.1 dX11_manyOf_23 (by decide) ?_
        exact m_iret K hr hlocks hP hS dX11_manyOf_24 (by skip; rw [M_manyOf]; simp only [if_neg c_2, if_neg c_7, if_pos c_14]) rfl
      · refine lv_iload_n K.1.1 K.1.2.1 dX11_manyOf_17 rfl (lv_at hl 0 rfl) ?_
        refine lv_bipush (v := 6) K.1.1 K.1.2.1 dX11_manyOf_18 (by decide) ?_
        refine lv_icmp_ne (tgt := 25) K.1.1 K.1.2.1 dX11_manyOf_20 (by decide) (fun c_20 => ?_) (fun c_20 => ?_)
        · refine lv_iload_n K.1.1 K.1.2.1 dX11_manyOf_25 rfl (lv_at hl 0 rfl) ?_
          refine lv_bipush (v := 7) K.1.1 K.1.2.1 dX11_manyOf_26 (by decide) ?_
          refine lv_icmp_ne (tgt := 35) K.1.1 K.1.2.1 dX11_manyOf_28 (by decide) (fun c_28 => ?_) (fun c_28 => ?_)
          · refine lv_iconst (v := 1) K.1.1 K.1.2.1 dX11_manyOf_35 (by decide) ?_
            exact m_iret K hr hlocks hP hS dX11_manyOf_36 (by skip; rw [M_manyOf]; simp only [if_neg c_2, if_neg c_7, if_neg c_14, if_neg c_20, if_neg c_28]) rfl
          · refine lv_iconst (v := 0) K.1.1 K.1.2.1 dX11_manyOf_31 (by decide) ?_
            refine lv_goto (tgt := 36) K.1.1 K.1.2.1 dX11_manyOf_32 (by decide) ?_
            exact m_iret K hr hlocks hP hS dX11_manyOf_36 (by skip; rw [M_manyOf]; simp only [if_neg c_2, if_neg c_7, if_neg c_14, if_neg c_20, if_pos c_28]) rfl
        · refine lv_iconst (v := 2) K.1.1 K.1.2.1 dX11_manyOf_23 (by decide) ?_
          exact m_iret K hr hlocks hP hS dX11_manyOf_24 (by skip; rw [M_manyOf]; simp only [if_neg c_2, if_neg c_7, if_neg c_14, if_pos c_20]) rfl
    · refine lv_iconst (v := 3) K.1.1 K.1.2.1 dX11_manyOf_10 (by decide) ?_
      exact m_iret K hr hlocks hP hS dX11_manyOf_11 (by skip; rw [M_manyOf]; simp only [if_neg c_2, if_pos c_7]) rfl

set_option maxHeartbeats 4000000 in
set_option maxRecDepth 100000 in
theorem MX11_passesNumber (l : Launch) (G : GG) (B : Nat) (μ : Mm) (nn : Int32) (hM : MC μ) (hn : vp_in nn 3) : CM l yX11_passesNumber (.code yX11_passesNumber cX11_passesNumber 4 (Option.some FieldType.boolean)) 3 64 G B [.ref (B + 259), .int nn] μ (some (.int ((M_passesNumber μ nn).2))) ((M_passesNumber μ nn).1) := by
  refine CM.of (by decide) (Nat.le_of_ble_eq_true rfl) ?_
  intro p e s m below meth c ls K hr hlocks hP hl
  have hS : va_S (AA B) s.heap s.heap [] := va_S.rf
  have hl : lv_has ls 4 [(0, .ref (B + 259)), (1, .int nn)] := hl
  refine lv_aload_n K.1.1 K.1.2.1 dX11_passesNumber_0 rfl (lv_at hl 0 rfl) ?_
  refine lv_bipush (v := 32) K.1.1 K.1.2.1 dX11_passesNumber_1 (by decide) ?_
  refine lv_bipush (v := 32) K.1.1 K.1.2.1 dX11_passesNumber_3 (by decide) ?_
  refine m_cV (n := 2) (As := [.int 32, .int 32]) (rest := []) K hP hS (MX11_isHere l G B _ 32 32 hM) (by decide) sh_259 rfl q_1506 q_1508 q_74 q_91 q_1509 hv_X11_isHere ⟨Nat.le_of_ble_eq_true rfl, Nat.le_of_ble_eq_true rfl⟩ rfl hl.1 rfl (Nat.le_of_ble_eq_true rfl) dX11_passesNumber_5 ⟨Nat.zero_le _, Nat.zero_le _⟩ (fun H locs hP hS => ?_)
  refine lv_topi (fun r_1 er_1 => ?_)
  refine lv_if_ne (tgt := 13) K.1.1 K.1.2.1 dX11_passesNumber_8 (by decide) (fun c_8 => ?_) (fun c_8 => ?_)
  · refine lv_aload_n K.1.1 K.1.2.1 dX11_passesNumber_13 rfl (lv_at hl 0 rfl) ?_
    refine m_cV (n := 0) (As := []) (rest := []) K hP hS (MX11_passesSpaces l G B _  hM) (by decide) sh_259 rfl q_1502 q_1504 q_73 q_91 q_1505 hv_X11_passesSpaces ⟨Nat.le_of_ble_eq_true rfl, Nat.le_of_ble_eq_true rfl⟩ rfl hl.1 rfl (Nat.le_of_ble_eq_true rfl) dX11_passesNumber_14 ⟨Nat.zero_le _, Nat.zero_le _⟩ (fun H locs hP hS => ?_)
    refine W.eq (g2 := F0 m 17 ls []) rfl ?_
    refine lv_aload_n K.1.1 K.1.2.1 dX11_passesNumber_17 rfl (lv_at hl 0 rfl) ?_
    refine lv_bipush (v := 48) K.1.1 K.1.2.1 dX11_passesNumber_18 (by decide) ?_
    refine lv_bipush (v := 57) K.1.1 K.1.2.1 dX11_passesNumber_20 (by decide) ?_
    refine m_cV (n := 2) (As := [.int 48, .int 57]) (rest := []) K hP hS (MX11_isHere l G B _ 48 57 (MC_spaces hM)) (by decide) sh_259 rfl q_1506 q_1508 q_74 q_91 q_1509 hv_X11_isHere ⟨Nat.le_of_ble_eq_true rfl, Nat.le_of_ble_eq_true rfl⟩ rfl hl.1 rfl (Nat.le_of_ble_eq_true rfl) dX11_passesNumber_22 ⟨Nat.zero_le _, Nat.zero_le _⟩ (fun H locs hP hS => ?_)
    refine lv_topi (fun r_2 er_2 => ?_)
    refine lv_if_ne (tgt := 30) K.1.1 K.1.2.1 dX11_passesNumber_25 (by decide) (fun c_25 => ?_) (fun c_25 => ?_)
    · refine lv_iconst (v := 0) K.1.1 K.1.2.1 dX11_passesNumber_30 (by decide) ?_
      refine lv_istore_n (lv' := [(2, .int 0), (0, .ref (B + 259)), (1, .int nn)]) K.1.1 K.1.2.1 dX11_passesNumber_31 rfl hl (by decide) rfl (fun ls hl => ?_)
      refine lv_iconst (v := 0) K.1.1 K.1.2.1 dX11_passesNumber_32 (by decide) ?_
      refine lv_istore_n (lv' := [(3, .int 0), (2, .int 0), (0, .ref (B + 259)), (1, .int nn)]) K.1.1 K.1.2.1 dX11_passesNumber_33 rfl hl (by decide) rfl (fun ls hl => ?_)
      have lp_34 : ∀ n : Nat, ∀ (v3_34 : Int32) (v2_34 : Int32) (μ_34 : Mm) (H : Heap) (locs : List Loc) (ls : Array Slot), (n ≤ 3) → (v3_34 = nI (3 - n)) → (MC μ_34) → (M_dg 3 (M_spaces μ) 0 = M_dg n μ_34 v2_34) → MP G B μ_34 H → va_S (AA B) s.heap H locs → lv_has ls 4 [(3, .int v3_34), (2, .int v2_34), (0, .ref (B + 259)), (1, .int nn)] → W p l e ({ frames := 3, cells := 0, slots := 0, locals := 64 } : Room) s m ([.ref (B + 259), .int nn] : List Value).toArray below meth c H locs 0 0 (MF below G B (some (.int ((M_passesNumber μ nn).2))) ((M_passesNumber μ nn).1) ([.ref (B + 259), .int nn] : List Value).toArray s) (F0 m 34 ls []) := by
        intro n
        induction n with
        | zero =>
          intro v3_34 v2_34 μ_34 H locs ls inv0_34 inv1_34 inv2_34 fin0_34 hP hS hl
          refine lv_iload_n K.1.1 K.1.2.1 dX11_passesNumber_34 rfl (lv_at hl 0 rfl) ?_
          refine lv_iconst (v := 3) K.1.1 K.1.2.1 dX11_passesNumber_35 (by decide) ?_
          refine lv_icmp_ge (tgt := 84) K.1.1 K.1.2.1 dX11_passesNumber_36 (by decide) (fun c_36 => ?_) (fun c_36 => ?_)
          · refine lv_aload_n K.1.1 K.1.2.1 dX11_passesNumber_84 rfl (lv_at hl 2 rfl) ?_
            refine m_getr K hP (by decide) sh_259 rfl tuX11 12 (by decide) rfl q_1162 dX11_passesNumber_85 ?_
            refine lv_iload_n K.1.1 K.1.2.1 dX11_passesNumber_88 rfl (lv_at hl 3 rfl) ?_
            refine lv_iload_n K.1.1 K.1.2.1 dX11_passesNumber_89 rfl (lv_at hl 1 rfl) ?_
            refine m_iast K hP hS (by decide) sh_263 (n := 3) (by subst er_1 er_2 inv1_34; exact hn) dX11_passesNumber_90 (fun H locs hP hS => ?_)
            have hP : MP G B (up2 _ 263 (cn nn) _) H := hP
            refine lv_iconst (v := 1) K.1.1 K.1.2.1 dX11_passesNumber_91 (by decide) ?_
            exact m_zret K hr hlocks hP hS dX11_passesNumber_92 (by first | rfl | (subst er_1 er_2 inv1_34; rfl)) (by subst er_1 er_2 inv1_34; have hN : M_num μ = (μ_34, v2_34) := (by rw [M_num_eq, fin0_34]; first | rw [M_dg, if_pos c_47] | rfl); rw [M_passesNumber, if_neg c_8, if_neg c_25, hN]; first | done | rfl) (by subst er_1 er_2 inv1_34; have hN : M_num μ = (μ_34, v2_34) := (by rw [M_num_eq, fin0_34]; first | rw [M_dg, if_pos c_47] | rfl); rw [M_passesNumber, if_neg c_8, if_neg c_25, hN]; first | done | rfl)
          · exact absurd c_36 (not_not_intro (by subst er_1 er_2 inv1_34; decide))
        | succ n ih_34 =>
          intro v3_34 v2_34 μ_34 H locs ls inv0_34 inv1_34 inv2_34 fin0_34 hP hS hl
          refine lv_iload_n K.1.1 K.1.2.1 dX11_passesNumber_34 rfl (lv_at hl 0 rfl) ?_
          refine lv_iconst (v := 3) K.1.1 K.1.2.1 dX11_passesNumber_35 (by decide) ?_
          refine lv_icmp_ge (tgt := 84) K.1.1 K.1.2.1 dX11_passesNumber_36 (by decide) (fun c_36 => ?_) (fun c_36 => ?_)
          · exact absurd c_36 (by subst er_1 er_2 inv1_34; exact nI_ge (a := 3 - (n + 1)) (b := 3) (by omega) (by decide))
          · refine lv_aload_n K.1.1 K.1.2.1 dX11_passesNumber_39 rfl (lv_at hl 2 rfl) ?_
            refine lv_bipush (v := 48) K.1.1 K.1.2.1 dX11_passesNumber_40 (by decide) ?_
            refine lv_bipush (v := 57) K.1.1 K.1.2.1 dX11_passesNumber_42 (by decide) ?_
            refine m_cV (n := 2) (As := [.int 48, .int 57]) (rest := []) K hP hS (MX11_isHere l G B _ 48 57 inv2_34) (by decide) sh_259 rfl q_1506 q_1508 q_74 q_91 q_1509 hv_X11_isHere ⟨Nat.le_of_ble_eq_true rfl, Nat.le_of_ble_eq_true rfl⟩ rfl hl.1 rfl (Nat.le_of_ble_eq_true rfl) dX11_passesNumber_44 ⟨Nat.zero_le _, Nat.zero_le _⟩ (fun H locs hP hS => ?_)
            refine lv_topi (fun r_3 er_3 => ?_)
            refine lv_if_eq (tgt := 84) K.1.1 K.1.2.1 dX11_passesNumber_47 (by decide) (fun c_47 => ?_) (fun c_47 => ?_)
            · refine lv_aload_n K.1.1 K.1.2.1 dX11_passesNumber_84 rfl (lv_at hl 2 rfl) ?_
              refine m_getr K hP (by decide) sh_259 rfl tuX11 12 (by decide) rfl q_1162 dX11_passesNumber_85 ?_
              refine lv_iload_n K.1.1 K.1.2.1 dX11_passesNumber_88 rfl (lv_at hl 3 rfl) ?_
              refine lv_iload_n K.1.1 K.1.2.1 dX11_passesNumber_89 rfl (lv_at hl 1 rfl) ?_
              refine m_iast K hP hS (by decide) sh_263 (n := 3) (by subst er_1 er_2 inv1_34 er_3; exact hn) dX11_passesNumber_90 (fun H locs hP hS => ?_)
              have hP : MP G B (up2 _ 263 (cn nn) _) H := hP
              refine lv_iconst (v := 1) K.1.1 K.1.2.1 dX11_passesNumber_91 (by decide) ?_
              exact m_zret K hr hlocks hP hS dX11_passesNumber_92 (by first | rfl | (subst er_1 er_2 inv1_34 er_3; rfl)) (by subst er_1 er_2 inv1_34 er_3; have hN : M_num μ = (μ_34, v2_34) := (by rw [M_num_eq, fin0_34]; first | rw [M_dg, if_pos c_47] | rfl); rw [M_passesNumber, if_neg c_8, if_neg c_25, hN]; first | done | rfl) (by subst er_1 er_2 inv1_34 er_3; have hN : M_num μ = (μ_34, v2_34) := (by rw [M_num_eq, fin0_34]; first | rw [M_dg, if_pos c_47] | rfl); rw [M_passesNumber, if_neg c_8, if_neg c_25, hN]; first | done | rfl)
            · refine lv_bipush (v := 10) K.1.1 K.1.2.1 dX11_passesNumber_50 (by decide) ?_
              refine lv_iload_n K.1.1 K.1.2.1 dX11_passesNumber_52 rfl (lv_at hl 1 rfl) ?_
              refine lv_imul K.1.1 K.1.2.1 dX11_passesNumber_53 ?_
              refine lv_aload_n K.1.1 K.1.2.1 dX11_passesNumber_54 rfl (lv_at hl 2 rfl) ?_
              refine m_getr K hP (by decide) sh_259 rfl tuX11 8 (by decide) rfl q_1158 dX11_passesNumber_55 ?_
              refine lv_aload_n K.1.1 K.1.2.1 dX11_passesNumber_58 rfl (lv_at hl 2 rfl) ?_
              refine m_geti K hP (by decide) sh_259 rfl tuX11 10 (by decide) rfl q_1160 dX11_passesNumber_59 ?_
              refine lv_topi (fun g_4 eg_4 => ?_)
              refine m_iald K hP (by decide) sh_262 (n := 150) (by subst er_1 er_2 inv1_34 er_3 eg_4; exact MC_at inv2_34 (isHere_lt c_47)) dX11_passesNumber_62 ?_
              refine lv_topi (fun g_5 eg_5 => ?_)
              have eg_5 : g_5 = (_ : Mm) 262 (cn g_4) := eg_5
              refine lv_iadd K.1.1 K.1.2.1 dX11_passesNumber_63 ?_
              refine lv_bipush (v := 48) K.1.1 K.1.2.1 dX11_passesNumber_64 (by decide) ?_
              refine lv_isub K.1.1 K.1.2.1 dX11_passesNumber_66 ?_
              refine lv_topi (fun x_6 ex_6 => ?_)
              refine lv_istore_n (lv' := [(2, .int x_6), (3, .int v3_34), (0, .ref (B + 259)), (1, .int nn)]) K.1.1 K.1.2.1 dX11_passesNumber_67 rfl hl (by decide) rfl (fun ls hl => ?_)
              refine lv_aload_n K.1.1 K.1.2.1 dX11_passesNumber_68 rfl (lv_at hl 2 rfl) ?_
              refine lv_dup K.1.1 K.1.2.1 dX11_passesNumber_69 rfl ?_
              refine m_geti K hP (by decide) sh_259 rfl tuX11 10 (by decide) rfl q_1160 dX11_passesNumber_70 ?_
              refine lv_topi (fun g_7 eg_7 => ?_)
              refine lv_iconst (v := 1) K.1.1 K.1.2.1 dX11_passesNumber_73 (by decide) ?_
              refine lv_iadd K.1.1 K.1.2.1 dX11_passesNumber_74 ?_
              refine m_puti K hP hS (by decide) sh_259 rfl tuX11 tyX11 tyX11_ok nmX11 10 (by decide) rfl rfl (by decide +kernel) q_1160 dX11_passesNumber_75 (fun H locs hP hS => ?_)
              obtain ⟨x_8, ex_8⟩ : ∃ y : Int32, y = v3_34 + (1) := ⟨_, rfl⟩
              refine lv_iinc (v := x_8) (lv' := [(3, .int x_8), (2, .int x_6), (0, .ref (B + 259)), (1, .int nn)]) K.1.1 K.1.2.1 dX11_passesNumber_78 hl (k := 1) rfl (by rw [ex_8]; rfl) (by decide) rfl (fun ls hl => ?_)
              refine lv_goto (tgt := 34) K.1.1 K.1.2.1 dX11_passesNumber_81 (by decide) ?_
              exact ih_34 _ _ _ _ _ _ (by omega) (by subst er_1 er_2 inv1_34 er_3 eg_4 eg_5 ex_6 eg_7 ex_8; rw [nI_1, show 3 - (n + 1) + 1 = 3 - n by omega]) (by subst er_1 er_2 inv1_34 er_3 eg_4 eg_5 ex_6 eg_7 ex_8; exact MC_nx inv2_34 (isHere_lt c_47)) (by subst er_1 er_2 inv1_34 er_3 eg_4 eg_5 ex_6 eg_7 ex_8; rw [fin0_34, M_dg, if_neg c_47]; rfl) hP hS (lv_sub hl [0, 1, 2, 3] rfl)
      exact lp_34 (3) _ _ _ _ _ _ (by exact Nat.le_refl _) (by rfl) (by exact MC_spaces hM) (by rfl) hP hS (lv_sub hl [0, 1, 2, 3] rfl)
    · refine lv_iconst (v := 0) K.1.1 K.1.2.1 dX11_passesNumber_28 (by decide) ?_
      exact m_zret K hr hlocks hP hS dX11_passesNumber_29 (by first | rfl | (subst er_1 er_2; rfl)) (by subst er_1 er_2; rw [M_passesNumber, if_neg c_8, if_pos c_25]) (by subst er_1 er_2; rw [M_passesNumber, if_neg c_8, if_pos c_25])
  · refine lv_iconst (v := 0) K.1.1 K.1.2.1 dX11_passesNumber_11 (by decide) ?_
    exact m_zret K hr hlocks hP hS dX11_passesNumber_12 (by first | rfl | (subst er_1; rfl)) (by subst er_1; rw [M_passesNumber, if_pos c_8]) (by subst er_1; rw [M_passesNumber, if_pos c_8])

set_option maxHeartbeats 4000000 in
set_option maxRecDepth 100000 in
theorem MX11_passesCommand (l : Launch) (G : GG) (B : Nat) (μ : Mm) (hM : MC μ) : CM l yX11_passesCommand (.code yX11_passesCommand cX11_passesCommand 3 (Option.some FieldType.boolean)) 4 87 G B [.ref (B + 259)] μ (some (.int ((M_passesCommand μ).2))) ((M_passesCommand μ).1) := by
  refine CM.of (by decide) (Nat.le_of_ble_eq_true rfl) ?_
  intro p e s m below meth c ls K hr hlocks hP hl
  have hS : va_S (AA B) s.heap s.heap [] := va_S.rf
  have hl : lv_has ls 3 [(0, .ref (B + 259))] := hl
  refine lv_aload_n K.1.1 K.1.2.1 dX11_passesCommand_0 rfl (lv_at hl 0 rfl) ?_
  refine m_geti K hP (by decide) sh_259 rfl tuX11 10 (by decide) rfl q_1160 dX11_passesCommand_1 ?_
  refine lv_topi (fun g_1 eg_1 => ?_)
  refine lv_istore_n (lv' := [(1, .int g_1), (0, .ref (B + 259))]) K.1.1 K.1.2.1 dX11_passesCommand_4 rfl hl (by decide) rfl (fun ls hl => ?_)
  refine lv_aload_n K.1.1 K.1.2.1 dX11_passesCommand_5 rfl (lv_at hl 1 rfl) ?_
  refine lv_aload_n K.1.1 K.1.2.1 dX11_passesCommand_6 rfl (lv_at hl 1 rfl) ?_
  refine m_cV (n := 0) (As := []) (rest := [.ref (B + 259)]) K hP hS (MX11_readsWord l G B _  hM) (by decide) sh_259 rfl q_1514 q_1516 q_76 q_91 q_1517 hv_X11_readsWord ⟨Nat.le_of_ble_eq_true rfl, Nat.le_of_ble_eq_true rfl⟩ rfl hl.1 rfl (Nat.le_of_ble_eq_true rfl) dX11_passesCommand_7 ⟨Nat.zero_le _, Nat.zero_le _⟩ (fun H locs hP hS => ?_)
  refine lv_topi (fun r_2 er_2 => ?_)
  refine m_cS (n := 1) (As := [.int r_2]) (rest := [.ref (B + 259)]) K hP hS (MX11_kindOf l G B _ r_2 ) q_1518 q_1519 q_91 q_1520 hv_X11_kindOf ⟨Nat.le_of_ble_eq_true rfl, Nat.le_of_ble_eq_true rfl⟩ rfl hl.1 rfl (Nat.le_of_ble_eq_true rfl) dX11_passesCommand_10 ⟨Nat.zero_le _, Nat.zero_le _⟩ (fun H locs hP hS => ?_)
  refine lv_topi (fun r_3 er_3 => ?_)
  refine m_puti K hP hS (by decide) sh_259 rfl tuX11 tyX11 tyX11_ok nmX11 11 (by decide) rfl rfl (by decide +kernel) q_1161 dX11_passesCommand_13 (fun H locs hP hS => ?_)
  have hP : MP G B (M_cmdK μ) H := (by subst eg_1 er_2 er_3; exact hP)
  refine lv_aload_n K.1.1 K.1.2.1 dX11_passesCommand_16 rfl (lv_at hl 1 rfl) ?_
  refine m_geti K hP (by decide) sh_259 rfl tuX11 11 (by decide) rfl q_1161 dX11_passesCommand_17 ?_
  refine lv_topi (fun g_4 eg_4 => ?_)
  refine lv_iconst (v := (-1)) K.1.1 K.1.2.1 dX11_passesCommand_20 (by decide) ?_
  refine lv_icmp_ne (tgt := 31) K.1.1 K.1.2.1 dX11_passesCommand_21 (by decide) (fun c_21 => ?_) (fun c_21 => ?_)
  · obtain ⟨j3, hj3, ej3⟩ : ∃ j, j ≤ 3 ∧ M_manyOf (M_cmdK μ 259 11) = nI j := many_e _
    refine lv_iconst (v := 0) K.1.1 K.1.2.1 dX11_passesCommand_31 (by decide) ?_
    refine lv_istore_n (lv' := [(2, .int 0), (1, .int g_1), (0, .ref (B + 259))]) K.1.1 K.1.2.1 dX11_passesCommand_32 rfl hl (by decide) rfl (fun ls hl => ?_)
    have lp_33 : ∀ n : Nat, ∀ (v2_33 : Int32) (μ_33 : Mm) (H : Heap) (locs : List Loc) (ls : Array Slot), (MC μ_33) → (n ≤ j3) → (v2_33 = nI (j3 - n)) → (μ_33 259 11 = M_cmdK μ 259 11) → (M_nums (cn (M_manyOf (M_cmdK μ 259 11))) (M_cmdK μ) 0 = M_nums n μ_33 v2_33) → MP G B μ_33 H → va_S (AA B) s.heap H locs → lv_has ls 3 [(2, .int v2_33), (1, .int g_1), (0, .ref (B + 259))] → W p l e ({ frames := 4, cells := 0, slots := 0, locals := 87 } : Room) s m ([.ref (B + 259)] : List Value).toArray below meth c H locs 0 0 (MF below G B (some (.int ((M_passesCommand μ).2))) ((M_passesCommand μ).1) ([.ref (B + 259)] : List Value).toArray s) (F0 m 33 ls []) := by
      intro n
      induction n with
      | zero =>
        intro v2_33 μ_33 H locs ls inv0_33 inv1_33 inv2_33 inv3_33 fin0_33 hP hS hl
        refine lv_iload_n K.1.1 K.1.2.1 dX11_passesCommand_33 rfl (lv_at hl 0 rfl) ?_
        refine lv_aload_n K.1.1 K.1.2.1 dX11_passesCommand_34 rfl (lv_at hl 2 rfl) ?_
        refine m_geti K hP (by decide) sh_259 rfl tuX11 11 (by decide) rfl q_1161 dX11_passesCommand_35 ?_
        refine lv_topi (fun g_5 eg_5 => ?_)
        refine m_cS (n := 1) (As := [.int g_5]) (rest := [.int v2_33]) K hP hS (MX11_manyOf l G B _ g_5 ) q_1524 q_1525 q_91 q_1526 hv_X11_manyOf ⟨Nat.le_of_ble_eq_true rfl, Nat.le_of_ble_eq_true rfl⟩ rfl hl.1 rfl (Nat.le_of_ble_eq_true rfl) dX11_passesCommand_38 ⟨Nat.zero_le _, Nat.zero_le _⟩ (fun H locs hP hS => ?_)
        refine lv_topi (fun r_6 er_6 => ?_)
        refine lv_icmp_ge (tgt := 60) K.1.1 K.1.2.1 dX11_passesCommand_41 (by decide) (fun c_41 => ?_) (fun c_41 => ?_)
        · refine lv_aload_n K.1.1 K.1.2.1 dX11_passesCommand_60 rfl (lv_at hl 2 rfl) ?_
          refine m_cV (n := 0) (As := []) (rest := []) K hP hS (MX11_passesSpaces l G B _  inv0_33) (by decide) sh_259 rfl q_1502 q_1504 q_73 q_91 q_1505 hv_X11_passesSpaces ⟨Nat.le_of_ble_eq_true rfl, Nat.le_of_ble_eq_true rfl⟩ rfl hl.1 rfl (Nat.le_of_ble_eq_true rfl) dX11_passesCommand_61 ⟨Nat.zero_le _, Nat.zero_le _⟩ (fun H locs hP hS => ?_)
          refine W.eq (g2 := F0 m 64 ls []) rfl ?_
          refine lv_aload_n K.1.1 K.1.2.1 dX11_passesCommand_64 rfl (lv_at hl 2 rfl) ?_
          refine lv_bipush (v := 59) K.1.1 K.1.2.1 dX11_passesCommand_65 (by decide) ?_
          refine lv_bipush (v := 59) K.1.1 K.1.2.1 dX11_passesCommand_67 (by decide) ?_
          refine m_cV (n := 2) (As := [.int 59, .int 59]) (rest := []) K hP hS (MX11_isHere l G B _ 59 59 (MC_spaces inv0_33)) (by decide) sh_259 rfl q_1506 q_1508 q_74 q_91 q_1509 hv_X11_isHere ⟨Nat.le_of_ble_eq_true rfl, Nat.le_of_ble_eq_true rfl⟩ rfl hl.1 rfl (Nat.le_of_ble_eq_true rfl) dX11_passesCommand_69 ⟨Nat.zero_le _, Nat.zero_le _⟩ (fun H locs hP hS => ?_)
          refine lv_topi (fun r_7 er_7 => ?_)
          refine lv_if_ne (tgt := 77) K.1.1 K.1.2.1 dX11_passesCommand_72 (by decide) (fun c_72 => ?_) (fun c_72 => ?_)
          · refine lv_aload_n K.1.1 K.1.2.1 dX11_passesCommand_77 rfl (lv_at hl 2 rfl) ?_
            refine lv_dup K.1.1 K.1.2.1 dX11_passesCommand_78 rfl ?_
            refine m_geti K hP (by decide) sh_259 rfl tuX11 10 (by decide) rfl q_1160 dX11_passesCommand_79 ?_
            refine lv_topi (fun g_8 eg_8 => ?_)
            refine lv_iconst (v := 1) K.1.1 K.1.2.1 dX11_passesCommand_82 (by decide) ?_
            refine lv_iadd K.1.1 K.1.2.1 dX11_passesCommand_83 ?_
            refine m_puti K hP hS (by decide) sh_259 rfl tuX11 tyX11 tyX11_ok nmX11 10 (by decide) rfl rfl (by decide +kernel) q_1160 dX11_passesCommand_84 (fun H locs hP hS => ?_)
            refine lv_aload_n K.1.1 K.1.2.1 dX11_passesCommand_87 rfl (lv_at hl 2 rfl) ?_
            refine m_cV (n := 0) (As := []) (rest := []) K hP hS (MX11_passesSpaces l G B _  (by subst eg_1 er_2 er_3 eg_4 inv2_33 eg_5 er_6 er_7 eg_8; exact MC_nx (MC_spaces inv0_33) (isHere_lt c_72))) (by decide) sh_259 rfl q_1502 q_1504 q_73 q_91 q_1505 hv_X11_passesSpaces ⟨Nat.le_of_ble_eq_true rfl, Nat.le_of_ble_eq_true rfl⟩ rfl hl.1 rfl (Nat.le_of_ble_eq_true rfl) dX11_passesCommand_88 ⟨Nat.zero_le _, Nat.zero_le _⟩ (fun H locs hP hS => ?_)
            refine W.eq (g2 := F0 m 91 ls []) rfl ?_
            refine lv_iconst (v := 1) K.1.1 K.1.2.1 dX11_passesCommand_91 (by decide) ?_
            exact m_zret K hr hlocks hP hS dX11_passesCommand_92 (by first | rfl | (subst eg_1 er_2 er_3 eg_4 inv2_33 eg_5 er_6 er_7 eg_8; rfl)) (by subst eg_1 er_2 er_3 eg_4 inv2_33 eg_5 er_6 er_7 eg_8; have hN : M_cmdN μ = (μ_33, 1) := (by rw [M_cmdN_eq, fin0_33]; rfl); rw [M_passesCommand, if_neg (show ¬ M_cmdK μ 259 11 = -1 from c_21), hN]; (try dsimp only); rw [if_neg (show ¬ (1 : Int32) = 0 from by decide), if_neg c_72]; first | done | rfl) (by subst eg_1 er_2 er_3 eg_4 inv2_33 eg_5 er_6 er_7 eg_8; have hN : M_cmdN μ = (μ_33, 1) := (by rw [M_cmdN_eq, fin0_33]; rfl); rw [M_passesCommand, if_neg (show ¬ M_cmdK μ 259 11 = -1 from c_21), hN]; (try dsimp only); rw [if_neg (show ¬ (1 : Int32) = 0 from by decide), if_neg c_72]; first | done | rfl)
          · refine lv_iconst (v := 0) K.1.1 K.1.2.1 dX11_passesCommand_75 (by decide) ?_
            exact m_zret K hr hlocks hP hS dX11_passesCommand_76 (by first | rfl | (subst eg_1 er_2 er_3 eg_4 inv2_33 eg_5 er_6 er_7; rfl)) (by subst eg_1 er_2 er_3 eg_4 inv2_33 eg_5 er_6 er_7; have hN : M_cmdN μ = (μ_33, 1) := (by rw [M_cmdN_eq, fin0_33]; rfl); rw [M_passesCommand, if_neg (show ¬ M_cmdK μ 259 11 = -1 from c_21), hN]; (try dsimp only); rw [if_neg (show ¬ (1 : Int32) = 0 from by decide), if_pos c_72]) (by subst eg_1 er_2 er_3 eg_4 inv2_33 eg_5 er_6 er_7; have hN : M_cmdN μ = (μ_33, 1) := (by rw [M_cmdN_eq, fin0_33]; rfl); rw [M_passesCommand, if_neg (show ¬ M_cmdK μ 259 11 = -1 from c_21), hN]; (try dsimp only); rw [if_neg (show ¬ (1 : Int32) = 0 from by decide), if_pos c_72])
        · exact absurd c_41 (not_not_intro (by subst eg_1 er_2 er_3 eg_4 inv2_33 eg_5 er_6; rw [inv3_33, ej3]; exact Int32.le_refl _))
      | succ n ih_33 =>
        intro v2_33 μ_33 H locs ls inv0_33 inv1_33 inv2_33 inv3_33 fin0_33 hP hS hl
        refine lv_iload_n K.1.1 K.1.2.1 dX11_passesCommand_33 rfl (lv_at hl 0 rfl) ?_
        refine lv_aload_n K.1.1 K.1.2.1 dX11_passesCommand_34 rfl (lv_at hl 2 rfl) ?_
        refine m_geti K hP (by decide) sh_259 rfl tuX11 11 (by decide) rfl q_1161 dX11_passesCommand_35 ?_
        refine lv_topi (fun g_9 eg_9 => ?_)
        refine m_cS (n := 1) (As := [.int g_9]) (rest := [.int v2_33]) K hP hS (MX11_manyOf l G B _ g_9 ) q_1524 q_1525 q_91 q_1526 hv_X11_manyOf ⟨Nat.le_of_ble_eq_true rfl, Nat.le_of_ble_eq_true rfl⟩ rfl hl.1 rfl (Nat.le_of_ble_eq_true rfl) dX11_passesCommand_38 ⟨Nat.zero_le _, Nat.zero_le _⟩ (fun H locs hP hS => ?_)
        refine lv_topi (fun r_10 er_10 => ?_)
        refine lv_icmp_ge (tgt := 60) K.1.1 K.1.2.1 dX11_passesCommand_41 (by decide) (fun c_41 => ?_) (fun c_41 => ?_)
        · exact absurd c_41 (by subst eg_1 er_2 er_3 eg_4 inv2_33 eg_9 er_10; rw [inv3_33, ej3]; exact nI_ge (by omega) (by omega))
        · refine lv_aload_n K.1.1 K.1.2.1 dX11_passesCommand_44 rfl (lv_at hl 2 rfl) ?_
          refine lv_iload_n K.1.1 K.1.2.1 dX11_passesCommand_45 rfl (lv_at hl 0 rfl) ?_
          refine m_cV (n := 1) (As := [.int v2_33]) (rest := []) K hP hS (MX11_passesNumber l G B _ v2_33 inv0_33 (by subst eg_1 er_2 er_3 eg_4 inv2_33 eg_9 er_10; exact vp_in_nI (by omega) (by decide))) (by decide) sh_259 rfl q_1527 q_1529 q_77 q_91 q_1530 hv_X11_passesNumber ⟨Nat.le_of_ble_eq_true rfl, Nat.le_of_ble_eq_true rfl⟩ rfl hl.1 rfl (Nat.le_of_ble_eq_true rfl) dX11_passesCommand_46 ⟨Nat.zero_le _, Nat.zero_le _⟩ (fun H locs hP hS => ?_)
          refine lv_topi (fun r_11 er_11 => ?_)
          refine lv_if_ne (tgt := 54) K.1.1 K.1.2.1 dX11_passesCommand_49 (by decide) (fun c_49 => ?_) (fun c_49 => ?_)
          · obtain ⟨x_12, ex_12⟩ : ∃ y : Int32, y = v2_33 + (1) := ⟨_, rfl⟩
            refine lv_iinc (v := x_12) (lv' := [(2, .int x_12), (1, .int g_1), (0, .ref (B + 259))]) K.1.1 K.1.2.1 dX11_passesCommand_54 hl (k := 0) rfl (by rw [ex_12]; rfl) (by decide) rfl (fun ls hl => ?_)
            refine lv_goto (tgt := 33) K.1.1 K.1.2.1 dX11_passesCommand_57 (by decide) ?_
            exact ih_33 _ _ _ _ _ (by subst eg_1 er_2 er_3 eg_4 inv2_33 eg_9 er_10 er_11 ex_12; exact MC_pn inv0_33) (by omega) (by subst eg_1 er_2 er_3 eg_4 inv2_33 eg_9 er_10 er_11 ex_12; rw [nI_1, show j3 - (n + 1) + 1 = j3 - n by omega]) (by subst eg_1 er_2 er_3 eg_4 inv2_33 eg_9 er_10 er_11 ex_12; rw [pn_ne (by decide)]; exact inv3_33) (by subst eg_1 er_2 er_3 eg_4 inv2_33 eg_9 er_10 er_11 ex_12; rw [fin0_33, M_nums, if_neg c_49, nI_1, show j3 - (n + 1) + 1 = j3 - n by omega]) hP hS (lv_sub hl [0, 1, 2] rfl)
          · refine lv_iconst (v := 0) K.1.1 K.1.2.1 dX11_passesCommand_52 (by decide) ?_
            exact m_zret K hr hlocks hP hS dX11_passesCommand_53 (by first | rfl | (subst eg_1 er_2 er_3 eg_4 inv2_33 eg_9 er_10 er_11; rfl)) (by subst eg_1 er_2 er_3 eg_4 inv2_33 eg_9 er_10 er_11; have hN : M_cmdN μ = ((M_passesNumber μ_33 (nI (j3 - (n + 1)))).1, 0) := (by rw [M_cmdN_eq, fin0_33, M_nums, if_pos c_49]); rw [M_passesCommand, if_neg (show ¬ M_cmdK μ 259 11 = -1 from c_21), hN]; (try dsimp only); rw [if_pos rfl]) (by subst eg_1 er_2 er_3 eg_4 inv2_33 eg_9 er_10 er_11; have hN : M_cmdN μ = ((M_passesNumber μ_33 (nI (j3 - (n + 1)))).1, 0) := (by rw [M_cmdN_eq, fin0_33, M_nums, if_pos c_49]); rw [M_passesCommand, if_neg (show ¬ M_cmdK μ 259 11 = -1 from c_21), hN]; (try dsimp only); rw [if_pos rfl])
    exact lp_33 (j3) _ _ _ _ _ (by subst eg_1 er_2 er_3 eg_4; exact MC_cmdK hM) (by exact Nat.le_refl _) (by rw [Nat.sub_self]; rfl) (by rfl) (by subst eg_1 er_2 er_3 eg_4; rw [ej3, cn_nI (by omega)]) hP hS (lv_sub hl [0, 1, 2] rfl)
  · refine lv_aload_n K.1.1 K.1.2.1 dX11_passesCommand_24 rfl (lv_at hl 1 rfl) ?_
    refine lv_iload_n K.1.1 K.1.2.1 dX11_passesCommand_25 rfl (lv_at hl 0 rfl) ?_
    refine m_puti K hP hS (by decide) sh_259 rfl tuX11 tyX11 tyX11_ok nmX11 10 (by decide) rfl rfl (by decide +kernel) q_1160 dX11_passesCommand_26 (fun H locs hP hS => ?_)
    refine lv_iconst (v := 0) K.1.1 K.1.2.1 dX11_passesCommand_29 (by decide) ?_
    exact m_zret K hr hlocks hP hS dX11_passesCommand_30 (by first | rfl | (subst eg_1 er_2 er_3 eg_4; rfl)) (by subst eg_1 er_2 er_3 eg_4; rw [M_passesCommand, if_pos (show M_cmdK μ 259 11 = -1 from c_21)]; first | done | rfl) (by subst eg_1 er_2 er_3 eg_4; rw [M_passesCommand, if_pos (show M_cmdK μ 259 11 = -1 from c_21)]; first | done | rfl)

set_option maxHeartbeats 4000000 in
set_option maxRecDepth 100000 in
theorem MX11_faultOf (l : Launch) (G : GG) (B : Nat) (μ : Mm) (hl9 : vp_in (μ 259 9) 151) (hok : M_faok μ) : CM l yX11_faultOf (.code yX11_faultOf cX11_faultOf 1 (Option.some FieldType.int)) 5 109 G B [.ref (B + 259)] μ (some (.int ((M_faultOf μ).2))) ((M_faultOf μ).1) := by
  refine CM.of (by decide) (Nat.le_of_ble_eq_true rfl) ?_
  intro p e s m below meth c ls K hr hlocks hP hl
  have hS : va_S (AA B) s.heap s.heap [] := va_S.rf
  have hl : lv_has ls 1 [(0, .ref (B + 259))] := hl
  refine lv_aload_n K.1.1 K.1.2.1 dX11_faultOf_0 rfl (lv_at hl 0 rfl) ?_
  refine lv_iconst (v := 0) K.1.1 K.1.2.1 dX11_faultOf_1 (by decide) ?_
  refine m_puti K hP hS (by decide) sh_259 rfl tuX11 tyX11 tyX11_ok nmX11 10 (by decide) rfl rfl (by decide +kernel) q_1160 dX11_faultOf_2 (fun H locs hP hS => ?_)
  refine lv_aload_n K.1.1 K.1.2.1 dX11_faultOf_5 rfl (lv_at hl 0 rfl) ?_
  refine m_cV (n := 0) (As := []) (rest := []) K hP hS (MX11_passesSpaces l G B _  (MC_0 hl9)) (by decide) sh_259 rfl q_1502 q_1504 q_73 q_91 q_1505 hv_X11_passesSpaces ⟨Nat.le_of_ble_eq_true rfl, Nat.le_of_ble_eq_true rfl⟩ rfl hl.1 rfl (Nat.le_of_ble_eq_true rfl) dX11_faultOf_6 ⟨Nat.zero_le _, Nat.zero_le _⟩ (fun H locs hP hS => ?_)
  refine W.eq (g2 := F0 m 9 ls []) rfl ?_
  have lp_9 : ∀ n : Nat, ∀ (μ_9 : Mm) (H : Heap) (locs : List Loc) (ls : Array Slot), (MC μ_9) → (FAok n μ_9) → (FA (NN 151) (M_spaces (up2 μ 259 10 0)) = FA n μ_9) → MP G B μ_9 H → va_S (AA B) s.heap H locs → lv_has ls 1 [(0, .ref (B + 259))] → W p l e ({ frames := 5, cells := 0, slots := 0, locals := 109 } : Room) s m ([.ref (B + 259)] : List Value).toArray below meth c H locs 0 0 (MF below G B (some (.int ((M_faultOf μ).2))) ((M_faultOf μ).1) ([.ref (B + 259)] : List Value).toArray s) (F0 m 9 ls []) := by
    intro n
    induction n with
    | zero =>
      intro μ_9 H locs ls inv0_9 inv1_9 fin0_9 hP hS hl
      refine lv_aload_n K.1.1 K.1.2.1 dX11_faultOf_9 rfl (lv_at hl 0 rfl) ?_
      refine m_geti K hP (by decide) sh_259 rfl tuX11 10 (by decide) rfl q_1160 dX11_faultOf_10 ?_
      refine lv_topi (fun g_1 eg_1 => ?_)
      refine lv_aload_n K.1.1 K.1.2.1 dX11_faultOf_13 rfl (lv_at hl 0 rfl) ?_
      refine m_geti K hP (by decide) sh_259 rfl tuX11 9 (by decide) rfl q_1159 dX11_faultOf_14 ?_
      refine lv_topi (fun g_2 eg_2 => ?_)
      refine lv_icmp_ge (tgt := 43) K.1.1 K.1.2.1 dX11_faultOf_17 (by decide) (fun c_17 => ?_) (fun c_17 => ?_)
      · refine lv_iconst (v := (-1)) K.1.1 K.1.2.1 dX11_faultOf_43 (by decide) ?_
        exact m_iret K hr hlocks hP hS dX11_faultOf_44 (by subst eg_1 eg_2; rw [M_faultOf, fin0_9]; first | rw [FA, if_neg (Int32.not_lt.mpr c_17)] | rfl) (by subst eg_1 eg_2; rw [M_faultOf, fin0_9]; first | rw [FA, if_neg (Int32.not_lt.mpr c_17)] | rfl)
      · exact absurd c_17 (not_not_intro (by subst eg_1 eg_2; exact Int32.not_lt.mp inv1_9))
    | succ n ih_9 =>
      intro μ_9 H locs ls inv0_9 inv1_9 fin0_9 hP hS hl
      refine lv_aload_n K.1.1 K.1.2.1 dX11_faultOf_9 rfl (lv_at hl 0 rfl) ?_
      refine m_geti K hP (by decide) sh_259 rfl tuX11 10 (by decide) rfl q_1160 dX11_faultOf_10 ?_
      refine lv_topi (fun g_3 eg_3 => ?_)
      refine lv_aload_n K.1.1 K.1.2.1 dX11_faultOf_13 rfl (lv_at hl 0 rfl) ?_
      refine m_geti K hP (by decide) sh_259 rfl tuX11 9 (by decide) rfl q_1159 dX11_faultOf_14 ?_
      refine lv_topi (fun g_4 eg_4 => ?_)
      refine lv_icmp_ge (tgt := 43) K.1.1 K.1.2.1 dX11_faultOf_17 (by decide) (fun c_17 => ?_) (fun c_17 => ?_)
      · refine lv_iconst (v := (-1)) K.1.1 K.1.2.1 dX11_faultOf_43 (by decide) ?_
        exact m_iret K hr hlocks hP hS dX11_faultOf_44 (by subst eg_3 eg_4; rw [M_faultOf, fin0_9]; first | rw [FA, if_neg (Int32.not_lt.mpr c_17)] | rfl) (by subst eg_3 eg_4; rw [M_faultOf, fin0_9]; first | rw [FA, if_neg (Int32.not_lt.mpr c_17)] | rfl)
      · refine lv_aload_n K.1.1 K.1.2.1 dX11_faultOf_20 rfl (lv_at hl 0 rfl) ?_
        refine lv_bipush (v := 97) K.1.1 K.1.2.1 dX11_faultOf_21 (by decide) ?_
        refine lv_bipush (v := 122) K.1.1 K.1.2.1 dX11_faultOf_23 (by decide) ?_
        refine m_cV (n := 2) (As := [.int 97, .int 122]) (rest := []) K hP hS (MX11_isHere l G B _ 97 122 inv0_9) (by decide) sh_259 rfl q_1506 q_1508 q_74 q_91 q_1509 hv_X11_isHere ⟨Nat.le_of_ble_eq_true rfl, Nat.le_of_ble_eq_true rfl⟩ rfl hl.1 rfl (Nat.le_of_ble_eq_true rfl) dX11_faultOf_25 ⟨Nat.zero_le _, Nat.zero_le _⟩ (fun H locs hP hS => ?_)
        refine lv_topi (fun r_5 er_5 => ?_)
        refine lv_if_eq (tgt := 38) K.1.1 K.1.2.1 dX11_faultOf_28 (by decide) (fun c_28 => ?_) (fun c_28 => ?_)
        · refine lv_aload_n K.1.1 K.1.2.1 dX11_faultOf_38 rfl (lv_at hl 0 rfl) ?_
          refine m_geti K hP (by decide) sh_259 rfl tuX11 10 (by decide) rfl q_1160 dX11_faultOf_39 ?_
          refine lv_topi (fun g_6 eg_6 => ?_)
          exact m_iret K hr hlocks hP hS dX11_faultOf_42 (by subst eg_3 eg_4 er_5 eg_6; rw [M_faultOf, fin0_9, FA, if_pos (Int32.not_le.mp c_17), if_pos c_28]) (by subst eg_3 eg_4 er_5 eg_6; rw [M_faultOf, fin0_9, FA, if_pos (Int32.not_le.mp c_17), if_pos c_28])
        · refine lv_aload_n K.1.1 K.1.2.1 dX11_faultOf_31 rfl (lv_at hl 0 rfl) ?_
          refine m_cV (n := 0) (As := []) (rest := []) K hP hS (MX11_passesCommand l G B _  inv0_9) (by decide) sh_259 rfl q_1510 q_1512 q_75 q_91 q_1513 hv_X11_passesCommand ⟨Nat.le_of_ble_eq_true rfl, Nat.le_of_ble_eq_true rfl⟩ rfl hl.1 rfl (Nat.le_of_ble_eq_true rfl) dX11_faultOf_32 ⟨Nat.zero_le _, Nat.zero_le _⟩ (fun H locs hP hS => ?_)
          refine lv_topi (fun r_7 er_7 => ?_)
          refine lv_if_ne (tgt := 9) K.1.1 K.1.2.1 dX11_faultOf_35 (by decide) (fun c_35 => ?_) (fun c_35 => ?_)
          · exact ih_9  _ _ _ _ (by subst eg_3 eg_4 er_5 er_7; exact MC_pc inv0_9) (by subst eg_3 eg_4 er_5 er_7; exact inv1_9 (Int32.not_le.mp c_17) c_28 c_35) (by subst eg_3 eg_4 er_5 er_7; rw [fin0_9, FA, if_pos (Int32.not_le.mp c_17), if_neg c_28, if_neg c_35]) hP hS (lv_sub hl [0] rfl)
          · refine lv_aload_n K.1.1 K.1.2.1 dX11_faultOf_38 rfl (lv_at hl 0 rfl) ?_
            refine m_geti K hP (by decide) sh_259 rfl tuX11 10 (by decide) rfl q_1160 dX11_faultOf_39 ?_
            refine lv_topi (fun g_8 eg_8 => ?_)
            exact m_iret K hr hlocks hP hS dX11_faultOf_42 (by subst eg_3 eg_4 er_5 er_7 eg_8; rw [M_faultOf, fin0_9, FA, if_pos (Int32.not_le.mp c_17), if_neg c_28, if_pos c_35]) (by subst eg_3 eg_4 er_5 er_7 eg_8; rw [M_faultOf, fin0_9, FA, if_pos (Int32.not_le.mp c_17), if_neg c_28, if_pos c_35])
  exact lp_9 (NN 151)  _ _ _ _ (by exact MC_spaces (MC_0 hl9)) (by exact hok) (by rfl) hP hS (lv_sub hl [0] rfl)

