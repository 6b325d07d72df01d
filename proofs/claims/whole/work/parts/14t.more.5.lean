set_option maxHeartbeats 4000000 in
set_option maxRecDepth 100000 in
theorem MX11_runCommands (l : Launch) (G : GG) (B : Nat) (μ : Mm) (hI : MI μ) (hs : vp_in (μ 259 2) 5) (hl9 : vp_in (μ 259 9) 151) (hfa : M_faok (M_thr μ 0)) (hrc : (M_faultOf (M_thr μ 0)).2 < 0 → M_runS μ 259 10 < M_runS μ 259 9 → RCok (NN 151) (M_runS μ)) : CM l yX11_runCommands (.code yX11_runCommands cX11_runCommands 4 (Option.some FieldType.int)) 8 188 G B [.ref (B + 259)] μ (some (.int ((M_run μ).2))) ((M_run μ).1) := by
  refine CM.of (by decide) (Nat.le_of_ble_eq_true rfl) ?_
  intro p e s m below meth c ls K hr hlocks hP hl
  have hS : va_S (AA B) s.heap s.heap [] := va_S.rf
  have hl : lv_has ls 4 [(0, .ref (B + 259))] := hl
  refine lv_aload_n K.1.1 K.1.2.1 dX11_runCommands_0 rfl (lv_at hl 0 rfl) ?_
  refine lv_iconst (v := 0) K.1.1 K.1.2.1 dX11_runCommands_1 (by decide) ?_
  refine m_puti K hP hS (by decide) sh_259 rfl tuX11 tyX11 tyX11_ok nmX11 3 (by decide) rfl rfl (by decide +kernel) q_1153 dX11_runCommands_2 (fun H locs hP hS => ?_)
  refine lv_aload_n K.1.1 K.1.2.1 dX11_runCommands_5 rfl (lv_at hl 0 rfl) ?_
  refine m_cV (n := 0) (As := []) (rest := []) K hP hS (MX11_faultOf l G B _  (show vp_in (up2 μ 259 3 0 259 9) 151 from hl9) hfa) (by decide) sh_259 rfl q_1498 q_1500 q_72 q_91 q_1501 hv_X11_faultOf ⟨Nat.le_of_ble_eq_true rfl, Nat.le_of_ble_eq_true rfl⟩ rfl hl.1 rfl (Nat.le_of_ble_eq_true rfl) dX11_runCommands_6 ⟨Nat.zero_le _, Nat.zero_le _⟩ (fun H locs hP hS => ?_)
  refine lv_topi (fun r_1 er_1 => ?_)
  refine lv_istore_n (lv' := [(1, .int r_1), (0, .ref (B + 259))]) K.1.1 K.1.2.1 dX11_runCommands_9 rfl hl (by decide) rfl (fun ls hl => ?_)
  refine lv_iload_n K.1.1 K.1.2.1 dX11_runCommands_10 rfl (lv_at hl 0 rfl) ?_
  refine lv_if_lt (tgt := 19) K.1.1 K.1.2.1 dX11_runCommands_11 (by decide) (fun c_11 => ?_) (fun c_11 => ?_)
  · refine lv_aload_n K.1.1 K.1.2.1 dX11_runCommands_19 rfl (lv_at hl 1 rfl) ?_
    refine m_cV (n := 0) (As := []) (rest := []) K hP hS (MX11_records l G B _  (by subst er_1; rw [fault_ne (by decide) (by decide), up2k_states]; exact hs)) (by decide) sh_259 rfl q_1216 q_1218 q_25 q_91 q_1219 hv_X11_records ⟨Nat.le_of_ble_eq_true rfl, Nat.le_of_ble_eq_true rfl⟩ rfl hl.1 rfl (Nat.le_of_ble_eq_true rfl) dX11_runCommands_20 ⟨Nat.zero_le _, Nat.zero_le _⟩ (fun H locs hP hS => ?_)
    refine W.eq (g2 := F0 m 23 ls []) rfl ?_
    refine lv_iconst (v := 0) K.1.1 K.1.2.1 dX11_runCommands_23 (by decide) ?_
    refine lv_istore_n (lv' := [(2, .int 0), (1, .int r_1), (0, .ref (B + 259))]) K.1.1 K.1.2.1 dX11_runCommands_24 rfl hl (by decide) rfl (fun ls hl => ?_)
    refine lv_aload_n K.1.1 K.1.2.1 dX11_runCommands_25 rfl (lv_at hl 2 rfl) ?_
    refine lv_iconst (v := 0) K.1.1 K.1.2.1 dX11_runCommands_26 (by decide) ?_
    refine m_puti K hP hS (by decide) sh_259 rfl tuX11 tyX11 tyX11_ok nmX11 10 (by decide) rfl rfl (by decide +kernel) q_1160 dX11_runCommands_27 (fun H locs hP hS => ?_)
    refine lv_aload_n K.1.1 K.1.2.1 dX11_runCommands_30 rfl (lv_at hl 2 rfl) ?_
    refine m_cV (n := 0) (As := []) (rest := []) K hP hS (MX11_passesSpaces l G B _  (MC_0 (by subst er_1; rw [M_records_259 _ _ (by decide), fault_ne (by decide) (by decide)]; exact hl9))) (by decide) sh_259 rfl q_1502 q_1504 q_73 q_91 q_1505 hv_X11_passesSpaces ⟨Nat.le_of_ble_eq_true rfl, Nat.le_of_ble_eq_true rfl⟩ rfl hl.1 rfl (Nat.le_of_ble_eq_true rfl) dX11_runCommands_31 ⟨Nat.zero_le _, Nat.zero_le _⟩ (fun H locs hP hS => ?_)
    refine W.eq (g2 := F0 m 34 ls []) rfl ?_
    refine lv_aload_n K.1.1 K.1.2.1 dX11_runCommands_34 rfl (lv_at hl 2 rfl) ?_
    refine m_geti K hP (by decide) sh_259 rfl tuX11 10 (by decide) rfl q_1160 dX11_runCommands_35 ?_
    refine lv_topi (fun g_2 eg_2 => ?_)
    refine lv_aload_n K.1.1 K.1.2.1 dX11_runCommands_38 rfl (lv_at hl 2 rfl) ?_
    refine m_geti K hP (by decide) sh_259 rfl tuX11 9 (by decide) rfl q_1159 dX11_runCommands_39 ?_
    refine lv_topi (fun g_3 eg_3 => ?_)
    refine lv_icmp_ge (tgt := 49) K.1.1 K.1.2.1 dX11_runCommands_42 (by decide) (fun c_42 => ?_) (fun c_42 => ?_)
    · refine lv_iconst (v := 0) K.1.1 K.1.2.1 dX11_runCommands_49 (by decide) ?_
      refine lv_istore_n (lv' := [(3, .int 0), (2, .int 0), (1, .int r_1), (0, .ref (B + 259))]) K.1.1 K.1.2.1 dX11_runCommands_50 rfl hl (by decide) rfl (fun ls hl => ?_)
      have lp_51 : ∀ n : Nat, ∀ (v3_51 : Int32) (v2_51 : Int32) (μ_51 : Mm) (H : Heap) (locs : List Loc) (ls : Array Slot), (¬ v3_51 = 0 → RCok n μ_51) → ((if M_runS μ 259 10 < M_runS μ 259 9 then RC (NN 151) (M_runS μ) 0 else (M_runS μ, 0)) = (if v3_51 = 0 then (μ_51, v2_51) else RC n μ_51 v2_51)) → MP G B μ_51 H → va_S (AA B) s.heap H locs → lv_has ls 4 [(3, .int v3_51), (2, .int v2_51), (1, .int r_1), (0, .ref (B + 259))] → W p l e ({ frames := 8, cells := 0, slots := 0, locals := 188 } : Room) s m ([.ref (B + 259)] : List Value).toArray below meth c H locs 0 0 (MF below G B (some (.int ((M_run μ).2))) ((M_run μ).1) ([.ref (B + 259)] : List Value).toArray s) (F0 m 51 ls []) := by
        intro n
        induction n with
        | zero =>
          intro v3_51 v2_51 μ_51 H locs ls inv0_51 fin0_51 hP hS hl
          refine lv_iload_n K.1.1 K.1.2.1 dX11_runCommands_51 rfl (lv_at hl 0 rfl) ?_
          refine lv_if_eq (tgt := 111) K.1.1 K.1.2.1 dX11_runCommands_52 (by decide) (fun c_52 => ?_) (fun c_52 => ?_)
          · refine lv_iload_n K.1.1 K.1.2.1 dX11_runCommands_111 rfl (lv_at hl 1 rfl) ?_
            exact m_iret K hr hlocks hP hS dX11_runCommands_112 (by subst er_1 eg_2 eg_3; rw [M_run, if_pos (show (M_faultOf (M_thr μ 0)).2 < 0 from c_11), fin0_51, if_pos c_52]) (by subst er_1 eg_2 eg_3; rw [M_run, if_pos (show (M_faultOf (M_thr μ 0)).2 < 0 from c_11), fin0_51, if_pos c_52])
          · exact absurd c_52 (fun h => inv0_51 h)
        | succ n ih_51 =>
          intro v3_51 v2_51 μ_51 H locs ls inv0_51 fin0_51 hP hS hl
          refine lv_iload_n K.1.1 K.1.2.1 dX11_runCommands_51 rfl (lv_at hl 0 rfl) ?_
          refine lv_if_eq (tgt := 111) K.1.1 K.1.2.1 dX11_runCommands_52 (by decide) (fun c_52 => ?_) (fun c_52 => ?_)
          · refine lv_iload_n K.1.1 K.1.2.1 dX11_runCommands_111 rfl (lv_at hl 1 rfl) ?_
            exact m_iret K hr hlocks hP hS dX11_runCommands_112 (by subst er_1 eg_2 eg_3; rw [M_run, if_pos (show (M_faultOf (M_thr μ 0)).2 < 0 from c_11), fin0_51, if_pos c_52]) (by subst er_1 eg_2 eg_3; rw [M_run, if_pos (show (M_faultOf (M_thr μ 0)).2 < 0 from c_11), fin0_51, if_pos c_52])
          · refine lv_aload_n K.1.1 K.1.2.1 dX11_runCommands_55 rfl (lv_at hl 3 rfl) ?_
            refine m_cV (n := 0) (As := []) (rest := []) K hP hS (MX11_passesCommand l G B _  (inv0_51 c_52).2.1) (by decide) sh_259 rfl q_1510 q_1512 q_75 q_91 q_1513 hv_X11_passesCommand ⟨Nat.le_of_ble_eq_true rfl, Nat.le_of_ble_eq_true rfl⟩ rfl hl.1 rfl (Nat.le_of_ble_eq_true rfl) dX11_runCommands_56 ⟨Nat.zero_le _, Nat.zero_le _⟩ (fun H locs hP hS => ?_)
            refine lv_topi (fun r_4 er_4 => ?_)
            refine lv_if_eq (tgt := 73) K.1.1 K.1.2.1 dX11_runCommands_59 (by decide) (fun c_59 => ?_) (fun c_59 => ?_)
            · refine lv_iconst (v := 0) K.1.1 K.1.2.1 dX11_runCommands_73 (by decide) ?_
              refine lv_istore_n (lv' := [(3, .int 0), (2, .int v2_51), (1, .int r_1), (0, .ref (B + 259))]) K.1.1 K.1.2.1 dX11_runCommands_74 rfl hl (by decide) rfl (fun ls hl => ?_)
              refine lv_iload_n K.1.1 K.1.2.1 dX11_runCommands_75 rfl (lv_at hl 1 rfl) ?_
              refine lv_iload_n K.1.1 K.1.2.1 dX11_runCommands_76 rfl (lv_at hl 0 rfl) ?_
              refine lv_if_eq (tgt := 84) K.1.1 K.1.2.1 dX11_runCommands_77 (by decide) (fun c_77 => ?_) (fun c_77 => ?_)
              · refine lv_iconst (v := 0) K.1.1 K.1.2.1 dX11_runCommands_84 (by decide) ?_
                refine lv_iadd K.1.1 K.1.2.1 dX11_runCommands_85 ?_
                refine lv_topi (fun x_5 ex_5 => ?_)
                refine lv_istore_n (lv' := [(2, .int x_5), (3, .int 0), (1, .int r_1), (0, .ref (B + 259))]) K.1.1 K.1.2.1 dX11_runCommands_86 rfl hl (by decide) rfl (fun ls hl => ?_)
                refine lv_iload_n K.1.1 K.1.2.1 dX11_runCommands_87 rfl (lv_at hl 1 rfl) ?_
                refine lv_if_eq (tgt := 106) K.1.1 K.1.2.1 dX11_runCommands_88 (by decide) (fun c_88 => ?_) (fun c_88 => ?_)
                · refine lv_iconst (v := 0) K.1.1 K.1.2.1 dX11_runCommands_106 (by decide) ?_
                  refine lv_istore_n (lv' := [(3, .int 0), (2, .int x_5), (1, .int r_1), (0, .ref (B + 259))]) K.1.1 K.1.2.1 dX11_runCommands_107 rfl hl (by decide) rfl (fun ls hl => ?_)
                  refine lv_goto (tgt := 51) K.1.1 K.1.2.1 dX11_runCommands_108 (by decide) ?_
                  exact ih_51 _ _ _ _ _ _ (by subst er_1 eg_2 eg_3 er_4 ex_5; exact fun h => absurd rfl h) (by subst er_1 eg_2 eg_3 er_4 ex_5; rw [fin0_51, if_neg c_52, RC_a c_59, if_pos rfl, Int32.add_zero]) hP hS (lv_sub hl [0, 1, 2, 3] rfl)
                · exact absurd c_88 (not_not_intro rfl)
              · exact absurd c_77 (not_not_intro rfl)
            · refine lv_aload_n K.1.1 K.1.2.1 dX11_runCommands_62 rfl (lv_at hl 3 rfl) ?_
              refine m_cV (n := 0) (As := []) (rest := []) K hP hS (MX11_does l G B _  (MI_of (inv0_51 c_52).1 (pc_k (by decide) (by decide))) (fun e => ((inv0_51 c_52).2.2 (by subst er_1 eg_2 eg_3 er_4; exact c_59) e).1)) (by decide) sh_259 rfl q_1531 q_1533 q_78 q_91 q_1534 hv_X11_does ⟨Nat.le_of_ble_eq_true rfl, Nat.le_of_ble_eq_true rfl⟩ rfl hl.1 rfl (Nat.le_of_ble_eq_true rfl) dX11_runCommands_63 ⟨Nat.zero_le _, Nat.zero_le _⟩ (fun H locs hP hS => ?_)
              refine lv_topi (fun r_6 er_6 => ?_)
              refine lv_if_ne (tgt := 73) K.1.1 K.1.2.1 dX11_runCommands_66 (by decide) (fun c_66 => ?_) (fun c_66 => ?_)
              · refine lv_iconst (v := 0) K.1.1 K.1.2.1 dX11_runCommands_73 (by decide) ?_
                refine lv_istore_n (lv' := [(3, .int 0), (2, .int v2_51), (1, .int r_1), (0, .ref (B + 259))]) K.1.1 K.1.2.1 dX11_runCommands_74 rfl hl (by decide) rfl (fun ls hl => ?_)
                refine lv_iload_n K.1.1 K.1.2.1 dX11_runCommands_75 rfl (lv_at hl 1 rfl) ?_
                refine lv_iload_n K.1.1 K.1.2.1 dX11_runCommands_76 rfl (lv_at hl 0 rfl) ?_
                refine lv_if_eq (tgt := 84) K.1.1 K.1.2.1 dX11_runCommands_77 (by decide) (fun c_77 => ?_) (fun c_77 => ?_)
                · refine lv_iconst (v := 0) K.1.1 K.1.2.1 dX11_runCommands_84 (by decide) ?_
                  refine lv_iadd K.1.1 K.1.2.1 dX11_runCommands_85 ?_
                  refine lv_topi (fun x_7 ex_7 => ?_)
                  refine lv_istore_n (lv' := [(2, .int x_7), (3, .int 0), (1, .int r_1), (0, .ref (B + 259))]) K.1.1 K.1.2.1 dX11_runCommands_86 rfl hl (by decide) rfl (fun ls hl => ?_)
                  refine lv_iload_n K.1.1 K.1.2.1 dX11_runCommands_87 rfl (lv_at hl 1 rfl) ?_
                  refine lv_if_eq (tgt := 106) K.1.1 K.1.2.1 dX11_runCommands_88 (by decide) (fun c_88 => ?_) (fun c_88 => ?_)
                  · refine lv_iconst (v := 0) K.1.1 K.1.2.1 dX11_runCommands_106 (by decide) ?_
                    refine lv_istore_n (lv' := [(3, .int 0), (2, .int x_7), (1, .int r_1), (0, .ref (B + 259))]) K.1.1 K.1.2.1 dX11_runCommands_107 rfl hl (by decide) rfl (fun ls hl => ?_)
                    refine lv_goto (tgt := 51) K.1.1 K.1.2.1 dX11_runCommands_108 (by decide) ?_
                    exact ih_51 _ _ _ _ _ _ (by subst er_1 eg_2 eg_3 er_4 er_6 ex_7; exact fun h => absurd rfl h) (by subst er_1 eg_2 eg_3 er_4 er_6 ex_7; rw [fin0_51, if_neg c_52, RC_b c_59 c_66, if_pos rfl, Int32.add_zero]) hP hS (lv_sub hl [0, 1, 2, 3] rfl)
                  · exact absurd c_88 (not_not_intro rfl)
                · exact absurd c_77 (not_not_intro rfl)
              · refine lv_iconst (v := 1) K.1.1 K.1.2.1 dX11_runCommands_69 (by decide) ?_
                refine lv_goto (tgt := 74) K.1.1 K.1.2.1 dX11_runCommands_70 (by decide) ?_
                refine lv_istore_n (lv' := [(3, .int 1), (2, .int v2_51), (1, .int r_1), (0, .ref (B + 259))]) K.1.1 K.1.2.1 dX11_runCommands_74 rfl hl (by decide) rfl (fun ls hl => ?_)
                refine lv_iload_n K.1.1 K.1.2.1 dX11_runCommands_75 rfl (lv_at hl 1 rfl) ?_
                refine lv_iload_n K.1.1 K.1.2.1 dX11_runCommands_76 rfl (lv_at hl 0 rfl) ?_
                refine lv_if_eq (tgt := 84) K.1.1 K.1.2.1 dX11_runCommands_77 (by decide) (fun c_77 => ?_) (fun c_77 => ?_)
                · exact absurd c_77 (by decide)
                · refine lv_iconst (v := 1) K.1.1 K.1.2.1 dX11_runCommands_80 (by decide) ?_
                  refine lv_goto (tgt := 85) K.1.1 K.1.2.1 dX11_runCommands_81 (by decide) ?_
                  refine lv_iadd K.1.1 K.1.2.1 dX11_runCommands_85 ?_
                  refine lv_topi (fun x_8 ex_8 => ?_)
                  refine lv_istore_n (lv' := [(2, .int x_8), (3, .int 1), (1, .int r_1), (0, .ref (B + 259))]) K.1.1 K.1.2.1 dX11_runCommands_86 rfl hl (by decide) rfl (fun ls hl => ?_)
                  refine lv_iload_n K.1.1 K.1.2.1 dX11_runCommands_87 rfl (lv_at hl 1 rfl) ?_
                  refine lv_if_eq (tgt := 106) K.1.1 K.1.2.1 dX11_runCommands_88 (by decide) (fun c_88 => ?_) (fun c_88 => ?_)
                  · exact absurd c_88 (by decide)
                  · refine lv_aload_n K.1.1 K.1.2.1 dX11_runCommands_91 rfl (lv_at hl 3 rfl) ?_
                    refine m_geti K hP (by decide) sh_259 rfl tuX11 10 (by decide) rfl q_1160 dX11_runCommands_92 ?_
                    refine lv_topi (fun g_9 eg_9 => ?_)
                    refine lv_aload_n K.1.1 K.1.2.1 dX11_runCommands_95 rfl (lv_at hl 3 rfl) ?_
                    refine m_geti K hP (by decide) sh_259 rfl tuX11 9 (by decide) rfl q_1159 dX11_runCommands_96 ?_
                    refine lv_topi (fun g_10 eg_10 => ?_)
                    refine lv_icmp_ge (tgt := 106) K.1.1 K.1.2.1 dX11_runCommands_99 (by decide) (fun c_99 => ?_) (fun c_99 => ?_)
                    · refine lv_iconst (v := 0) K.1.1 K.1.2.1 dX11_runCommands_106 (by decide) ?_
                      refine lv_istore_n (lv' := [(3, .int 0), (2, .int x_8), (1, .int r_1), (0, .ref (B + 259))]) K.1.1 K.1.2.1 dX11_runCommands_107 rfl hl (by decide) rfl (fun ls hl => ?_)
                      refine lv_goto (tgt := 51) K.1.1 K.1.2.1 dX11_runCommands_108 (by decide) ?_
                      exact ih_51 _ _ _ _ _ _ (by subst er_1 eg_2 eg_3 er_4 er_6 ex_8 eg_9 eg_10; exact fun h => absurd rfl h) (by subst er_1 eg_2 eg_3 er_4 er_6 ex_8 eg_9 eg_10; rw [fin0_51, if_neg c_52, RC_d c_59 c_66 (Int32.not_lt.mpr c_99), if_pos rfl]) hP hS (lv_sub hl [0, 1, 2, 3] rfl)
                    · refine lv_iconst (v := 1) K.1.1 K.1.2.1 dX11_runCommands_102 (by decide) ?_
                      refine lv_goto (tgt := 107) K.1.1 K.1.2.1 dX11_runCommands_103 (by decide) ?_
                      refine lv_istore_n (lv' := [(3, .int 1), (2, .int x_8), (1, .int r_1), (0, .ref (B + 259))]) K.1.1 K.1.2.1 dX11_runCommands_107 rfl hl (by decide) rfl (fun ls hl => ?_)
                      refine lv_goto (tgt := 51) K.1.1 K.1.2.1 dX11_runCommands_108 (by decide) ?_
                      exact ih_51 _ _ _ _ _ _ (by subst er_1 eg_2 eg_3 er_4 er_6 ex_8 eg_9 eg_10; exact fun _ => RCok_c (inv0_51 c_52) c_59 c_66 (Int32.not_le.mp c_99)) (by subst er_1 eg_2 eg_3 er_4 er_6 ex_8 eg_9 eg_10; rw [fin0_51, if_neg c_52, RC_c c_59 c_66 (Int32.not_le.mp c_99), if_neg (show ¬ (1 : Int32) = 0 from by decide)]) hP hS (lv_sub hl [0, 1, 2, 3] rfl)
      exact lp_51 (NN 151) _ _ _ _ _ _ (by subst er_1 eg_2 eg_3; exact fun h => absurd rfl h) (by subst er_1 eg_2 eg_3; rw [if_neg (show ¬ M_runS μ 259 10 < M_runS μ 259 9 from Int32.not_lt.mpr c_42), if_pos rfl]; rfl) hP hS (lv_sub hl [0, 1, 2, 3] rfl)
    · refine lv_iconst (v := 1) K.1.1 K.1.2.1 dX11_runCommands_45 (by decide) ?_
      refine lv_goto (tgt := 50) K.1.1 K.1.2.1 dX11_runCommands_46 (by decide) ?_
      refine lv_istore_n (lv' := [(3, .int 1), (2, .int 0), (1, .int r_1), (0, .ref (B + 259))]) K.1.1 K.1.2.1 dX11_runCommands_50 rfl hl (by decide) rfl (fun ls hl => ?_)
      have lp_51 : ∀ n : Nat, ∀ (v3_51 : Int32) (v2_51 : Int32) (μ_51 : Mm) (H : Heap) (locs : List Loc) (ls : Array Slot), (¬ v3_51 = 0 → RCok n μ_51) → ((if M_runS μ 259 10 < M_runS μ 259 9 then RC (NN 151) (M_runS μ) 0 else (M_runS μ, 0)) = (if v3_51 = 0 then (μ_51, v2_51) else RC n μ_51 v2_51)) → MP G B μ_51 H → va_S (AA B) s.heap H locs → lv_has ls 4 [(3, .int v3_51), (2, .int v2_51), (1, .int r_1), (0, .ref (B + 259))] → W p l e ({ frames := 8, cells := 0, slots := 0, locals := 188 } : Room) s m ([.ref (B + 259)] : List Value).toArray below meth c H locs 0 0 (MF below G B (some (.int ((M_run μ).2))) ((M_run μ).1) ([.ref (B + 259)] : List Value).toArray s) (F0 m 51 ls []) := by
        intro n
        induction n with
        | zero =>
          intro v3_51 v2_51 μ_51 H locs ls inv0_51 fin0_51 hP hS hl
          refine lv_iload_n K.1.1 K.1.2.1 dX11_runCommands_51 rfl (lv_at hl 0 rfl) ?_
          refine lv_if_eq (tgt := 111) K.1.1 K.1.2.1 dX11_runCommands_52 (by decide) (fun c_52 => ?_) (fun c_52 => ?_)
          · refine lv_iload_n K.1.1 K.1.2.1 dX11_runCommands_111 rfl (lv_at hl 1 rfl) ?_
            exact m_iret K hr hlocks hP hS dX11_runCommands_112 (by subst er_1 eg_2 eg_3; rw [M_run, if_pos (show (M_faultOf (M_thr μ 0)).2 < 0 from c_11), fin0_51, if_pos c_52]) (by subst er_1 eg_2 eg_3; rw [M_run, if_pos (show (M_faultOf (M_thr μ 0)).2 < 0 from c_11), fin0_51, if_pos c_52])
          · exact absurd c_52 (fun h => inv0_51 h)
        | succ n ih_51 =>
          intro v3_51 v2_51 μ_51 H locs ls inv0_51 fin0_51 hP hS hl
          refine lv_iload_n K.1.1 K.1.2.1 dX11_runCommands_51 rfl (lv_at hl 0 rfl) ?_
          refine lv_if_eq (tgt := 111) K.1.1 K.1.2.1 dX11_runCommands_52 (by decide) (fun c_52 => ?_) (fun c_52 => ?_)
          · refine lv_iload_n K.1.1 K.1.2.1 dX11_runCommands_111 rfl (lv_at hl 1 rfl) ?_
            exact m_iret K hr hlocks hP hS dX11_runCommands_112 (by subst er_1 eg_2 eg_3; rw [M_run, if_pos (show (M_faultOf (M_thr μ 0)).2 < 0 from c_11), fin0_51, if_pos c_52]) (by subst er_1 eg_2 eg_3; rw [M_run, if_pos (show (M_faultOf (M_thr μ 0)).2 < 0 from c_11), fin0_51, if_pos c_52])
          · refine lv_aload_n K.1.1 K.1.2.1 dX11_runCommands_55 rfl (lv_at hl 3 rfl) ?_
            refine m_cV (n := 0) (As := []) (rest := []) K hP hS (MX11_passesCommand l G B _  (inv0_51 c_52).2.1) (by decide) sh_259 rfl q_1510 q_1512 q_75 q_91 q_1513 hv_X11_passesCommand ⟨Nat.le_of_ble_eq_true rfl, Nat.le_of_ble_eq_true rfl⟩ rfl hl.1 rfl (Nat.le_of_ble_eq_true rfl) dX11_runCommands_56 ⟨Nat.zero_le _, Nat.zero_le _⟩ (fun H locs hP hS => ?_)
            refine lv_topi (fun r_11 er_11 => ?_)
            refine lv_if_eq (tgt := 73) K.1.1 K.1.2.1 dX11_runCommands_59 (by decide) (fun c_59 => ?_) (fun c_59 => ?_)
            · refine lv_iconst (v := 0) K.1.1 K.1.2.1 dX11_runCommands_73 (by decide) ?_
              refine lv_istore_n (lv' := [(3, .int 0), (2, .int v2_51), (1, .int r_1), (0, .ref (B + 259))]) K.1.1 K.1.2.1 dX11_runCommands_74 rfl hl (by decide) rfl (fun ls hl => ?_)
              refine lv_iload_n K.1.1 K.1.2.1 dX11_runCommands_75 rfl (lv_at hl 1 rfl) ?_
              refine lv_iload_n K.1.1 K.1.2.1 dX11_runCommands_76 rfl (lv_at hl 0 rfl) ?_
              refine lv_if_eq (tgt := 84) K.1.1 K.1.2.1 dX11_runCommands_77 (by decide) (fun c_77 => ?_) (fun c_77 => ?_)
              · refine lv_iconst (v := 0) K.1.1 K.1.2.1 dX11_runCommands_84 (by decide) ?_
                refine lv_iadd K.1.1 K.1.2.1 dX11_runCommands_85 ?_
                refine lv_topi (fun x_12 ex_12 => ?_)
                refine lv_istore_n (lv' := [(2, .int x_12), (3, .int 0), (1, .int r_1), (0, .ref (B + 259))]) K.1.1 K.1.2.1 dX11_runCommands_86 rfl hl (by decide) rfl (fun ls hl => ?_)
                refine lv_iload_n K.1.1 K.1.2.1 dX11_runCommands_87 rfl (lv_at hl 1 rfl) ?_
                refine lv_if_eq (tgt := 106) K.1.1 K.1.2.1 dX11_runCommands_88 (by decide) (fun c_88 => ?_) (fun c_88 => ?_)
                · refine lv_iconst (v := 0) K.1.1 K.1.2.1 dX11_runCommands_106 (by decide) ?_
                  refine lv_istore_n (lv' := [(3, .int 0), (2, .int x_12), (1, .int r_1), (0, .ref (B + 259))]) K.1.1 K.1.2.1 dX11_runCommands_107 rfl hl (by decide) rfl (fun ls hl => ?_)
                  refine lv_goto (tgt := 51) K.1.1 K.1.2.1 dX11_runCommands_108 (by decide) ?_
                  exact ih_51 _ _ _ _ _ _ (by subst er_1 eg_2 eg_3 er_11 ex_12; exact fun h => absurd rfl h) (by subst er_1 eg_2 eg_3 er_11 ex_12; rw [fin0_51, if_neg c_52, RC_a c_59, if_pos rfl, Int32.add_zero]) hP hS (lv_sub hl [0, 1, 2, 3] rfl)
                · exact absurd c_88 (not_not_intro rfl)
              · exact absurd c_77 (not_not_intro rfl)
            · refine lv_aload_n K.1.1 K.1.2.1 dX11_runCommands_62 rfl (lv_at hl 3 rfl) ?_
              refine m_cV (n := 0) (As := []) (rest := []) K hP hS (MX11_does l G B _  (MI_of (inv0_51 c_52).1 (pc_k (by decide) (by decide))) (fun e => ((inv0_51 c_52).2.2 (by subst er_1 eg_2 eg_3 er_11; exact c_59) e).1)) (by decide) sh_259 rfl q_1531 q_1533 q_78 q_91 q_1534 hv_X11_does ⟨Nat.le_of_ble_eq_true rfl, Nat.le_of_ble_eq_true rfl⟩ rfl hl.1 rfl (Nat.le_of_ble_eq_true rfl) dX11_runCommands_63 ⟨Nat.zero_le _, Nat.zero_le _⟩ (fun H locs hP hS => ?_)
              refine lv_topi (fun r_13 er_13 => ?_)
              refine lv_if_ne (tgt := 73) K.1.1 K.1.2.1 dX11_runCommands_66 (by decide) (fun c_66 => ?_) (fun c_66 => ?_)
              · refine lv_iconst (v := 0) K.1.1 K.1.2.1 dX11_runCommands_73 (by decide) ?_
                refine lv_istore_n (lv' := [(3, .int 0), (2, .int v2_51), (1, .int r_1), (0, .ref (B + 259))]) K.1.1 K.1.2.1 dX11_runCommands_74 rfl hl (by decide) rfl (fun ls hl => ?_)
                refine lv_iload_n K.1.1 K.1.2.1 dX11_runCommands_75 rfl (lv_at hl 1 rfl) ?_
                refine lv_iload_n K.1.1 K.1.2.1 dX11_runCommands_76 rfl (lv_at hl 0 rfl) ?_
                refine lv_if_eq (tgt := 84) K.1.1 K.1.2.1 dX11_runCommands_77 (by decide) (fun c_77 => ?_) (fun c_77 => ?_)
                · refine lv_iconst (v := 0) K.1.1 K.1.2.1 dX11_runCommands_84 (by decide) ?_
                  refine lv_iadd K.1.1 K.1.2.1 dX11_runCommands_85 ?_
                  refine lv_topi (fun x_14 ex_14 => ?_)
                  refine lv_istore_n (lv' := [(2, .int x_14), (3, .int 0), (1, .int r_1), (0, .ref (B + 259))]) K.1.1 K.1.2.1 dX11_runCommands_86 rfl hl (by decide) rfl (fun ls hl => ?_)
                  refine lv_iload_n K.1.1 K.1.2.1 dX11_runCommands_87 rfl (lv_at hl 1 rfl) ?_
                  refine lv_if_eq (tgt := 106) K.1.1 K.1.2.1 dX11_runCommands_88 (by decide) (fun c_88 => ?_) (fun c_88 => ?_)
                  · refine lv_iconst (v := 0) K.1.1 K.1.2.1 dX11_runCommands_106 (by decide) ?_
                    refine lv_istore_n (lv' := [(3, .int 0), (2, .int x_14), (1, .int r_1), (0, .ref (B + 259))]) K.1.1 K.1.2.1 dX11_runCommands_107 rfl hl (by decide) rfl (fun ls hl => ?_)
                    refine lv_goto (tgt := 51) K.1.1 K.1.2.1 dX11_runCommands_108 (by decide) ?_
                    exact ih_51 _ _ _ _ _ _ (by subst er_1 eg_2 eg_3 er_11 er_13 ex_14; exact fun h => absurd rfl h) (by subst er_1 eg_2 eg_3 er_11 er_13 ex_14; rw [fin0_51, if_neg c_52, RC_b c_59 c_66, if_pos rfl, Int32.add_zero]) hP hS (lv_sub hl [0, 1, 2, 3] rfl)
                  · exact absurd c_88 (not_not_intro rfl)
                · exact absurd c_77 (not_not_intro rfl)
              · refine lv_iconst (v := 1) K.1.1 K.1.2.1 dX11_runCommands_69 (by decide) ?_
                refine lv_goto (tgt := 74) K.1.1 K.1.2.1 dX11_runCommands_70 (by decide) ?_
                refine lv_istore_n (lv' := [(3, .int 1), (2, .int v2_51), (1, .int r_1), (0, .ref (B + 259))]) K.1.1 K.1.2.1 dX11_runCommands_74 rfl hl (by decide) rfl (fun ls hl => ?_)
                refine lv_iload_n K.1.1 K.1.2.1 dX11_runCommands_75 rfl (lv_at hl 1 rfl) ?_
                refine lv_iload_n K.1.1 K.1.2.1 dX11_runCommands_76 rfl (lv_at hl 0 rfl) ?_
                refine lv_if_eq (tgt := 84) K.1.1 K.1.2.1 dX11_runCommands_77 (by decide) (fun c_77 => ?_) (fun c_77 => ?_)
                · exact absurd c_77 (by decide)
                · refine lv_iconst (v := 1) K.1.1 K.1.2.1 dX11_runCommands_80 (by decide) ?_
                  refine lv_goto (tgt := 85) K.1.1 K.1.2.1 dX11_runCommands_81 (by decide) ?_
                  refine lv_iadd K.1.1 K.1.2.1 dX11_runCommands_85 ?_
                  refine lv_topi (fun x_15 ex_15 => ?_)
                  refine lv_istore_n (lv' := [(2, .int x_15), (3, .int 1), (1, .int r_1), (0, .ref (B + 259))]) K.1.1 K.1.2.1 dX11_runCommands_86 rfl hl (by decide) rfl (fun ls hl => ?_)
                  refine lv_iload_n K.1.1 K.1.2.1 dX11_runCommands_87 rfl (lv_at hl 1 rfl) ?_
                  refine lv_if_eq (tgt := 106) K.1.1 K.1.2.1 dX11_runCommands_88 (by decide) (fun c_88 => ?_) (fun c_88 => ?_)
                  · exact absurd c_88 (by decide)
                  · refine lv_aload_n K.1.1 K.1.2.1 dX11_runCommands_91 rfl (lv_at hl 3 rfl) ?_
                    refine m_geti K hP (by decide) sh_259 rfl tuX11 10 (by decide) rfl q_1160 dX11_runCommands_92 ?_
                    refine lv_topi (fun g_16 eg_16 => ?_)
                    refine lv_aload_n K.1.1 K.1.2.1 dX11_runCommands_95 rfl (lv_at hl 3 rfl) ?_
                    refine m_geti K hP (by decide) sh_259 rfl tuX11 9 (by decide) rfl q_1159 dX11_runCommands_96 ?_
                    refine lv_topi (fun g_17 eg_17 => ?_)
                    refine lv_icmp_ge (tgt := 106) K.1.1 K.1.2.1 dX11_runCommands_99 (by decide) (fun c_99 => ?_) (fun c_99 => ?_)
                    · refine lv_iconst (v := 0) K.1.1 K.1.2.1 dX11_runCommands_106 (by decide) ?_
                      refine lv_istore_n (lv' := [(3, .int 0), (2, .int x_15), (1, .int r_1), (0, .ref (B + 259))]) K.1.1 K.1.2.1 dX11_runCommands_107 rfl hl (by decide) rfl (fun ls hl => ?_)
                      refine lv_goto (tgt := 51) K.1.1 K.1.2.1 dX11_runCommands_108 (by decide) ?_
                      exact ih_51 _ _ _ _ _ _ (by subst er_1 eg_2 eg_3 er_11 er_13 ex_15 eg_16 eg_17; exact fun h => absurd rfl h) (by subst er_1 eg_2 eg_3 er_11 er_13 ex_15 eg_16 eg_17; rw [fin0_51, if_neg c_52, RC_d c_59 c_66 (Int32.not_lt.mpr c_99), if_pos rfl]) hP hS (lv_sub hl [0, 1, 2, 3] rfl)
                    · refine lv_iconst (v := 1) K.1.1 K.1.2.1 dX11_runCommands_102 (by decide) ?_
                      refine lv_goto (tgt := 107) K.1.1 K.1.2.1 dX11_runCommands_103 (by decide) ?_
                      refine lv_istore_n (lv' := [(3, .int 1), (2, .int x_15), (1, .int r_1), (0, .ref (B + 259))]) K.1.1 K.1.2.1 dX11_runCommands_107 rfl hl (by decide) rfl (fun ls hl => ?_)
                      refine lv_goto (tgt := 51) K.1.1 K.1.2.1 dX11_runCommands_108 (by decide) ?_
                      exact ih_51 _ _ _ _ _ _ (by subst er_1 eg_2 eg_3 er_11 er_13 ex_15 eg_16 eg_17; exact fun _ => RCok_c (inv0_51 c_52) c_59 c_66 (Int32.not_le.mp c_99)) (by subst er_1 eg_2 eg_3 er_11 er_13 ex_15 eg_16 eg_17; rw [fin0_51, if_neg c_52, RC_c c_59 c_66 (Int32.not_le.mp c_99), if_neg (show ¬ (1 : Int32) = 0 from by decide)]) hP hS (lv_sub hl [0, 1, 2, 3] rfl)
      exact lp_51 (NN 151) _ _ _ _ _ _ (by subst er_1 eg_2 eg_3; exact fun _ => hrc c_11 (Int32.not_le.mp c_42)) (by subst er_1 eg_2 eg_3; rw [if_pos (show M_runS μ 259 10 < M_runS μ 259 9 from Int32.not_le.mp c_42), if_neg (show ¬ (1 : Int32) = 0 from by decide)]; rfl) hP hS (lv_sub hl [0, 1, 2, 3] rfl)
  · refine lv_bipush (v := (-10)) K.1.1 K.1.2.1 dX11_runCommands_14 (by decide) ?_
    refine lv_iload_n K.1.1 K.1.2.1 dX11_runCommands_16 rfl (lv_at hl 0 rfl) ?_
    refine lv_isub K.1.1 K.1.2.1 dX11_runCommands_17 ?_
    exact m_iret K hr hlocks hP hS dX11_runCommands_18 (by subst er_1; rw [M_run, if_neg (show ¬ (M_faultOf (M_thr μ 0)).2 < 0 from c_11)]; first | done | rfl) (by subst er_1; rw [M_run, if_neg (show ¬ (M_faultOf (M_thr μ 0)).2 < 0 from c_11)]; first | done | rfl)

set_option maxHeartbeats 4000000 in
set_option maxRecDepth 100000 in
theorem MX11_digestTrader (l : Launch) (G : GG) (B : Nat) (μ : Mm) (hh : Int64) (t : Int32) (hI : MI μ) (ht : vp_in t 8) : CM l yX11_digestTrader (.code yX11_digestTrader cX11_digestTrader 7 (Option.some FieldType.long)) 4 90 G B [.ref (B + 259), .long hh, .int t] μ (some (.long (M_dgT μ t hh (NN 10)))) μ := by
  refine CM.of (by decide) (Nat.le_of_ble_eq_true rfl) ?_
  intro p e s m below meth c ls K hr hlocks hP hl
  have hS : va_S (AA B) s.heap s.heap [] := va_S.rf
  have hl : lv_has ls 7 [(0, .ref (B + 259)), (1, .long hh), (3, .int t)] := hl
  refine lv_lload_n K.1.1 K.1.2.1 dX11_digestTrader_0 rfl (lv_at hl 1 rfl) ?_
  refine lv_lstore (lv' := [(4, .long hh), (0, .ref (B + 259)), (1, .long hh), (3, .int t)]) K.1.1 K.1.2.1 dX11_digestTrader_1 hl (by decide) rfl (fun ls hl => ?_)
  refine lv_iconst (v := 0) K.1.1 K.1.2.1 dX11_digestTrader_3 (by decide) ?_
  refine lv_istore (lv' := [(6, .int 0), (4, .long hh), (0, .ref (B + 259)), (1, .long hh), (3, .int t)]) K.1.1 K.1.2.1 dX11_digestTrader_4 hl (by decide) rfl (fun ls hl => ?_)
  refine up_to (N := NN 10) (P := fun k : Nat => ∀ (v6_6 : Int32) (v4_6 : Int64) (H : Heap) (locs : List Loc) (ls : Array Slot), (v6_6 = nI k) → (v4_6 = M_dgT μ t hh k) → MP G B μ H → va_S (AA B) s.heap H locs → lv_has ls 7 [(6, .int v6_6), (4, .long v4_6), (0, .ref (B + 259)), (1, .long hh), (3, .int t)] → W p l e ({ frames := 4, cells := 0, slots := 0, locals := 90 } : Room) s m ([.ref (B + 259), .long hh, .int t] : List Value).toArray below meth c H locs 0 0 (MF below G B (some (.long (M_dgT μ t hh (NN 10)))) μ ([.ref (B + 259), .long hh, .int t] : List Value).toArray s) (F0 m 6 ls [])) ?_ ?_ _ _ _ _ _ (by first | rfl | (skip; rfl)) (by first | rfl | (skip; rfl)) hP hS (lv_sub hl [0, 1, 2, 3, 4] rfl)
  · intro v6_6 v4_6 H locs ls ev6_6 ev4_6 hP hS hl
    refine lv_iload K.1.1 K.1.2.1 dX11_digestTrader_6 (lv_at hl 0 rfl) ?_
    refine lv_bipush (v := 10) K.1.1 K.1.2.1 dX11_digestTrader_8 (by decide) ?_
    refine lv_icmp_ge (tgt := 36) K.1.1 K.1.2.1 dX11_digestTrader_10 (by decide) (fun c_10 => ?_) (fun c_10 => ?_)
    · refine lv_lload K.1.1 K.1.2.1 dX11_digestTrader_36 (lv_at hl 1 rfl) ?_
      exact m_lret K hr hlocks hP hS dX11_digestTrader_38 (by subst ev6_6 ev4_6; rfl) rfl
    · exact absurd c_10 (not_not_intro (by subst ev6_6 ev4_6; rw [NN_eq]; decide))
  · intro k hk ih_6 v6_6 v4_6 H locs ls ev6_6 ev4_6 hP hS hl
    rw [NN_eq] at hk
    refine lv_iload K.1.1 K.1.2.1 dX11_digestTrader_6 (lv_at hl 0 rfl) ?_
    refine lv_bipush (v := 10) K.1.1 K.1.2.1 dX11_digestTrader_8 (by decide) ?_
    refine lv_icmp_ge (tgt := 36) K.1.1 K.1.2.1 dX11_digestTrader_10 (by decide) (fun c_10 => ?_) (fun c_10 => ?_)
    · exact absurd c_10 (by subst ev6_6 ev4_6; exact nI_ge (a := k) (b := 10) hk (by decide))
    · refine lv_ldc2 (own := RX11) (v := 31) K.1.1 K.1.2.1 K.1.2.2.2.1 (K.w q_1540) dX11_digestTrader_13 ?_
      refine lv_lload K.1.1 K.1.2.1 dX11_digestTrader_16 (lv_at hl 1 rfl) ?_
      refine lv_lmul K.1.1 K.1.2.1 dX11_digestTrader_18 ?_
      refine lv_aload_n K.1.1 K.1.2.1 dX11_digestTrader_19 rfl (lv_at hl 2 rfl) ?_
      refine lv_iload_n K.1.1 K.1.2.1 dX11_digestTrader_20 rfl (lv_at hl 4 rfl) ?_
      refine lv_iload K.1.1 K.1.2.1 dX11_digestTrader_21 (lv_at hl 0 rfl) ?_
      refine m_cV (n := 2) (As := [.int t, .int v6_6]) (rest := [.long (31 * v4_6)]) K hP hS (MX11_tellsTrader l G B _ t v6_6 hI ht (by subst ev6_6 ev4_6; exact vp_ofN (by decide) hk)) (by decide) sh_259 rfl q_1403 q_1405 q_63 q_91 q_1406 hv_X11_tellsTrader ⟨Nat.le_of_ble_eq_true rfl, Nat.le_of_ble_eq_true rfl⟩ rfl hl.1 rfl (Nat.le_of_ble_eq_true rfl) dX11_digestTrader_23 ⟨Nat.zero_le _, Nat.zero_le _⟩ (fun H locs hP hS => ?_)
      refine lv_topi (fun r_1 er_1 => ?_)
      refine lv_i2l K.1.1 K.1.2.1 dX11_digestTrader_26 rfl ?_
      refine lv_ladd K.1.1 K.1.2.1 dX11_digestTrader_27 ?_
      refine lv_topl (fun x_2 ex_2 => ?_)
      refine lv_lstore (lv' := [(4, .long x_2), (6, .int v6_6), (0, .ref (B + 259)), (1, .long hh), (3, .int t)]) K.1.1 K.1.2.1 dX11_digestTrader_28 hl (by decide) rfl (fun ls hl => ?_)
      obtain ⟨x_3, ex_3⟩ : ∃ y : Int32, y = v6_6 + (1) := ⟨_, rfl⟩
      refine lv_iinc (v := x_3) (lv' := [(6, .int x_3), (4, .long x_2), (0, .ref (B + 259)), (1, .long hh), (3, .int t)]) K.1.1 K.1.2.1 dX11_digestTrader_30 hl (k := 1) rfl (by rw [ex_3]; rfl) (by decide) rfl (fun ls hl => ?_)
      refine lv_goto (tgt := 6) K.1.1 K.1.2.1 dX11_digestTrader_33 (by decide) ?_
      exact ih_6 _ _ _ _ _ (by subst ev6_6 ev4_6 er_1 ex_2 ex_3; exact nI_1 _) (by subst ev6_6 ev4_6 er_1 ex_2 ex_3; rfl) hP hS (lv_sub hl [0, 1, 2, 3, 4] rfl)

set_option maxHeartbeats 4000000 in
set_option maxRecDepth 100000 in
theorem MX11_digestOrder (l : Launch) (G : GG) (B : Nat) (μ : Mm) (hh : Int64) (k : Int32) (hI : MI μ) (hk : vp_in k 20) : CM l yX11_digestOrder (.code yX11_digestOrder cX11_digestOrder 7 (Option.some FieldType.long)) 5 113 G B [.ref (B + 259), .long hh, .int k] μ (some (.long (M_dgO μ k hh))) μ := by
  refine CM.of (by decide) (Nat.le_of_ble_eq_true rfl) ?_
  intro p e s m below meth c ls K hr hlocks hP hl
  have hS : va_S (AA B) s.heap s.heap [] := va_S.rf
  have hl : lv_has ls 7 [(0, .ref (B + 259)), (1, .long hh), (3, .int k)] := hl
  refine lv_ldc2 (own := RX11) (v := 31) K.1.1 K.1.2.1 K.1.2.2.2.1 (K.w q_1540) dX11_digestOrder_0 ?_
  refine lv_lload_n K.1.1 K.1.2.1 dX11_digestOrder_3 rfl (lv_at hl 1 rfl) ?_
  refine lv_lmul K.1.1 K.1.2.1 dX11_digestOrder_4 ?_
  refine lv_aload_n K.1.1 K.1.2.1 dX11_digestOrder_5 rfl (lv_at hl 0 rfl) ?_
  refine lv_iload_n K.1.1 K.1.2.1 dX11_digestOrder_6 rfl (lv_at hl 2 rfl) ?_
  refine lv_iconst (v := 0) K.1.1 K.1.2.1 dX11_digestOrder_7 (by decide) ?_
  refine m_cV (n := 2) (As := [.int k, .int 0]) (rest := [.long (31 * hh)]) K hP hS (MX11_ofO l G B _ k 0 (loO hk (vpd rfl))) (by decide) sh_259 rfl q_1291 q_1293 q_39 q_91 q_1294 hv_X11_ofO ⟨Nat.le_of_ble_eq_true rfl, Nat.le_of_ble_eq_true rfl⟩ rfl hl.1 rfl (Nat.le_of_ble_eq_true rfl) dX11_digestOrder_8 ⟨Nat.zero_le _, Nat.zero_le _⟩ (fun H locs hP hS => ?_)
  refine lv_topi (fun r_1 er_1 => ?_)
  refine lv_i2l K.1.1 K.1.2.1 dX11_digestOrder_11 rfl ?_
  refine lv_ladd K.1.1 K.1.2.1 dX11_digestOrder_12 ?_
  refine lv_topl (fun x_2 ex_2 => ?_)
  refine lv_lstore (lv' := [(4, .long x_2), (0, .ref (B + 259)), (1, .long hh), (3, .int k)]) K.1.1 K.1.2.1 dX11_digestOrder_13 hl (by decide) rfl (fun ls hl => ?_)
  refine lv_iconst (v := 0) K.1.1 K.1.2.1 dX11_digestOrder_15 (by decide) ?_
  refine lv_istore (lv' := [(6, .int 0), (4, .long x_2), (0, .ref (B + 259)), (1, .long hh), (3, .int k)]) K.1.1 K.1.2.1 dX11_digestOrder_16 hl (by decide) rfl (fun ls hl => ?_)
  refine up_to (N := NN 5) (P := fun q : Nat => ∀ (v6_18 : Int32) (v4_18 : Int64) (H : Heap) (locs : List Loc) (ls : Array Slot), (v6_18 = nI q) → (v4_18 = M_dgO1 μ k hh q) → MP G B μ H → va_S (AA B) s.heap H locs → lv_has ls 7 [(6, .int v6_18), (4, .long v4_18), (0, .ref (B + 259)), (1, .long hh), (3, .int k)] → W p l e ({ frames := 5, cells := 0, slots := 0, locals := 113 } : Room) s m ([.ref (B + 259), .long hh, .int k] : List Value).toArray below meth c H locs 0 0 (MF below G B (some (.long (M_dgO μ k hh))) μ ([.ref (B + 259), .long hh, .int k] : List Value).toArray s) (F0 m 18 ls [])) ?_ ?_ _ _ _ _ _ (by first | rfl | (subst er_1 ex_2; rfl)) (by first | rfl | (subst er_1 ex_2; rfl)) hP hS (lv_sub hl [0, 1, 2, 3, 4] rfl)
  · intro v6_18 v4_18 H locs ls ev6_18 ev4_18 hP hS hl
    refine lv_iload K.1.1 K.1.2.1 dX11_digestOrder_18 (lv_at hl 0 rfl) ?_
    refine lv_iconst (v := 5) K.1.1 K.1.2.1 dX11_digestOrder_20 (by decide) ?_
    refine lv_icmp_ge (tgt := 47) K.1.1 K.1.2.1 dX11_digestOrder_21 (by decide) (fun c_21 => ?_) (fun c_21 => ?_)
    · refine lv_ldc2 (own := RX11) (v := 31) K.1.1 K.1.2.1 K.1.2.2.2.1 (K.w q_1540) dX11_digestOrder_47 ?_
      refine lv_lload K.1.1 K.1.2.1 dX11_digestOrder_50 (lv_at hl 1 rfl) ?_
      refine lv_lmul K.1.1 K.1.2.1 dX11_digestOrder_52 ?_
      refine lv_aload_n K.1.1 K.1.2.1 dX11_digestOrder_53 rfl (lv_at hl 2 rfl) ?_
      refine lv_iload_n K.1.1 K.1.2.1 dX11_digestOrder_54 rfl (lv_at hl 4 rfl) ?_
      refine m_cV (n := 1) (As := [.int k]) (rest := [.long (31 * v4_18)]) K hP hS (MX11_fillOf l G B _ k hI hk) (by decide) sh_259 rfl q_1363 q_1365 q_54 q_91 q_1366 hv_X11_fillOf ⟨Nat.le_of_ble_eq_true rfl, Nat.le_of_ble_eq_true rfl⟩ rfl hl.1 rfl (Nat.le_of_ble_eq_true rfl) dX11_digestOrder_55 ⟨Nat.zero_le _, Nat.zero_le _⟩ (fun H locs hP hS => ?_)
      refine lv_topi (fun r_3 er_3 => ?_)
      refine lv_i2l K.1.1 K.1.2.1 dX11_digestOrder_58 rfl ?_
      refine lv_ladd K.1.1 K.1.2.1 dX11_digestOrder_59 ?_
      exact m_lret K hr hlocks hP hS dX11_digestOrder_60 (by subst er_1 ex_2 ev6_18 ev4_18 er_3; rfl) rfl
    · exact absurd c_21 (not_not_intro (by subst er_1 ex_2 ev6_18 ev4_18; rw [NN_eq]; decide))
  · intro q hq ih_18 v6_18 v4_18 H locs ls ev6_18 ev4_18 hP hS hl
    rw [NN_eq] at hq
    refine lv_iload K.1.1 K.1.2.1 dX11_digestOrder_18 (lv_at hl 0 rfl) ?_
    refine lv_iconst (v := 5) K.1.1 K.1.2.1 dX11_digestOrder_20 (by decide) ?_
    refine lv_icmp_ge (tgt := 47) K.1.1 K.1.2.1 dX11_digestOrder_21 (by decide) (fun c_21 => ?_) (fun c_21 => ?_)
    · exact absurd c_21 (by subst er_1 ex_2 ev6_18 ev4_18; exact nI_ge (a := q) (b := 5) hq (by decide))
    · refine lv_ldc2 (own := RX11) (v := 31) K.1.1 K.1.2.1 K.1.2.2.2.1 (K.w q_1540) dX11_digestOrder_24 ?_
      refine lv_lload K.1.1 K.1.2.1 dX11_digestOrder_27 (lv_at hl 1 rfl) ?_
      refine lv_lmul K.1.1 K.1.2.1 dX11_digestOrder_29 ?_
      refine lv_aload_n K.1.1 K.1.2.1 dX11_digestOrder_30 rfl (lv_at hl 2 rfl) ?_
      refine lv_iload_n K.1.1 K.1.2.1 dX11_digestOrder_31 rfl (lv_at hl 4 rfl) ?_
      refine lv_iload K.1.1 K.1.2.1 dX11_digestOrder_32 (lv_at hl 0 rfl) ?_
      refine m_cV (n := 2) (As := [.int k, .int v6_18]) (rest := [.long (31 * v4_18)]) K hP hS (MX11_tellsOrder l G B _ k v6_18 hI hk (by subst er_1 ex_2 ev6_18 ev4_18; exact vp_ofN (by decide) hq)) (by decide) sh_259 rfl q_1415 q_1417 q_65 q_91 q_1418 hv_X11_tellsOrder ⟨Nat.le_of_ble_eq_true rfl, Nat.le_of_ble_eq_true rfl⟩ rfl hl.1 rfl (Nat.le_of_ble_eq_true rfl) dX11_digestOrder_34 ⟨Nat.zero_le _, Nat.zero_le _⟩ (fun H locs hP hS => ?_)
      refine lv_topi (fun r_4 er_4 => ?_)
      refine lv_i2l K.1.1 K.1.2.1 dX11_digestOrder_37 rfl ?_
      refine lv_ladd K.1.1 K.1.2.1 dX11_digestOrder_38 ?_
      refine lv_topl (fun x_5 ex_5 => ?_)
      refine lv_lstore (lv' := [(4, .long x_5), (6, .int v6_18), (0, .ref (B + 259)), (1, .long hh), (3, .int k)]) K.1.1 K.1.2.1 dX11_digestOrder_39 hl (by decide) rfl (fun ls hl => ?_)
      obtain ⟨x_6, ex_6⟩ : ∃ y : Int32, y = v6_18 + (1) := ⟨_, rfl⟩
      refine lv_iinc (v := x_6) (lv' := [(6, .int x_6), (4, .long x_5), (0, .ref (B + 259)), (1, .long hh), (3, .int k)]) K.1.1 K.1.2.1 dX11_digestOrder_41 hl (k := 1) rfl (by rw [ex_6]; rfl) (by decide) rfl (fun ls hl => ?_)
      refine lv_goto (tgt := 18) K.1.1 K.1.2.1 dX11_digestOrder_44 (by decide) ?_
      exact ih_18 _ _ _ _ _ (by subst er_1 ex_2 ev6_18 ev4_18 er_4 ex_5 ex_6; exact nI_1 _) (by subst er_1 ex_2 ev6_18 ev4_18 er_4 ex_5 ex_6; rfl) hP hS (lv_sub hl [0, 1, 2, 3, 4] rfl)

