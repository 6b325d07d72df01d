set_option maxHeartbeats 4000000 in
set_option maxRecDepth 100000 in
theorem MX11_bestShade (l : Launch) (G : GG) (B : Nat) (μ : Mm) (t : Int32) (hI : MI μ) : CM l yX11_bestShade (.code yX11_bestShade cX11_bestShade 6 (Option.some FieldType.int)) 7 157 G B [.ref (B + 259), .int t] μ (some (.int ((M_bestShade μ t).2))) ((M_bestShade μ t).1) := by
  refine CM.of (by decide) (Nat.le_of_ble_eq_true rfl) ?_
  intro p e s m below meth c ls K hr hlocks hP hl
  have hS : va_S (AA B) s.heap s.heap [] := va_S.rf
  have hl : lv_has ls 6 [(0, .ref (B + 259)), (1, .int t)] := hl
  refine lv_aload_n K.1.1 K.1.2.1 dX11_bestShade_0 rfl (lv_at hl 0 rfl) ?_
  refine lv_aload_n K.1.1 K.1.2.1 dX11_bestShade_1 rfl (lv_at hl 0 rfl) ?_
  refine lv_iload_n K.1.1 K.1.2.1 dX11_bestShade_2 rfl (lv_at hl 1 rfl) ?_
  refine m_cV (n := 1) (As := [.int t]) (rest := [.ref (B + 259)]) K hP hS (MX11_isTrader l G B _ t ) (by decide) sh_259 rfl q_1236 q_1238 q_29 q_91 q_1239 hv_X11_isTrader ⟨Nat.le_of_ble_eq_true rfl, Nat.le_of_ble_eq_true rfl⟩ rfl hl.1 rfl (Nat.le_of_ble_eq_true rfl) dX11_bestShade_3 ⟨Nat.zero_le _, Nat.zero_le _⟩ (fun H locs hP hS => ?_)
  refine lv_topi (fun r_1 er_1 => ?_)
  refine lv_if_eq (tgt := 13) K.1.1 K.1.2.1 dX11_bestShade_6 (by decide) (fun c_6 => ?_) (fun c_6 => ?_)
  · refine lv_iconst (v := 1) K.1.1 K.1.2.1 dX11_bestShade_13 (by decide) ?_
    refine m_puti K hP hS (by decide) sh_259 rfl tuX11 tyX11 tyX11_ok nmX11 3 (by decide) rfl rfl (by decide +kernel) q_1153 dX11_bestShade_14 (fun H locs hP hS => ?_)
    refine lv_aload_n K.1.1 K.1.2.1 dX11_bestShade_17 rfl (lv_at hl 0 rfl) ?_
    refine m_geti K hP (by decide) sh_259 rfl tuX11 3 (by decide) rfl q_1153 dX11_bestShade_18 ?_
    refine lv_topi (fun g_2 eg_2 => ?_)
    refine lv_if_eq (tgt := 26) K.1.1 K.1.2.1 dX11_bestShade_21 (by decide) (fun c_21 => ?_) (fun c_21 => ?_)
    · exact absurd c_21 (by subst er_1 eg_2; rw [up2_s]; decide)
    · refine lv_iconst (v := 0) K.1.1 K.1.2.1 dX11_bestShade_24 (by decide) ?_
      exact m_iret K hr hlocks hP hS dX11_bestShade_25 (by subst er_1 eg_2; rw [M_bestShade, M_ask, isErr_1 c_6]; rfl) (by subst er_1 eg_2; rw [M_bestShade, M_ask, isErr_1 c_6]; rfl)
  · refine lv_iconst (v := 0) K.1.1 K.1.2.1 dX11_bestShade_9 (by decide) ?_
    refine lv_goto (tgt := 14) K.1.1 K.1.2.1 dX11_bestShade_10 (by decide) ?_
    refine m_puti K hP hS (by decide) sh_259 rfl tuX11 tyX11 tyX11_ok nmX11 3 (by decide) rfl rfl (by decide +kernel) q_1153 dX11_bestShade_14 (fun H locs hP hS => ?_)
    refine lv_aload_n K.1.1 K.1.2.1 dX11_bestShade_17 rfl (lv_at hl 0 rfl) ?_
    refine m_geti K hP (by decide) sh_259 rfl tuX11 3 (by decide) rfl q_1153 dX11_bestShade_18 ?_
    refine lv_topi (fun g_3 eg_3 => ?_)
    refine lv_if_eq (tgt := 26) K.1.1 K.1.2.1 dX11_bestShade_21 (by decide) (fun c_21 => ?_) (fun c_21 => ?_)
    · refine lv_aload_n K.1.1 K.1.2.1 dX11_bestShade_26 rfl (lv_at hl 0 rfl) ?_
      refine m_getr K hP (by decide) sh_259 rfl tuX11 0 (by decide) rfl q_1150 dX11_bestShade_27 ?_
      refine lv_iconst (v := 1) K.1.1 K.1.2.1 dX11_bestShade_30 (by decide) ?_
      refine m_iald K hP (by decide) sh_260 (n := 267) (vpd rfl) dX11_bestShade_31 ?_
      refine lv_topi (fun g_4 eg_4 => ?_)
      have eg_4 : g_4 = (_ : Mm) 260 1 := eg_4
      refine lv_bipush (v := 20) K.1.1 K.1.2.1 dX11_bestShade_32 (by decide) ?_
      refine lv_icmp_ne (tgt := 41) K.1.1 K.1.2.1 dX11_bestShade_34 (by decide) (fun c_34 => ?_) (fun c_34 => ?_)
      · have hJ : MI (up2 μ 259 3 0) := MI_ne hI (by decide)
        have hT : vp_in t 8 := isTrader_vp hI (by subst er_1 eg_3 eg_4; exact c_6)
        have hQ : vp_in ((up2 μ 259 3 0) 260 1) 20 := ne_vp hJ.2.1 (by subst er_1 eg_3 eg_4; exact c_34)
        refine lv_iconst (v := 0) K.1.1 K.1.2.1 dX11_bestShade_41 (by decide) ?_
        refine lv_istore_n (lv' := [(2, .int 0), (0, .ref (B + 259)), (1, .int t)]) K.1.1 K.1.2.1 dX11_bestShade_42 rfl hl (by decide) rfl (fun ls hl => ?_)
        refine lv_aload_n K.1.1 K.1.2.1 dX11_bestShade_43 rfl (lv_at hl 1 rfl) ?_
        refine lv_iload_n K.1.1 K.1.2.1 dX11_bestShade_44 rfl (lv_at hl 2 rfl) ?_
        refine lv_aload_n K.1.1 K.1.2.1 dX11_bestShade_45 rfl (lv_at hl 1 rfl) ?_
        refine lv_iload_n K.1.1 K.1.2.1 dX11_bestShade_46 rfl (lv_at hl 2 rfl) ?_
        refine lv_iconst (v := 0) K.1.1 K.1.2.1 dX11_bestShade_47 (by decide) ?_
        refine m_cV (n := 2) (As := [.int t, .int 0]) (rest := [.int t, .ref (B + 259)]) K hP hS (MX11_bidBy l G B _ t 0 hT) (by decide) sh_259 rfl q_1260 q_1262 q_34 q_91 q_1263 hv_X11_bidBy ⟨Nat.le_of_ble_eq_true rfl, Nat.le_of_ble_eq_true rfl⟩ rfl hl.1 rfl (Nat.le_of_ble_eq_true rfl) dX11_bestShade_48 ⟨Nat.zero_le _, Nat.zero_le _⟩ (fun H locs hP hS => ?_)
        refine lv_topi (fun r_5 er_5 => ?_)
        refine m_cV (n := 2) (As := [.int t, .int r_5]) (rest := []) K hP hS (MX11_gainBy l G B _ t r_5 hJ hT hQ) (by decide) sh_259 rfl q_1470 q_1472 q_71 q_91 q_1473 hv_X11_gainBy ⟨Nat.le_of_ble_eq_true rfl, Nat.le_of_ble_eq_true rfl⟩ rfl hl.1 rfl (Nat.le_of_ble_eq_true rfl) dX11_bestShade_51 ⟨Nat.zero_le _, Nat.zero_le _⟩ (fun H locs hP hS => ?_)
        refine lv_topi (fun r_6 er_6 => ?_)
        refine lv_istore_n (lv' := [(3, .int r_6), (2, .int 0), (0, .ref (B + 259)), (1, .int t)]) K.1.1 K.1.2.1 dX11_bestShade_54 rfl hl (by decide) rfl (fun ls hl => ?_)
        refine lv_iconst (v := 1) K.1.1 K.1.2.1 dX11_bestShade_55 (by decide) ?_
        refine lv_istore (lv' := [(4, .int 1), (3, .int r_6), (2, .int 0), (0, .ref (B + 259)), (1, .int t)]) K.1.1 K.1.2.1 dX11_bestShade_56 hl (by decide) rfl (fun ls hl => ?_)
        refine up_to (N := NN 50) (P := fun k : Nat => ∀ (v4_58 : Int32) (v3_58 : Int32) (v2_58 : Int32) (μ_58 : Mm) (H : Heap) (locs : List Loc) (ls : Array Slot), (v4_58 = nI (k + 1)) → (v3_58 = (MS_run (up2 μ 259 3 0) t k).2.2) → (v2_58 = (MS_run (up2 μ 259 3 0) t k).2.1) → (μ_58 = (MS_run (up2 μ 259 3 0) t k).1) → MP G B μ_58 H → va_S (AA B) s.heap H locs → lv_has ls 6 [(4, .int v4_58), (3, .int v3_58), (2, .int v2_58), (0, .ref (B + 259)), (1, .int t)] → W p l e ({ frames := 7, cells := 0, slots := 0, locals := 157 } : Room) s m ([.ref (B + 259), .int t] : List Value).toArray below meth c H locs 0 0 (MF below G B (some (.int ((M_bestShade μ t).2))) ((M_bestShade μ t).1) ([.ref (B + 259), .int t] : List Value).toArray s) (F0 m 58 ls [])) ?_ ?_ _ _ _ _ _ _ _ (by rfl) (by subst er_1 eg_3 eg_4 er_5 er_6; rw [MS_0]) (by rw [MS_0]) (by subst er_1 eg_3 eg_4 er_5 er_6; rw [MS_0]) hP hS (lv_sub hl [0, 1, 2, 3, 4] rfl)
        · intro v4_58 v3_58 v2_58 μ_58 H locs ls ev4_58 ev3_58 ev2_58 eμ_58 hP hS hl
          refine lv_iload K.1.1 K.1.2.1 dX11_bestShade_58 (lv_at hl 0 rfl) ?_
          refine lv_bipush (v := 50) K.1.1 K.1.2.1 dX11_bestShade_60 (by decide) ?_
          refine lv_icmp_gt (tgt := 111) K.1.1 K.1.2.1 dX11_bestShade_62 (by decide) (fun c_62 => ?_) (fun c_62 => ?_)
          · refine lv_iload_n K.1.1 K.1.2.1 dX11_bestShade_111 rfl (lv_at hl 2 rfl) ?_
            exact m_iret K hr hlocks hP hS dX11_bestShade_112 (by subst er_1 eg_3 eg_4 er_5 er_6 ev4_58 ev3_58 ev2_58 eμ_58; rw [M_bestShade, M_ask, isErr_0 c_6, if_pos rfl]; (try dsimp only); rw [if_neg (show ¬ (M_thr μ 0) 260 1 = 20 from c_34)]; first | done | rfl) (by subst er_1 eg_3 eg_4 er_5 er_6 ev4_58 ev3_58 ev2_58 eμ_58; rw [M_bestShade, M_ask, isErr_0 c_6, if_pos rfl]; (try dsimp only); rw [if_neg (show ¬ (M_thr μ 0) 260 1 = 20 from c_34)]; first | done | rfl)
          · exact absurd c_62 (not_not_intro (by subst er_1 eg_3 eg_4 er_5 er_6 ev4_58 ev3_58 ev2_58 eμ_58; rw [NN_eq]; decide))
        · intro k hk ih_58 v4_58 v3_58 v2_58 μ_58 H locs ls ev4_58 ev3_58 ev2_58 eμ_58 hP hS hl
          rw [NN_eq] at hk
          refine lv_iload K.1.1 K.1.2.1 dX11_bestShade_58 (lv_at hl 0 rfl) ?_
          refine lv_bipush (v := 50) K.1.1 K.1.2.1 dX11_bestShade_60 (by decide) ?_
          refine lv_icmp_gt (tgt := 111) K.1.1 K.1.2.1 dX11_bestShade_62 (by decide) (fun c_62 => ?_) (fun c_62 => ?_)
          · exact absurd c_62 (by subst er_1 eg_3 eg_4 er_5 er_6 ev4_58 ev3_58 ev2_58 eμ_58; exact Int32.not_lt.mpr (nI_le (a := k + 1) (b := 50) (by omega) (by decide)))
          · refine lv_aload_n K.1.1 K.1.2.1 dX11_bestShade_65 rfl (lv_at hl 3 rfl) ?_
            refine lv_iload_n K.1.1 K.1.2.1 dX11_bestShade_66 rfl (lv_at hl 4 rfl) ?_
            refine lv_aload_n K.1.1 K.1.2.1 dX11_bestShade_67 rfl (lv_at hl 3 rfl) ?_
            refine lv_iload_n K.1.1 K.1.2.1 dX11_bestShade_68 rfl (lv_at hl 4 rfl) ?_
            refine lv_iload K.1.1 K.1.2.1 dX11_bestShade_69 (lv_at hl 0 rfl) ?_
            refine m_cV (n := 2) (As := [.int t, .int v4_58]) (rest := [.int t, .ref (B + 259)]) K hP hS (MX11_bidBy l G B _ t v4_58 hT) (by decide) sh_259 rfl q_1260 q_1262 q_34 q_91 q_1263 hv_X11_bidBy ⟨Nat.le_of_ble_eq_true rfl, Nat.le_of_ble_eq_true rfl⟩ rfl hl.1 rfl (Nat.le_of_ble_eq_true rfl) dX11_bestShade_71 ⟨Nat.zero_le _, Nat.zero_le _⟩ (fun H locs hP hS => ?_)
            refine lv_topi (fun r_7 er_7 => ?_)
            refine m_cV (n := 2) (As := [.int t, .int r_7]) (rest := []) K hP hS (MX11_gainBy l G B _ t r_7 (by subst er_1 eg_3 eg_4 er_5 er_6 ev4_58 ev3_58 ev2_58 eμ_58 er_7; exact (MS_inv hJ hT hQ k).1) hT (by subst er_1 eg_3 eg_4 er_5 er_6 ev4_58 ev3_58 ev2_58 eμ_58 er_7; exact (MS_inv hJ hT hQ k).2)) (by decide) sh_259 rfl q_1470 q_1472 q_71 q_91 q_1473 hv_X11_gainBy ⟨Nat.le_of_ble_eq_true rfl, Nat.le_of_ble_eq_true rfl⟩ rfl hl.1 rfl (Nat.le_of_ble_eq_true rfl) dX11_bestShade_74 ⟨Nat.zero_le _, Nat.zero_le _⟩ (fun H locs hP hS => ?_)
            refine lv_topi (fun r_8 er_8 => ?_)
            refine lv_istore (lv' := [(5, .int r_8), (4, .int v4_58), (3, .int v3_58), (2, .int v2_58), (0, .ref (B + 259)), (1, .int t)]) K.1.1 K.1.2.1 dX11_bestShade_77 hl (by decide) rfl (fun ls hl => ?_)
            refine lv_iload K.1.1 K.1.2.1 dX11_bestShade_79 (lv_at hl 0 rfl) ?_
            refine lv_iload_n K.1.1 K.1.2.1 dX11_bestShade_81 rfl (lv_at hl 2 rfl) ?_
            refine lv_icmp_le (tgt := 90) K.1.1 K.1.2.1 dX11_bestShade_82 (by decide) (fun c_82 => ?_) (fun c_82 => ?_)
            · refine lv_iload_n K.1.1 K.1.2.1 dX11_bestShade_90 rfl (lv_at hl 3 rfl) ?_
              refine lv_istore_n (lv' := [(2, .int v2_58), (5, .int r_8), (4, .int v4_58), (3, .int v3_58), (0, .ref (B + 259)), (1, .int t)]) K.1.1 K.1.2.1 dX11_bestShade_91 rfl hl (by decide) rfl (fun ls hl => ?_)
              refine lv_iload K.1.1 K.1.2.1 dX11_bestShade_92 (lv_at hl 1 rfl) ?_
              refine lv_iload_n K.1.1 K.1.2.1 dX11_bestShade_94 rfl (lv_at hl 3 rfl) ?_
              refine lv_icmp_le (tgt := 103) K.1.1 K.1.2.1 dX11_bestShade_95 (by decide) (fun c_95 => ?_) (fun c_95 => ?_)
              · refine lv_iload_n K.1.1 K.1.2.1 dX11_bestShade_103 rfl (lv_at hl 3 rfl) ?_
                refine lv_istore_n (lv' := [(3, .int v3_58), (2, .int v2_58), (5, .int r_8), (4, .int v4_58), (0, .ref (B + 259)), (1, .int t)]) K.1.1 K.1.2.1 dX11_bestShade_104 rfl hl (by decide) rfl (fun ls hl => ?_)
                obtain ⟨x_9, ex_9⟩ : ∃ y : Int32, y = v4_58 + (1) := ⟨_, rfl⟩
                refine lv_iinc (v := x_9) (lv' := [(4, .int x_9), (3, .int v3_58), (2, .int v2_58), (5, .int r_8), (0, .ref (B + 259)), (1, .int t)]) K.1.1 K.1.2.1 dX11_bestShade_105 hl (k := 3) rfl (by rw [ex_9]; rfl) (by decide) rfl (fun ls hl => ?_)
                refine lv_goto (tgt := 58) K.1.1 K.1.2.1 dX11_bestShade_108 (by decide) ?_
                exact ih_58 _ _ _ _ _ _ _ (by subst er_1 eg_3 eg_4 er_5 er_6 ev4_58 ev3_58 ev2_58 eμ_58 er_7 er_8 ex_9; exact nI_1 _) (by subst er_1 eg_3 eg_4 er_5 er_6 ev4_58 ev3_58 ev2_58 eμ_58 er_7 er_8 ex_9; rw [MS_s]; try dsimp only; first | rw [if_neg (Int32.not_lt.mpr c_95)] | rw [if_pos (Int32.not_le.mp c_95)]) (by subst er_1 eg_3 eg_4 er_5 er_6 ev4_58 ev3_58 ev2_58 eμ_58 er_7 er_8 ex_9; rw [MS_s]; try dsimp only; first | rw [if_neg (Int32.not_lt.mpr c_82)] | rw [if_pos (Int32.not_le.mp c_82)]) (by subst er_1 eg_3 eg_4 er_5 er_6 ev4_58 ev3_58 ev2_58 eμ_58 er_7 er_8 ex_9; rw [MS_s]) hP hS (lv_sub hl [0, 1, 2, 4, 5] rfl)
              · refine lv_iload K.1.1 K.1.2.1 dX11_bestShade_98 (lv_at hl 1 rfl) ?_
                refine lv_goto (tgt := 104) K.1.1 K.1.2.1 dX11_bestShade_100 (by decide) ?_
                refine lv_istore_n (lv' := [(3, .int r_8), (2, .int v2_58), (5, .int r_8), (4, .int v4_58), (0, .ref (B + 259)), (1, .int t)]) K.1.1 K.1.2.1 dX11_bestShade_104 rfl hl (by decide) rfl (fun ls hl => ?_)
                obtain ⟨x_10, ex_10⟩ : ∃ y : Int32, y = v4_58 + (1) := ⟨_, rfl⟩
                refine lv_iinc (v := x_10) (lv' := [(4, .int x_10), (3, .int r_8), (2, .int v2_58), (5, .int r_8), (0, .ref (B + 259)), (1, .int t)]) K.1.1 K.1.2.1 dX11_bestShade_105 hl (k := 3) rfl (by rw [ex_10]; rfl) (by decide) rfl (fun ls hl => ?_)
                refine lv_goto (tgt := 58) K.1.1 K.1.2.1 dX11_bestShade_108 (by decide) ?_
                exact ih_58 _ _ _ _ _ _ _ (by subst er_1 eg_3 eg_4 er_5 er_6 ev4_58 ev3_58 ev2_58 eμ_58 er_7 er_8 ex_10; exact nI_1 _) (by subst er_1 eg_3 eg_4 er_5 er_6 ev4_58 ev3_58 ev2_58 eμ_58 er_7 er_8 ex_10; rw [MS_s]; try dsimp only; first | rw [if_neg (Int32.not_lt.mpr c_95)] | rw [if_pos (Int32.not_le.mp c_95)]) (by subst er_1 eg_3 eg_4 er_5 er_6 ev4_58 ev3_58 ev2_58 eμ_58 er_7 er_8 ex_10; rw [MS_s]; try dsimp only; first | rw [if_neg (Int32.not_lt.mpr c_82)] | rw [if_pos (Int32.not_le.mp c_82)]) (by subst er_1 eg_3 eg_4 er_5 er_6 ev4_58 ev3_58 ev2_58 eμ_58 er_7 er_8 ex_10; rw [MS_s]) hP hS (lv_sub hl [0, 1, 2, 4, 5] rfl)
            · refine lv_iload K.1.1 K.1.2.1 dX11_bestShade_85 (lv_at hl 1 rfl) ?_
              refine lv_goto (tgt := 91) K.1.1 K.1.2.1 dX11_bestShade_87 (by decide) ?_
              refine lv_istore_n (lv' := [(2, .int v4_58), (5, .int r_8), (4, .int v4_58), (3, .int v3_58), (0, .ref (B + 259)), (1, .int t)]) K.1.1 K.1.2.1 dX11_bestShade_91 rfl hl (by decide) rfl (fun ls hl => ?_)
              refine lv_iload K.1.1 K.1.2.1 dX11_bestShade_92 (lv_at hl 1 rfl) ?_
              refine lv_iload_n K.1.1 K.1.2.1 dX11_bestShade_94 rfl (lv_at hl 3 rfl) ?_
              refine lv_icmp_le (tgt := 103) K.1.1 K.1.2.1 dX11_bestShade_95 (by decide) (fun c_95 => ?_) (fun c_95 => ?_)
              · refine lv_iload_n K.1.1 K.1.2.1 dX11_bestShade_103 rfl (lv_at hl 3 rfl) ?_
                refine lv_istore_n (lv' := [(3, .int v3_58), (2, .int v4_58), (5, .int r_8), (4, .int v4_58), (0, .ref (B + 259)), (1, .int t)]) K.1.1 K.1.2.1 dX11_bestShade_104 rfl hl (by decide) rfl (fun ls hl => ?_)
                obtain ⟨x_11, ex_11⟩ : ∃ y : Int32, y = v4_58 + (1) := ⟨_, rfl⟩
                refine lv_iinc (v := x_11) (lv' := [(4, .int x_11), (3, .int v3_58), (2, .int v4_58), (5, .int r_8), (0, .ref (B + 259)), (1, .int t)]) K.1.1 K.1.2.1 dX11_bestShade_105 hl (k := 3) rfl (by rw [ex_11]; rfl) (by decide) rfl (fun ls hl => ?_)
                refine lv_goto (tgt := 58) K.1.1 K.1.2.1 dX11_bestShade_108 (by decide) ?_
                exact ih_58 _ _ _ _ _ _ _ (by subst er_1 eg_3 eg_4 er_5 er_6 ev4_58 ev3_58 ev2_58 eμ_58 er_7 er_8 ex_11; exact nI_1 _) (by subst er_1 eg_3 eg_4 er_5 er_6 ev4_58 ev3_58 ev2_58 eμ_58 er_7 er_8 ex_11; rw [MS_s]; try dsimp only; first | rw [if_neg (Int32.not_lt.mpr c_95)] | rw [if_pos (Int32.not_le.mp c_95)]) (by subst er_1 eg_3 eg_4 er_5 er_6 ev4_58 ev3_58 ev2_58 eμ_58 er_7 er_8 ex_11; rw [MS_s]; try dsimp only; first | rw [if_neg (Int32.not_lt.mpr c_82)] | rw [if_pos (Int32.not_le.mp c_82)]) (by subst er_1 eg_3 eg_4 er_5 er_6 ev4_58 ev3_58 ev2_58 eμ_58 er_7 er_8 ex_11; rw [MS_s]) hP hS (lv_sub hl [0, 1, 2, 4, 5] rfl)
              · refine lv_iload K.1.1 K.1.2.1 dX11_bestShade_98 (lv_at hl 1 rfl) ?_
                refine lv_goto (tgt := 104) K.1.1 K.1.2.1 dX11_bestShade_100 (by decide) ?_
                refine lv_istore_n (lv' := [(3, .int r_8), (2, .int v4_58), (5, .int r_8), (4, .int v4_58), (0, .ref (B + 259)), (1, .int t)]) K.1.1 K.1.2.1 dX11_bestShade_104 rfl hl (by decide) rfl (fun ls hl => ?_)
                obtain ⟨x_12, ex_12⟩ : ∃ y : Int32, y = v4_58 + (1) := ⟨_, rfl⟩
                refine lv_iinc (v := x_12) (lv' := [(4, .int x_12), (3, .int r_8), (2, .int v4_58), (5, .int r_8), (0, .ref (B + 259)), (1, .int t)]) K.1.1 K.1.2.1 dX11_bestShade_105 hl (k := 3) rfl (by rw [ex_12]; rfl) (by decide) rfl (fun ls hl => ?_)
                refine lv_goto (tgt := 58) K.1.1 K.1.2.1 dX11_bestShade_108 (by decide) ?_
                exact ih_58 _ _ _ _ _ _ _ (by subst er_1 eg_3 eg_4 er_5 er_6 ev4_58 ev3_58 ev2_58 eμ_58 er_7 er_8 ex_12; exact nI_1 _) (by subst er_1 eg_3 eg_4 er_5 er_6 ev4_58 ev3_58 ev2_58 eμ_58 er_7 er_8 ex_12; rw [MS_s]; try dsimp only; first | rw [if_neg (Int32.not_lt.mpr c_95)] | rw [if_pos (Int32.not_le.mp c_95)]) (by subst er_1 eg_3 eg_4 er_5 er_6 ev4_58 ev3_58 ev2_58 eμ_58 er_7 er_8 ex_12; rw [MS_s]; try dsimp only; first | rw [if_neg (Int32.not_lt.mpr c_82)] | rw [if_pos (Int32.not_le.mp c_82)]) (by subst er_1 eg_3 eg_4 er_5 er_6 ev4_58 ev3_58 ev2_58 eμ_58 er_7 er_8 ex_12; rw [MS_s]) hP hS (lv_sub hl [0, 1, 2, 4, 5] rfl)
      · refine lv_sipush (v := (-10000)) K.1.1 K.1.2.1 dX11_bestShade_37 (by decide) ?_
        exact m_iret K hr hlocks hP hS dX11_bestShade_40 (by subst er_1 eg_3 eg_4; rw [M_bestShade, M_ask, isErr_0 c_6, if_pos rfl]; (try dsimp only); rw [if_pos (show (M_thr μ 0) 260 1 = 20 from c_34)]; first | done | rfl) (by subst er_1 eg_3 eg_4; rw [M_bestShade, M_ask, isErr_0 c_6, if_pos rfl]; (try dsimp only); rw [if_pos (show (M_thr μ 0) 260 1 = 20 from c_34)]; first | done | rfl)
    · exact absurd c_21 (not_not_intro (by subst er_1 eg_3; rw [up2_s]))

set_option maxHeartbeats 4000000 in
set_option maxRecDepth 100000 in
theorem MX11_bestSplit (l : Launch) (G : GG) (B : Nat) (μ : Mm) (t : Int32) (hI : MI μ) : CM l yX11_bestSplit (.code yX11_bestSplit cX11_bestSplit 7 (Option.some FieldType.int)) 6 134 G B [.ref (B + 259), .int t] μ (some (.int ((M_bestSplit μ t).2))) ((M_bestSplit μ t).1) := by
  refine CM.of (by decide) (Nat.le_of_ble_eq_true rfl) ?_
  intro p e s m below meth c ls K hr hlocks hP hl
  have hS : va_S (AA B) s.heap s.heap [] := va_S.rf
  have hl : lv_has ls 7 [(0, .ref (B + 259)), (1, .int t)] := hl
  refine lv_aload_n K.1.1 K.1.2.1 dX11_bestSplit_0 rfl (lv_at hl 0 rfl) ?_
  refine lv_aload_n K.1.1 K.1.2.1 dX11_bestSplit_1 rfl (lv_at hl 0 rfl) ?_
  refine lv_iload_n K.1.1 K.1.2.1 dX11_bestSplit_2 rfl (lv_at hl 1 rfl) ?_
  refine m_cV (n := 1) (As := [.int t]) (rest := [.ref (B + 259)]) K hP hS (MX11_isTrader l G B _ t ) (by decide) sh_259 rfl q_1236 q_1238 q_29 q_91 q_1239 hv_X11_isTrader ⟨Nat.le_of_ble_eq_true rfl, Nat.le_of_ble_eq_true rfl⟩ rfl hl.1 rfl (Nat.le_of_ble_eq_true rfl) dX11_bestSplit_3 ⟨Nat.zero_le _, Nat.zero_le _⟩ (fun H locs hP hS => ?_)
  refine lv_topi (fun r_1 er_1 => ?_)
  refine lv_if_eq (tgt := 13) K.1.1 K.1.2.1 dX11_bestSplit_6 (by decide) (fun c_6 => ?_) (fun c_6 => ?_)
  · refine lv_iconst (v := 1) K.1.1 K.1.2.1 dX11_bestSplit_13 (by decide) ?_
    refine m_puti K hP hS (by decide) sh_259 rfl tuX11 tyX11 tyX11_ok nmX11 3 (by decide) rfl rfl (by decide +kernel) q_1153 dX11_bestSplit_14 (fun H locs hP hS => ?_)
    refine lv_aload_n K.1.1 K.1.2.1 dX11_bestSplit_17 rfl (lv_at hl 0 rfl) ?_
    refine m_geti K hP (by decide) sh_259 rfl tuX11 3 (by decide) rfl q_1153 dX11_bestSplit_18 ?_
    refine lv_topi (fun g_2 eg_2 => ?_)
    refine lv_if_eq (tgt := 26) K.1.1 K.1.2.1 dX11_bestSplit_21 (by decide) (fun c_21 => ?_) (fun c_21 => ?_)
    · exact absurd c_21 (by subst er_1 eg_2; rw [up2_s]; decide)
    · refine lv_iconst (v := 0) K.1.1 K.1.2.1 dX11_bestSplit_24 (by decide) ?_
      exact m_iret K hr hlocks hP hS dX11_bestSplit_25 (by subst er_1 eg_2; rw [M_bestSplit, M_ask, isErr_1 c_6]; rfl) (by subst er_1 eg_2; rw [M_bestSplit, M_ask, isErr_1 c_6]; rfl)
  · refine lv_iconst (v := 0) K.1.1 K.1.2.1 dX11_bestSplit_9 (by decide) ?_
    refine lv_goto (tgt := 14) K.1.1 K.1.2.1 dX11_bestSplit_10 (by decide) ?_
    refine m_puti K hP hS (by decide) sh_259 rfl tuX11 tyX11 tyX11_ok nmX11 3 (by decide) rfl rfl (by decide +kernel) q_1153 dX11_bestSplit_14 (fun H locs hP hS => ?_)
    refine lv_aload_n K.1.1 K.1.2.1 dX11_bestSplit_17 rfl (lv_at hl 0 rfl) ?_
    refine m_geti K hP (by decide) sh_259 rfl tuX11 3 (by decide) rfl q_1153 dX11_bestSplit_18 ?_
    refine lv_topi (fun g_3 eg_3 => ?_)
    refine lv_if_eq (tgt := 26) K.1.1 K.1.2.1 dX11_bestSplit_21 (by decide) (fun c_21 => ?_) (fun c_21 => ?_)
    · have hJ : MI (up2 μ 259 3 0) := MI_ne hI (by decide)
      refine lv_aload_n K.1.1 K.1.2.1 dX11_bestSplit_26 rfl (lv_at hl 0 rfl) ?_
      refine m_getr K hP (by decide) sh_259 rfl tuX11 0 (by decide) rfl q_1150 dX11_bestSplit_27 ?_
      refine lv_iconst (v := 3) K.1.1 K.1.2.1 dX11_bestSplit_30 (by decide) ?_
      refine m_iald K hP (by decide) sh_260 (n := 267) (vpd rfl) dX11_bestSplit_31 ?_
      refine lv_topi (fun g_4 eg_4 => ?_)
      have eg_4 : g_4 = (_ : Mm) 260 3 := eg_4
      refine lv_istore_n (lv' := [(2, .int g_4), (0, .ref (B + 259)), (1, .int t)]) K.1.1 K.1.2.1 dX11_bestSplit_32 rfl hl (by decide) rfl (fun ls hl => ?_)
      refine lv_sipush (v := (-10000)) K.1.1 K.1.2.1 dX11_bestSplit_33 (by decide) ?_
      refine lv_istore_n (lv' := [(3, .int (-10000)), (2, .int g_4), (0, .ref (B + 259)), (1, .int t)]) K.1.1 K.1.2.1 dX11_bestSplit_36 rfl hl (by decide) rfl (fun ls hl => ?_)
      refine lv_iconst (v := 0) K.1.1 K.1.2.1 dX11_bestSplit_37 (by decide) ?_
      refine lv_istore (lv' := [(4, .int 0), (3, .int (-10000)), (2, .int g_4), (0, .ref (B + 259)), (1, .int t)]) K.1.1 K.1.2.1 dX11_bestSplit_38 hl (by decide) rfl (fun ls hl => ?_)
      refine lv_iconst (v := 0) K.1.1 K.1.2.1 dX11_bestSplit_40 (by decide) ?_
      refine lv_istore (lv' := [(5, .int 0), (4, .int 0), (3, .int (-10000)), (2, .int g_4), (0, .ref (B + 259)), (1, .int t)]) K.1.1 K.1.2.1 dX11_bestSplit_41 hl (by decide) rfl (fun ls hl => ?_)
      refine up_to (N := NN 11) (P := fun k : Nat => ∀ (v5_43 : Int32) (v4_43 : Int32) (v3_43 : Int32) (μ_43 : Mm) (H : Heap) (locs : List Loc) (ls : Array Slot), (v5_43 = nI k) → (v4_43 = (MP_run (up2 μ 259 3 0) t k).2.2) → (v3_43 = (MP_run (up2 μ 259 3 0) t k).2.1) → (μ_43 = (MP_run (up2 μ 259 3 0) t k).1) → MP G B μ_43 H → va_S (AA B) s.heap H locs → lv_has ls 7 [(5, .int v5_43), (4, .int v4_43), (3, .int v3_43), (2, .int g_4), (0, .ref (B + 259)), (1, .int t)] → W p l e ({ frames := 6, cells := 0, slots := 0, locals := 134 } : Room) s m ([.ref (B + 259), .int t] : List Value).toArray below meth c H locs 0 0 (MF below G B (some (.int ((M_bestSplit μ t).2))) ((M_bestSplit μ t).1) ([.ref (B + 259), .int t] : List Value).toArray s) (F0 m 43 ls [])) ?_ ?_ _ _ _ _ _ _ _ (by rfl) (by rfl) (by rfl) (by subst er_1 eg_3 eg_4; rw [MP_0]) hP hS (lv_sub hl [0, 1, 2, 3, 4, 5] rfl)
      · intro v5_43 v4_43 v3_43 μ_43 H locs ls ev5_43 ev4_43 ev3_43 eμ_43 hP hS hl
        refine lv_iload K.1.1 K.1.2.1 dX11_bestSplit_43 (lv_at hl 0 rfl) ?_
        refine lv_bipush (v := 10) K.1.1 K.1.2.1 dX11_bestSplit_45 (by decide) ?_
        refine lv_icmp_gt (tgt := 103) K.1.1 K.1.2.1 dX11_bestSplit_47 (by decide) (fun c_47 => ?_) (fun c_47 => ?_)
        · refine lv_aload_n K.1.1 K.1.2.1 dX11_bestSplit_103 rfl (lv_at hl 4 rfl) ?_
          refine m_getr K hP (by decide) sh_259 rfl tuX11 0 (by decide) rfl q_1150 dX11_bestSplit_104 ?_
          refine lv_iconst (v := 3) K.1.1 K.1.2.1 dX11_bestSplit_107 (by decide) ?_
          refine lv_iload_n K.1.1 K.1.2.1 dX11_bestSplit_108 rfl (lv_at hl 3 rfl) ?_
          refine m_iast K hP hS (by decide) sh_260 (n := 267) (vpd rfl) dX11_bestSplit_109 (fun H locs hP hS => ?_)
          have hP : MP G B (up2 _ 260 3 _) H := hP
          refine lv_iload_n K.1.1 K.1.2.1 dX11_bestSplit_110 rfl (lv_at hl 2 rfl) ?_
          exact m_iret K hr hlocks hP hS dX11_bestSplit_111 (by subst er_1 eg_3 eg_4 ev5_43 ev4_43 ev3_43 eμ_43; rw [M_bestSplit, M_ask, isErr_0 c_6, if_pos rfl]; (try dsimp only [M_thr]); first | done | rfl) (by subst er_1 eg_3 eg_4 ev5_43 ev4_43 ev3_43 eμ_43; rw [M_bestSplit, M_ask, isErr_0 c_6, if_pos rfl]; (try dsimp only [M_thr]); first | done | rfl)
        · exact absurd c_47 (not_not_intro (by subst er_1 eg_3 eg_4 ev5_43 ev4_43 ev3_43 eμ_43; rw [NN_eq]; decide))
      · intro k hk ih_43 v5_43 v4_43 v3_43 μ_43 H locs ls ev5_43 ev4_43 ev3_43 eμ_43 hP hS hl
        rw [NN_eq] at hk
        refine lv_iload K.1.1 K.1.2.1 dX11_bestSplit_43 (lv_at hl 0 rfl) ?_
        refine lv_bipush (v := 10) K.1.1 K.1.2.1 dX11_bestSplit_45 (by decide) ?_
        refine lv_icmp_gt (tgt := 103) K.1.1 K.1.2.1 dX11_bestSplit_47 (by decide) (fun c_47 => ?_) (fun c_47 => ?_)
        · exact absurd c_47 (by subst er_1 eg_3 eg_4 ev5_43 ev4_43 ev3_43 eμ_43; exact Int32.not_lt.mpr (nI_le (a := k) (b := 10) (by omega) (by decide)))
        · refine lv_aload_n K.1.1 K.1.2.1 dX11_bestSplit_50 rfl (lv_at hl 4 rfl) ?_
          refine m_getr K hP (by decide) sh_259 rfl tuX11 0 (by decide) rfl q_1150 dX11_bestSplit_51 ?_
          refine lv_iconst (v := 3) K.1.1 K.1.2.1 dX11_bestSplit_54 (by decide) ?_
          refine lv_iload K.1.1 K.1.2.1 dX11_bestSplit_55 (lv_at hl 0 rfl) ?_
          refine m_iast K hP hS (by decide) sh_260 (n := 267) (vpd rfl) dX11_bestSplit_57 (fun H locs hP hS => ?_)
          have hP : MP G B (up2 _ 260 3 _) H := hP
          refine lv_aload_n K.1.1 K.1.2.1 dX11_bestSplit_58 rfl (lv_at hl 4 rfl) ?_
          refine m_cV (n := 0) (As := []) (rest := []) K hP hS (MX11_finds l G B _  (by subst er_1 eg_3 eg_4 ev5_43 ev4_43 ev3_43 eμ_43; exact MI_up (MI_MP hJ k) (by decide) (by decide) (by decide) (fun k _ => by omega))) (by decide) sh_259 rfl q_1327 q_1329 q_45 q_91 q_1330 hv_X11_finds ⟨Nat.le_of_ble_eq_true rfl, Nat.le_of_ble_eq_true rfl⟩ rfl hl.1 rfl (Nat.le_of_ble_eq_true rfl) dX11_bestSplit_59 ⟨Nat.zero_le _, Nat.zero_le _⟩ (fun H locs hP hS => ?_)
          refine W.eq (g2 := F0 m 62 ls []) rfl ?_
          refine lv_aload_n K.1.1 K.1.2.1 dX11_bestSplit_62 rfl (lv_at hl 4 rfl) ?_
          refine lv_iload_n K.1.1 K.1.2.1 dX11_bestSplit_63 rfl (lv_at hl 5 rfl) ?_
          refine m_cV (n := 1) (As := [.int t]) (rest := []) K hP hS (MX11_gainsOf l G B _ t (by subst er_1 eg_3 eg_4 ev5_43 ev4_43 ev3_43 eμ_43; exact MI_finds (MI_up (MI_MP hJ k) (by decide) (by decide) (by decide) (fun k _ => by omega)))) (by decide) sh_259 rfl q_1375 q_1377 q_57 q_91 q_1378 hv_X11_gainsOf ⟨Nat.le_of_ble_eq_true rfl, Nat.le_of_ble_eq_true rfl⟩ rfl hl.1 rfl (Nat.le_of_ble_eq_true rfl) dX11_bestSplit_64 ⟨Nat.zero_le _, Nat.zero_le _⟩ (fun H locs hP hS => ?_)
          refine lv_topi (fun r_5 er_5 => ?_)
          refine lv_istore (lv' := [(6, .int r_5), (5, .int v5_43), (4, .int v4_43), (3, .int v3_43), (2, .int g_4), (0, .ref (B + 259)), (1, .int t)]) K.1.1 K.1.2.1 dX11_bestSplit_67 hl (by decide) rfl (fun ls hl => ?_)
          refine lv_aload_n K.1.1 K.1.2.1 dX11_bestSplit_69 rfl (lv_at hl 5 rfl) ?_
          refine m_geti K hP (by decide) sh_259 rfl tuX11 7 (by decide) rfl q_1157 dX11_bestSplit_70 ?_
          refine lv_topi (fun g_6 eg_6 => ?_)
          refine lv_if_le (tgt := 97) K.1.1 K.1.2.1 dX11_bestSplit_73 (by decide) (fun c_73 => ?_) (fun c_73 => ?_)
          · obtain ⟨x_7, ex_7⟩ : ∃ y : Int32, y = v5_43 + (1) := ⟨_, rfl⟩
            refine lv_iinc (v := x_7) (lv' := [(5, .int x_7), (6, .int r_5), (4, .int v4_43), (3, .int v3_43), (2, .int g_4), (0, .ref (B + 259)), (1, .int t)]) K.1.1 K.1.2.1 dX11_bestSplit_97 hl (k := 1) rfl (by rw [ex_7]; rfl) (by decide) rfl (fun ls hl => ?_)
            refine lv_goto (tgt := 43) K.1.1 K.1.2.1 dX11_bestSplit_100 (by decide) ?_
            exact ih_43 _ _ _ _ _ _ _ (by subst er_1 eg_3 eg_4 ev5_43 ev4_43 ev3_43 eμ_43 er_5 eg_6 ex_7; exact nI_1 _) (by subst er_1 eg_3 eg_4 ev5_43 ev4_43 ev3_43 eμ_43 er_5 eg_6 ex_7; rw [MP_sf (μ := up2 μ 259 3 0) (t := t) (k := k) (MP_f1 (Int32.not_lt.mpr c_73))]; first | done | rfl) (by subst er_1 eg_3 eg_4 ev5_43 ev4_43 ev3_43 eμ_43 er_5 eg_6 ex_7; rw [MP_sf (μ := up2 μ 259 3 0) (t := t) (k := k) (MP_f1 (Int32.not_lt.mpr c_73))]; first | done | rfl) (by subst er_1 eg_3 eg_4 ev5_43 ev4_43 ev3_43 eμ_43 er_5 eg_6 ex_7; rw [MP_sf (μ := up2 μ 259 3 0) (t := t) (k := k) (MP_f1 (Int32.not_lt.mpr c_73))]; first | done | rfl) hP hS (lv_sub hl [0, 2, 3, 4, 5, 6] rfl)
          · refine lv_iload_n K.1.1 K.1.2.1 dX11_bestSplit_76 rfl (lv_at hl 3 rfl) ?_
            refine lv_sipush (v := (-10000)) K.1.1 K.1.2.1 dX11_bestSplit_77 (by decide) ?_
            refine lv_icmp_eq (tgt := 90) K.1.1 K.1.2.1 dX11_bestSplit_80 (by decide) (fun c_80 => ?_) (fun c_80 => ?_)
            · refine lv_iload K.1.1 K.1.2.1 dX11_bestSplit_90 (lv_at hl 1 rfl) ?_
              refine lv_istore_n (lv' := [(3, .int v5_43), (6, .int r_5), (5, .int v5_43), (4, .int v4_43), (2, .int g_4), (0, .ref (B + 259)), (1, .int t)]) K.1.1 K.1.2.1 dX11_bestSplit_92 rfl hl (by decide) rfl (fun ls hl => ?_)
              refine lv_iload K.1.1 K.1.2.1 dX11_bestSplit_93 (lv_at hl 1 rfl) ?_
              refine lv_istore (lv' := [(4, .int r_5), (3, .int v5_43), (6, .int r_5), (5, .int v5_43), (2, .int g_4), (0, .ref (B + 259)), (1, .int t)]) K.1.1 K.1.2.1 dX11_bestSplit_95 hl (by decide) rfl (fun ls hl => ?_)
              obtain ⟨x_8, ex_8⟩ : ∃ y : Int32, y = v5_43 + (1) := ⟨_, rfl⟩
              refine lv_iinc (v := x_8) (lv' := [(5, .int x_8), (4, .int r_5), (3, .int v5_43), (6, .int r_5), (2, .int g_4), (0, .ref (B + 259)), (1, .int t)]) K.1.1 K.1.2.1 dX11_bestSplit_97 hl (k := 3) rfl (by rw [ex_8]; rfl) (by decide) rfl (fun ls hl => ?_)
              refine lv_goto (tgt := 43) K.1.1 K.1.2.1 dX11_bestSplit_100 (by decide) ?_
              exact ih_43 _ _ _ _ _ _ _ (by subst er_1 eg_3 eg_4 ev5_43 ev4_43 ev3_43 eμ_43 er_5 eg_6 ex_8; exact nI_1 _) (by subst er_1 eg_3 eg_4 ev5_43 ev4_43 ev3_43 eμ_43 er_5 eg_6 ex_8; rw [MP_st (μ := up2 μ 259 3 0) (t := t) (k := k) (MP_t1 (Int32.not_le.mp c_73) c_80)]; first | done | rfl) (by subst er_1 eg_3 eg_4 ev5_43 ev4_43 ev3_43 eμ_43 er_5 eg_6 ex_8; rw [MP_st (μ := up2 μ 259 3 0) (t := t) (k := k) (MP_t1 (Int32.not_le.mp c_73) c_80)]; first | done | rfl) (by subst er_1 eg_3 eg_4 ev5_43 ev4_43 ev3_43 eμ_43 er_5 eg_6 ex_8; rw [MP_st (μ := up2 μ 259 3 0) (t := t) (k := k) (MP_t1 (Int32.not_le.mp c_73) c_80)]; first | done | rfl) hP hS (lv_sub hl [0, 1, 2, 4, 5, 6] rfl)
            · refine lv_iload K.1.1 K.1.2.1 dX11_bestSplit_83 (lv_at hl 0 rfl) ?_
              refine lv_iload K.1.1 K.1.2.1 dX11_bestSplit_85 (lv_at hl 2 rfl) ?_
              refine lv_icmp_le (tgt := 97) K.1.1 K.1.2.1 dX11_bestSplit_87 (by decide) (fun c_87 => ?_) (fun c_87 => ?_)
              · obtain ⟨x_9, ex_9⟩ : ∃ y : Int32, y = v5_43 + (1) := ⟨_, rfl⟩
                refine lv_iinc (v := x_9) (lv' := [(5, .int x_9), (6, .int r_5), (4, .int v4_43), (3, .int v3_43), (2, .int g_4), (0, .ref (B + 259)), (1, .int t)]) K.1.1 K.1.2.1 dX11_bestSplit_97 hl (k := 1) rfl (by rw [ex_9]; rfl) (by decide) rfl (fun ls hl => ?_)
                refine lv_goto (tgt := 43) K.1.1 K.1.2.1 dX11_bestSplit_100 (by decide) ?_
                exact ih_43 _ _ _ _ _ _ _ (by subst er_1 eg_3 eg_4 ev5_43 ev4_43 ev3_43 eμ_43 er_5 eg_6 ex_9; exact nI_1 _) (by subst er_1 eg_3 eg_4 ev5_43 ev4_43 ev3_43 eμ_43 er_5 eg_6 ex_9; rw [MP_sf (μ := up2 μ 259 3 0) (t := t) (k := k) (MP_f2 (Int32.not_le.mp c_73) c_80 (Int32.not_lt.mpr c_87))]; first | done | rfl) (by subst er_1 eg_3 eg_4 ev5_43 ev4_43 ev3_43 eμ_43 er_5 eg_6 ex_9; rw [MP_sf (μ := up2 μ 259 3 0) (t := t) (k := k) (MP_f2 (Int32.not_le.mp c_73) c_80 (Int32.not_lt.mpr c_87))]; first | done | rfl) (by subst er_1 eg_3 eg_4 ev5_43 ev4_43 ev3_43 eμ_43 er_5 eg_6 ex_9; rw [MP_sf (μ := up2 μ 259 3 0) (t := t) (k := k) (MP_f2 (Int32.not_le.mp c_73) c_80 (Int32.not_lt.mpr c_87))]; first | done | rfl) hP hS (lv_sub hl [0, 2, 3, 4, 5, 6] rfl)
              · refine lv_iload K.1.1 K.1.2.1 dX11_bestSplit_90 (lv_at hl 1 rfl) ?_
                refine lv_istore_n (lv' := [(3, .int v5_43), (6, .int r_5), (5, .int v5_43), (4, .int v4_43), (2, .int g_4), (0, .ref (B + 259)), (1, .int t)]) K.1.1 K.1.2.1 dX11_bestSplit_92 rfl hl (by decide) rfl (fun ls hl => ?_)
                refine lv_iload K.1.1 K.1.2.1 dX11_bestSplit_93 (lv_at hl 1 rfl) ?_
                refine lv_istore (lv' := [(4, .int r_5), (3, .int v5_43), (6, .int r_5), (5, .int v5_43), (2, .int g_4), (0, .ref (B + 259)), (1, .int t)]) K.1.1 K.1.2.1 dX11_bestSplit_95 hl (by decide) rfl (fun ls hl => ?_)
                obtain ⟨x_10, ex_10⟩ : ∃ y : Int32, y = v5_43 + (1) := ⟨_, rfl⟩
                refine lv_iinc (v := x_10) (lv' := [(5, .int x_10), (4, .int r_5), (3, .int v5_43), (6, .int r_5), (2, .int g_4), (0, .ref (B + 259)), (1, .int t)]) K.1.1 K.1.2.1 dX11_bestSplit_97 hl (k := 3) rfl (by rw [ex_10]; rfl) (by decide) rfl (fun ls hl => ?_)
                refine lv_goto (tgt := 43) K.1.1 K.1.2.1 dX11_bestSplit_100 (by decide) ?_
                exact ih_43 _ _ _ _ _ _ _ (by subst er_1 eg_3 eg_4 ev5_43 ev4_43 ev3_43 eμ_43 er_5 eg_6 ex_10; exact nI_1 _) (by subst er_1 eg_3 eg_4 ev5_43 ev4_43 ev3_43 eμ_43 er_5 eg_6 ex_10; rw [MP_st (μ := up2 μ 259 3 0) (t := t) (k := k) (MP_t2 (Int32.not_le.mp c_73) c_80 (Int32.not_le.mp c_87))]; first | done | rfl) (by subst er_1 eg_3 eg_4 ev5_43 ev4_43 ev3_43 eμ_43 er_5 eg_6 ex_10; rw [MP_st (μ := up2 μ 259 3 0) (t := t) (k := k) (MP_t2 (Int32.not_le.mp c_73) c_80 (Int32.not_le.mp c_87))]; first | done | rfl) (by subst er_1 eg_3 eg_4 ev5_43 ev4_43 ev3_43 eμ_43 er_5 eg_6 ex_10; rw [MP_st (μ := up2 μ 259 3 0) (t := t) (k := k) (MP_t2 (Int32.not_le.mp c_73) c_80 (Int32.not_le.mp c_87))]; first | done | rfl) hP hS (lv_sub hl [0, 1, 2, 4, 5, 6] rfl)
    · exact absurd c_21 (not_not_intro (by subst er_1 eg_3; rw [up2_s]))

set_option maxHeartbeats 4000000 in
set_option maxRecDepth 100000 in
theorem MX11_goneIn (l : Launch) (G : GG) (B : Nat) (μ : Mm) (x : Int32) (hI : MI μ) (hgn : M_fdErr μ x = 0 → GNok x (NN 12) (M_keeps (up2 μ 259 3 0) 4)) : CM l yX11_goneIn (.code yX11_goneIn cX11_goneIn 3 (Option.some FieldType.int)) 7 166 G B [.ref (B + 259), .int x] μ (some (.int ((M_goneIn μ x).2))) ((M_goneIn μ x).1) := by
  refine CM.of (by decide) (Nat.le_of_ble_eq_true rfl) ?_
  intro p e s m below meth c ls K hr hlocks hP hl
  have hS : va_S (AA B) s.heap s.heap [] := va_S.rf
  have hl : lv_has ls 3 [(0, .ref (B + 259)), (1, .int x)] := hl
  refine lv_aload_n K.1.1 K.1.2.1 dX11_goneIn_0 rfl (lv_at hl 0 rfl) ?_
  refine lv_aload_n K.1.1 K.1.2.1 dX11_goneIn_1 rfl (lv_at hl 0 rfl) ?_
  refine lv_iload_n K.1.1 K.1.2.1 dX11_goneIn_2 rfl (lv_at hl 1 rfl) ?_
  refine m_cV (n := 1) (As := [.int x]) (rest := [.ref (B + 259)]) K hP hS (MX11_find l G B _ x hI) (by decide) sh_259 rfl q_1303 q_1305 q_40 q_91 q_1306 hv_X11_find ⟨Nat.le_of_ble_eq_true rfl, Nat.le_of_ble_eq_true rfl⟩ rfl hl.1 rfl (Nat.le_of_ble_eq_true rfl) dX11_goneIn_3 ⟨Nat.zero_le _, Nat.zero_le _⟩ (fun H locs hP hS => ?_)
  refine lv_topi (fun r_1 er_1 => ?_)
  refine lv_if_ge (tgt := 13) K.1.1 K.1.2.1 dX11_goneIn_6 (by decide) (fun c_6 => ?_) (fun c_6 => ?_)
  · refine lv_iconst (v := 0) K.1.1 K.1.2.1 dX11_goneIn_13 (by decide) ?_
    refine m_puti K hP hS (by decide) sh_259 rfl tuX11 tyX11 tyX11_ok nmX11 3 (by decide) rfl rfl (by decide +kernel) q_1153 dX11_goneIn_14 (fun H locs hP hS => ?_)
    refine lv_aload_n K.1.1 K.1.2.1 dX11_goneIn_17 rfl (lv_at hl 0 rfl) ?_
    refine m_geti K hP (by decide) sh_259 rfl tuX11 3 (by decide) rfl q_1153 dX11_goneIn_18 ?_
    refine lv_topi (fun g_2 eg_2 => ?_)
    refine lv_if_eq (tgt := 26) K.1.1 K.1.2.1 dX11_goneIn_21 (by decide) (fun c_21 => ?_) (fun c_21 => ?_)
    · have hJ : MI (up2 μ 259 3 0) := MI_ne hI (by decide)
      have hN : GNok x (NN 12) (M_keeps (up2 μ 259 3 0) 4) := hgn (if_neg (by subst er_1 eg_2; exact Int32.not_lt.mpr c_6))
      refine lv_aload_n K.1.1 K.1.2.1 dX11_goneIn_26 rfl (lv_at hl 0 rfl) ?_
      refine lv_iconst (v := 4) K.1.1 K.1.2.1 dX11_goneIn_27 (by decide) ?_
      refine m_cV (n := 1) (As := [.int 4]) (rest := []) K hP hS (MX11_keeps l G B _ 4 (vpd rfl)) (by decide) sh_259 rfl q_1220 q_1222 q_26 q_91 q_1223 hv_X11_keeps ⟨Nat.le_of_ble_eq_true rfl, Nat.le_of_ble_eq_true rfl⟩ rfl hl.1 rfl (Nat.le_of_ble_eq_true rfl) dX11_goneIn_28 ⟨Nat.zero_le _, Nat.zero_le _⟩ (fun H locs hP hS => ?_)
      refine W.eq (g2 := F0 m 31 ls []) rfl ?_
      refine lv_iconst (v := 0) K.1.1 K.1.2.1 dX11_goneIn_31 (by decide) ?_
      refine lv_istore_n (lv' := [(2, .int 0), (0, .ref (B + 259)), (1, .int x)]) K.1.1 K.1.2.1 dX11_goneIn_32 rfl hl (by decide) rfl (fun ls hl => ?_)
      have lp_33 : ∀ n : Nat, ∀ (v2_33 : Int32) (μ_33 : Mm) (H : Heap) (locs : List Loc) (ls : Array Slot), (MI μ_33) → (GNok x n μ_33) → (GN x (NN 12) (M_keeps (up2 μ 259 3 0) 4) 0 = GN x n μ_33 v2_33) → MP G B μ_33 H → va_S (AA B) s.heap H locs → lv_has ls 3 [(2, .int v2_33), (0, .ref (B + 259)), (1, .int x)] → W p l e ({ frames := 7, cells := 0, slots := 0, locals := 166 } : Room) s m ([.ref (B + 259), .int x] : List Value).toArray below meth c H locs 0 0 (MF below G B (some (.int ((M_goneIn μ x).2))) ((M_goneIn μ x).1) ([.ref (B + 259), .int x] : List Value).toArray s) (F0 m 33 ls []) := by
        intro n
        induction n with
        | zero =>
          intro v2_33 μ_33 H locs ls inv0_33 inv1_33 fin0_33 hP hS hl
          refine lv_aload_n K.1.1 K.1.2.1 dX11_goneIn_33 rfl (lv_at hl 1 rfl) ?_
          refine lv_iload_n K.1.1 K.1.2.1 dX11_goneIn_34 rfl (lv_at hl 2 rfl) ?_
          refine m_cV (n := 1) (As := [.int x]) (rest := []) K hP hS (MX11_find l G B _ x inv0_33) (by decide) sh_259 rfl q_1303 q_1305 q_40 q_91 q_1306 hv_X11_find ⟨Nat.le_of_ble_eq_true rfl, Nat.le_of_ble_eq_true rfl⟩ rfl hl.1 rfl (Nat.le_of_ble_eq_true rfl) dX11_goneIn_35 ⟨Nat.zero_le _, Nat.zero_le _⟩ (fun H locs hP hS => ?_)
          refine lv_topi (fun r_3 er_3 => ?_)
          refine lv_if_lt (tgt := 52) K.1.1 K.1.2.1 dX11_goneIn_38 (by decide) (fun c_38 => ?_) (fun c_38 => ?_)
          · refine lv_aload_n K.1.1 K.1.2.1 dX11_goneIn_52 rfl (lv_at hl 1 rfl) ?_
            refine lv_iconst (v := 4) K.1.1 K.1.2.1 dX11_goneIn_53 (by decide) ?_
            refine m_cV (n := 1) (As := [.int 4]) (rest := []) K hP hS (MX11_brings l G B _ 4 (vpd rfl)) (by decide) sh_259 rfl q_1201 q_1203 q_23 q_91 q_1204 hv_X11_brings ⟨Nat.le_of_ble_eq_true rfl, Nat.le_of_ble_eq_true rfl⟩ rfl hl.1 rfl (Nat.le_of_ble_eq_true rfl) dX11_goneIn_54 ⟨Nat.zero_le _, Nat.zero_le _⟩ (fun H locs hP hS => ?_)
            refine W.eq (g2 := F0 m 57 ls []) rfl ?_
            refine lv_iload_n K.1.1 K.1.2.1 dX11_goneIn_57 rfl (lv_at hl 0 rfl) ?_
            exact m_iret K hr hlocks hP hS dX11_goneIn_58 (by subst er_1 eg_2 er_3; rw [M_goneIn, M_ask, show M_fdErr μ x = 0 from if_neg (Int32.not_lt.mpr c_6), if_pos rfl]; (try dsimp only [M_thr]); rw [fin0_33]; first | rw [GN, if_pos c_38] | rfl) (by subst er_1 eg_2 er_3; rw [M_goneIn, M_ask, show M_fdErr μ x = 0 from if_neg (Int32.not_lt.mpr c_6), if_pos rfl]; (try dsimp only [M_thr]); rw [fin0_33]; first | rw [GN, if_pos c_38] | rfl)
          · exact absurd c_38 (not_not_intro (by subst er_1 eg_2 er_3; exact inv1_33))
        | succ n ih_33 =>
          intro v2_33 μ_33 H locs ls inv0_33 inv1_33 fin0_33 hP hS hl
          refine lv_aload_n K.1.1 K.1.2.1 dX11_goneIn_33 rfl (lv_at hl 1 rfl) ?_
          refine lv_iload_n K.1.1 K.1.2.1 dX11_goneIn_34 rfl (lv_at hl 2 rfl) ?_
          refine m_cV (n := 1) (As := [.int x]) (rest := []) K hP hS (MX11_find l G B _ x inv0_33) (by decide) sh_259 rfl q_1303 q_1305 q_40 q_91 q_1306 hv_X11_find ⟨Nat.le_of_ble_eq_true rfl, Nat.le_of_ble_eq_true rfl⟩ rfl hl.1 rfl (Nat.le_of_ble_eq_true rfl) dX11_goneIn_35 ⟨Nat.zero_le _, Nat.zero_le _⟩ (fun H locs hP hS => ?_)
          refine lv_topi (fun r_4 er_4 => ?_)
          refine lv_if_lt (tgt := 52) K.1.1 K.1.2.1 dX11_goneIn_38 (by decide) (fun c_38 => ?_) (fun c_38 => ?_)
          · refine lv_aload_n K.1.1 K.1.2.1 dX11_goneIn_52 rfl (lv_at hl 1 rfl) ?_
            refine lv_iconst (v := 4) K.1.1 K.1.2.1 dX11_goneIn_53 (by decide) ?_
            refine m_cV (n := 1) (As := [.int 4]) (rest := []) K hP hS (MX11_brings l G B _ 4 (vpd rfl)) (by decide) sh_259 rfl q_1201 q_1203 q_23 q_91 q_1204 hv_X11_brings ⟨Nat.le_of_ble_eq_true rfl, Nat.le_of_ble_eq_true rfl⟩ rfl hl.1 rfl (Nat.le_of_ble_eq_true rfl) dX11_goneIn_54 ⟨Nat.zero_le _, Nat.zero_le _⟩ (fun H locs hP hS => ?_)
            refine W.eq (g2 := F0 m 57 ls []) rfl ?_
            refine lv_iload_n K.1.1 K.1.2.1 dX11_goneIn_57 rfl (lv_at hl 0 rfl) ?_
            exact m_iret K hr hlocks hP hS dX11_goneIn_58 (by subst er_1 eg_2 er_4; rw [M_goneIn, M_ask, show M_fdErr μ x = 0 from if_neg (Int32.not_lt.mpr c_6), if_pos rfl]; (try dsimp only [M_thr]); rw [fin0_33]; first | rw [GN, if_pos c_38] | rfl) (by subst er_1 eg_2 er_4; rw [M_goneIn, M_ask, show M_fdErr μ x = 0 from if_neg (Int32.not_lt.mpr c_6), if_pos rfl]; (try dsimp only [M_thr]); rw [fin0_33]; first | rw [GN, if_pos c_38] | rfl)
          · refine lv_aload_n K.1.1 K.1.2.1 dX11_goneIn_41 rfl (lv_at hl 1 rfl) ?_
            refine m_cV (n := 0) (As := []) (rest := []) K hP hS (MX11_clears l G B _  inv0_33 (inv1_33 (by subst er_1 eg_2 er_4; exact c_38)).1) (by decide) sh_259 rfl q_1323 q_1325 q_44 q_91 q_1326 hv_X11_clears ⟨Nat.le_of_ble_eq_true rfl, Nat.le_of_ble_eq_true rfl⟩ rfl hl.1 rfl (Nat.le_of_ble_eq_true rfl) dX11_goneIn_42 ⟨Nat.zero_le _, Nat.zero_le _⟩ (fun H locs hP hS => ?_)
            refine lv_topi (fun r_5 er_5 => ?_)
            refine lv_pop K.1.1 K.1.2.1 dX11_goneIn_45 rfl ?_
            obtain ⟨x_6, ex_6⟩ : ∃ y : Int32, y = v2_33 + (1) := ⟨_, rfl⟩
            refine lv_iinc (v := x_6) (lv' := [(2, .int x_6), (0, .ref (B + 259)), (1, .int x)]) K.1.1 K.1.2.1 dX11_goneIn_46 hl (k := 0) rfl (by rw [ex_6]; rfl) (by decide) rfl (fun ls hl => ?_)
            refine lv_goto (tgt := 33) K.1.1 K.1.2.1 dX11_goneIn_49 (by decide) ?_
            exact ih_33 _ _ _ _ _ (by subst er_1 eg_2 er_4 er_5 ex_6; exact MI_clears inv0_33 (inv1_33 c_38).1) (by subst er_1 eg_2 er_4 er_5 ex_6; exact (inv1_33 c_38).2) (by subst er_1 eg_2 er_4 er_5 ex_6; rw [fin0_33, GN, if_neg c_38]) hP hS (lv_sub hl [0, 1, 2] rfl)
      exact lp_33 (NN 12) _ _ _ _ _ (by exact MI_of hJ (M_keeps_ne (by decide))) (by exact hN) (by subst er_1 eg_2; rfl) hP hS (lv_sub hl [0, 1, 2] rfl)
    · exact absurd c_21 (not_not_intro (by subst er_1 eg_2; rw [up2_s]))
  · refine lv_iconst (v := 1) K.1.1 K.1.2.1 dX11_goneIn_9 (by decide) ?_
    refine lv_goto (tgt := 14) K.1.1 K.1.2.1 dX11_goneIn_10 (by decide) ?_
    refine m_puti K hP hS (by decide) sh_259 rfl tuX11 tyX11 tyX11_ok nmX11 3 (by decide) rfl rfl (by decide +kernel) q_1153 dX11_goneIn_14 (fun H locs hP hS => ?_)
    refine lv_aload_n K.1.1 K.1.2.1 dX11_goneIn_17 rfl (lv_at hl 0 rfl) ?_
    refine m_geti K hP (by decide) sh_259 rfl tuX11 3 (by decide) rfl q_1153 dX11_goneIn_18 ?_
    refine lv_topi (fun g_7 eg_7 => ?_)
    refine lv_if_eq (tgt := 26) K.1.1 K.1.2.1 dX11_goneIn_21 (by decide) (fun c_21 => ?_) (fun c_21 => ?_)
    · exact absurd c_21 (by subst er_1 eg_7; rw [up2_s]; decide)
    · refine lv_iconst (v := 0) K.1.1 K.1.2.1 dX11_goneIn_24 (by decide) ?_
      exact m_iret K hr hlocks hP hS dX11_goneIn_25 (by subst er_1 eg_7; rw [M_goneIn, M_ask, show M_fdErr μ x = 1 from if_pos (Int32.not_le.mp c_6)]; rfl) (by subst er_1 eg_7; rw [M_goneIn, M_ask, show M_fdErr μ x = 1 from if_pos (Int32.not_le.mp c_6)]; rfl)

