set_option maxHeartbeats 4000000 in
set_option maxRecDepth 100000 in
theorem MX3_findFault (l : Launch) (G : GG) (B : Nat) (μ : Mm) : CM l yX3_findFault (.code yX3_findFault cX3_findFault 2 (Option.some FieldType.int)) 8 176 G B [.ref (B + 254)] μ (some (.int (D_findFault μ 254 5))) (D_findFault μ) := by
  refine CM.of (by decide) (Nat.le_of_ble_eq_true rfl) ?_
  intro p e s m below meth c ls K hr hlocks hP hl
  have hS : va_S (AA B) s.heap s.heap [] := va_S.rf
  have hl : lv_has ls 2 [(0, .ref (B + 254))] := hl
  refine lv_aload_n K.1.1 K.1.2.1 dX3_findFault_0 rfl (lv_at hl 0 rfl) ?_
  refine m_cV (n := 0) (As := []) (rest := []) K hP hS (MX3_rewind l G B _  ) (by decide) sh_254 rfl q_419 q_420 q_421 q_90 q_422 hv_X3_rewind ⟨Nat.le_of_ble_eq_true rfl, Nat.le_of_ble_eq_true rfl⟩ rfl hl.1 rfl (Nat.le_of_ble_eq_true rfl) dX3_findFault_1 ⟨Nat.zero_le _, Nat.zero_le _⟩ (fun H locs hP hS => ?_)
  refine W.eq (g2 := F0 m 4 ls []) rfl ?_
  refine lv_iconst (v := 0) K.1.1 K.1.2.1 dX3_findFault_4 (by decide) ?_
  refine lv_istore_n (lv' := [(1, .int 0), (0, .ref (B + 254))]) K.1.1 K.1.2.1 dX3_findFault_5 rfl hl (by decide) rfl (fun ls hl => ?_)
  have lp_6 : ∀ n : Nat, ∀ (v1_6 : Int32) (μ_6 : Mm) (H : Heap) (locs : List Loc) (ls : Array Slot), (n ≤ 150) → (v1_6 = nI (150 - n)) → (D_ff (NN 150) (D_rewind μ) = D_ff n μ_6) → MP G B μ_6 H → va_S (AA B) s.heap H locs → lv_has ls 2 [(1, .int v1_6), (0, .ref (B + 254))] → W p l e ({ frames := 8, cells := 0, slots := 0, locals := 176 } : Room) s m ([.ref (B + 254)] : List Value).toArray below meth c H locs 0 0 (MF below G B (some (.int (D_findFault μ 254 5))) (D_findFault μ) ([.ref (B + 254)] : List Value).toArray s) (F0 m 6 ls []) := by
    intro n
    induction n with
    | zero =>
      intro v1_6 μ_6 H locs ls inv0_6 inv1_6 fin0_6 hP hS hl
      refine lv_iload_n K.1.1 K.1.2.1 dX3_findFault_6 rfl (lv_at hl 0 rfl) ?_
      refine lv_sipush (v := 150) K.1.1 K.1.2.1 dX3_findFault_7 (by decide) ?_
      refine lv_icmp_ge (tgt := 31) K.1.1 K.1.2.1 dX3_findFault_10 (by decide) (fun c_10 => ?_) (fun c_10 => ?_)
      · refine lv_aload_n K.1.1 K.1.2.1 dX3_findFault_31 rfl (lv_at hl 1 rfl) ?_
        refine m_geti K hP (by decide) sh_254 rfl tuX3 5 (by decide) rfl q_373 dX3_findFault_32 ?_
        refine lv_topi (fun g_1 eg_1 => ?_)
        exact m_iret K hr hlocks hP hS dX3_findFault_35 (by subst inv1_6 eg_1; rw [D_findFault, fin0_6]; first | rfl | rw [D_ff, if_pos c_17]) (by subst inv1_6 eg_1; rw [D_findFault, fin0_6]; first | rfl | rw [D_ff, if_pos c_17])
      · exact absurd c_10 (not_not_intro (by subst inv1_6; decide))
    | succ n ih_6 =>
      intro v1_6 μ_6 H locs ls inv0_6 inv1_6 fin0_6 hP hS hl
      refine lv_iload_n K.1.1 K.1.2.1 dX3_findFault_6 rfl (lv_at hl 0 rfl) ?_
      refine lv_sipush (v := 150) K.1.1 K.1.2.1 dX3_findFault_7 (by decide) ?_
      refine lv_icmp_ge (tgt := 31) K.1.1 K.1.2.1 dX3_findFault_10 (by decide) (fun c_10 => ?_) (fun c_10 => ?_)
      · exact absurd c_10 (by subst inv1_6; exact nI_ge (a := 150 - (n + 1)) (b := 150) (by omega) (by decide))
      · refine lv_aload_n K.1.1 K.1.2.1 dX3_findFault_13 rfl (lv_at hl 1 rfl) ?_
        refine m_cV (n := 0) (As := []) (rest := []) K hP hS (MX3_readCommand l G B _  ) (by decide) sh_254 rfl q_423 q_424 q_425 q_90 q_426 hv_X3_readCommand ⟨Nat.le_of_ble_eq_true rfl, Nat.le_of_ble_eq_true rfl⟩ rfl hl.1 rfl (Nat.le_of_ble_eq_true rfl) dX3_findFault_14 ⟨Nat.zero_le _, Nat.zero_le _⟩ (fun H locs hP hS => ?_)
        refine lv_topi (fun r_2 er_2 => ?_)
        refine lv_if_ne (tgt := 25) K.1.1 K.1.2.1 dX3_findFault_17 (by decide) (fun c_17 => ?_) (fun c_17 => ?_)
        · obtain ⟨x_3, ex_3⟩ : ∃ y : Int32, y = v1_6 + (1) := ⟨_, rfl⟩
          refine lv_iinc (v := x_3) (lv' := [(1, .int x_3), (0, .ref (B + 254))]) K.1.1 K.1.2.1 dX3_findFault_25 hl (k := 0) rfl (by rw [ex_3]; rfl) (by decide) rfl (fun ls hl => ?_)
          refine lv_goto (tgt := 6) K.1.1 K.1.2.1 dX3_findFault_28 (by decide) ?_
          exact ih_6 _ _ _ _ _ (by omega) (by subst inv1_6 er_2 ex_3; rw [nI_1, show 150 - (n + 1) + 1 = 150 - n by omega]) (by subst inv1_6 er_2 ex_3; rw [fin0_6, D_ff, if_neg c_17]) hP hS (lv_sub hl [0, 1] rfl)
        · refine lv_aload_n K.1.1 K.1.2.1 dX3_findFault_20 rfl (lv_at hl 1 rfl) ?_
          refine m_geti K hP (by decide) sh_254 rfl tuX3 5 (by decide) rfl q_373 dX3_findFault_21 ?_
          refine lv_topi (fun g_4 eg_4 => ?_)
          exact m_iret K hr hlocks hP hS dX3_findFault_24 (by subst inv1_6 er_2 eg_4; rw [D_findFault, fin0_6]; first | rfl | rw [D_ff, if_pos c_17]) (by subst inv1_6 er_2 eg_4; rw [D_findFault, fin0_6]; first | rfl | rw [D_ff, if_pos c_17])
  exact lp_6 (NN 150) _ _ _ _ _ (by rw [NN_eq]; exact Nat.le_refl _) (by rw [NN_eq]; rfl) (by rfl) hP hS (lv_sub hl [0, 1] rfl)

