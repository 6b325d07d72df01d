set_option maxHeartbeats 4000000 in
set_option maxRecDepth 100000 in
theorem MX3_readCommand (l : Launch) (G : GG) (B : Nat) (μ : Mm) : CM l yX3_readCommand (.code yX3_readCommand cX3_readCommand 3 (Option.some FieldType.boolean)) 7 154 G B [.ref (B + 254)] μ (some (.int ((D_readCommand μ).2))) ((D_readCommand μ).1) := by
  refine CM.of (by decide) (Nat.le_of_ble_eq_true rfl) ?_
  intro p e s m below meth c ls K hr hlocks hP hl
  have hS : va_S (AA B) s.heap s.heap [] := va_S.rf
  have hl : lv_has ls 3 [(0, .ref (B + 254))] := hl
  refine lv_aload_n K.1.1 K.1.2.1 dX3_readCommand_0 rfl (lv_at hl 0 rfl) ?_
  refine m_cV (n := 0) (As := []) (rest := []) K hP hS (MX3_skipSpaces l G B _  ) (by decide) sh_254 rfl q_427 q_429 q_0 q_90 q_430 hv_X3_skipSpaces ⟨Nat.le_of_ble_eq_true rfl, Nat.le_of_ble_eq_true rfl⟩ rfl hl.1 rfl (Nat.le_of_ble_eq_true rfl) dX3_readCommand_1 ⟨Nat.zero_le _, Nat.zero_le _⟩ (fun H locs hP hS => ?_)
  refine W.eq (g2 := F0 m 4 ls []) rfl ?_
  refine lv_aload_n K.1.1 K.1.2.1 dX3_readCommand_4 rfl (lv_at hl 0 rfl) ?_
  refine m_geti K hP (by decide) sh_254 rfl tuX3 4 (by decide) rfl q_372 dX3_readCommand_5 ?_
  refine lv_topi (fun g_1 eg_1 => ?_)
  refine lv_aload_n K.1.1 K.1.2.1 dX3_readCommand_8 rfl (lv_at hl 0 rfl) ?_
  refine m_geti K hP (by decide) sh_254 rfl tuX3 0 (by decide) rfl q_365 dX3_readCommand_9 ?_
  refine lv_topi (fun g_2 eg_2 => ?_)
  refine lv_icmp_eq (tgt := 22) K.1.1 K.1.2.1 dX3_readCommand_12 (by decide) (fun c_12 => ?_) (fun c_12 => ?_)
  · refine lv_iconst (v := 0) K.1.1 K.1.2.1 dX3_readCommand_22 (by decide) ?_
    exact m_zret K hr hlocks hP hS dX3_readCommand_23 (by first | rfl | (subst eg_1 eg_2; rfl)) (by subst eg_1 eg_2; rw [rcmd_endV c_12]) (by subst eg_1 eg_2; exact rcmd_endM c_12)
  · refine lv_aload_n K.1.1 K.1.2.1 dX3_readCommand_15 rfl (lv_at hl 0 rfl) ?_
    refine m_cV (n := 0) (As := []) (rest := []) K hP hS (MX3_readWord l G B _  ) (by decide) sh_254 rfl q_439 q_441 q_2 q_90 q_442 hv_X3_readWord ⟨Nat.le_of_ble_eq_true rfl, Nat.le_of_ble_eq_true rfl⟩ rfl hl.1 rfl (Nat.le_of_ble_eq_true rfl) dX3_readCommand_16 ⟨Nat.zero_le _, Nat.zero_le _⟩ (fun H locs hP hS => ?_)
    refine lv_topi (fun r_3 er_3 => ?_)
    refine lv_if_ne (tgt := 24) K.1.1 K.1.2.1 dX3_readCommand_19 (by decide) (fun c_19 => ?_) (fun c_19 => ?_)
    · refine lv_aload_n K.1.1 K.1.2.1 dX3_readCommand_24 rfl (lv_at hl 0 rfl) ?_
      refine m_getw K hP (by decide) sh_254 rfl tuX3 1 (by decide) rfl q_367 dX3_readCommand_25 ?_
      refine m_topw (fun g_4 eg_4 => ?_)
      by_cases c_28 : g_4 < 0
      · exact absurd c_28 (by subst eg_1 eg_2 er_3 eg_4; obtain ⟨kw, hk8, hkw⟩ := rw_word (μ := D_skipSpaces μ) c_19; rw [hkw]; exact nI_pos (by omega))
      · rw [show wv G g_4 = .ref (G.2.2.2 g_4.toNatClampNeg) from if_neg c_28]
        refine lv_ifnonnull (tgt := 35) K.1.1 K.1.2.1 dX3_readCommand_28 (by decide) ?_
        refine lv_aload_n K.1.1 K.1.2.1 dX3_readCommand_35 rfl (lv_at hl 0 rfl) ?_
        refine m_getw K hP (by decide) sh_254 rfl tuX3 1 (by decide) rfl q_367 dX3_readCommand_36 ?_
        refine m_topw (fun g_5 eg_5 => ?_)
        obtain ⟨kw, hk8, hkw⟩ := rw_word (μ := D_skipSpaces μ) (by subst eg_1 eg_2 er_3 eg_4 eg_5; exact c_19)
        rw [show wv G g_5 = .ref (G.2.2.2 kw) from (by rw [eg_5, hkw]; exact wv_nI hk8)]
        refine m_wnum K hS hk8 dX3_readCommand_39 ?_
        obtain ⟨j3, hj3, ej3⟩ := wdN_le kw hk8
        refine lv_topi (fun xw exw => ?_)
        have hx : xw = nI j3 := exw.trans ej3
        have hw : D_wanted (D_readWordM (D_skipSpaces μ) 254 1) = nI j3 := (by rw [D_wanted, hkw, cn_nI (by omega), ej3])
        refine lv_istore_n (lv' := [(1, .int xw), (0, .ref (B + 254))]) K.1.1 K.1.2.1 dX3_readCommand_42 rfl hl (by decide) rfl (fun ls hl => ?_)
        refine lv_iconst (v := 0) K.1.1 K.1.2.1 dX3_readCommand_43 (by decide) ?_
        refine lv_istore_n (lv' := [(2, .int 0), (1, .int xw), (0, .ref (B + 254))]) K.1.1 K.1.2.1 dX3_readCommand_44 rfl hl (by decide) rfl (fun ls hl => ?_)
        have lp_45 : ∀ n : Nat, ∀ (v2_45 : Int32) (μ_45 : Mm) (H : Heap) (locs : List Loc) (ls : Array Slot), (n ≤ j3) → (v2_45 = nI (j3 - n)) → (D_nums (cn (D_wanted (D_readWordM (D_skipSpaces μ) 254 1))) (D_readWordM (D_skipSpaces μ)) 0 = D_nums n μ_45 v2_45) → MP G B μ_45 H → va_S (AA B) s.heap H locs → lv_has ls 3 [(2, .int v2_45), (1, .int xw), (0, .ref (B + 254))] → W p l e ({ frames := 7, cells := 0, slots := 0, locals := 154 } : Room) s m ([.ref (B + 254)] : List Value).toArray below meth c H locs 0 0 (MF below G B (some (.int ((D_readCommand μ).2))) ((D_readCommand μ).1) ([.ref (B + 254)] : List Value).toArray s) (F0 m 45 ls []) := by
          intro n
          induction n with
          | zero =>
            intro v2_45 μ_45 H locs ls inv0_45 inv1_45 fin0_45 hP hS hl
            refine lv_iload_n K.1.1 K.1.2.1 dX3_readCommand_45 rfl (lv_at hl 0 rfl) ?_
            refine lv_iload_n K.1.1 K.1.2.1 dX3_readCommand_46 rfl (lv_at hl 1 rfl) ?_
            refine lv_icmp_ge (tgt := 66) K.1.1 K.1.2.1 dX3_readCommand_47 (by decide) (fun c_47 => ?_) (fun c_47 => ?_)
            · refine lv_aload_n K.1.1 K.1.2.1 dX3_readCommand_66 rfl (lv_at hl 2 rfl) ?_
              refine m_cV (n := 0) (As := []) (rest := []) K hP hS (MX3_skipSpaces l G B _  ) (by decide) sh_254 rfl q_427 q_429 q_0 q_90 q_430 hv_X3_skipSpaces ⟨Nat.le_of_ble_eq_true rfl, Nat.le_of_ble_eq_true rfl⟩ rfl hl.1 rfl (Nat.le_of_ble_eq_true rfl) dX3_readCommand_67 ⟨Nat.zero_le _, Nat.zero_le _⟩ (fun H locs hP hS => ?_)
              refine W.eq (g2 := F0 m 70 ls []) rfl ?_
              refine lv_aload_n K.1.1 K.1.2.1 dX3_readCommand_70 rfl (lv_at hl 2 rfl) ?_
              refine lv_bipush (v := 59) K.1.1 K.1.2.1 dX3_readCommand_71 (by decide) ?_
              refine m_cV (n := 1) (As := [.int 59]) (rest := []) K hP hS (MX3_readByte l G B _ 59 ) (by decide) sh_254 rfl q_509 q_511 q_5 q_90 q_512 hv_X3_readByte ⟨Nat.le_of_ble_eq_true rfl, Nat.le_of_ble_eq_true rfl⟩ rfl hl.1 rfl (Nat.le_of_ble_eq_true rfl) dX3_readCommand_73 ⟨Nat.zero_le _, Nat.zero_le _⟩ (fun H locs hP hS => ?_)
              refine lv_topi (fun r_6 er_6 => ?_)
              exact m_zret K hr hlocks hP hS dX3_readCommand_76 (by subst eg_1 eg_2 er_3 eg_4 eg_5 inv1_45 er_6; unfold D_readByte; split <;> rfl) (by subst eg_1 eg_2 er_3 eg_4 eg_5 inv1_45 er_6; rw [rcmd_okV c_12 c_19 (cmd3_ok fin0_45)]) (by subst eg_1 eg_2 er_3 eg_4 eg_5 inv1_45 er_6; exact rcmd_okM c_12 c_19 (cmd3_ok fin0_45))
            · exact absurd c_47 (not_not_intro (by rw [hx, inv1_45]; exact Int32.le_refl _))
          | succ n ih_45 =>
            intro v2_45 μ_45 H locs ls inv0_45 inv1_45 fin0_45 hP hS hl
            refine lv_iload_n K.1.1 K.1.2.1 dX3_readCommand_45 rfl (lv_at hl 0 rfl) ?_
            refine lv_iload_n K.1.1 K.1.2.1 dX3_readCommand_46 rfl (lv_at hl 1 rfl) ?_
            refine lv_icmp_ge (tgt := 66) K.1.1 K.1.2.1 dX3_readCommand_47 (by decide) (fun c_47 => ?_) (fun c_47 => ?_)
            · exact absurd c_47 (by rw [hx, inv1_45]; exact nI_ge (by omega) (by omega))
            · refine lv_aload_n K.1.1 K.1.2.1 dX3_readCommand_50 rfl (lv_at hl 2 rfl) ?_
              refine lv_iload_n K.1.1 K.1.2.1 dX3_readCommand_51 rfl (lv_at hl 0 rfl) ?_
              refine m_cV (n := 1) (As := [.int v2_45]) (rest := []) K hP hS (MX3_readNumber l G B _ v2_45 ) (by decide) sh_254 rfl q_505 q_507 q_4 q_90 q_508 hv_X3_readNumber ⟨Nat.le_of_ble_eq_true rfl, Nat.le_of_ble_eq_true rfl⟩ rfl hl.1 rfl (Nat.le_of_ble_eq_true rfl) dX3_readCommand_52 ⟨Nat.zero_le _, Nat.zero_le _⟩ (fun H locs hP hS => ?_)
              refine lv_topi (fun r_7 er_7 => ?_)
              refine lv_if_ne (tgt := 60) K.1.1 K.1.2.1 dX3_readCommand_55 (by decide) (fun c_55 => ?_) (fun c_55 => ?_)
              · obtain ⟨x_8, ex_8⟩ : ∃ y : Int32, y = v2_45 + (1) := ⟨_, rfl⟩
                refine lv_iinc (v := x_8) (lv' := [(2, .int x_8), (1, .int xw), (0, .ref (B + 254))]) K.1.1 K.1.2.1 dX3_readCommand_60 hl (k := 0) rfl (by rw [ex_8]; rfl) (by decide) rfl (fun ls hl => ?_)
                refine lv_goto (tgt := 45) K.1.1 K.1.2.1 dX3_readCommand_63 (by decide) ?_
                exact ih_45 _ _ _ _ _ (by omega) (by subst eg_1 eg_2 er_3 eg_4 eg_5 inv1_45 er_7 ex_8; rw [nI_1, show j3 - (n + 1) + 1 = j3 - n by omega]) (by subst eg_1 eg_2 er_3 eg_4 eg_5 inv1_45 er_7 ex_8; rw [fin0_45, D_nums, if_neg c_55, nI_1, show j3 - (n + 1) + 1 = j3 - n by omega]) hP hS (lv_sub hl [0, 1, 2] rfl)
              · refine lv_iconst (v := 0) K.1.1 K.1.2.1 dX3_readCommand_58 (by decide) ?_
                exact m_zret K hr hlocks hP hS dX3_readCommand_59 (by first | rfl | (subst eg_1 eg_2 er_3 eg_4 eg_5 inv1_45 er_7; rfl)) (by subst eg_1 eg_2 er_3 eg_4 eg_5 inv1_45 er_7; rw [rcmd_noV c_12 c_19 (cmd3_no fin0_45 c_55)]) (by subst eg_1 eg_2 er_3 eg_4 eg_5 inv1_45 er_7; exact rcmd_noM c_12 c_19 (cmd3_no fin0_45 c_55))
        exact lp_45 (j3) _ _ _ _ _ (by exact Nat.le_refl _) (by rw [Nat.sub_self]; rfl) (by rw [hw, cn_nI (by omega)]) hP hS (lv_sub hl [0, 1, 2] rfl)
    · refine lv_iconst (v := 0) K.1.1 K.1.2.1 dX3_readCommand_22 (by decide) ?_
      exact m_zret K hr hlocks hP hS dX3_readCommand_23 (by first | rfl | (subst eg_1 eg_2 er_3; rfl)) (by subst eg_1 eg_2 er_3; rw [rcmd_wV c_12 c_19]) (by subst eg_1 eg_2 er_3; exact rcmd_wM c_12 c_19)

