set_option maxHeartbeats 4000000 in
set_option maxRecDepth 100000 in
theorem MX11_isHere (l : Launch) (G : GG) (B : Nat) (μ : Mm) (lo : Int32) (hi : Int32) (hM : MC μ) : CM l yX11_isHere (.code yX11_isHere cX11_isHere 3 (Option.some FieldType.boolean)) 1 22 G B [.ref (B + 259), .int lo, .int hi] μ (some (.int (M_isHere μ lo hi))) μ := by
  refine CM.of (by decide) (Nat.le_of_ble_eq_true rfl) ?_
  intro p e s m below meth c ls K hr hlocks hP hl
  have hS : va_S (AA B) s.heap s.heap [] := va_S.rf
  have hl : lv_has ls 3 [(0, .ref (B + 259)), (1, .int lo), (2, .int hi)] := hl
  refine lv_aload_n K.1.1 K.1.2.1 dX11_isHere_0 rfl (lv_at hl 0 rfl) ?_
  refine m_geti K hP (by decide) sh_259 rfl tuX11 10 (by decide) rfl q_1160 dX11_isHere_1 ?_
  refine lv_topi (fun g_1 eg_1 => ?_)
  refine lv_aload_n K.1.1 K.1.2.1 dX11_isHere_4 rfl (lv_at hl 0 rfl) ?_
  refine m_geti K hP (by decide) sh_259 rfl tuX11 9 (by decide) rfl q_1159 dX11_isHere_5 ?_
  refine lv_topi (fun g_2 eg_2 => ?_)
  refine lv_icmp_ge (tgt := 32) K.1.1 K.1.2.1 dX11_isHere_8 (by decide) (fun c_8 => ?_) (fun c_8 => ?_)
  · refine lv_iconst (v := 0) K.1.1 K.1.2.1 dX11_isHere_32 (by decide) ?_
    exact m_zret K hr hlocks hP hS dX11_isHere_33 (by first | rfl | (subst eg_1 eg_2; rfl)) (by subst eg_1 eg_2; rw [M_isHere]; first | rw [if_neg (Int32.not_lt.mpr c_8)] | (rw [if_pos (Int32.not_le.mp c_8), M_here]; first | rw [if_pos c_25] | rw [if_neg c_25])) rfl
  · refine lv_aload_n K.1.1 K.1.2.1 dX11_isHere_11 rfl (lv_at hl 0 rfl) ?_
    refine m_getr K hP (by decide) sh_259 rfl tuX11 8 (by decide) rfl q_1158 dX11_isHere_12 ?_
    refine lv_aload_n K.1.1 K.1.2.1 dX11_isHere_15 rfl (lv_at hl 0 rfl) ?_
    refine m_geti K hP (by decide) sh_259 rfl tuX11 10 (by decide) rfl q_1160 dX11_isHere_16 ?_
    refine lv_topi (fun g_3 eg_3 => ?_)
    refine m_iald K hP (by decide) sh_262 (n := 150) (by subst eg_1 eg_2 eg_3; exact MC_at hM (Int32.not_le.mp c_8)) dX11_isHere_19 ?_
    refine lv_topi (fun g_4 eg_4 => ?_)
    have eg_4 : g_4 = (_ : Mm) 262 (cn g_3) := eg_4
    refine lv_iload_n K.1.1 K.1.2.1 dX11_isHere_20 rfl (lv_at hl 1 rfl) ?_
    refine lv_iload_n K.1.1 K.1.2.1 dX11_isHere_21 rfl (lv_at hl 2 rfl) ?_
    refine m_cS (n := 3) (As := [.int g_4, .int lo, .int hi]) (rest := []) K hP hS (MX11_isIn l G B _ g_4 lo hi ) q_1213 q_1214 q_91 q_1215 hv_X11_isIn ⟨Nat.le_of_ble_eq_true rfl, Nat.le_of_ble_eq_true rfl⟩ rfl hl.1 rfl (Nat.le_of_ble_eq_true rfl) dX11_isHere_22 ⟨Nat.zero_le _, Nat.zero_le _⟩ (fun H locs hP hS => ?_)
    refine lv_topi (fun r_5 er_5 => ?_)
    refine lv_if_eq (tgt := 32) K.1.1 K.1.2.1 dX11_isHere_25 (by decide) (fun c_25 => ?_) (fun c_25 => ?_)
    · refine lv_iconst (v := 0) K.1.1 K.1.2.1 dX11_isHere_32 (by decide) ?_
      exact m_zret K hr hlocks hP hS dX11_isHere_33 (by first | rfl | (subst eg_1 eg_2 eg_3 eg_4 er_5; rfl)) (by subst eg_1 eg_2 eg_3 eg_4 er_5; rw [M_isHere]; first | rw [if_neg (Int32.not_lt.mpr c_8)] | (rw [if_pos (Int32.not_le.mp c_8), M_here]; first | rw [if_pos c_25] | rw [if_neg c_25])) rfl
    · refine lv_iconst (v := 1) K.1.1 K.1.2.1 dX11_isHere_28 (by decide) ?_
      refine lv_goto (tgt := 33) K.1.1 K.1.2.1 dX11_isHere_29 (by decide) ?_
      exact m_zret K hr hlocks hP hS dX11_isHere_33 (by first | rfl | (subst eg_1 eg_2 eg_3 eg_4 er_5; rfl)) (by subst eg_1 eg_2 eg_3 eg_4 er_5; rw [M_isHere]; first | rw [if_neg (Int32.not_lt.mpr c_8)] | (rw [if_pos (Int32.not_le.mp c_8), M_here]; first | rw [if_pos c_25] | rw [if_neg c_25])) rfl

set_option maxHeartbeats 4000000 in
set_option maxRecDepth 100000 in
theorem MX11_passesSpaces (l : Launch) (G : GG) (B : Nat) (μ : Mm) (hM : MC μ) : CM l yX11_passesSpaces (.code yX11_passesSpaces cX11_passesSpaces 1 Option.none) 2 44 G B [.ref (B + 259)] μ none (M_spaces μ) := by
  refine CM.of (by decide) (Nat.le_of_ble_eq_true rfl) ?_
  intro p e s m below meth c ls K hr hlocks hP hl
  have hS : va_S (AA B) s.heap s.heap [] := va_S.rf
  have hl : lv_has ls 1 [(0, .ref (B + 259))] := hl
  have lp_0 : ∀ n : Nat, ∀ (μ_0 : Mm) (H : Heap) (locs : List Loc) (ls : Array Slot), (MC μ_0) → (cn (μ_0 259 9) ≤ cn (μ_0 259 10) + n) → (M_skip (cn (μ 259 9)) μ = M_skip n μ_0) → MP G B μ_0 H → va_S (AA B) s.heap H locs → lv_has ls 1 [(0, .ref (B + 259))] → W p l e ({ frames := 2, cells := 0, slots := 0, locals := 44 } : Room) s m ([.ref (B + 259)] : List Value).toArray below meth c H locs 0 0 (MF below G B none (M_spaces μ) ([.ref (B + 259)] : List Value).toArray s) (F0 m 0 ls []) := by
    intro n
    induction n with
    | zero =>
      intro μ_0 H locs ls inv0_0 inv1_0 fin0_0 hP hS hl
      refine lv_aload_n K.1.1 K.1.2.1 dX11_passesSpaces_0 rfl (lv_at hl 0 rfl) ?_
      refine lv_bipush (v := 32) K.1.1 K.1.2.1 dX11_passesSpaces_1 (by decide) ?_
      refine lv_bipush (v := 32) K.1.1 K.1.2.1 dX11_passesSpaces_3 (by decide) ?_
      refine m_cV (n := 2) (As := [.int 32, .int 32]) (rest := []) K hP hS (MX11_isHere l G B _ 32 32 inv0_0) (by decide) sh_259 rfl q_1506 q_1508 q_74 q_91 q_1509 hv_X11_isHere ⟨Nat.le_of_ble_eq_true rfl, Nat.le_of_ble_eq_true rfl⟩ rfl hl.1 rfl (Nat.le_of_ble_eq_true rfl) dX11_passesSpaces_5 ⟨Nat.zero_le _, Nat.zero_le _⟩ (fun H locs hP hS => ?_)
      refine lv_topi (fun r_1 er_1 => ?_)
      refine lv_if_eq (tgt := 24) K.1.1 K.1.2.1 dX11_passesSpaces_8 (by decide) (fun c_8 => ?_) (fun c_8 => ?_)
      · exact m_vret K hr hlocks hP hS dX11_passesSpaces_24 rfl (by subst er_1; rw [M_spaces_eq, fin0_0]; first | rw [M_skip, if_pos c_8] | rfl)
      · exact absurd c_8 (not_not_intro (by subst er_1; exact here_end inv0_0 inv1_0))
    | succ n ih_0 =>
      intro μ_0 H locs ls inv0_0 inv1_0 fin0_0 hP hS hl
      refine lv_aload_n K.1.1 K.1.2.1 dX11_passesSpaces_0 rfl (lv_at hl 0 rfl) ?_
      refine lv_bipush (v := 32) K.1.1 K.1.2.1 dX11_passesSpaces_1 (by decide) ?_
      refine lv_bipush (v := 32) K.1.1 K.1.2.1 dX11_passesSpaces_3 (by decide) ?_
      refine m_cV (n := 2) (As := [.int 32, .int 32]) (rest := []) K hP hS (MX11_isHere l G B _ 32 32 inv0_0) (by decide) sh_259 rfl q_1506 q_1508 q_74 q_91 q_1509 hv_X11_isHere ⟨Nat.le_of_ble_eq_true rfl, Nat.le_of_ble_eq_true rfl⟩ rfl hl.1 rfl (Nat.le_of_ble_eq_true rfl) dX11_passesSpaces_5 ⟨Nat.zero_le _, Nat.zero_le _⟩ (fun H locs hP hS => ?_)
      refine lv_topi (fun r_2 er_2 => ?_)
      refine lv_if_eq (tgt := 24) K.1.1 K.1.2.1 dX11_passesSpaces_8 (by decide) (fun c_8 => ?_) (fun c_8 => ?_)
      · exact m_vret K hr hlocks hP hS dX11_passesSpaces_24 rfl (by subst er_2; rw [M_spaces_eq, fin0_0]; first | rw [M_skip, if_pos c_8] | rfl)
      · refine lv_aload_n K.1.1 K.1.2.1 dX11_passesSpaces_11 rfl (lv_at hl 0 rfl) ?_
        refine lv_dup K.1.1 K.1.2.1 dX11_passesSpaces_12 rfl ?_
        refine m_geti K hP (by decide) sh_259 rfl tuX11 10 (by decide) rfl q_1160 dX11_passesSpaces_13 ?_
        refine lv_topi (fun g_3 eg_3 => ?_)
        refine lv_iconst (v := 1) K.1.1 K.1.2.1 dX11_passesSpaces_16 (by decide) ?_
        refine lv_iadd K.1.1 K.1.2.1 dX11_passesSpaces_17 ?_
        refine m_puti K hP hS (by decide) sh_259 rfl tuX11 tyX11 tyX11_ok nmX11 10 (by decide) rfl rfl (by decide +kernel) q_1160 dX11_passesSpaces_18 (fun H locs hP hS => ?_)
        refine lv_goto (tgt := 0) K.1.1 K.1.2.1 dX11_passesSpaces_21 (by decide) ?_
        exact ih_0  _ _ _ _ (by subst er_2 eg_3; exact MC_nx inv0_0 (isHere_lt c_8)) (by subst er_2 eg_3; exact nx_fuel inv0_0 (isHere_lt c_8) inv1_0) (by subst er_2 eg_3; rw [fin0_0, M_skip, if_neg c_8]; rfl) hP hS (lv_sub hl [0] rfl)
  exact lp_0 (cn (μ 259 9))  _ _ _ _ (by exact hM) (by exact Nat.le_add_left _ _) (by rfl) hP hS (lv_sub hl [0] rfl)

set_option maxHeartbeats 4000000 in
set_option maxRecDepth 100000 in
theorem MX11_readsWord (l : Launch) (G : GG) (B : Nat) (μ : Mm) (hM : MC μ) : CM l yX11_readsWord (.code yX11_readsWord cX11_readsWord 3 (Option.some FieldType.int)) 2 44 G B [.ref (B + 259)] μ (some (.int (M_readsWord μ))) ((M_word μ).1) := by
  refine CM.of (by decide) (Nat.le_of_ble_eq_true rfl) ?_
  intro p e s m below meth c ls K hr hlocks hP hl
  have hS : va_S (AA B) s.heap s.heap [] := va_S.rf
  have hl : lv_has ls 3 [(0, .ref (B + 259))] := hl
  refine lv_iconst (v := 0) K.1.1 K.1.2.1 dX11_readsWord_0 (by decide) ?_
  refine lv_istore_n (lv' := [(1, .int 0), (0, .ref (B + 259))]) K.1.1 K.1.2.1 dX11_readsWord_1 rfl hl (by decide) rfl (fun ls hl => ?_)
  refine lv_iconst (v := 0) K.1.1 K.1.2.1 dX11_readsWord_2 (by decide) ?_
  refine lv_istore_n (lv' := [(2, .int 0), (1, .int 0), (0, .ref (B + 259))]) K.1.1 K.1.2.1 dX11_readsWord_3 rfl hl (by decide) rfl (fun ls hl => ?_)
  have lp_4 : ∀ n : Nat, ∀ (v2_4 : Int32) (v1_4 : Int32) (μ_4 : Mm) (H : Heap) (locs : List Loc) (ls : Array Slot), (MC μ_4) → (cn (μ_4 259 9) ≤ cn (μ_4 259 10) + n) → (RW (cn (μ 259 9)) μ 0 0 = RW n μ_4 v1_4 v2_4) → MP G B μ_4 H → va_S (AA B) s.heap H locs → lv_has ls 3 [(2, .int v2_4), (1, .int v1_4), (0, .ref (B + 259))] → W p l e ({ frames := 2, cells := 0, slots := 0, locals := 44 } : Room) s m ([.ref (B + 259)] : List Value).toArray below meth c H locs 0 0 (MF below G B (some (.int (M_readsWord μ))) ((M_word μ).1) ([.ref (B + 259)] : List Value).toArray s) (F0 m 4 ls []) := by
    intro n
    induction n with
    | zero =>
      intro v2_4 v1_4 μ_4 H locs ls inv0_4 inv1_4 fin0_4 hP hS hl
      refine lv_aload_n K.1.1 K.1.2.1 dX11_readsWord_4 rfl (lv_at hl 2 rfl) ?_
      refine lv_bipush (v := 97) K.1.1 K.1.2.1 dX11_readsWord_5 (by decide) ?_
      refine lv_bipush (v := 122) K.1.1 K.1.2.1 dX11_readsWord_7 (by decide) ?_
      refine m_cV (n := 2) (As := [.int 97, .int 122]) (rest := []) K hP hS (MX11_isHere l G B _ 97 122 inv0_4) (by decide) sh_259 rfl q_1506 q_1508 q_74 q_91 q_1509 hv_X11_isHere ⟨Nat.le_of_ble_eq_true rfl, Nat.le_of_ble_eq_true rfl⟩ rfl hl.1 rfl (Nat.le_of_ble_eq_true rfl) dX11_readsWord_9 ⟨Nat.zero_le _, Nat.zero_le _⟩ (fun H locs hP hS => ?_)
      refine lv_topi (fun r_1 er_1 => ?_)
      refine lv_if_eq (tgt := 61) K.1.1 K.1.2.1 dX11_readsWord_12 (by decide) (fun c_12 => ?_) (fun c_12 => ?_)
      · refine lv_iload_n K.1.1 K.1.2.1 dX11_readsWord_61 rfl (lv_at hl 0 rfl) ?_
        refine lv_bipush (v := 6) K.1.1 K.1.2.1 dX11_readsWord_62 (by decide) ?_
        refine lv_icmp_le (tgt := 71) K.1.1 K.1.2.1 dX11_readsWord_64 (by decide) (fun c_64 => ?_) (fun c_64 => ?_)
        · refine lv_iload_n K.1.1 K.1.2.1 dX11_readsWord_71 rfl (lv_at hl 1 rfl) ?_
          exact m_iret K hr hlocks hP hS dX11_readsWord_72 (by subst er_1; have hW : M_word μ = (μ_4, v1_4, v2_4) := (by rw [M_word_eq, fin0_4]; first | rw [RW, if_pos c_12] | rfl); rw [M_readsWord, hW]; dsimp only; first | rw [if_neg (Int32.not_lt.mpr c_64)] | rw [if_pos (Int32.not_le.mp c_64)]) (by subst er_1; have hW : M_word μ = (μ_4, v1_4, v2_4) := (by rw [M_word_eq, fin0_4]; first | rw [RW, if_pos c_12] | rfl); rw [hW])
        · refine lv_iconst (v := 0) K.1.1 K.1.2.1 dX11_readsWord_67 (by decide) ?_
          refine lv_goto (tgt := 72) K.1.1 K.1.2.1 dX11_readsWord_68 (by decide) ?_
          exact m_iret K hr hlocks hP hS dX11_readsWord_72 (by subst er_1; have hW : M_word μ = (μ_4, v1_4, v2_4) := (by rw [M_word_eq, fin0_4]; first | rw [RW, if_pos c_12] | rfl); rw [M_readsWord, hW]; dsimp only; first | rw [if_neg (Int32.not_lt.mpr c_64)] | rw [if_pos (Int32.not_le.mp c_64)]) (by subst er_1; have hW : M_word μ = (μ_4, v1_4, v2_4) := (by rw [M_word_eq, fin0_4]; first | rw [RW, if_pos c_12] | rfl); rw [hW])
      · exact absurd c_12 (not_not_intro (by subst er_1; exact here_end inv0_4 inv1_4))
    | succ n ih_4 =>
      intro v2_4 v1_4 μ_4 H locs ls inv0_4 inv1_4 fin0_4 hP hS hl
      refine lv_aload_n K.1.1 K.1.2.1 dX11_readsWord_4 rfl (lv_at hl 2 rfl) ?_
      refine lv_bipush (v := 97) K.1.1 K.1.2.1 dX11_readsWord_5 (by decide) ?_
      refine lv_bipush (v := 122) K.1.1 K.1.2.1 dX11_readsWord_7 (by decide) ?_
      refine m_cV (n := 2) (As := [.int 97, .int 122]) (rest := []) K hP hS (MX11_isHere l G B _ 97 122 inv0_4) (by decide) sh_259 rfl q_1506 q_1508 q_74 q_91 q_1509 hv_X11_isHere ⟨Nat.le_of_ble_eq_true rfl, Nat.le_of_ble_eq_true rfl⟩ rfl hl.1 rfl (Nat.le_of_ble_eq_true rfl) dX11_readsWord_9 ⟨Nat.zero_le _, Nat.zero_le _⟩ (fun H locs hP hS => ?_)
      refine lv_topi (fun r_2 er_2 => ?_)
      refine lv_if_eq (tgt := 61) K.1.1 K.1.2.1 dX11_readsWord_12 (by decide) (fun c_12 => ?_) (fun c_12 => ?_)
      · refine lv_iload_n K.1.1 K.1.2.1 dX11_readsWord_61 rfl (lv_at hl 0 rfl) ?_
        refine lv_bipush (v := 6) K.1.1 K.1.2.1 dX11_readsWord_62 (by decide) ?_
        refine lv_icmp_le (tgt := 71) K.1.1 K.1.2.1 dX11_readsWord_64 (by decide) (fun c_64 => ?_) (fun c_64 => ?_)
        · refine lv_iload_n K.1.1 K.1.2.1 dX11_readsWord_71 rfl (lv_at hl 1 rfl) ?_
          exact m_iret K hr hlocks hP hS dX11_readsWord_72 (by subst er_2; have hW : M_word μ = (μ_4, v1_4, v2_4) := (by rw [M_word_eq, fin0_4]; first | rw [RW, if_pos c_12] | rfl); rw [M_readsWord, hW]; dsimp only; first | rw [if_neg (Int32.not_lt.mpr c_64)] | rw [if_pos (Int32.not_le.mp c_64)]) (by subst er_2; have hW : M_word μ = (μ_4, v1_4, v2_4) := (by rw [M_word_eq, fin0_4]; first | rw [RW, if_pos c_12] | rfl); rw [hW])
        · refine lv_iconst (v := 0) K.1.1 K.1.2.1 dX11_readsWord_67 (by decide) ?_
          refine lv_goto (tgt := 72) K.1.1 K.1.2.1 dX11_readsWord_68 (by decide) ?_
          exact m_iret K hr hlocks hP hS dX11_readsWord_72 (by subst er_2; have hW : M_word μ = (μ_4, v1_4, v2_4) := (by rw [M_word_eq, fin0_4]; first | rw [RW, if_pos c_12] | rfl); rw [M_readsWord, hW]; dsimp only; first | rw [if_neg (Int32.not_lt.mpr c_64)] | rw [if_pos (Int32.not_le.mp c_64)]) (by subst er_2; have hW : M_word μ = (μ_4, v1_4, v2_4) := (by rw [M_word_eq, fin0_4]; first | rw [RW, if_pos c_12] | rfl); rw [hW])
      · refine lv_iload_n K.1.1 K.1.2.1 dX11_readsWord_15 rfl (lv_at hl 0 rfl) ?_
        refine lv_bipush (v := 6) K.1.1 K.1.2.1 dX11_readsWord_16 (by decide) ?_
        refine lv_icmp_ge (tgt := 43) K.1.1 K.1.2.1 dX11_readsWord_18 (by decide) (fun c_18 => ?_) (fun c_18 => ?_)
        · refine lv_iconst (v := 0) K.1.1 K.1.2.1 dX11_readsWord_43 (by decide) ?_
          refine lv_istore_n (lv' := [(1, .int 0), (2, .int v2_4), (0, .ref (B + 259))]) K.1.1 K.1.2.1 dX11_readsWord_44 rfl hl (by decide) rfl (fun ls hl => ?_)
          obtain ⟨x_3, ex_3⟩ : ∃ y : Int32, y = v2_4 + (1) := ⟨_, rfl⟩
          refine lv_iinc (v := x_3) (lv' := [(2, .int x_3), (1, .int 0), (0, .ref (B + 259))]) K.1.1 K.1.2.1 dX11_readsWord_45 hl (k := 1) rfl (by rw [ex_3]; rfl) (by decide) rfl (fun ls hl => ?_)
          refine lv_aload_n K.1.1 K.1.2.1 dX11_readsWord_48 rfl (lv_at hl 2 rfl) ?_
          refine lv_dup K.1.1 K.1.2.1 dX11_readsWord_49 rfl ?_
          refine m_geti K hP (by decide) sh_259 rfl tuX11 10 (by decide) rfl q_1160 dX11_readsWord_50 ?_
          refine lv_topi (fun g_4 eg_4 => ?_)
          refine lv_iconst (v := 1) K.1.1 K.1.2.1 dX11_readsWord_53 (by decide) ?_
          refine lv_iadd K.1.1 K.1.2.1 dX11_readsWord_54 ?_
          refine m_puti K hP hS (by decide) sh_259 rfl tuX11 tyX11 tyX11_ok nmX11 10 (by decide) rfl rfl (by decide +kernel) q_1160 dX11_readsWord_55 (fun H locs hP hS => ?_)
          refine lv_goto (tgt := 4) K.1.1 K.1.2.1 dX11_readsWord_58 (by decide) ?_
          exact ih_4 _ _ _ _ _ _ (by subst er_2 ex_3 eg_4; exact MC_nx inv0_4 (isHere_lt c_12)) (by subst er_2 ex_3 eg_4; exact nx_fuel inv0_4 (isHere_lt c_12) inv1_4) (by subst er_2 ex_3 eg_4; rw [fin0_4, RW, if_neg c_12]; first | (rw [if_pos (Int32.not_le.mp c_18)]; rfl) | (rw [if_neg (Int32.not_lt.mpr c_18)]; rfl)) hP hS (lv_sub hl [0, 1, 2] rfl)
        · refine lv_bipush (v := 27) K.1.1 K.1.2.1 dX11_readsWord_21 (by decide) ?_
          refine lv_iload_n K.1.1 K.1.2.1 dX11_readsWord_23 rfl (lv_at hl 1 rfl) ?_
          refine lv_imul K.1.1 K.1.2.1 dX11_readsWord_24 ?_
          refine lv_aload_n K.1.1 K.1.2.1 dX11_readsWord_25 rfl (lv_at hl 2 rfl) ?_
          refine m_getr K hP (by decide) sh_259 rfl tuX11 8 (by decide) rfl q_1158 dX11_readsWord_26 ?_
          refine lv_aload_n K.1.1 K.1.2.1 dX11_readsWord_29 rfl (lv_at hl 2 rfl) ?_
          refine m_geti K hP (by decide) sh_259 rfl tuX11 10 (by decide) rfl q_1160 dX11_readsWord_30 ?_
          refine lv_topi (fun g_5 eg_5 => ?_)
          refine m_iald K hP (by decide) sh_262 (n := 150) (by subst er_2 eg_5; exact MC_at inv0_4 (isHere_lt c_12)) dX11_readsWord_33 ?_
          refine lv_topi (fun g_6 eg_6 => ?_)
          have eg_6 : g_6 = (_ : Mm) 262 (cn g_5) := eg_6
          refine lv_iadd K.1.1 K.1.2.1 dX11_readsWord_34 ?_
          refine lv_bipush (v := 97) K.1.1 K.1.2.1 dX11_readsWord_35 (by decide) ?_
          refine lv_isub K.1.1 K.1.2.1 dX11_readsWord_37 ?_
          refine lv_iconst (v := 1) K.1.1 K.1.2.1 dX11_readsWord_38 (by decide) ?_
          refine lv_iadd K.1.1 K.1.2.1 dX11_readsWord_39 ?_
          refine lv_goto (tgt := 44) K.1.1 K.1.2.1 dX11_readsWord_40 (by decide) ?_
          refine lv_topi (fun x_7 ex_7 => ?_)
          refine lv_istore_n (lv' := [(1, .int x_7), (2, .int v2_4), (0, .ref (B + 259))]) K.1.1 K.1.2.1 dX11_readsWord_44 rfl hl (by decide) rfl (fun ls hl => ?_)
          obtain ⟨x_8, ex_8⟩ : ∃ y : Int32, y = v2_4 + (1) := ⟨_, rfl⟩
          refine lv_iinc (v := x_8) (lv' := [(2, .int x_8), (1, .int x_7), (0, .ref (B + 259))]) K.1.1 K.1.2.1 dX11_readsWord_45 hl (k := 1) rfl (by rw [ex_8]; rfl) (by decide) rfl (fun ls hl => ?_)
          refine lv_aload_n K.1.1 K.1.2.1 dX11_readsWord_48 rfl (lv_at hl 2 rfl) ?_
          refine lv_dup K.1.1 K.1.2.1 dX11_readsWord_49 rfl ?_
          refine m_geti K hP (by decide) sh_259 rfl tuX11 10 (by decide) rfl q_1160 dX11_readsWord_50 ?_
          refine lv_topi (fun g_9 eg_9 => ?_)
          refine lv_iconst (v := 1) K.1.1 K.1.2.1 dX11_readsWord_53 (by decide) ?_
          refine lv_iadd K.1.1 K.1.2.1 dX11_readsWord_54 ?_
          refine m_puti K hP hS (by decide) sh_259 rfl tuX11 tyX11 tyX11_ok nmX11 10 (by decide) rfl rfl (by decide +kernel) q_1160 dX11_readsWord_55 (fun H locs hP hS => ?_)
          refine lv_goto (tgt := 4) K.1.1 K.1.2.1 dX11_readsWord_58 (by decide) ?_
          exact ih_4 _ _ _ _ _ _ (by subst er_2 eg_5 eg_6 ex_7 ex_8 eg_9; exact MC_nx inv0_4 (isHere_lt c_12)) (by subst er_2 eg_5 eg_6 ex_7 ex_8 eg_9; exact nx_fuel inv0_4 (isHere_lt c_12) inv1_4) (by subst er_2 eg_5 eg_6 ex_7 ex_8 eg_9; rw [fin0_4, RW, if_neg c_12]; first | (rw [if_pos (Int32.not_le.mp c_18)]; rfl) | (rw [if_neg (Int32.not_lt.mpr c_18)]; rfl)) hP hS (lv_sub hl [0, 1, 2] rfl)
  exact lp_4 (cn (μ 259 9)) _ _ _ _ _ _ (by exact hM) (by exact Nat.le_add_left _ _) (by rfl) hP hS (lv_sub hl [0, 1, 2] rfl)

set_option maxHeartbeats 4000000 in
set_option maxRecDepth 100000 in
theorem MX11_codeOf (l : Launch) (G : GG) (B : Nat) (μ : Mm) (a1 : Int32) (b1 : Int32) (c1 : Int32) (d1 : Int32) (e1 : Int32) (f1 : Int32) : CM l yX11_codeOf (.code yX11_codeOf cX11_codeOf 7 (Option.some FieldType.int)) 0 0 G B [.int a1, .int b1, .int c1, .int d1, .int e1, .int f1] μ (some (.int (M_codeOf a1 b1 c1 d1 e1 f1))) μ := by
  refine CM.of (by decide) (Nat.le_of_ble_eq_true rfl) ?_
  intro p e s m below meth c ls K hr hlocks hP hl
  have hS : va_S (AA B) s.heap s.heap [] := va_S.rf
  have hl : lv_has ls 7 [(0, .int a1), (1, .int b1), (2, .int c1), (3, .int d1), (4, .int e1), (5, .int f1)] := hl
  refine lv_bipush (v := 27) K.1.1 K.1.2.1 dX11_codeOf_0 (by decide) ?_
  refine lv_bipush (v := 27) K.1.1 K.1.2.1 dX11_codeOf_2 (by decide) ?_
  refine lv_iload_n K.1.1 K.1.2.1 dX11_codeOf_4 rfl (lv_at hl 0 rfl) ?_
  refine lv_bipush (v := 97) K.1.1 K.1.2.1 dX11_codeOf_5 (by decide) ?_
  refine lv_isub K.1.1 K.1.2.1 dX11_codeOf_7 ?_
  refine lv_iconst (v := 1) K.1.1 K.1.2.1 dX11_codeOf_8 (by decide) ?_
  refine lv_iadd K.1.1 K.1.2.1 dX11_codeOf_9 ?_
  refine lv_imul K.1.1 K.1.2.1 dX11_codeOf_10 ?_
  refine lv_iload_n K.1.1 K.1.2.1 dX11_codeOf_11 rfl (lv_at hl 1 rfl) ?_
  refine lv_iadd K.1.1 K.1.2.1 dX11_codeOf_12 ?_
  refine lv_bipush (v := 97) K.1.1 K.1.2.1 dX11_codeOf_13 (by decide) ?_
  refine lv_isub K.1.1 K.1.2.1 dX11_codeOf_15 ?_
  refine lv_iconst (v := 1) K.1.1 K.1.2.1 dX11_codeOf_16 (by decide) ?_
  refine lv_iadd K.1.1 K.1.2.1 dX11_codeOf_17 ?_
  refine lv_imul K.1.1 K.1.2.1 dX11_codeOf_18 ?_
  refine lv_iload_n K.1.1 K.1.2.1 dX11_codeOf_19 rfl (lv_at hl 2 rfl) ?_
  refine lv_iadd K.1.1 K.1.2.1 dX11_codeOf_20 ?_
  refine lv_bipush (v := 97) K.1.1 K.1.2.1 dX11_codeOf_21 (by decide) ?_
  refine lv_isub K.1.1 K.1.2.1 dX11_codeOf_23 ?_
  refine lv_iconst (v := 1) K.1.1 K.1.2.1 dX11_codeOf_24 (by decide) ?_
  refine lv_iadd K.1.1 K.1.2.1 dX11_codeOf_25 ?_
  refine lv_topi (fun x_1 ex_1 => ?_)
  refine lv_istore (lv' := [(6, .int x_1), (0, .int a1), (1, .int b1), (2, .int c1), (3, .int d1), (4, .int e1), (5, .int f1)]) K.1.1 K.1.2.1 dX11_codeOf_26 hl (by decide) rfl (fun ls hl => ?_)
  refine lv_iload_n K.1.1 K.1.2.1 dX11_codeOf_28 rfl (lv_at hl 4 rfl) ?_
  refine lv_bipush (v := 32) K.1.1 K.1.2.1 dX11_codeOf_29 (by decide) ?_
  refine lv_icmp_ne (tgt := 39) K.1.1 K.1.2.1 dX11_codeOf_31 (by decide) (fun c_31 => ?_) (fun c_31 => ?_)
  · refine lv_bipush (v := 27) K.1.1 K.1.2.1 dX11_codeOf_39 (by decide) ?_
    refine lv_iload K.1.1 K.1.2.1 dX11_codeOf_41 (lv_at hl 0 rfl) ?_
    refine lv_imul K.1.1 K.1.2.1 dX11_codeOf_43 ?_
    refine lv_iload_n K.1.1 K.1.2.1 dX11_codeOf_44 rfl (lv_at hl 4 rfl) ?_
    refine lv_iadd K.1.1 K.1.2.1 dX11_codeOf_45 ?_
    refine lv_bipush (v := 97) K.1.1 K.1.2.1 dX11_codeOf_46 (by decide) ?_
    refine lv_isub K.1.1 K.1.2.1 dX11_codeOf_48 ?_
    refine lv_iconst (v := 1) K.1.1 K.1.2.1 dX11_codeOf_49 (by decide) ?_
    refine lv_iadd K.1.1 K.1.2.1 dX11_codeOf_50 ?_
    refine lv_topi (fun x_2 ex_2 => ?_)
    refine lv_istore (lv' := [(6, .int x_2), (0, .int a1), (1, .int b1), (2, .int c1), (3, .int d1), (4, .int e1), (5, .int f1)]) K.1.1 K.1.2.1 dX11_codeOf_51 hl (by decide) rfl (fun ls hl => ?_)
    refine lv_iload K.1.1 K.1.2.1 dX11_codeOf_53 (lv_at hl 5 rfl) ?_
    refine lv_bipush (v := 32) K.1.1 K.1.2.1 dX11_codeOf_55 (by decide) ?_
    refine lv_icmp_ne (tgt := 65) K.1.1 K.1.2.1 dX11_codeOf_57 (by decide) (fun c_57 => ?_) (fun c_57 => ?_)
    · refine lv_bipush (v := 27) K.1.1 K.1.2.1 dX11_codeOf_65 (by decide) ?_
      refine lv_iload K.1.1 K.1.2.1 dX11_codeOf_67 (lv_at hl 0 rfl) ?_
      refine lv_imul K.1.1 K.1.2.1 dX11_codeOf_69 ?_
      refine lv_iload K.1.1 K.1.2.1 dX11_codeOf_70 (lv_at hl 5 rfl) ?_
      refine lv_iadd K.1.1 K.1.2.1 dX11_codeOf_72 ?_
      refine lv_bipush (v := 97) K.1.1 K.1.2.1 dX11_codeOf_73 (by decide) ?_
      refine lv_isub K.1.1 K.1.2.1 dX11_codeOf_75 ?_
      refine lv_iconst (v := 1) K.1.1 K.1.2.1 dX11_codeOf_76 (by decide) ?_
      refine lv_iadd K.1.1 K.1.2.1 dX11_codeOf_77 ?_
      refine lv_topi (fun x_3 ex_3 => ?_)
      refine lv_istore (lv' := [(6, .int x_3), (0, .int a1), (1, .int b1), (2, .int c1), (3, .int d1), (4, .int e1), (5, .int f1)]) K.1.1 K.1.2.1 dX11_codeOf_78 hl (by decide) rfl (fun ls hl => ?_)
      refine lv_iload K.1.1 K.1.2.1 dX11_codeOf_80 (lv_at hl 6 rfl) ?_
      refine lv_bipush (v := 32) K.1.1 K.1.2.1 dX11_codeOf_82 (by decide) ?_
      refine lv_icmp_ne (tgt := 92) K.1.1 K.1.2.1 dX11_codeOf_84 (by decide) (fun c_84 => ?_) (fun c_84 => ?_)
      · refine lv_bipush (v := 27) K.1.1 K.1.2.1 dX11_codeOf_92 (by decide) ?_
        refine lv_iload K.1.1 K.1.2.1 dX11_codeOf_94 (lv_at hl 0 rfl) ?_
        refine lv_imul K.1.1 K.1.2.1 dX11_codeOf_96 ?_
        refine lv_iload K.1.1 K.1.2.1 dX11_codeOf_97 (lv_at hl 6 rfl) ?_
        refine lv_iadd K.1.1 K.1.2.1 dX11_codeOf_99 ?_
        refine lv_bipush (v := 97) K.1.1 K.1.2.1 dX11_codeOf_100 (by decide) ?_
        refine lv_isub K.1.1 K.1.2.1 dX11_codeOf_102 ?_
        refine lv_iconst (v := 1) K.1.1 K.1.2.1 dX11_codeOf_103 (by decide) ?_
        refine lv_iadd K.1.1 K.1.2.1 dX11_codeOf_104 ?_
        exact m_iret K hr hlocks hP hS dX11_codeOf_105 (by subst ex_1 ex_2 ex_3; rw [M_codeOf]; (try dsimp only); simp only [if_neg c_31, if_neg c_57, if_neg c_84]) rfl
      · refine lv_iload K.1.1 K.1.2.1 dX11_codeOf_87 (lv_at hl 0 rfl) ?_
        refine lv_goto (tgt := 105) K.1.1 K.1.2.1 dX11_codeOf_89 (by decide) ?_
        exact m_iret K hr hlocks hP hS dX11_codeOf_105 (by subst ex_1 ex_2 ex_3; rw [M_codeOf]; (try dsimp only); simp only [if_neg c_31, if_neg c_57, if_pos c_84]) rfl
    · refine lv_iload K.1.1 K.1.2.1 dX11_codeOf_60 (lv_at hl 0 rfl) ?_
      refine lv_goto (tgt := 78) K.1.1 K.1.2.1 dX11_codeOf_62 (by decide) ?_
      refine lv_istore (lv' := [(6, .int x_2), (0, .int a1), (1, .int b1), (2, .int c1), (3, .int d1), (4, .int e1), (5, .int f1)]) K.1.1 K.1.2.1 dX11_codeOf_78 hl (by decide) rfl (fun ls hl => ?_)
      refine lv_iload K.1.1 K.1.2.1 dX11_codeOf_80 (lv_at hl 6 rfl) ?_
      refine lv_bipush (v := 32) K.1.1 K.1.2.1 dX11_codeOf_82 (by decide) ?_
      refine lv_icmp_ne (tgt := 92) K.1.1 K.1.2.1 dX11_codeOf_84 (by decide) (fun c_84 => ?_) (fun c_84 => ?_)
      · refine lv_bipush (v := 27) K.1.1 K.1.2.1 dX11_codeOf_92 (by decide) ?_
        refine lv_iload K.1.1 K.1.2.1 dX11_codeOf_94 (lv_at hl 0 rfl) ?_
        refine lv_imul K.1.1 K.1.2.1 dX11_codeOf_96 ?_
        refine lv_iload K.1.1 K.1.2.1 dX11_codeOf_97 (lv_at hl 6 rfl) ?_
        refine lv_iadd K.1.1 K.1.2.1 dX11_codeOf_99 ?_
        refine lv_bipush (v := 97) K.1.1 K.1.2.1 dX11_codeOf_100 (by decide) ?_
        refine lv_isub K.1.1 K.1.2.1 dX11_codeOf_102 ?_
        refine lv_iconst (v := 1) K.1.1 K.1.2.1 dX11_codeOf_103 (by decide) ?_
        refine lv_iadd K.1.1 K.1.2.1 dX11_codeOf_104 ?_
        exact m_iret K hr hlocks hP hS dX11_codeOf_105 (by subst ex_1 ex_2; rw [M_codeOf]; (try dsimp only); simp only [if_neg c_31, if_pos c_57, if_neg c_84]) rfl
      · refine lv_iload K.1.1 K.1.2.1 dX11_codeOf_87 (lv_at hl 0 rfl) ?_
        refine lv_goto (tgt := 105) K.1.1 K.1.2.1 dX11_codeOf_89 (by decide) ?_
        exact m_iret K hr hlocks hP hS dX11_codeOf_105 (by subst ex_1 ex_2; rw [M_codeOf]; (try dsimp only); simp only [if_neg c_31, if_pos c_57, if_pos c_84]) rfl
  · refine lv_iload K.1.1 K.1.2.1 dX11_codeOf_34 (lv_at hl 0 rfl) ?_
    refine lv_goto (tgt := 51) K.1.1 K.1.2.1 dX11_codeOf_36 (by decide) ?_
    refine lv_istore (lv' := [(6, .int x_1), (0, .int a1), (1, .int b1), (2, .int c1), (3, .int d1), (4, .int e1), (5, .int f1)]) K.1.1 K.1.2.1 dX11_codeOf_51 hl (by decide) rfl (fun ls hl => ?_)
    refine lv_iload K.1.1 K.1.2.1 dX11_codeOf_53 (lv_at hl 5 rfl) ?_
    refine lv_bipush (v := 32) K.1.1 K.1.2.1 dX11_codeOf_55 (by decide) ?_
    refine lv_icmp_ne (tgt := 65) K.1.1 K.1.2.1 dX11_codeOf_57 (by decide) (fun c_57 => ?_) (fun c_57 => ?_)
    · refine lv_bipush (v := 27) K.1.1 K.1.2.1 dX11_codeOf_65 (by decide) ?_
      refine lv_iload K.1.1 K.1.2.1 dX11_codeOf_67 (lv_at hl 0 rfl) ?_
      refine lv_imul K.1.1 K.1.2.1 dX11_codeOf_69 ?_
      refine lv_iload K.1.1 K.1.2.1 dX11_codeOf_70 (lv_at hl 5 rfl) ?_
      refine lv_iadd K.1.1 K.1.2.1 dX11_codeOf_72 ?_
      refine lv_bipush (v := 97) K.1.1 K.1.2.1 dX11_codeOf_73 (by decide) ?_
      refine lv_isub K.1.1 K.1.2.1 dX11_codeOf_75 ?_
      refine lv_iconst (v := 1) K.1.1 K.1.2.1 dX11_codeOf_76 (by decide) ?_
      refine lv_iadd K.1.1 K.1.2.1 dX11_codeOf_77 ?_
      refine lv_topi (fun x_4 ex_4 => ?_)
      refine lv_istore (lv' := [(6, .int x_4), (0, .int a1), (1, .int b1), (2, .int c1), (3, .int d1), (4, .int e1), (5, .int f1)]) K.1.1 K.1.2.1 dX11_codeOf_78 hl (by decide) rfl (fun ls hl => ?_)
      refine lv_iload K.1.1 K.1.2.1 dX11_codeOf_80 (lv_at hl 6 rfl) ?_
      refine lv_bipush (v := 32) K.1.1 K.1.2.1 dX11_codeOf_82 (by decide) ?_
      refine lv_icmp_ne (tgt := 92) K.1.1 K.1.2.1 dX11_codeOf_84 (by decide) (fun c_84 => ?_) (fun c_84 => ?_)
      · refine lv_bipush (v := 27) K.1.1 K.1.2.1 dX11_codeOf_92 (by decide) ?_
        refine lv_iload K.1.1 K.1.2.1 dX11_codeOf_94 (lv_at hl 0 rfl) ?_
        refine lv_imul K.1.1 K.1.2.1 dX11_codeOf_96 ?_
        refine lv_iload K.1.1 K.1.2.1 dX11_codeOf_97 (lv_at hl 6 rfl) ?_
        refine lv_iadd K.1.1 K.1.2.1 dX11_codeOf_99 ?_
        refine lv_bipush (v := 97) K.1.1 K.1.2.1 dX11_codeOf_100 (by decide) ?_
        refine lv_isub K.1.1 K.1.2.1 dX11_codeOf_102 ?_
        refine lv_iconst (v := 1) K.1.1 K.1.2.1 dX11_codeOf_103 (by decide) ?_
        refine lv_iadd K.1.1 K.1.2.1 dX11_codeOf_104 ?_
        exact m_iret K hr hlocks hP hS dX11_codeOf_105 (by subst ex_1 ex_4; rw [M_codeOf]; (try dsimp only); simp only [if_pos c_31, if_neg c_57, if_neg c_84]) rfl
      · refine lv_iload K.1.1 K.1.2.1 dX11_codeOf_87 (lv_at hl 0 rfl) ?_
        refine lv_goto (tgt := 105) K.1.1 K.1.2.1 dX11_codeOf_89 (by decide) ?_
        exact m_iret K hr hlocks hP hS dX11_codeOf_105 (by subst ex_1 ex_4; rw [M_codeOf]; (try dsimp only); simp only [if_pos c_31, if_neg c_57, if_pos c_84]) rfl
    · refine lv_iload K.1.1 K.1.2.1 dX11_codeOf_60 (lv_at hl 0 rfl) ?_
      refine lv_goto (tgt := 78) K.1.1 K.1.2.1 dX11_codeOf_62 (by decide) ?_
      refine lv_istore (lv' := [(6, .int x_1), (0, .int a1), (1, .int b1), (2, .int c1), (3, .int d1), (4, .int e1), (5, .int f1)]) K.1.1 K.1.2.1 dX11_codeOf_78 hl (by decide) rfl (fun ls hl => ?_)
      refine lv_iload K.1.1 K.1.2.1 dX11_codeOf_80 (lv_at hl 6 rfl) ?_
      refine lv_bipush (v := 32) K.1.1 K.1.2.1 dX11_codeOf_82 (by decide) ?_
      refine lv_icmp_ne (tgt := 92) K.1.1 K.1.2.1 dX11_codeOf_84 (by decide) (fun c_84 => ?_) (fun c_84 => ?_)
      · refine lv_bipush (v := 27) K.1.1 K.1.2.1 dX11_codeOf_92 (by decide) ?_
        refine lv_iload K.1.1 K.1.2.1 dX11_codeOf_94 (lv_at hl 0 rfl) ?_
        refine lv_imul K.1.1 K.1.2.1 dX11_codeOf_96 ?_
        refine lv_iload K.1.1 K.1.2.1 dX11_codeOf_97 (lv_at hl 6 rfl) ?_
        refine lv_iadd K.1.1 K.1.2.1 dX11_codeOf_99 ?_
        refine lv_bipush (v := 97) K.1.1 K.1.2.1 dX11_codeOf_100 (by decide) ?_
        refine lv_isub K.1.1 K.1.2.1 dX11_codeOf_102 ?_
        refine lv_iconst (v := 1) K.1.1 K.1.2.1 dX11_codeOf_103 (by decide) ?_
        refine lv_iadd K.1.1 K.1.2.1 dX11_codeOf_104 ?_
        exact m_iret K hr hlocks hP hS dX11_codeOf_105 (by subst ex_1; rw [M_codeOf]; (try dsimp only); simp only [if_pos c_31, if_pos c_57, if_neg c_84]) rfl
      · refine lv_iload K.1.1 K.1.2.1 dX11_codeOf_87 (lv_at hl 0 rfl) ?_
        refine lv_goto (tgt := 105) K.1.1 K.1.2.1 dX11_codeOf_89 (by decide) ?_
        exact m_iret K hr hlocks hP hS dX11_codeOf_105 (by subst ex_1; rw [M_codeOf]; (try dsimp only); simp only [if_pos c_31, if_pos c_57, if_pos c_84]) rfl

set_option maxHeartbeats 4000000 in
set_option maxRecDepth 100000 in
theorem MX11_kindOf (l : Launch) (G : GG) (B : Nat) (μ : Mm) (w : Int32) : CM l yX11_kindOf (.code yX11_kindOf cX11_kindOf 1 (Option.some FieldType.int)) 1 26 G B [.int w] μ (some (.int (M_kindOf w))) μ := by
  refine CM.of (by decide) (Nat.le_of_ble_eq_true rfl) ?_
  intro p e s m below meth c ls K hr hlocks hP hl
  have hS : va_S (AA B) s.heap s.heap [] := va_S.rf
  have hl : lv_has ls 1 [(0, .int w)] := hl
  refine lv_iload_n K.1.1 K.1.2.1 dX11_kindOf_0 rfl (lv_at hl 0 rfl) ?_
  refine lv_bipush (v := 98) K.1.1 K.1.2.1 dX11_kindOf_1 (by decide) ?_
  refine lv_bipush (v := 117) K.1.1 K.1.2.1 dX11_kindOf_3 (by decide) ?_
  refine lv_bipush (v := 121) K.1.1 K.1.2.1 dX11_kindOf_5 (by decide) ?_
  refine lv_bipush (v := 101) K.1.1 K.1.2.1 dX11_kindOf_7 (by decide) ?_
  refine lv_bipush (v := 114) K.1.1 K.1.2.1 dX11_kindOf_9 (by decide) ?_
  refine lv_bipush (v := 32) K.1.1 K.1.2.1 dX11_kindOf_11 (by decide) ?_
  refine m_cS (n := 6) (As := [.int 98, .int 117, .int 121, .int 101, .int 114, .int 32]) (rest := [.int w]) K hP hS (MX11_codeOf l G B _ 98 117 121 101 114 32 ) q_1521 q_1522 q_91 q_1523 hv_X11_codeOf ⟨Nat.le_of_ble_eq_true rfl, Nat.le_of_ble_eq_true rfl⟩ rfl hl.1 rfl (Nat.le_of_ble_eq_true rfl) dX11_kindOf_13 ⟨Nat.zero_le _, Nat.zero_le _⟩ (fun H locs hP hS => ?_)
  refine lv_topi (fun r_1 er_1 => ?_)
  refine lv_icmp_ne (tgt := 21) K.1.1 K.1.2.1 dX11_kindOf_16 (by decide) (fun c_16 => ?_) (fun c_16 => ?_)
  · refine lv_iload_n K.1.1 K.1.2.1 dX11_kindOf_21 rfl (lv_at hl 0 rfl) ?_
    refine lv_bipush (v := 115) K.1.1 K.1.2.1 dX11_kindOf_22 (by decide) ?_
    refine lv_bipush (v := 101) K.1.1 K.1.2.1 dX11_kindOf_24 (by decide) ?_
    refine lv_bipush (v := 108) K.1.1 K.1.2.1 dX11_kindOf_26 (by decide) ?_
    refine lv_bipush (v := 108) K.1.1 K.1.2.1 dX11_kindOf_28 (by decide) ?_
    refine lv_bipush (v := 101) K.1.1 K.1.2.1 dX11_kindOf_30 (by decide) ?_
    refine lv_bipush (v := 114) K.1.1 K.1.2.1 dX11_kindOf_32 (by decide) ?_
    refine m_cS (n := 6) (As := [.int 115, .int 101, .int 108, .int 108, .int 101, .int 114]) (rest := [.int w]) K hP hS (MX11_codeOf l G B _ 115 101 108 108 101 114 ) q_1521 q_1522 q_91 q_1523 hv_X11_codeOf ⟨Nat.le_of_ble_eq_true rfl, Nat.le_of_ble_eq_true rfl⟩ rfl hl.1 rfl (Nat.le_of_ble_eq_true rfl) dX11_kindOf_34 ⟨Nat.zero_le _, Nat.zero_le _⟩ (fun H locs hP hS => ?_)
    refine lv_topi (fun r_2 er_2 => ?_)
    refine lv_icmp_ne (tgt := 42) K.1.1 K.1.2.1 dX11_kindOf_37 (by decide) (fun c_37 => ?_) (fun c_37 => ?_)
    · refine lv_iload_n K.1.1 K.1.2.1 dX11_kindOf_42 rfl (lv_at hl 0 rfl) ?_
      refine lv_bipush (v := 115) K.1.1 K.1.2.1 dX11_kindOf_43 (by decide) ?_
      refine lv_bipush (v := 104) K.1.1 K.1.2.1 dX11_kindOf_45 (by decide) ?_
      refine lv_bipush (v := 97) K.1.1 K.1.2.1 dX11_kindOf_47 (by decide) ?_
      refine lv_bipush (v := 100) K.1.1 K.1.2.1 dX11_kindOf_49 (by decide) ?_
      refine lv_bipush (v := 101) K.1.1 K.1.2.1 dX11_kindOf_51 (by decide) ?_
      refine lv_bipush (v := 32) K.1.1 K.1.2.1 dX11_kindOf_53 (by decide) ?_
      refine m_cS (n := 6) (As := [.int 115, .int 104, .int 97, .int 100, .int 101, .int 32]) (rest := [.int w]) K hP hS (MX11_codeOf l G B _ 115 104 97 100 101 32 ) q_1521 q_1522 q_91 q_1523 hv_X11_codeOf ⟨Nat.le_of_ble_eq_true rfl, Nat.le_of_ble_eq_true rfl⟩ rfl hl.1 rfl (Nat.le_of_ble_eq_true rfl) dX11_kindOf_55 ⟨Nat.zero_le _, Nat.zero_le _⟩ (fun H locs hP hS => ?_)
      refine lv_topi (fun r_3 er_3 => ?_)
      refine lv_icmp_ne (tgt := 63) K.1.1 K.1.2.1 dX11_kindOf_58 (by decide) (fun c_58 => ?_) (fun c_58 => ?_)
      · refine lv_iload_n K.1.1 K.1.2.1 dX11_kindOf_63 rfl (lv_at hl 0 rfl) ?_
        refine lv_bipush (v := 98) K.1.1 K.1.2.1 dX11_kindOf_64 (by decide) ?_
        refine lv_bipush (v := 105) K.1.1 K.1.2.1 dX11_kindOf_66 (by decide) ?_
        refine lv_bipush (v := 100) K.1.1 K.1.2.1 dX11_kindOf_68 (by decide) ?_
        refine lv_bipush (v := 32) K.1.1 K.1.2.1 dX11_kindOf_70 (by decide) ?_
        refine lv_bipush (v := 32) K.1.1 K.1.2.1 dX11_kindOf_72 (by decide) ?_
        refine lv_bipush (v := 32) K.1.1 K.1.2.1 dX11_kindOf_74 (by decide) ?_
        refine m_cS (n := 6) (As := [.int 98, .int 105, .int 100, .int 32, .int 32, .int 32]) (rest := [.int w]) K hP hS (MX11_codeOf l G B _ 98 105 100 32 32 32 ) q_1521 q_1522 q_91 q_1523 hv_X11_codeOf ⟨Nat.le_of_ble_eq_true rfl, Nat.le_of_ble_eq_true rfl⟩ rfl hl.1 rfl (Nat.le_of_ble_eq_true rfl) dX11_kindOf_76 ⟨Nat.zero_le _, Nat.zero_le _⟩ (fun H locs hP hS => ?_)
        refine lv_topi (fun r_4 er_4 => ?_)
        refine lv_icmp_ne (tgt := 84) K.1.1 K.1.2.1 dX11_kindOf_79 (by decide) (fun c_79 => ?_) (fun c_79 => ?_)
        · refine lv_iload_n K.1.1 K.1.2.1 dX11_kindOf_84 rfl (lv_at hl 0 rfl) ?_
          refine lv_bipush (v := 111) K.1.1 K.1.2.1 dX11_kindOf_85 (by decide) ?_
          refine lv_bipush (v := 114) K.1.1 K.1.2.1 dX11_kindOf_87 (by decide) ?_
          refine lv_bipush (v := 100) K.1.1 K.1.2.1 dX11_kindOf_89 (by decide) ?_
          refine lv_bipush (v := 101) K.1.1 K.1.2.1 dX11_kindOf_91 (by decide) ?_
          refine lv_bipush (v := 114) K.1.1 K.1.2.1 dX11_kindOf_93 (by decide) ?_
          refine lv_bipush (v := 32) K.1.1 K.1.2.1 dX11_kindOf_95 (by decide) ?_
          refine m_cS (n := 6) (As := [.int 111, .int 114, .int 100, .int 101, .int 114, .int 32]) (rest := [.int w]) K hP hS (MX11_codeOf l G B _ 111 114 100 101 114 32 ) q_1521 q_1522 q_91 q_1523 hv_X11_codeOf ⟨Nat.le_of_ble_eq_true rfl, Nat.le_of_ble_eq_true rfl⟩ rfl hl.1 rfl (Nat.le_of_ble_eq_true rfl) dX11_kindOf_97 ⟨Nat.zero_le _, Nat.zero_le _⟩ (fun H locs hP hS => ?_)
          refine lv_topi (fun r_5 er_5 => ?_)
          refine lv_icmp_ne (tgt := 105) K.1.1 K.1.2.1 dX11_kindOf_100 (by decide) (fun c_100 => ?_) (fun c_100 => ?_)
          · refine lv_iload_n K.1.1 K.1.2.1 dX11_kindOf_105 rfl (lv_at hl 0 rfl) ?_
            refine lv_bipush (v := 99) K.1.1 K.1.2.1 dX11_kindOf_106 (by decide) ?_
            refine lv_bipush (v := 97) K.1.1 K.1.2.1 dX11_kindOf_108 (by decide) ?_
            refine lv_bipush (v := 110) K.1.1 K.1.2.1 dX11_kindOf_110 (by decide) ?_
            refine lv_bipush (v := 99) K.1.1 K.1.2.1 dX11_kindOf_112 (by decide) ?_
            refine lv_bipush (v := 101) K.1.1 K.1.2.1 dX11_kindOf_114 (by decide) ?_
            refine lv_bipush (v := 108) K.1.1 K.1.2.1 dX11_kindOf_116 (by decide) ?_
            refine m_cS (n := 6) (As := [.int 99, .int 97, .int 110, .int 99, .int 101, .int 108]) (rest := [.int w]) K hP hS (MX11_codeOf l G B _ 99 97 110 99 101 108 ) q_1521 q_1522 q_91 q_1523 hv_X11_codeOf ⟨Nat.le_of_ble_eq_true rfl, Nat.le_of_ble_eq_true rfl⟩ rfl hl.1 rfl (Nat.le_of_ble_eq_true rfl) dX11_kindOf_118 ⟨Nat.zero_le _, Nat.zero_le _⟩ (fun H locs hP hS => ?_)
            refine lv_topi (fun r_6 er_6 => ?_)
            refine lv_icmp_ne (tgt := 126) K.1.1 K.1.2.1 dX11_kindOf_121 (by decide) (fun c_121 => ?_) (fun c_121 => ?_)
            · refine lv_iload_n K.1.1 K.1.2.1 dX11_kindOf_126 rfl (lv_at hl 0 rfl) ?_
              refine lv_bipush (v := 115) K.1.1 K.1.2.1 dX11_kindOf_127 (by decide) ?_
              refine lv_bipush (v := 101) K.1.1 K.1.2.1 dX11_kindOf_129 (by decide) ?_
              refine lv_bipush (v := 116) K.1.1 K.1.2.1 dX11_kindOf_131 (by decide) ?_
              refine lv_bipush (v := 32) K.1.1 K.1.2.1 dX11_kindOf_133 (by decide) ?_
              refine lv_bipush (v := 32) K.1.1 K.1.2.1 dX11_kindOf_135 (by decide) ?_
              refine lv_bipush (v := 32) K.1.1 K.1.2.1 dX11_kindOf_137 (by decide) ?_
              refine m_cS (n := 6) (As := [.int 115, .int 101, .int 116, .int 32, .int 32, .int 32]) (rest := [.int w]) K hP hS (MX11_codeOf l G B _ 115 101 116 32 32 32 ) q_1521 q_1522 q_91 q_1523 hv_X11_codeOf ⟨Nat.le_of_ble_eq_true rfl, Nat.le_of_ble_eq_true rfl⟩ rfl hl.1 rfl (Nat.le_of_ble_eq_true rfl) dX11_kindOf_139 ⟨Nat.zero_le _, Nat.zero_le _⟩ (fun H locs hP hS => ?_)
              refine lv_topi (fun r_7 er_7 => ?_)
              refine lv_icmp_ne (tgt := 148) K.1.1 K.1.2.1 dX11_kindOf_142 (by decide) (fun c_142 => ?_) (fun c_142 => ?_)
              · refine lv_iload_n K.1.1 K.1.2.1 dX11_kindOf_148 rfl (lv_at hl 0 rfl) ?_
                refine lv_bipush (v := 99) K.1.1 K.1.2.1 dX11_kindOf_149 (by decide) ?_
                refine lv_bipush (v := 108) K.1.1 K.1.2.1 dX11_kindOf_151 (by decide) ?_
                refine lv_bipush (v := 101) K.1.1 K.1.2.1 dX11_kindOf_153 (by decide) ?_
                refine lv_bipush (v := 97) K.1.1 K.1.2.1 dX11_kindOf_155 (by decide) ?_
                refine lv_bipush (v := 114) K.1.1 K.1.2.1 dX11_kindOf_157 (by decide) ?_
                refine lv_bipush (v := 32) K.1.1 K.1.2.1 dX11_kindOf_159 (by decide) ?_
                refine m_cS (n := 6) (As := [.int 99, .int 108, .int 101, .int 97, .int 114, .int 32]) (rest := [.int w]) K hP hS (MX11_codeOf l G B _ 99 108 101 97 114 32 ) q_1521 q_1522 q_91 q_1523 hv_X11_codeOf ⟨Nat.le_of_ble_eq_true rfl, Nat.le_of_ble_eq_true rfl⟩ rfl hl.1 rfl (Nat.le_of_ble_eq_true rfl) dX11_kindOf_161 ⟨Nat.zero_le _, Nat.zero_le _⟩ (fun H locs hP hS => ?_)
                refine lv_topi (fun r_8 er_8 => ?_)
                refine lv_icmp_ne (tgt := 172) K.1.1 K.1.2.1 dX11_kindOf_164 (by decide) (fun c_164 => ?_) (fun c_164 => ?_)
                · refine lv_iconst (v := (-1)) K.1.1 K.1.2.1 dX11_kindOf_172 (by decide) ?_
                  exact m_iret K hr hlocks hP hS dX11_kindOf_173 (by subst er_1 er_2 er_3 er_4 er_5 er_6 er_7 er_8; rw [M_kindOf]; simp only [if_neg c_16, if_neg c_37, if_neg c_58, if_neg c_79, if_neg c_100, if_neg c_121, if_neg c_142, if_neg c_164]) rfl
                · refine lv_bipush (v := 7) K.1.1 K.1.2.1 dX11_kindOf_167 (by decide) ?_
                  refine lv_goto (tgt := 173) K.1.1 K.1.2.1 dX11_kindOf_169 (by decide) ?_
                  exact m_iret K hr hlocks hP hS dX11_kindOf_173 (by subst er_1 er_2 er_3 er_4 er_5 er_6 er_7 er_8; rw [M_kindOf]; simp only [if_neg c_16, if_neg c_37, if_neg c_58, if_neg c_79, if_neg c_100, if_neg c_121, if_neg c_142, if_pos c_164]) rfl
              · refine lv_bipush (v := 6) K.1.1 K.1.2.1 dX11_kindOf_145 (by decide) ?_
                exact m_iret K hr hlocks hP hS dX11_kindOf_147 (by subst er_1 er_2 er_3 er_4 er_5 er_6 er_7; rw [M_kindOf]; simp only [if_neg c_16, if_neg c_37, if_neg c_58, if_neg c_79, if_neg c_100, if_neg c_121, if_pos c_142]) rfl
            · refine lv_iconst (v := 5) K.1.1 K.1.2.1 dX11_kindOf_124 (by decide) ?_
              exact m_iret K hr hlocks hP hS dX11_kindOf_125 (by subst er_1 er_2 er_3 er_4 er_5 er_6; rw [M_kindOf]; simp only [if_neg c_16, if_neg c_37, if_neg c_58, if_neg c_79, if_neg c_100, if_pos c_121]) rfl
          · refine lv_iconst (v := 4) K.1.1 K.1.2.1 dX11_kindOf_103 (by decide) ?_
            exact m_iret K hr hlocks hP hS dX11_kindOf_104 (by subst er_1 er_2 er_3 er_4 er_5; rw [M_kindOf]; simp only [if_neg c_16, if_neg c_37, if_neg c_58, if_neg c_79, if_pos c_100]) rfl
        · refine lv_iconst (v := 3) K.1.1 K.1.2.1 dX11_kindOf_82 (by decide) ?_
          exact m_iret K hr hlocks hP hS dX11_kindOf_83 (by subst er_1 er_2 er_3 er_4; rw [M_kindOf]; simp only [if_neg c_16, if_neg c_37, if_neg c_58, if_pos c_79]) rfl
      · refine lv_iconst (v := 2) K.1.1 K.1.2.1 dX11_kindOf_61 (by decide) ?_
        exact m_iret K hr hlocks hP hS dX11_kindOf_62 (by subst er_1 er_2 er_3; rw [M_kindOf]; simp only [if_neg c_16, if_neg c_37, if_pos c_58]) rfl
    · refine lv_iconst (v := 1) K.1.1 K.1.2.1 dX11_kindOf_40 (by decide) ?_
      exact m_iret K hr hlocks hP hS dX11_kindOf_41 (by subst er_1 er_2; rw [M_kindOf]; simp only [if_neg c_16, if_pos c_37]) rfl
  · refine lv_iconst (v := 0) K.1.1 K.1.2.1 dX11_kindOf_19 (by decide) ?_
    exact m_iret K hr hlocks hP hS dX11_kindOf_20 (by subst er_1; rw [M_kindOf]; simp only [if_pos c_16]) rfl

