def rowE (G : GG) (B t n : Nat) : List va_E := [.inr (4, [.ref (B + (t + 1))]), .inl (G.2.1, n, .inl (fun _ => 0))]
set_option maxHeartbeats 4000000 in
theorem N5_init (l : Launch) (G : GG) (B : Nat) (L : List va_E) (t n : Nat) (ht : L.length = t) (h0 : 0 < n) (h1 : n ≤ 1000) : NC l yX5_init (.code yX5_init cX5_init 2 Option.none) 1 12 1 (0 + n) G B [.ref (B + t), .int (nI n)] (L ++ [.inr (4, [.null])]) (L ++ rowE G B t n) := by
  refine NC.of (by decide) rfl (Nat.le_of_ble_eq_true rfl) ?_
  intro p e s m below meth c ls K hr hlocks hi hH hl
  have hS : va_S (AB B) s.heap s.heap [] := va_S.rf
  have hl : lv_has ls 2 [(0, .ref (B + t)), (1, .int (nI n))] := hl
  have hH : HB G B (L ++ (.inr (4, [.null])) :: ([])) s.heap := hH
  have hpos : ¬ nI n ≤ 0 := Int32.not_le.mpr (nI_lt (a := 0) (b := n) h0 (by omega))
  refine lv_aload_n K.1.1 K.1.2.1 dX5_init_0 rfl (lv_at hl 0 rfl) ?_
  refine k_obj K q_56 hl.1 ⟨Nat.le_of_ble_eq_true rfl, Nat.le_of_ble_eq_true rfl⟩ dX5_init_1 ?_
  refine lv_aload_n K.1.1 K.1.2.1 dX5_init_4 rfl (lv_at hl 0 rfl) ?_
  refine lv_iload_n K.1.1 K.1.2.1 dX5_init_5 rfl (lv_at hl 1 rfl) ?_
  refine lv_if_le (tgt := 13) K.1.1 K.1.2.1 dX5_init_6 (by decide) (fun c => absurd c hpos) (fun c => ?_)
  refine lv_iload_n K.1.1 K.1.2.1 dX5_init_9 rfl (lv_at hl 1 rfl) ?_
  refine lv_goto (tgt := 14) K.1.1 K.1.2.1 dX5_init_10 (by decide) ?_
  refine k_newa (N := n) (n := t + 1) K hH hS (lenE L _ _ ht rfl) (nI_pos (by omega)) (cn_nI (by omega)) (by omega) (Nat.le_of_ble_eq_true rfl) (Nat.le_refl _) dX5_init_14 (fun H hH hS => ?_)
  rw [appE] at hH
  have hH : HB G B (L ++ (.inr (4, [.null])) :: ([] ++ [.inl (G.2.1, n, .inl (fun _ => 0))])) H := hH
  refine k_putF (j := t) (fs := [.null]) (v := .ref (B + (t + 1))) (ty := .array .int) K hi hH hS tuX5 tyX5 tyX5_ok nmX5 (getE L _ _ t ht) rfl 0 (by decide) q_57 rfl rfl (by decide +kernel) rfl rfl (Nat.le_of_ble_eq_true rfl) dX5_init_16 (fun H locs hH hS => ?_)
  rw [setE L _ _ _ t ht] at hH
  exact k_ret K hr hlocks hH hS rfl dX5_init_19

def tradersE (G : GG) (B t : Nat) : List va_E := (.inr (5, [.int 0, .ref (B + (t + 1)), .ref (B + (t + 3)), .ref (B + (t + 5)), .ref (B + (t + 7)), .ref (B + (t + 9)), .ref (B + (t + 11)), .ref (B + (t + 13))])) :: ([] ++ rowE G B (t + 1) 8 ++ rowE G B (t + 3) 8 ++ rowE G B (t + 5) 8 ++ rowE G B (t + 7) 8 ++ rowE G B (t + 9) 8 ++ rowE G B (t + 11) 8 ++ rowE G B (t + 13) 8)
set_option maxHeartbeats 4000000 in
set_option maxRecDepth 100000 in
theorem N6_init (l : Launch) (G : GG) (B : Nat) (L : List va_E) (t : Nat) (ht : L.length = t) : NC l yX6_init (.code yX6_init cX6_init 1 Option.none) 2 33 14 63 G B [.ref (B + t)] (L ++ [.inr (5, [.int 0, .null, .null, .null, .null, .null, .null, .null])]) (L ++ tradersE G B t) := by
  refine NC.of (by decide) rfl (Nat.le_of_ble_eq_true rfl) ?_
  intro p e s m below meth c ls K hr hlocks hi hH hl
  have hS : va_S (AB B) s.heap s.heap [] := va_S.rf
  have hl : lv_has ls 1 [(0, .ref (B + t))] := hl
  have hH : HB G B (L ++ (.inr (5, [.int 0, .null, .null, .null, .null, .null, .null, .null])) :: ([])) s.heap := hH
  refine lv_aload_n K.1.1 K.1.2.1 dX6_init_0 rfl (lv_at hl 0 rfl) ?_
  refine k_obj K q_50 hl.1 ⟨Nat.le_of_ble_eq_true rfl, Nat.le_of_ble_eq_true rfl⟩ dX6_init_1 ?_
  refine lv_aload_n K.1.1 K.1.2.1 dX6_init_4 rfl (lv_at hl 0 rfl) ?_
  refine k_new (ci := 4) (fs := [.null]) (N := 1) (n := t + 1) K hH hS (lenE L _ _ ht rfl) tuX5 tyX5 tyX5_ok q_51 q_52 q_18 rfl (fun j hj => by rcases (show j = 0 by omega) with rfl <;> rfl) (Nat.le_of_ble_eq_true rfl) (Nat.le_of_ble_eq_true rfl) dX6_init_5 (fun H hH hS => ?_)
  refine lv_dup K.1.1 K.1.2.1 dX6_init_8 rfl ?_
  refine lv_bipush (v := 8) K.1.1 K.1.2.1 dX6_init_9 (by decide) ?_
  refine k_cI (n := 1) (As := [.int 8]) (rest := [.ref (B + (t + 1)), .ref (B + t)]) (b := B + (t + 1)) K hH hS (N5_init l G B (L ++ _) (t + 1) 8 (lenE L _ _ ht rfl) (by decide) (by decide)) q_53 q_54 q_18 q_55 rfl ⟨hv_X5_init.2.1, hv_X5_init.2.2.1, hv_X5_init.2.2.2⟩ ⟨Nat.le_of_ble_eq_true rfl, Nat.le_of_ble_eq_true rfl⟩ rfl hl.1 rfl (Nat.le_of_ble_eq_true rfl) dX6_init_11 ⟨Nat.le_of_ble_eq_true rfl, Nat.le_of_ble_eq_true rfl⟩ (fun H locs hH hS => ?_)
  rw [appE] at hH
  have hH : HB G B (L ++ (.inr (5, [.int 0, .null, .null, .null, .null, .null, .null, .null])) :: ([] ++ rowE G B (t + 1) 8)) H := hH
  refine k_putF (j := t) (fs := [.int 0, .null, .null, .null, .null, .null, .null, .null]) (v := .ref (B + (t + 1))) (ty := .object "ShadedBooks$Row") K hi hH hS tuX6 tyX6 tyX6_ok nmX6 (getE L _ _ t ht) rfl 1 (by decide) q_65 rfl rfl (by decide +kernel) rfl rfl (Nat.le_of_ble_eq_true rfl) dX6_init_14 (fun H locs hH hS => ?_)
  rw [setE L _ _ _ t ht] at hH
  have hH : HB G B (L ++ (.inr (5, [.int 0, .ref (B + (t + 1)), .null, .null, .null, .null, .null, .null])) :: ([] ++ rowE G B (t + 1) 8)) H := hH
  refine lv_aload_n K.1.1 K.1.2.1 dX6_init_17 rfl (lv_at hl 0 rfl) ?_
  refine k_new (ci := 4) (fs := [.null]) (N := 1) (n := t + 3) K hH hS (lenE L _ _ ht rfl) tuX5 tyX5 tyX5_ok q_51 q_52 q_18 rfl (fun j hj => by rcases (show j = 0 by omega) with rfl <;> rfl) (Nat.le_of_ble_eq_true rfl) (Nat.le_of_ble_eq_true rfl) dX6_init_18 (fun H hH hS => ?_)
  refine lv_dup K.1.1 K.1.2.1 dX6_init_21 rfl ?_
  refine lv_bipush (v := 8) K.1.1 K.1.2.1 dX6_init_22 (by decide) ?_
  refine k_cI (n := 1) (As := [.int 8]) (rest := [.ref (B + (t + 3)), .ref (B + t)]) (b := B + (t + 3)) K hH hS (N5_init l G B (L ++ _) (t + 3) 8 (lenE L _ _ ht rfl) (by decide) (by decide)) q_53 q_54 q_18 q_55 rfl ⟨hv_X5_init.2.1, hv_X5_init.2.2.1, hv_X5_init.2.2.2⟩ ⟨Nat.le_of_ble_eq_true rfl, Nat.le_of_ble_eq_true rfl⟩ rfl hl.1 rfl (Nat.le_of_ble_eq_true rfl) dX6_init_24 ⟨Nat.le_of_ble_eq_true rfl, Nat.le_of_ble_eq_true rfl⟩ (fun H locs hH hS => ?_)
  rw [appE] at hH
  have hH : HB G B (L ++ (.inr (5, [.int 0, .ref (B + (t + 1)), .null, .null, .null, .null, .null, .null])) :: ([] ++ rowE G B (t + 1) 8 ++ rowE G B (t + 3) 8)) H := hH
  refine k_putF (j := t) (fs := [.int 0, .ref (B + (t + 1)), .null, .null, .null, .null, .null, .null]) (v := .ref (B + (t + 3))) (ty := .object "ShadedBooks$Row") K hi hH hS tuX6 tyX6 tyX6_ok nmX6 (getE L _ _ t ht) rfl 2 (by decide) q_67 rfl rfl (by decide +kernel) rfl rfl (Nat.le_of_ble_eq_true rfl) dX6_init_27 (fun H locs hH hS => ?_)
  rw [setE L _ _ _ t ht] at hH
  have hH : HB G B (L ++ (.inr (5, [.int 0, .ref (B + (t + 1)), .ref (B + (t + 3)), .null, .null, .null, .null, .null])) :: ([] ++ rowE G B (t + 1) 8 ++ rowE G B (t + 3) 8)) H := hH
  refine lv_aload_n K.1.1 K.1.2.1 dX6_init_30 rfl (lv_at hl 0 rfl) ?_
  refine k_new (ci := 4) (fs := [.null]) (N := 1) (n := t + 5) K hH hS (lenE L _ _ ht rfl) tuX5 tyX5 tyX5_ok q_51 q_52 q_18 rfl (fun j hj => by rcases (show j = 0 by omega) with rfl <;> rfl) (Nat.le_of_ble_eq_true rfl) (Nat.le_of_ble_eq_true rfl) dX6_init_31 (fun H hH hS => ?_)
  refine lv_dup K.1.1 K.1.2.1 dX6_init_34 rfl ?_
  refine lv_bipush (v := 8) K.1.1 K.1.2.1 dX6_init_35 (by decide) ?_
  refine k_cI (n := 1) (As := [.int 8]) (rest := [.ref (B + (t + 5)), .ref (B + t)]) (b := B + (t + 5)) K hH hS (N5_init l G B (L ++ _) (t + 5) 8 (lenE L _ _ ht rfl) (by decide) (by decide)) q_53 q_54 q_18 q_55 rfl ⟨hv_X5_init.2.1, hv_X5_init.2.2.1, hv_X5_init.2.2.2⟩ ⟨Nat.le_of_ble_eq_true rfl, Nat.le_of_ble_eq_true rfl⟩ rfl hl.1 rfl (Nat.le_of_ble_eq_true rfl) dX6_init_37 ⟨Nat.le_of_ble_eq_true rfl, Nat.le_of_ble_eq_true rfl⟩ (fun H locs hH hS => ?_)
  rw [appE] at hH
  have hH : HB G B (L ++ (.inr (5, [.int 0, .ref (B + (t + 1)), .ref (B + (t + 3)), .null, .null, .null, .null, .null])) :: ([] ++ rowE G B (t + 1) 8 ++ rowE G B (t + 3) 8 ++ rowE G B (t + 5) 8)) H := hH
  refine k_putF (j := t) (fs := [.int 0, .ref (B + (t + 1)), .ref (B + (t + 3)), .null, .null, .null, .null, .null]) (v := .ref (B + (t + 5))) (ty := .object "ShadedBooks$Row") K hi hH hS tuX6 tyX6 tyX6_ok nmX6 (getE L _ _ t ht) rfl 3 (by decide) q_71 rfl rfl (by decide +kernel) rfl rfl (Nat.le_of_ble_eq_true rfl) dX6_init_40 (fun H locs hH hS => ?_)
  rw [setE L _ _ _ t ht] at hH
  have hH : HB G B (L ++ (.inr (5, [.int 0, .ref (B + (t + 1)), .ref (B + (t + 3)), .ref (B + (t + 5)), .null, .null, .null, .null])) :: ([] ++ rowE G B (t + 1) 8 ++ rowE G B (t + 3) 8 ++ rowE G B (t + 5) 8)) H := hH
  refine lv_aload_n K.1.1 K.1.2.1 dX6_init_43 rfl (lv_at hl 0 rfl) ?_
  refine k_new (ci := 4) (fs := [.null]) (N := 1) (n := t + 7) K hH hS (lenE L _ _ ht rfl) tuX5 tyX5 tyX5_ok q_51 q_52 q_18 rfl (fun j hj => by rcases (show j = 0 by omega) with rfl <;> rfl) (Nat.le_of_ble_eq_true rfl) (Nat.le_of_ble_eq_true rfl) dX6_init_44 (fun H hH hS => ?_)
  refine lv_dup K.1.1 K.1.2.1 dX6_init_47 rfl ?_
  refine lv_bipush (v := 8) K.1.1 K.1.2.1 dX6_init_48 (by decide) ?_
  refine k_cI (n := 1) (As := [.int 8]) (rest := [.ref (B + (t + 7)), .ref (B + t)]) (b := B + (t + 7)) K hH hS (N5_init l G B (L ++ _) (t + 7) 8 (lenE L _ _ ht rfl) (by decide) (by decide)) q_53 q_54 q_18 q_55 rfl ⟨hv_X5_init.2.1, hv_X5_init.2.2.1, hv_X5_init.2.2.2⟩ ⟨Nat.le_of_ble_eq_true rfl, Nat.le_of_ble_eq_true rfl⟩ rfl hl.1 rfl (Nat.le_of_ble_eq_true rfl) dX6_init_50 ⟨Nat.le_of_ble_eq_true rfl, Nat.le_of_ble_eq_true rfl⟩ (fun H locs hH hS => ?_)
  rw [appE] at hH
  have hH : HB G B (L ++ (.inr (5, [.int 0, .ref (B + (t + 1)), .ref (B + (t + 3)), .ref (B + (t + 5)), .null, .null, .null, .null])) :: ([] ++ rowE G B (t + 1) 8 ++ rowE G B (t + 3) 8 ++ rowE G B (t + 5) 8 ++ rowE G B (t + 7) 8)) H := hH
  refine k_putF (j := t) (fs := [.int 0, .ref (B + (t + 1)), .ref (B + (t + 3)), .ref (B + (t + 5)), .null, .null, .null, .null]) (v := .ref (B + (t + 7))) (ty := .object "ShadedBooks$Row") K hi hH hS tuX6 tyX6 tyX6_ok nmX6 (getE L _ _ t ht) rfl 4 (by decide) q_73 rfl rfl (by decide +kernel) rfl rfl (Nat.le_of_ble_eq_true rfl) dX6_init_53 (fun H locs hH hS => ?_)
  rw [setE L _ _ _ t ht] at hH
  have hH : HB G B (L ++ (.inr (5, [.int 0, .ref (B + (t + 1)), .ref (B + (t + 3)), .ref (B + (t + 5)), .ref (B + (t + 7)), .null, .null, .null])) :: ([] ++ rowE G B (t + 1) 8 ++ rowE G B (t + 3) 8 ++ rowE G B (t + 5) 8 ++ rowE G B (t + 7) 8)) H := hH
  refine lv_aload_n K.1.1 K.1.2.1 dX6_init_56 rfl (lv_at hl 0 rfl) ?_
  refine k_new (ci := 4) (fs := [.null]) (N := 1) (n := t + 9) K hH hS (lenE L _ _ ht rfl) tuX5 tyX5 tyX5_ok q_51 q_52 q_18 rfl (fun j hj => by rcases (show j = 0 by omega) with rfl <;> rfl) (Nat.le_of_ble_eq_true rfl) (Nat.le_of_ble_eq_true rfl) dX6_init_57 (fun H hH hS => ?_)
  refine lv_dup K.1.1 K.1.2.1 dX6_init_60 rfl ?_
  refine lv_bipush (v := 8) K.1.1 K.1.2.1 dX6_init_61 (by decide) ?_
  refine k_cI (n := 1) (As := [.int 8]) (rest := [.ref (B + (t + 9)), .ref (B + t)]) (b := B + (t + 9)) K hH hS (N5_init l G B (L ++ _) (t + 9) 8 (lenE L _ _ ht rfl) (by decide) (by decide)) q_53 q_54 q_18 q_55 rfl ⟨hv_X5_init.2.1, hv_X5_init.2.2.1, hv_X5_init.2.2.2⟩ ⟨Nat.le_of_ble_eq_true rfl, Nat.le_of_ble_eq_true rfl⟩ rfl hl.1 rfl (Nat.le_of_ble_eq_true rfl) dX6_init_63 ⟨Nat.le_of_ble_eq_true rfl, Nat.le_of_ble_eq_true rfl⟩ (fun H locs hH hS => ?_)
  rw [appE] at hH
  have hH : HB G B (L ++ (.inr (5, [.int 0, .ref (B + (t + 1)), .ref (B + (t + 3)), .ref (B + (t + 5)), .ref (B + (t + 7)), .null, .null, .null])) :: ([] ++ rowE G B (t + 1) 8 ++ rowE G B (t + 3) 8 ++ rowE G B (t + 5) 8 ++ rowE G B (t + 7) 8 ++ rowE G B (t + 9) 8)) H := hH
  refine k_putF (j := t) (fs := [.int 0, .ref (B + (t + 1)), .ref (B + (t + 3)), .ref (B + (t + 5)), .ref (B + (t + 7)), .null, .null, .null]) (v := .ref (B + (t + 9))) (ty := .object "ShadedBooks$Row") K hi hH hS tuX6 tyX6 tyX6_ok nmX6 (getE L _ _ t ht) rfl 5 (by decide) q_75 rfl rfl (by decide +kernel) rfl rfl (Nat.le_of_ble_eq_true rfl) dX6_init_66 (fun H locs hH hS => ?_)
  rw [setE L _ _ _ t ht] at hH
  have hH : HB G B (L ++ (.inr (5, [.int 0, .ref (B + (t + 1)), .ref (B + (t + 3)), .ref (B + (t + 5)), .ref (B + (t + 7)), .ref (B + (t + 9)), .null, .null])) :: ([] ++ rowE G B (t + 1) 8 ++ rowE G B (t + 3) 8 ++ rowE G B (t + 5) 8 ++ rowE G B (t + 7) 8 ++ rowE G B (t + 9) 8)) H := hH
  refine lv_aload_n K.1.1 K.1.2.1 dX6_init_69 rfl (lv_at hl 0 rfl) ?_
  refine k_new (ci := 4) (fs := [.null]) (N := 1) (n := t + 11) K hH hS (lenE L _ _ ht rfl) tuX5 tyX5 tyX5_ok q_51 q_52 q_18 rfl (fun j hj => by rcases (show j = 0 by omega) with rfl <;> rfl) (Nat.le_of_ble_eq_true rfl) (Nat.le_of_ble_eq_true rfl) dX6_init_70 (fun H hH hS => ?_)
  refine lv_dup K.1.1 K.1.2.1 dX6_init_73 rfl ?_
  refine lv_bipush (v := 8) K.1.1 K.1.2.1 dX6_init_74 (by decide) ?_
  refine k_cI (n := 1) (As := [.int 8]) (rest := [.ref (B + (t + 11)), .ref (B + t)]) (b := B + (t + 11)) K hH hS (N5_init l G B (L ++ _) (t + 11) 8 (lenE L _ _ ht rfl) (by decide) (by decide)) q_53 q_54 q_18 q_55 rfl ⟨hv_X5_init.2.1, hv_X5_init.2.2.1, hv_X5_init.2.2.2⟩ ⟨Nat.le_of_ble_eq_true rfl, Nat.le_of_ble_eq_true rfl⟩ rfl hl.1 rfl (Nat.le_of_ble_eq_true rfl) dX6_init_76 ⟨Nat.le_of_ble_eq_true rfl, Nat.le_of_ble_eq_true rfl⟩ (fun H locs hH hS => ?_)
  rw [appE] at hH
  have hH : HB G B (L ++ (.inr (5, [.int 0, .ref (B + (t + 1)), .ref (B + (t + 3)), .ref (B + (t + 5)), .ref (B + (t + 7)), .ref (B + (t + 9)), .null, .null])) :: ([] ++ rowE G B (t + 1) 8 ++ rowE G B (t + 3) 8 ++ rowE G B (t + 5) 8 ++ rowE G B (t + 7) 8 ++ rowE G B (t + 9) 8 ++ rowE G B (t + 11) 8)) H := hH
  refine k_putF (j := t) (fs := [.int 0, .ref (B + (t + 1)), .ref (B + (t + 3)), .ref (B + (t + 5)), .ref (B + (t + 7)), .ref (B + (t + 9)), .null, .null]) (v := .ref (B + (t + 11))) (ty := .object "ShadedBooks$Row") K hi hH hS tuX6 tyX6 tyX6_ok nmX6 (getE L _ _ t ht) rfl 6 (by decide) q_77 rfl rfl (by decide +kernel) rfl rfl (Nat.le_of_ble_eq_true rfl) dX6_init_79 (fun H locs hH hS => ?_)
  rw [setE L _ _ _ t ht] at hH
  have hH : HB G B (L ++ (.inr (5, [.int 0, .ref (B + (t + 1)), .ref (B + (t + 3)), .ref (B + (t + 5)), .ref (B + (t + 7)), .ref (B + (t + 9)), .ref (B + (t + 11)), .null])) :: ([] ++ rowE G B (t + 1) 8 ++ rowE G B (t + 3) 8 ++ rowE G B (t + 5) 8 ++ rowE G B (t + 7) 8 ++ rowE G B (t + 9) 8 ++ rowE G B (t + 11) 8)) H := hH
  refine lv_aload_n K.1.1 K.1.2.1 dX6_init_82 rfl (lv_at hl 0 rfl) ?_
  refine k_new (ci := 4) (fs := [.null]) (N := 1) (n := t + 13) K hH hS (lenE L _ _ ht rfl) tuX5 tyX5 tyX5_ok q_51 q_52 q_18 rfl (fun j hj => by rcases (show j = 0 by omega) with rfl <;> rfl) (Nat.le_of_ble_eq_true rfl) (Nat.le_of_ble_eq_true rfl) dX6_init_83 (fun H hH hS => ?_)
  refine lv_dup K.1.1 K.1.2.1 dX6_init_86 rfl ?_
  refine lv_bipush (v := 8) K.1.1 K.1.2.1 dX6_init_87 (by decide) ?_
  refine k_cI (n := 1) (As := [.int 8]) (rest := [.ref (B + (t + 13)), .ref (B + t)]) (b := B + (t + 13)) K hH hS (N5_init l G B (L ++ _) (t + 13) 8 (lenE L _ _ ht rfl) (by decide) (by decide)) q_53 q_54 q_18 q_55 rfl ⟨hv_X5_init.2.1, hv_X5_init.2.2.1, hv_X5_init.2.2.2⟩ ⟨Nat.le_of_ble_eq_true rfl, Nat.le_of_ble_eq_true rfl⟩ rfl hl.1 rfl (Nat.le_of_ble_eq_true rfl) dX6_init_89 ⟨Nat.le_of_ble_eq_true rfl, Nat.le_of_ble_eq_true rfl⟩ (fun H locs hH hS => ?_)
  rw [appE] at hH
  have hH : HB G B (L ++ (.inr (5, [.int 0, .ref (B + (t + 1)), .ref (B + (t + 3)), .ref (B + (t + 5)), .ref (B + (t + 7)), .ref (B + (t + 9)), .ref (B + (t + 11)), .null])) :: ([] ++ rowE G B (t + 1) 8 ++ rowE G B (t + 3) 8 ++ rowE G B (t + 5) 8 ++ rowE G B (t + 7) 8 ++ rowE G B (t + 9) 8 ++ rowE G B (t + 11) 8 ++ rowE G B (t + 13) 8)) H := hH
  refine k_putF (j := t) (fs := [.int 0, .ref (B + (t + 1)), .ref (B + (t + 3)), .ref (B + (t + 5)), .ref (B + (t + 7)), .ref (B + (t + 9)), .ref (B + (t + 11)), .null]) (v := .ref (B + (t + 13))) (ty := .object "ShadedBooks$Row") K hi hH hS tuX6 tyX6 tyX6_ok nmX6 (getE L _ _ t ht) rfl 7 (by decide) q_79 rfl rfl (by decide +kernel) rfl rfl (Nat.le_of_ble_eq_true rfl) dX6_init_92 (fun H locs hH hS => ?_)
  rw [setE L _ _ _ t ht] at hH
  have hH : HB G B (L ++ (.inr (5, [.int 0, .ref (B + (t + 1)), .ref (B + (t + 3)), .ref (B + (t + 5)), .ref (B + (t + 7)), .ref (B + (t + 9)), .ref (B + (t + 11)), .ref (B + (t + 13))])) :: ([] ++ rowE G B (t + 1) 8 ++ rowE G B (t + 3) 8 ++ rowE G B (t + 5) 8 ++ rowE G B (t + 7) 8 ++ rowE G B (t + 9) 8 ++ rowE G B (t + 11) 8 ++ rowE G B (t + 13) 8)) H := hH
  exact k_ret K hr hlocks hH hS rfl dX6_init_95

def ordersE (G : GG) (B t : Nat) : List va_E := (.inr (3, [.int 0, .ref (B + (t + 1)), .ref (B + (t + 3)), .ref (B + (t + 5)), .ref (B + (t + 7)), .ref (B + (t + 9)), .ref (B + (t + 11))])) :: ([] ++ rowE G B (t + 1) 20 ++ rowE G B (t + 3) 20 ++ rowE G B (t + 5) 20 ++ rowE G B (t + 7) 20 ++ rowE G B (t + 9) 20 ++ rowE G B (t + 11) 20)
set_option maxHeartbeats 4000000 in
set_option maxRecDepth 100000 in
theorem N4_init (l : Launch) (G : GG) (B : Nat) (L : List va_E) (t : Nat) (ht : L.length = t) : NC l yX4_init (.code yX4_init cX4_init 1 Option.none) 2 33 12 126 G B [.ref (B + t)] (L ++ [.inr (3, [.int 0, .null, .null, .null, .null, .null, .null])]) (L ++ ordersE G B t) := by
  refine NC.of (by decide) rfl (Nat.le_of_ble_eq_true rfl) ?_
  intro p e s m below meth c ls K hr hlocks hi hH hl
  have hS : va_S (AB B) s.heap s.heap [] := va_S.rf
  have hl : lv_has ls 1 [(0, .ref (B + t))] := hl
  have hH : HB G B (L ++ (.inr (3, [.int 0, .null, .null, .null, .null, .null, .null])) :: ([])) s.heap := hH
  refine lv_aload_n K.1.1 K.1.2.1 dX4_init_0 rfl (lv_at hl 0 rfl) ?_
  refine k_obj K q_103 hl.1 ⟨Nat.le_of_ble_eq_true rfl, Nat.le_of_ble_eq_true rfl⟩ dX4_init_1 ?_
  refine lv_aload_n K.1.1 K.1.2.1 dX4_init_4 rfl (lv_at hl 0 rfl) ?_
  refine k_new (ci := 4) (fs := [.null]) (N := 1) (n := t + 1) K hH hS (lenE L _ _ ht rfl) tuX5 tyX5 tyX5_ok q_104 q_52 q_18 rfl (fun j hj => by rcases (show j = 0 by omega) with rfl <;> rfl) (Nat.le_of_ble_eq_true rfl) (Nat.le_of_ble_eq_true rfl) dX4_init_5 (fun H hH hS => ?_)
  refine lv_dup K.1.1 K.1.2.1 dX4_init_8 rfl ?_
  refine lv_bipush (v := 20) K.1.1 K.1.2.1 dX4_init_9 (by decide) ?_
  refine k_cI (n := 1) (As := [.int 20]) (rest := [.ref (B + (t + 1)), .ref (B + t)]) (b := B + (t + 1)) K hH hS (N5_init l G B (L ++ _) (t + 1) 20 (lenE L _ _ ht rfl) (by decide) (by decide)) q_105 q_54 q_18 q_55 rfl ⟨hv_X5_init.2.1, hv_X5_init.2.2.1, hv_X5_init.2.2.2⟩ ⟨Nat.le_of_ble_eq_true rfl, Nat.le_of_ble_eq_true rfl⟩ rfl hl.1 rfl (Nat.le_of_ble_eq_true rfl) dX4_init_11 ⟨Nat.le_of_ble_eq_true rfl, Nat.le_of_ble_eq_true rfl⟩ (fun H locs hH hS => ?_)
  rw [appE] at hH
  have hH : HB G B (L ++ (.inr (3, [.int 0, .null, .null, .null, .null, .null, .null])) :: ([] ++ rowE G B (t + 1) 20)) H := hH
  refine k_putF (j := t) (fs := [.int 0, .null, .null, .null, .null, .null, .null]) (v := .ref (B + (t + 1))) (ty := .object "ShadedBooks$Row") K hi hH hS tuX4 tyX4 tyX4_ok nmX4 (getE L _ _ t ht) rfl 1 (by decide) q_110 rfl rfl (by decide +kernel) rfl rfl (Nat.le_of_ble_eq_true rfl) dX4_init_14 (fun H locs hH hS => ?_)
  rw [setE L _ _ _ t ht] at hH
  have hH : HB G B (L ++ (.inr (3, [.int 0, .ref (B + (t + 1)), .null, .null, .null, .null, .null])) :: ([] ++ rowE G B (t + 1) 20)) H := hH
  refine lv_aload_n K.1.1 K.1.2.1 dX4_init_17 rfl (lv_at hl 0 rfl) ?_
  refine k_new (ci := 4) (fs := [.null]) (N := 1) (n := t + 3) K hH hS (lenE L _ _ ht rfl) tuX5 tyX5 tyX5_ok q_104 q_52 q_18 rfl (fun j hj => by rcases (show j = 0 by omega) with rfl <;> rfl) (Nat.le_of_ble_eq_true rfl) (Nat.le_of_ble_eq_true rfl) dX4_init_18 (fun H hH hS => ?_)
  refine lv_dup K.1.1 K.1.2.1 dX4_init_21 rfl ?_
  refine lv_bipush (v := 20) K.1.1 K.1.2.1 dX4_init_22 (by decide) ?_
  refine k_cI (n := 1) (As := [.int 20]) (rest := [.ref (B + (t + 3)), .ref (B + t)]) (b := B + (t + 3)) K hH hS (N5_init l G B (L ++ _) (t + 3) 20 (lenE L _ _ ht rfl) (by decide) (by decide)) q_105 q_54 q_18 q_55 rfl ⟨hv_X5_init.2.1, hv_X5_init.2.2.1, hv_X5_init.2.2.2⟩ ⟨Nat.le_of_ble_eq_true rfl, Nat.le_of_ble_eq_true rfl⟩ rfl hl.1 rfl (Nat.le_of_ble_eq_true rfl) dX4_init_24 ⟨Nat.le_of_ble_eq_true rfl, Nat.le_of_ble_eq_true rfl⟩ (fun H locs hH hS => ?_)
  rw [appE] at hH
  have hH : HB G B (L ++ (.inr (3, [.int 0, .ref (B + (t + 1)), .null, .null, .null, .null, .null])) :: ([] ++ rowE G B (t + 1) 20 ++ rowE G B (t + 3) 20)) H := hH
  refine k_putF (j := t) (fs := [.int 0, .ref (B + (t + 1)), .null, .null, .null, .null, .null]) (v := .ref (B + (t + 3))) (ty := .object "ShadedBooks$Row") K hi hH hS tuX4 tyX4 tyX4_ok nmX4 (getE L _ _ t ht) rfl 2 (by decide) q_113 rfl rfl (by decide +kernel) rfl rfl (Nat.le_of_ble_eq_true rfl) dX4_init_27 (fun H locs hH hS => ?_)
  rw [setE L _ _ _ t ht] at hH
  have hH : HB G B (L ++ (.inr (3, [.int 0, .ref (B + (t + 1)), .ref (B + (t + 3)), .null, .null, .null, .null])) :: ([] ++ rowE G B (t + 1) 20 ++ rowE G B (t + 3) 20)) H := hH
  refine lv_aload_n K.1.1 K.1.2.1 dX4_init_30 rfl (lv_at hl 0 rfl) ?_
  refine k_new (ci := 4) (fs := [.null]) (N := 1) (n := t + 5) K hH hS (lenE L _ _ ht rfl) tuX5 tyX5 tyX5_ok q_104 q_52 q_18 rfl (fun j hj => by rcases (show j = 0 by omega) with rfl <;> rfl) (Nat.le_of_ble_eq_true rfl) (Nat.le_of_ble_eq_true rfl) dX4_init_31 (fun H hH hS => ?_)
  refine lv_dup K.1.1 K.1.2.1 dX4_init_34 rfl ?_
  refine lv_bipush (v := 20) K.1.1 K.1.2.1 dX4_init_35 (by decide) ?_
  refine k_cI (n := 1) (As := [.int 20]) (rest := [.ref (B + (t + 5)), .ref (B + t)]) (b := B + (t + 5)) K hH hS (N5_init l G B (L ++ _) (t + 5) 20 (lenE L _ _ ht rfl) (by decide) (by decide)) q_105 q_54 q_18 q_55 rfl ⟨hv_X5_init.2.1, hv_X5_init.2.2.1, hv_X5_init.2.2.2⟩ ⟨Nat.le_of_ble_eq_true rfl, Nat.le_of_ble_eq_true rfl⟩ rfl hl.1 rfl (Nat.le_of_ble_eq_true rfl) dX4_init_37 ⟨Nat.le_of_ble_eq_true rfl, Nat.le_of_ble_eq_true rfl⟩ (fun H locs hH hS => ?_)
  rw [appE] at hH
  have hH : HB G B (L ++ (.inr (3, [.int 0, .ref (B + (t + 1)), .ref (B + (t + 3)), .null, .null, .null, .null])) :: ([] ++ rowE G B (t + 1) 20 ++ rowE G B (t + 3) 20 ++ rowE G B (t + 5) 20)) H := hH
  refine k_putF (j := t) (fs := [.int 0, .ref (B + (t + 1)), .ref (B + (t + 3)), .null, .null, .null, .null]) (v := .ref (B + (t + 5))) (ty := .object "ShadedBooks$Row") K hi hH hS tuX4 tyX4 tyX4_ok nmX4 (getE L _ _ t ht) rfl 3 (by decide) q_116 rfl rfl (by decide +kernel) rfl rfl (Nat.le_of_ble_eq_true rfl) dX4_init_40 (fun H locs hH hS => ?_)
  rw [setE L _ _ _ t ht] at hH
  have hH : HB G B (L ++ (.inr (3, [.int 0, .ref (B + (t + 1)), .ref (B + (t + 3)), .ref (B + (t + 5)), .null, .null, .null])) :: ([] ++ rowE G B (t + 1) 20 ++ rowE G B (t + 3) 20 ++ rowE G B (t + 5) 20)) H := hH
  refine lv_aload_n K.1.1 K.1.2.1 dX4_init_43 rfl (lv_at hl 0 rfl) ?_
  refine k_new (ci := 4) (fs := [.null]) (N := 1) (n := t + 7) K hH hS (lenE L _ _ ht rfl) tuX5 tyX5 tyX5_ok q_104 q_52 q_18 rfl (fun j hj => by rcases (show j = 0 by omega) with rfl <;> rfl) (Nat.le_of_ble_eq_true rfl) (Nat.le_of_ble_eq_true rfl) dX4_init_44 (fun H hH hS => ?_)
  refine lv_dup K.1.1 K.1.2.1 dX4_init_47 rfl ?_
  refine lv_bipush (v := 20) K.1.1 K.1.2.1 dX4_init_48 (by decide) ?_
  refine k_cI (n := 1) (As := [.int 20]) (rest := [.ref (B + (t + 7)), .ref (B + t)]) (b := B + (t + 7)) K hH hS (N5_init l G B (L ++ _) (t + 7) 20 (lenE L _ _ ht rfl) (by decide) (by decide)) q_105 q_54 q_18 q_55 rfl ⟨hv_X5_init.2.1, hv_X5_init.2.2.1, hv_X5_init.2.2.2⟩ ⟨Nat.le_of_ble_eq_true rfl, Nat.le_of_ble_eq_true rfl⟩ rfl hl.1 rfl (Nat.le_of_ble_eq_true rfl) dX4_init_50 ⟨Nat.le_of_ble_eq_true rfl, Nat.le_of_ble_eq_true rfl⟩ (fun H locs hH hS => ?_)
  rw [appE] at hH
  have hH : HB G B (L ++ (.inr (3, [.int 0, .ref (B + (t + 1)), .ref (B + (t + 3)), .ref (B + (t + 5)), .null, .null, .null])) :: ([] ++ rowE G B (t + 1) 20 ++ rowE G B (t + 3) 20 ++ rowE G B (t + 5) 20 ++ rowE G B (t + 7) 20)) H := hH
  refine k_putF (j := t) (fs := [.int 0, .ref (B + (t + 1)), .ref (B + (t + 3)), .ref (B + (t + 5)), .null, .null, .null]) (v := .ref (B + (t + 7))) (ty := .object "ShadedBooks$Row") K hi hH hS tuX4 tyX4 tyX4_ok nmX4 (getE L _ _ t ht) rfl 4 (by decide) q_118 rfl rfl (by decide +kernel) rfl rfl (Nat.le_of_ble_eq_true rfl) dX4_init_53 (fun H locs hH hS => ?_)
  rw [setE L _ _ _ t ht] at hH
  have hH : HB G B (L ++ (.inr (3, [.int 0, .ref (B + (t + 1)), .ref (B + (t + 3)), .ref (B + (t + 5)), .ref (B + (t + 7)), .null, .null])) :: ([] ++ rowE G B (t + 1) 20 ++ rowE G B (t + 3) 20 ++ rowE G B (t + 5) 20 ++ rowE G B (t + 7) 20)) H := hH
  refine lv_aload_n K.1.1 K.1.2.1 dX4_init_56 rfl (lv_at hl 0 rfl) ?_
  refine k_new (ci := 4) (fs := [.null]) (N := 1) (n := t + 9) K hH hS (lenE L _ _ ht rfl) tuX5 tyX5 tyX5_ok q_104 q_52 q_18 rfl (fun j hj => by rcases (show j = 0 by omega) with rfl <;> rfl) (Nat.le_of_ble_eq_true rfl) (Nat.le_of_ble_eq_true rfl) dX4_init_57 (fun H hH hS => ?_)
  refine lv_dup K.1.1 K.1.2.1 dX4_init_60 rfl ?_
  refine lv_bipush (v := 20) K.1.1 K.1.2.1 dX4_init_61 (by decide) ?_
  refine k_cI (n := 1) (As := [.int 20]) (rest := [.ref (B + (t + 9)), .ref (B + t)]) (b := B + (t + 9)) K hH hS (N5_init l G B (L ++ _) (t + 9) 20 (lenE L _ _ ht rfl) (by decide) (by decide)) q_105 q_54 q_18 q_55 rfl ⟨hv_X5_init.2.1, hv_X5_init.2.2.1, hv_X5_init.2.2.2⟩ ⟨Nat.le_of_ble_eq_true rfl, Nat.le_of_ble_eq_true rfl⟩ rfl hl.1 rfl (Nat.le_of_ble_eq_true rfl) dX4_init_63 ⟨Nat.le_of_ble_eq_true rfl, Nat.le_of_ble_eq_true rfl⟩ (fun H locs hH hS => ?_)
  rw [appE] at hH
  have hH : HB G B (L ++ (.inr (3, [.int 0, .ref (B + (t + 1)), .ref (B + (t + 3)), .ref (B + (t + 5)), .ref (B + (t + 7)), .null, .null])) :: ([] ++ rowE G B (t + 1) 20 ++ rowE G B (t + 3) 20 ++ rowE G B (t + 5) 20 ++ rowE G B (t + 7) 20 ++ rowE G B (t + 9) 20)) H := hH
  refine k_putF (j := t) (fs := [.int 0, .ref (B + (t + 1)), .ref (B + (t + 3)), .ref (B + (t + 5)), .ref (B + (t + 7)), .null, .null]) (v := .ref (B + (t + 9))) (ty := .object "ShadedBooks$Row") K hi hH hS tuX4 tyX4 tyX4_ok nmX4 (getE L _ _ t ht) rfl 5 (by decide) q_120 rfl rfl (by decide +kernel) rfl rfl (Nat.le_of_ble_eq_true rfl) dX4_init_66 (fun H locs hH hS => ?_)
  rw [setE L _ _ _ t ht] at hH
  have hH : HB G B (L ++ (.inr (3, [.int 0, .ref (B + (t + 1)), .ref (B + (t + 3)), .ref (B + (t + 5)), .ref (B + (t + 7)), .ref (B + (t + 9)), .null])) :: ([] ++ rowE G B (t + 1) 20 ++ rowE G B (t + 3) 20 ++ rowE G B (t + 5) 20 ++ rowE G B (t + 7) 20 ++ rowE G B (t + 9) 20)) H := hH
  refine lv_aload_n K.1.1 K.1.2.1 dX4_init_69 rfl (lv_at hl 0 rfl) ?_
  refine k_new (ci := 4) (fs := [.null]) (N := 1) (n := t + 11) K hH hS (lenE L _ _ ht rfl) tuX5 tyX5 tyX5_ok q_104 q_52 q_18 rfl (fun j hj => by rcases (show j = 0 by omega) with rfl <;> rfl) (Nat.le_of_ble_eq_true rfl) (Nat.le_of_ble_eq_true rfl) dX4_init_70 (fun H hH hS => ?_)
  refine lv_dup K.1.1 K.1.2.1 dX4_init_73 rfl ?_
  refine lv_bipush (v := 20) K.1.1 K.1.2.1 dX4_init_74 (by decide) ?_
  refine k_cI (n := 1) (As := [.int 20]) (rest := [.ref (B + (t + 11)), .ref (B + t)]) (b := B + (t + 11)) K hH hS (N5_init l G B (L ++ _) (t + 11) 20 (lenE L _ _ ht rfl) (by decide) (by decide)) q_105 q_54 q_18 q_55 rfl ⟨hv_X5_init.2.1, hv_X5_init.2.2.1, hv_X5_init.2.2.2⟩ ⟨Nat.le_of_ble_eq_true rfl, Nat.le_of_ble_eq_true rfl⟩ rfl hl.1 rfl (Nat.le_of_ble_eq_true rfl) dX4_init_76 ⟨Nat.le_of_ble_eq_true rfl, Nat.le_of_ble_eq_true rfl⟩ (fun H locs hH hS => ?_)
  rw [appE] at hH
  have hH : HB G B (L ++ (.inr (3, [.int 0, .ref (B + (t + 1)), .ref (B + (t + 3)), .ref (B + (t + 5)), .ref (B + (t + 7)), .ref (B + (t + 9)), .null])) :: ([] ++ rowE G B (t + 1) 20 ++ rowE G B (t + 3) 20 ++ rowE G B (t + 5) 20 ++ rowE G B (t + 7) 20 ++ rowE G B (t + 9) 20 ++ rowE G B (t + 11) 20)) H := hH
  refine k_putF (j := t) (fs := [.int 0, .ref (B + (t + 1)), .ref (B + (t + 3)), .ref (B + (t + 5)), .ref (B + (t + 7)), .ref (B + (t + 9)), .null]) (v := .ref (B + (t + 11))) (ty := .object "ShadedBooks$Row") K hi hH hS tuX4 tyX4 tyX4_ok nmX4 (getE L _ _ t ht) rfl 6 (by decide) q_123 rfl rfl (by decide +kernel) rfl rfl (Nat.le_of_ble_eq_true rfl) dX4_init_79 (fun H locs hH hS => ?_)
  rw [setE L _ _ _ t ht] at hH
  have hH : HB G B (L ++ (.inr (3, [.int 0, .ref (B + (t + 1)), .ref (B + (t + 3)), .ref (B + (t + 5)), .ref (B + (t + 7)), .ref (B + (t + 9)), .ref (B + (t + 11))])) :: ([] ++ rowE G B (t + 1) 20 ++ rowE G B (t + 3) 20 ++ rowE G B (t + 5) 20 ++ rowE G B (t + 7) 20 ++ rowE G B (t + 9) 20 ++ rowE G B (t + 11) 20)) H := hH
  exact k_ret K hr hlocks hH hS rfl dX4_init_82

def tradesE (G : GG) (B t : Nat) : List va_E := (.inr (6, [.int 0, .ref (B + (t + 1)), .ref (B + (t + 3)), .ref (B + (t + 5)), .ref (B + (t + 7)), .ref (B + (t + 9))])) :: ([] ++ rowE G B (t + 1) 20 ++ rowE G B (t + 3) 20 ++ rowE G B (t + 5) 20 ++ rowE G B (t + 7) 20 ++ rowE G B (t + 9) 20)
set_option maxHeartbeats 4000000 in
set_option maxRecDepth 100000 in
theorem N7_init (l : Launch) (G : GG) (B : Nat) (L : List va_E) (t : Nat) (ht : L.length = t) : NC l yX7_init (.code yX7_init cX7_init 1 Option.none) 2 33 10 105 G B [.ref (B + t)] (L ++ [.inr (6, [.int 0, .null, .null, .null, .null, .null])]) (L ++ tradesE G B t) := by
  refine NC.of (by decide) rfl (Nat.le_of_ble_eq_true rfl) ?_
  intro p e s m below meth c ls K hr hlocks hi hH hl
  have hS : va_S (AB B) s.heap s.heap [] := va_S.rf
  have hl : lv_has ls 1 [(0, .ref (B + t))] := hl
  have hH : HB G B (L ++ (.inr (6, [.int 0, .null, .null, .null, .null, .null])) :: ([])) s.heap := hH
  refine lv_aload_n K.1.1 K.1.2.1 dX7_init_0 rfl (lv_at hl 0 rfl) ?_
  refine k_obj K q_144 hl.1 ⟨Nat.le_of_ble_eq_true rfl, Nat.le_of_ble_eq_true rfl⟩ dX7_init_1 ?_
  refine lv_aload_n K.1.1 K.1.2.1 dX7_init_4 rfl (lv_at hl 0 rfl) ?_
  refine k_new (ci := 4) (fs := [.null]) (N := 1) (n := t + 1) K hH hS (lenE L _ _ ht rfl) tuX5 tyX5 tyX5_ok q_145 q_52 q_18 rfl (fun j hj => by rcases (show j = 0 by omega) with rfl <;> rfl) (Nat.le_of_ble_eq_true rfl) (Nat.le_of_ble_eq_true rfl) dX7_init_5 (fun H hH hS => ?_)
  refine lv_dup K.1.1 K.1.2.1 dX7_init_8 rfl ?_
  refine lv_bipush (v := 20) K.1.1 K.1.2.1 dX7_init_9 (by decide) ?_
  refine k_cI (n := 1) (As := [.int 20]) (rest := [.ref (B + (t + 1)), .ref (B + t)]) (b := B + (t + 1)) K hH hS (N5_init l G B (L ++ _) (t + 1) 20 (lenE L _ _ ht rfl) (by decide) (by decide)) q_146 q_54 q_18 q_55 rfl ⟨hv_X5_init.2.1, hv_X5_init.2.2.1, hv_X5_init.2.2.2⟩ ⟨Nat.le_of_ble_eq_true rfl, Nat.le_of_ble_eq_true rfl⟩ rfl hl.1 rfl (Nat.le_of_ble_eq_true rfl) dX7_init_11 ⟨Nat.le_of_ble_eq_true rfl, Nat.le_of_ble_eq_true rfl⟩ (fun H locs hH hS => ?_)
  rw [appE] at hH
  have hH : HB G B (L ++ (.inr (6, [.int 0, .null, .null, .null, .null, .null])) :: ([] ++ rowE G B (t + 1) 20)) H := hH
  refine k_putF (j := t) (fs := [.int 0, .null, .null, .null, .null, .null]) (v := .ref (B + (t + 1))) (ty := .object "ShadedBooks$Row") K hi hH hS tuX7 tyX7 tyX7_ok nmX7 (getE L _ _ t ht) rfl 1 (by decide) q_151 rfl rfl (by decide +kernel) rfl rfl (Nat.le_of_ble_eq_true rfl) dX7_init_14 (fun H locs hH hS => ?_)
  rw [setE L _ _ _ t ht] at hH
  have hH : HB G B (L ++ (.inr (6, [.int 0, .ref (B + (t + 1)), .null, .null, .null, .null])) :: ([] ++ rowE G B (t + 1) 20)) H := hH
  refine lv_aload_n K.1.1 K.1.2.1 dX7_init_17 rfl (lv_at hl 0 rfl) ?_
  refine k_new (ci := 4) (fs := [.null]) (N := 1) (n := t + 3) K hH hS (lenE L _ _ ht rfl) tuX5 tyX5 tyX5_ok q_145 q_52 q_18 rfl (fun j hj => by rcases (show j = 0 by omega) with rfl <;> rfl) (Nat.le_of_ble_eq_true rfl) (Nat.le_of_ble_eq_true rfl) dX7_init_18 (fun H hH hS => ?_)
  refine lv_dup K.1.1 K.1.2.1 dX7_init_21 rfl ?_
  refine lv_bipush (v := 20) K.1.1 K.1.2.1 dX7_init_22 (by decide) ?_
  refine k_cI (n := 1) (As := [.int 20]) (rest := [.ref (B + (t + 3)), .ref (B + t)]) (b := B + (t + 3)) K hH hS (N5_init l G B (L ++ _) (t + 3) 20 (lenE L _ _ ht rfl) (by decide) (by decide)) q_146 q_54 q_18 q_55 rfl ⟨hv_X5_init.2.1, hv_X5_init.2.2.1, hv_X5_init.2.2.2⟩ ⟨Nat.le_of_ble_eq_true rfl, Nat.le_of_ble_eq_true rfl⟩ rfl hl.1 rfl (Nat.le_of_ble_eq_true rfl) dX7_init_24 ⟨Nat.le_of_ble_eq_true rfl, Nat.le_of_ble_eq_true rfl⟩ (fun H locs hH hS => ?_)
  rw [appE] at hH
  have hH : HB G B (L ++ (.inr (6, [.int 0, .ref (B + (t + 1)), .null, .null, .null, .null])) :: ([] ++ rowE G B (t + 1) 20 ++ rowE G B (t + 3) 20)) H := hH
  refine k_putF (j := t) (fs := [.int 0, .ref (B + (t + 1)), .null, .null, .null, .null]) (v := .ref (B + (t + 3))) (ty := .object "ShadedBooks$Row") K hi hH hS tuX7 tyX7 tyX7_ok nmX7 (getE L _ _ t ht) rfl 2 (by decide) q_152 rfl rfl (by decide +kernel) rfl rfl (Nat.le_of_ble_eq_true rfl) dX7_init_27 (fun H locs hH hS => ?_)
  rw [setE L _ _ _ t ht] at hH
  have hH : HB G B (L ++ (.inr (6, [.int 0, .ref (B + (t + 1)), .ref (B + (t + 3)), .null, .null, .null])) :: ([] ++ rowE G B (t + 1) 20 ++ rowE G B (t + 3) 20)) H := hH
  refine lv_aload_n K.1.1 K.1.2.1 dX7_init_30 rfl (lv_at hl 0 rfl) ?_
  refine k_new (ci := 4) (fs := [.null]) (N := 1) (n := t + 5) K hH hS (lenE L _ _ ht rfl) tuX5 tyX5 tyX5_ok q_145 q_52 q_18 rfl (fun j hj => by rcases (show j = 0 by omega) with rfl <;> rfl) (Nat.le_of_ble_eq_true rfl) (Nat.le_of_ble_eq_true rfl) dX7_init_31 (fun H hH hS => ?_)
  refine lv_dup K.1.1 K.1.2.1 dX7_init_34 rfl ?_
  refine lv_bipush (v := 20) K.1.1 K.1.2.1 dX7_init_35 (by decide) ?_
  refine k_cI (n := 1) (As := [.int 20]) (rest := [.ref (B + (t + 5)), .ref (B + t)]) (b := B + (t + 5)) K hH hS (N5_init l G B (L ++ _) (t + 5) 20 (lenE L _ _ ht rfl) (by decide) (by decide)) q_146 q_54 q_18 q_55 rfl ⟨hv_X5_init.2.1, hv_X5_init.2.2.1, hv_X5_init.2.2.2⟩ ⟨Nat.le_of_ble_eq_true rfl, Nat.le_of_ble_eq_true rfl⟩ rfl hl.1 rfl (Nat.le_of_ble_eq_true rfl) dX7_init_37 ⟨Nat.le_of_ble_eq_true rfl, Nat.le_of_ble_eq_true rfl⟩ (fun H locs hH hS => ?_)
  rw [appE] at hH
  have hH : HB G B (L ++ (.inr (6, [.int 0, .ref (B + (t + 1)), .ref (B + (t + 3)), .null, .null, .null])) :: ([] ++ rowE G B (t + 1) 20 ++ rowE G B (t + 3) 20 ++ rowE G B (t + 5) 20)) H := hH
  refine k_putF (j := t) (fs := [.int 0, .ref (B + (t + 1)), .ref (B + (t + 3)), .null, .null, .null]) (v := .ref (B + (t + 5))) (ty := .object "ShadedBooks$Row") K hi hH hS tuX7 tyX7 tyX7_ok nmX7 (getE L _ _ t ht) rfl 3 (by decide) q_153 rfl rfl (by decide +kernel) rfl rfl (Nat.le_of_ble_eq_true rfl) dX7_init_40 (fun H locs hH hS => ?_)
  rw [setE L _ _ _ t ht] at hH
  have hH : HB G B (L ++ (.inr (6, [.int 0, .ref (B + (t + 1)), .ref (B + (t + 3)), .ref (B + (t + 5)), .null, .null])) :: ([] ++ rowE G B (t + 1) 20 ++ rowE G B (t + 3) 20 ++ rowE G B (t + 5) 20)) H := hH
  refine lv_aload_n K.1.1 K.1.2.1 dX7_init_43 rfl (lv_at hl 0 rfl) ?_
  refine k_new (ci := 4) (fs := [.null]) (N := 1) (n := t + 7) K hH hS (lenE L _ _ ht rfl) tuX5 tyX5 tyX5_ok q_145 q_52 q_18 rfl (fun j hj => by rcases (show j = 0 by omega) with rfl <;> rfl) (Nat.le_of_ble_eq_true rfl) (Nat.le_of_ble_eq_true rfl) dX7_init_44 (fun H hH hS => ?_)
  refine lv_dup K.1.1 K.1.2.1 dX7_init_47 rfl ?_
  refine lv_bipush (v := 20) K.1.1 K.1.2.1 dX7_init_48 (by decide) ?_
  refine k_cI (n := 1) (As := [.int 20]) (rest := [.ref (B + (t + 7)), .ref (B + t)]) (b := B + (t + 7)) K hH hS (N5_init l G B (L ++ _) (t + 7) 20 (lenE L _ _ ht rfl) (by decide) (by decide)) q_146 q_54 q_18 q_55 rfl ⟨hv_X5_init.2.1, hv_X5_init.2.2.1, hv_X5_init.2.2.2⟩ ⟨Nat.le_of_ble_eq_true rfl, Nat.le_of_ble_eq_true rfl⟩ rfl hl.1 rfl (Nat.le_of_ble_eq_true rfl) dX7_init_50 ⟨Nat.le_of_ble_eq_true rfl, Nat.le_of_ble_eq_true rfl⟩ (fun H locs hH hS => ?_)
  rw [appE] at hH
  have hH : HB G B (L ++ (.inr (6, [.int 0, .ref (B + (t + 1)), .ref (B + (t + 3)), .ref (B + (t + 5)), .null, .null])) :: ([] ++ rowE G B (t + 1) 20 ++ rowE G B (t + 3) 20 ++ rowE G B (t + 5) 20 ++ rowE G B (t + 7) 20)) H := hH
  refine k_putF (j := t) (fs := [.int 0, .ref (B + (t + 1)), .ref (B + (t + 3)), .ref (B + (t + 5)), .null, .null]) (v := .ref (B + (t + 7))) (ty := .object "ShadedBooks$Row") K hi hH hS tuX7 tyX7 tyX7_ok nmX7 (getE L _ _ t ht) rfl 4 (by decide) q_154 rfl rfl (by decide +kernel) rfl rfl (Nat.le_of_ble_eq_true rfl) dX7_init_53 (fun H locs hH hS => ?_)
  rw [setE L _ _ _ t ht] at hH
  have hH : HB G B (L ++ (.inr (6, [.int 0, .ref (B + (t + 1)), .ref (B + (t + 3)), .ref (B + (t + 5)), .ref (B + (t + 7)), .null])) :: ([] ++ rowE G B (t + 1) 20 ++ rowE G B (t + 3) 20 ++ rowE G B (t + 5) 20 ++ rowE G B (t + 7) 20)) H := hH
  refine lv_aload_n K.1.1 K.1.2.1 dX7_init_56 rfl (lv_at hl 0 rfl) ?_
  refine k_new (ci := 4) (fs := [.null]) (N := 1) (n := t + 9) K hH hS (lenE L _ _ ht rfl) tuX5 tyX5 tyX5_ok q_145 q_52 q_18 rfl (fun j hj => by rcases (show j = 0 by omega) with rfl <;> rfl) (Nat.le_of_ble_eq_true rfl) (Nat.le_of_ble_eq_true rfl) dX7_init_57 (fun H hH hS => ?_)
  refine lv_dup K.1.1 K.1.2.1 dX7_init_60 rfl ?_
  refine lv_bipush (v := 20) K.1.1 K.1.2.1 dX7_init_61 (by decide) ?_
  refine k_cI (n := 1) (As := [.int 20]) (rest := [.ref (B + (t + 9)), .ref (B + t)]) (b := B + (t + 9)) K hH hS (N5_init l G B (L ++ _) (t + 9) 20 (lenE L _ _ ht rfl) (by decide) (by decide)) q_146 q_54 q_18 q_55 rfl ⟨hv_X5_init.2.1, hv_X5_init.2.2.1, hv_X5_init.2.2.2⟩ ⟨Nat.le_of_ble_eq_true rfl, Nat.le_of_ble_eq_true rfl⟩ rfl hl.1 rfl (Nat.le_of_ble_eq_true rfl) dX7_init_63 ⟨Nat.le_of_ble_eq_true rfl, Nat.le_of_ble_eq_true rfl⟩ (fun H locs hH hS => ?_)
  rw [appE] at hH
  have hH : HB G B (L ++ (.inr (6, [.int 0, .ref (B + (t + 1)), .ref (B + (t + 3)), .ref (B + (t + 5)), .ref (B + (t + 7)), .null])) :: ([] ++ rowE G B (t + 1) 20 ++ rowE G B (t + 3) 20 ++ rowE G B (t + 5) 20 ++ rowE G B (t + 7) 20 ++ rowE G B (t + 9) 20)) H := hH
  refine k_putF (j := t) (fs := [.int 0, .ref (B + (t + 1)), .ref (B + (t + 3)), .ref (B + (t + 5)), .ref (B + (t + 7)), .null]) (v := .ref (B + (t + 9))) (ty := .object "ShadedBooks$Row") K hi hH hS tuX7 tyX7 tyX7_ok nmX7 (getE L _ _ t ht) rfl 5 (by decide) q_155 rfl rfl (by decide +kernel) rfl rfl (Nat.le_of_ble_eq_true rfl) dX7_init_66 (fun H locs hH hS => ?_)
  rw [setE L _ _ _ t ht] at hH
  have hH : HB G B (L ++ (.inr (6, [.int 0, .ref (B + (t + 1)), .ref (B + (t + 3)), .ref (B + (t + 5)), .ref (B + (t + 7)), .ref (B + (t + 9))])) :: ([] ++ rowE G B (t + 1) 20 ++ rowE G B (t + 3) 20 ++ rowE G B (t + 5) 20 ++ rowE G B (t + 7) 20 ++ rowE G B (t + 9) 20)) H := hH
  exact k_ret K hr hlocks hH hS rfl dX7_init_69

def auctionE (G : GG) (B t : Nat) : List va_E := (.inr (0, [.ref (B + (t + 1)), .ref (B + (t + 16)), .ref (B + (t + 29)), .int 5, .int 3, .int 0, .int 0, .int 0, .int 0, .int (-10000), .int 0])) :: ([] ++ tradersE G B (t + 1) ++ ordersE G B (t + 16) ++ tradesE G B (t + 29))
