set_option maxHeartbeats 4000000 in
set_option maxRecDepth 100000 in
theorem N1_init (l : Launch) (G : GG) (B : Nat) (L : List va_E) (t : Nat) (ht : L.length = t) : NC l yX1_init (.code yX1_init cX1_init 1 Option.none) 3 53 39 315 G B [.ref (B + t)] (L ++ [.inr (0, [.null, .null, .null, .int 0, .int 0, .int 0, .int 0, .int 0, .int 0, .int 0, .int 0])]) (L ++ auctionE G B t) := by
  refine NC.of (by decide) rfl (Nat.le_of_ble_eq_true rfl) ?_
  intro p e s m below meth c ls K hr hlocks hi hH hl
  have hS : va_S (AB B) s.heap s.heap [] := va_S.rf
  have hl : lv_has ls 1 [(0, .ref (B + t))] := hl
  have hH : HB G B (L ++ (.inr (0, [.null, .null, .null, .int 0, .int 0, .int 0, .int 0, .int 0, .int 0, .int 0, .int 0])) :: ([])) s.heap := hH
  refine lv_aload_n K.1.1 K.1.2.1 dX1_init_0 rfl (lv_at hl 0 rfl) ?_
  refine k_obj K q_44 hl.1 ⟨Nat.le_of_ble_eq_true rfl, Nat.le_of_ble_eq_true rfl⟩ dX1_init_1 ?_
  refine lv_aload_n K.1.1 K.1.2.1 dX1_init_4 rfl (lv_at hl 0 rfl) ?_
  refine k_new (ci := 5) (fs := [.int 0, .null, .null, .null, .null, .null, .null, .null]) (N := 8) (n := t + 1) K hH hS (lenE L _ _ ht rfl) tuX6 tyX6 tyX6_ok q_45 q_46 q_17 rfl (fun j hj => by rcases (show j = 0 ∨ j = 1 ∨ j = 2 ∨ j = 3 ∨ j = 4 ∨ j = 5 ∨ j = 6 ∨ j = 7 by omega) with rfl | rfl | rfl | rfl | rfl | rfl | rfl | rfl <;> rfl) (Nat.le_of_ble_eq_true rfl) (Nat.le_of_ble_eq_true rfl) dX1_init_5 (fun H hH hS => ?_)
  refine lv_dup K.1.1 K.1.2.1 dX1_init_8 rfl ?_
  refine k_cIN (n := 0) (As := []) (rest := [.ref (B + (t + 1)), .ref (B + t)]) (b := B + (t + 1)) K hH hS (N6_init l G B (L ++ _) (t + 1) (lenE L _ _ ht rfl)) K.2.2.1.2.1 q_48 q_17 q_49 rfl ⟨hv_X6_init.2.1, hv_X6_init.2.2.1, hv_X6_init.2.2.2⟩ ⟨Nat.le_of_ble_eq_true rfl, Nat.le_of_ble_eq_true rfl⟩ rfl hl.1 rfl (Nat.le_of_ble_eq_true rfl) dX1_init_9 ⟨Nat.le_of_ble_eq_true rfl, Nat.le_of_ble_eq_true rfl⟩ (fun H locs hH hS => ?_)
  rw [appE] at hH
  have hH : HB G B (L ++ (.inr (0, [.null, .null, .null, .int 0, .int 0, .int 0, .int 0, .int 0, .int 0, .int 0, .int 0])) :: ([] ++ tradersE G B (t + 1))) H := hH
  refine k_putF (j := t) (fs := [.null, .null, .null, .int 0, .int 0, .int 0, .int 0, .int 0, .int 0, .int 0, .int 0]) (v := .ref (B + (t + 1))) (ty := .object "ShadedBooks$Traders") K hi hH hS tuX1 tyX1 tyX1_ok nmX1 (getE L _ _ t ht) rfl 0 (by decide) q_169 rfl rfl (by decide +kernel) rfl rfl (Nat.le_of_ble_eq_true rfl) dX1_init_12 (fun H locs hH hS => ?_)
  rw [setE L _ _ _ t ht] at hH
  have hH : HB G B (L ++ (.inr (0, [.ref (B + (t + 1)), .null, .null, .int 0, .int 0, .int 0, .int 0, .int 0, .int 0, .int 0, .int 0])) :: ([] ++ tradersE G B (t + 1))) H := hH
  refine lv_aload_n K.1.1 K.1.2.1 dX1_init_15 rfl (lv_at hl 0 rfl) ?_
  refine k_new (ci := 3) (fs := [.int 0, .null, .null, .null, .null, .null, .null]) (N := 7) (n := t + 16) K hH hS (lenE L _ _ ht rfl) tuX4 tyX4 tyX4_ok q_98 q_99 q_19 rfl (fun j hj => by rcases (show j = 0 ∨ j = 1 ∨ j = 2 ∨ j = 3 ∨ j = 4 ∨ j = 5 ∨ j = 6 by omega) with rfl | rfl | rfl | rfl | rfl | rfl | rfl <;> rfl) (Nat.le_of_ble_eq_true rfl) (Nat.le_of_ble_eq_true rfl) dX1_init_16 (fun H hH hS => ?_)
  refine lv_dup K.1.1 K.1.2.1 dX1_init_19 rfl ?_
  refine k_cIN (n := 0) (As := []) (rest := [.ref (B + (t + 16)), .ref (B + t)]) (b := B + (t + 16)) K hH hS (N4_init l G B (L ++ _) (t + 16) (lenE L _ _ ht rfl)) K.2.2.1.2.2.1 q_101 q_19 q_102 rfl ⟨hv_X4_init.2.1, hv_X4_init.2.2.1, hv_X4_init.2.2.2⟩ ⟨Nat.le_of_ble_eq_true rfl, Nat.le_of_ble_eq_true rfl⟩ rfl hl.1 rfl (Nat.le_of_ble_eq_true rfl) dX1_init_20 ⟨Nat.le_of_ble_eq_true rfl, Nat.le_of_ble_eq_true rfl⟩ (fun H locs hH hS => ?_)
  rw [appE] at hH
  have hH : HB G B (L ++ (.inr (0, [.ref (B + (t + 1)), .null, .null, .int 0, .int 0, .int 0, .int 0, .int 0, .int 0, .int 0, .int 0])) :: ([] ++ tradersE G B (t + 1) ++ ordersE G B (t + 16))) H := hH
  refine k_putF (j := t) (fs := [.ref (B + (t + 1)), .null, .null, .int 0, .int 0, .int 0, .int 0, .int 0, .int 0, .int 0, .int 0]) (v := .ref (B + (t + 16))) (ty := .object "ShadedBooks$Orders") K hi hH hS tuX1 tyX1 tyX1_ok nmX1 (getE L _ _ t ht) rfl 1 (by decide) q_172 rfl rfl (by decide +kernel) rfl rfl (Nat.le_of_ble_eq_true rfl) dX1_init_23 (fun H locs hH hS => ?_)
  rw [setE L _ _ _ t ht] at hH
  have hH : HB G B (L ++ (.inr (0, [.ref (B + (t + 1)), .ref (B + (t + 16)), .null, .int 0, .int 0, .int 0, .int 0, .int 0, .int 0, .int 0, .int 0])) :: ([] ++ tradersE G B (t + 1) ++ ordersE G B (t + 16))) H := hH
  refine lv_aload_n K.1.1 K.1.2.1 dX1_init_26 rfl (lv_at hl 0 rfl) ?_
  refine k_new (ci := 6) (fs := [.int 0, .null, .null, .null, .null, .null]) (N := 6) (n := t + 29) K hH hS (lenE L _ _ ht rfl) tuX7 tyX7 tyX7_ok q_139 q_140 q_20 rfl (fun j hj => by rcases (show j = 0 ∨ j = 1 ∨ j = 2 ∨ j = 3 ∨ j = 4 ∨ j = 5 by omega) with rfl | rfl | rfl | rfl | rfl | rfl <;> rfl) (Nat.le_of_ble_eq_true rfl) (Nat.le_of_ble_eq_true rfl) dX1_init_27 (fun H hH hS => ?_)
  refine lv_dup K.1.1 K.1.2.1 dX1_init_30 rfl ?_
  refine k_cIN (n := 0) (As := []) (rest := [.ref (B + (t + 29)), .ref (B + t)]) (b := B + (t + 29)) K hH hS (N7_init l G B (L ++ _) (t + 29) (lenE L _ _ ht rfl)) K.2.2.1.2.2.2.1 q_142 q_20 q_143 rfl ⟨hv_X7_init.2.1, hv_X7_init.2.2.1, hv_X7_init.2.2.2⟩ ⟨Nat.le_of_ble_eq_true rfl, Nat.le_of_ble_eq_true rfl⟩ rfl hl.1 rfl (Nat.le_of_ble_eq_true rfl) dX1_init_31 ⟨Nat.le_of_ble_eq_true rfl, Nat.le_of_ble_eq_true rfl⟩ (fun H locs hH hS => ?_)
  rw [appE] at hH
  have hH : HB G B (L ++ (.inr (0, [.ref (B + (t + 1)), .ref (B + (t + 16)), .null, .int 0, .int 0, .int 0, .int 0, .int 0, .int 0, .int 0, .int 0])) :: ([] ++ tradersE G B (t + 1) ++ ordersE G B (t + 16) ++ tradesE G B (t + 29))) H := hH
  refine k_putF (j := t) (fs := [.ref (B + (t + 1)), .ref (B + (t + 16)), .null, .int 0, .int 0, .int 0, .int 0, .int 0, .int 0, .int 0, .int 0]) (v := .ref (B + (t + 29))) (ty := .object "ShadedBooks$Trades") K hi hH hS tuX1 tyX1 tyX1_ok nmX1 (getE L _ _ t ht) rfl 2 (by decide) q_175 rfl rfl (by decide +kernel) rfl rfl (Nat.le_of_ble_eq_true rfl) dX1_init_34 (fun H locs hH hS => ?_)
  rw [setE L _ _ _ t ht] at hH
  have hH : HB G B (L ++ (.inr (0, [.ref (B + (t + 1)), .ref (B + (t + 16)), .ref (B + (t + 29)), .int 0, .int 0, .int 0, .int 0, .int 0, .int 0, .int 0, .int 0])) :: ([] ++ tradersE G B (t + 1) ++ ordersE G B (t + 16) ++ tradesE G B (t + 29))) H := hH
  refine lv_aload_n K.1.1 K.1.2.1 dX1_init_37 rfl (lv_at hl 0 rfl) ?_
  refine lv_iconst (v := 5) K.1.1 K.1.2.1 dX1_init_38 (by decide) ?_
  refine k_put (j := t) (fs := [.ref (B + (t + 1)), .ref (B + (t + 16)), .ref (B + (t + 29)), .int 0, .int 0, .int 0, .int 0, .int 0, .int 0, .int 0, .int 0]) (v := .int 5) (ty := .int) K hH hS tuX1 tyX1 tyX1_ok nmX1 (getE L _ _ t ht) rfl 3 (by decide) q_177 rfl (by decide +kernel) rfl rfl (Nat.le_of_ble_eq_true rfl) dX1_init_39 (fun H locs hH hS => ?_)
  rw [setE L _ _ _ t ht] at hH
  have hH : HB G B (L ++ (.inr (0, [.ref (B + (t + 1)), .ref (B + (t + 16)), .ref (B + (t + 29)), .int 5, .int 0, .int 0, .int 0, .int 0, .int 0, .int 0, .int 0])) :: ([] ++ tradersE G B (t + 1) ++ ordersE G B (t + 16) ++ tradesE G B (t + 29))) H := hH
  refine lv_aload_n K.1.1 K.1.2.1 dX1_init_42 rfl (lv_at hl 0 rfl) ?_
  refine lv_iconst (v := 3) K.1.1 K.1.2.1 dX1_init_43 (by decide) ?_
  refine k_put (j := t) (fs := [.ref (B + (t + 1)), .ref (B + (t + 16)), .ref (B + (t + 29)), .int 5, .int 0, .int 0, .int 0, .int 0, .int 0, .int 0, .int 0]) (v := .int 3) (ty := .int) K hH hS tuX1 tyX1 tyX1_ok nmX1 (getE L _ _ t ht) rfl 4 (by decide) q_179 rfl (by decide +kernel) rfl rfl (Nat.le_of_ble_eq_true rfl) dX1_init_44 (fun H locs hH hS => ?_)
  rw [setE L _ _ _ t ht] at hH
  have hH : HB G B (L ++ (.inr (0, [.ref (B + (t + 1)), .ref (B + (t + 16)), .ref (B + (t + 29)), .int 5, .int 3, .int 0, .int 0, .int 0, .int 0, .int 0, .int 0])) :: ([] ++ tradersE G B (t + 1) ++ ordersE G B (t + 16) ++ tradesE G B (t + 29))) H := hH
  refine lv_aload_n K.1.1 K.1.2.1 dX1_init_47 rfl (lv_at hl 0 rfl) ?_
  refine lv_sipush (v := (-10000)) K.1.1 K.1.2.1 dX1_init_48 (by decide) ?_
  refine k_put (j := t) (fs := [.ref (B + (t + 1)), .ref (B + (t + 16)), .ref (B + (t + 29)), .int 5, .int 3, .int 0, .int 0, .int 0, .int 0, .int 0, .int 0]) (v := .int (-10000)) (ty := .int) K hH hS tuX1 tyX1 tyX1_ok nmX1 (getE L _ _ t ht) rfl 9 (by decide) q_184 rfl (by decide +kernel) rfl rfl (Nat.le_of_ble_eq_true rfl) dX1_init_51 (fun H locs hH hS => ?_)
  rw [setE L _ _ _ t ht] at hH
  have hH : HB G B (L ++ (.inr (0, [.ref (B + (t + 1)), .ref (B + (t + 16)), .ref (B + (t + 29)), .int 5, .int 3, .int 0, .int 0, .int 0, .int 0, .int (-10000), .int 0])) :: ([] ++ tradersE G B (t + 1) ++ ordersE G B (t + 16) ++ tradesE G B (t + 29))) H := hH
  exact k_ret K hr hlocks hH hS rfl dX1_init_54

def clearingE (G : GG) (B t : Nat) : List va_E := (.inr (1, [.int 0, .int 0, .int 0, .int 0, .int 0, .ref (B + (t + 1)), .ref (B + (t + 3)), .ref (B + (t + 5)), .int 0, .int 0, .ref (B + (t + 7)), .ref (B + (t + 9))])) :: ([] ++ rowE G B (t + 1) 20 ++ rowE G B (t + 3) 20 ++ rowE G B (t + 5) 20 ++ rowE G B (t + 7) 121 ++ rowE G B (t + 9) 121)
set_option maxHeartbeats 4000000 in
set_option maxRecDepth 100000 in
theorem N2_init (l : Launch) (G : GG) (B : Nat) (L : List va_E) (t : Nat) (ht : L.length = t) : NC l yX2_init (.code yX2_init cX2_init 1 Option.none) 2 33 10 307 G B [.ref (B + t)] (L ++ [.inr (1, [.int 0, .int 0, .int 0, .int 0, .int 0, .null, .null, .null, .int 0, .int 0, .null, .null])]) (L ++ clearingE G B t) := by
  refine NC.of (by decide) rfl (Nat.le_of_ble_eq_true rfl) ?_
  intro p e s m below meth c ls K hr hlocks hi hH hl
  have hS : va_S (AB B) s.heap s.heap [] := va_S.rf
  have hl : lv_has ls 1 [(0, .ref (B + t))] := hl
  have hH : HB G B (L ++ (.inr (1, [.int 0, .int 0, .int 0, .int 0, .int 0, .null, .null, .null, .int 0, .int 0, .null, .null])) :: ([])) s.heap := hH
  refine lv_aload_n K.1.1 K.1.2.1 dX2_init_0 rfl (lv_at hl 0 rfl) ?_
  refine k_obj K q_214 hl.1 ⟨Nat.le_of_ble_eq_true rfl, Nat.le_of_ble_eq_true rfl⟩ dX2_init_1 ?_
  refine lv_aload_n K.1.1 K.1.2.1 dX2_init_4 rfl (lv_at hl 0 rfl) ?_
  refine k_new (ci := 4) (fs := [.null]) (N := 1) (n := t + 1) K hH hS (lenE L _ _ ht rfl) tuX5 tyX5 tyX5_ok q_215 q_52 q_18 rfl (fun j hj => by rcases (show j = 0 by omega) with rfl <;> rfl) (Nat.le_of_ble_eq_true rfl) (Nat.le_of_ble_eq_true rfl) dX2_init_5 (fun H hH hS => ?_)
  refine lv_dup K.1.1 K.1.2.1 dX2_init_8 rfl ?_
  refine lv_bipush (v := 20) K.1.1 K.1.2.1 dX2_init_9 (by decide) ?_
  refine k_cI (n := 1) (As := [.int 20]) (rest := [.ref (B + (t + 1)), .ref (B + t)]) (b := B + (t + 1)) K hH hS (N5_init l G B (L ++ _) (t + 1) 20 (lenE L _ _ ht rfl) (by decide) (by decide)) q_216 q_54 q_18 q_55 rfl ⟨hv_X5_init.2.1, hv_X5_init.2.2.1, hv_X5_init.2.2.2⟩ ⟨Nat.le_of_ble_eq_true rfl, Nat.le_of_ble_eq_true rfl⟩ rfl hl.1 rfl (Nat.le_of_ble_eq_true rfl) dX2_init_11 ⟨Nat.le_of_ble_eq_true rfl, Nat.le_of_ble_eq_true rfl⟩ (fun H locs hH hS => ?_)
  rw [appE] at hH
  have hH : HB G B (L ++ (.inr (1, [.int 0, .int 0, .int 0, .int 0, .int 0, .null, .null, .null, .int 0, .int 0, .null, .null])) :: ([] ++ rowE G B (t + 1) 20)) H := hH
  refine k_putF (j := t) (fs := [.int 0, .int 0, .int 0, .int 0, .int 0, .null, .null, .null, .int 0, .int 0, .null, .null]) (v := .ref (B + (t + 1))) (ty := .object "ShadedBooks$Row") K hi hH hS tuX2 tyX2 tyX2_ok nmX2 (getE L _ _ t ht) rfl 5 (by decide) q_227 rfl rfl (by decide +kernel) rfl rfl (Nat.le_of_ble_eq_true rfl) dX2_init_14 (fun H locs hH hS => ?_)
  rw [setE L _ _ _ t ht] at hH
  have hH : HB G B (L ++ (.inr (1, [.int 0, .int 0, .int 0, .int 0, .int 0, .ref (B + (t + 1)), .null, .null, .int 0, .int 0, .null, .null])) :: ([] ++ rowE G B (t + 1) 20)) H := hH
  refine lv_aload_n K.1.1 K.1.2.1 dX2_init_17 rfl (lv_at hl 0 rfl) ?_
  refine k_new (ci := 4) (fs := [.null]) (N := 1) (n := t + 3) K hH hS (lenE L _ _ ht rfl) tuX5 tyX5 tyX5_ok q_215 q_52 q_18 rfl (fun j hj => by rcases (show j = 0 by omega) with rfl <;> rfl) (Nat.le_of_ble_eq_true rfl) (Nat.le_of_ble_eq_true rfl) dX2_init_18 (fun H hH hS => ?_)
  refine lv_dup K.1.1 K.1.2.1 dX2_init_21 rfl ?_
  refine lv_bipush (v := 20) K.1.1 K.1.2.1 dX2_init_22 (by decide) ?_
  refine k_cI (n := 1) (As := [.int 20]) (rest := [.ref (B + (t + 3)), .ref (B + t)]) (b := B + (t + 3)) K hH hS (N5_init l G B (L ++ _) (t + 3) 20 (lenE L _ _ ht rfl) (by decide) (by decide)) q_216 q_54 q_18 q_55 rfl ⟨hv_X5_init.2.1, hv_X5_init.2.2.1, hv_X5_init.2.2.2⟩ ⟨Nat.le_of_ble_eq_true rfl, Nat.le_of_ble_eq_true rfl⟩ rfl hl.1 rfl (Nat.le_of_ble_eq_true rfl) dX2_init_24 ⟨Nat.le_of_ble_eq_true rfl, Nat.le_of_ble_eq_true rfl⟩ (fun H locs hH hS => ?_)
  rw [appE] at hH
  have hH : HB G B (L ++ (.inr (1, [.int 0, .int 0, .int 0, .int 0, .int 0, .ref (B + (t + 1)), .null, .null, .int 0, .int 0, .null, .null])) :: ([] ++ rowE G B (t + 1) 20 ++ rowE G B (t + 3) 20)) H := hH
  refine k_putF (j := t) (fs := [.int 0, .int 0, .int 0, .int 0, .int 0, .ref (B + (t + 1)), .null, .null, .int 0, .int 0, .null, .null]) (v := .ref (B + (t + 3))) (ty := .object "ShadedBooks$Row") K hi hH hS tuX2 tyX2 tyX2_ok nmX2 (getE L _ _ t ht) rfl 6 (by decide) q_230 rfl rfl (by decide +kernel) rfl rfl (Nat.le_of_ble_eq_true rfl) dX2_init_27 (fun H locs hH hS => ?_)
  rw [setE L _ _ _ t ht] at hH
  have hH : HB G B (L ++ (.inr (1, [.int 0, .int 0, .int 0, .int 0, .int 0, .ref (B + (t + 1)), .ref (B + (t + 3)), .null, .int 0, .int 0, .null, .null])) :: ([] ++ rowE G B (t + 1) 20 ++ rowE G B (t + 3) 20)) H := hH
  refine lv_aload_n K.1.1 K.1.2.1 dX2_init_30 rfl (lv_at hl 0 rfl) ?_
  refine k_new (ci := 4) (fs := [.null]) (N := 1) (n := t + 5) K hH hS (lenE L _ _ ht rfl) tuX5 tyX5 tyX5_ok q_215 q_52 q_18 rfl (fun j hj => by rcases (show j = 0 by omega) with rfl <;> rfl) (Nat.le_of_ble_eq_true rfl) (Nat.le_of_ble_eq_true rfl) dX2_init_31 (fun H hH hS => ?_)
  refine lv_dup K.1.1 K.1.2.1 dX2_init_34 rfl ?_
  refine lv_bipush (v := 20) K.1.1 K.1.2.1 dX2_init_35 (by decide) ?_
  refine k_cI (n := 1) (As := [.int 20]) (rest := [.ref (B + (t + 5)), .ref (B + t)]) (b := B + (t + 5)) K hH hS (N5_init l G B (L ++ _) (t + 5) 20 (lenE L _ _ ht rfl) (by decide) (by decide)) q_216 q_54 q_18 q_55 rfl ⟨hv_X5_init.2.1, hv_X5_init.2.2.1, hv_X5_init.2.2.2⟩ ⟨Nat.le_of_ble_eq_true rfl, Nat.le_of_ble_eq_true rfl⟩ rfl hl.1 rfl (Nat.le_of_ble_eq_true rfl) dX2_init_37 ⟨Nat.le_of_ble_eq_true rfl, Nat.le_of_ble_eq_true rfl⟩ (fun H locs hH hS => ?_)
  rw [appE] at hH
  have hH : HB G B (L ++ (.inr (1, [.int 0, .int 0, .int 0, .int 0, .int 0, .ref (B + (t + 1)), .ref (B + (t + 3)), .null, .int 0, .int 0, .null, .null])) :: ([] ++ rowE G B (t + 1) 20 ++ rowE G B (t + 3) 20 ++ rowE G B (t + 5) 20)) H := hH
  refine k_putF (j := t) (fs := [.int 0, .int 0, .int 0, .int 0, .int 0, .ref (B + (t + 1)), .ref (B + (t + 3)), .null, .int 0, .int 0, .null, .null]) (v := .ref (B + (t + 5))) (ty := .object "ShadedBooks$Row") K hi hH hS tuX2 tyX2 tyX2_ok nmX2 (getE L _ _ t ht) rfl 7 (by decide) q_231 rfl rfl (by decide +kernel) rfl rfl (Nat.le_of_ble_eq_true rfl) dX2_init_40 (fun H locs hH hS => ?_)
  rw [setE L _ _ _ t ht] at hH
  have hH : HB G B (L ++ (.inr (1, [.int 0, .int 0, .int 0, .int 0, .int 0, .ref (B + (t + 1)), .ref (B + (t + 3)), .ref (B + (t + 5)), .int 0, .int 0, .null, .null])) :: ([] ++ rowE G B (t + 1) 20 ++ rowE G B (t + 3) 20 ++ rowE G B (t + 5) 20)) H := hH
  refine lv_aload_n K.1.1 K.1.2.1 dX2_init_43 rfl (lv_at hl 0 rfl) ?_
  refine k_new (ci := 4) (fs := [.null]) (N := 1) (n := t + 7) K hH hS (lenE L _ _ ht rfl) tuX5 tyX5 tyX5_ok q_215 q_52 q_18 rfl (fun j hj => by rcases (show j = 0 by omega) with rfl <;> rfl) (Nat.le_of_ble_eq_true rfl) (Nat.le_of_ble_eq_true rfl) dX2_init_44 (fun H hH hS => ?_)
  refine lv_dup K.1.1 K.1.2.1 dX2_init_47 rfl ?_
  refine lv_bipush (v := 121) K.1.1 K.1.2.1 dX2_init_48 (by decide) ?_
  refine k_cI (n := 1) (As := [.int 121]) (rest := [.ref (B + (t + 7)), .ref (B + t)]) (b := B + (t + 7)) K hH hS (N5_init l G B (L ++ _) (t + 7) 121 (lenE L _ _ ht rfl) (by decide) (by decide)) q_216 q_54 q_18 q_55 rfl ⟨hv_X5_init.2.1, hv_X5_init.2.2.1, hv_X5_init.2.2.2⟩ ⟨Nat.le_of_ble_eq_true rfl, Nat.le_of_ble_eq_true rfl⟩ rfl hl.1 rfl (Nat.le_of_ble_eq_true rfl) dX2_init_50 ⟨Nat.le_of_ble_eq_true rfl, Nat.le_of_ble_eq_true rfl⟩ (fun H locs hH hS => ?_)
  rw [appE] at hH
  have hH : HB G B (L ++ (.inr (1, [.int 0, .int 0, .int 0, .int 0, .int 0, .ref (B + (t + 1)), .ref (B + (t + 3)), .ref (B + (t + 5)), .int 0, .int 0, .null, .null])) :: ([] ++ rowE G B (t + 1) 20 ++ rowE G B (t + 3) 20 ++ rowE G B (t + 5) 20 ++ rowE G B (t + 7) 121)) H := hH
  refine k_putF (j := t) (fs := [.int 0, .int 0, .int 0, .int 0, .int 0, .ref (B + (t + 1)), .ref (B + (t + 3)), .ref (B + (t + 5)), .int 0, .int 0, .null, .null]) (v := .ref (B + (t + 7))) (ty := .object "ShadedBooks$Row") K hi hH hS tuX2 tyX2 tyX2_ok nmX2 (getE L _ _ t ht) rfl 10 (by decide) q_234 rfl rfl (by decide +kernel) rfl rfl (Nat.le_of_ble_eq_true rfl) dX2_init_53 (fun H locs hH hS => ?_)
  rw [setE L _ _ _ t ht] at hH
  have hH : HB G B (L ++ (.inr (1, [.int 0, .int 0, .int 0, .int 0, .int 0, .ref (B + (t + 1)), .ref (B + (t + 3)), .ref (B + (t + 5)), .int 0, .int 0, .ref (B + (t + 7)), .null])) :: ([] ++ rowE G B (t + 1) 20 ++ rowE G B (t + 3) 20 ++ rowE G B (t + 5) 20 ++ rowE G B (t + 7) 121)) H := hH
  refine lv_aload_n K.1.1 K.1.2.1 dX2_init_56 rfl (lv_at hl 0 rfl) ?_
  refine k_new (ci := 4) (fs := [.null]) (N := 1) (n := t + 9) K hH hS (lenE L _ _ ht rfl) tuX5 tyX5 tyX5_ok q_215 q_52 q_18 rfl (fun j hj => by rcases (show j = 0 by omega) with rfl <;> rfl) (Nat.le_of_ble_eq_true rfl) (Nat.le_of_ble_eq_true rfl) dX2_init_57 (fun H hH hS => ?_)
  refine lv_dup K.1.1 K.1.2.1 dX2_init_60 rfl ?_
  refine lv_bipush (v := 121) K.1.1 K.1.2.1 dX2_init_61 (by decide) ?_
  refine k_cI (n := 1) (As := [.int 121]) (rest := [.ref (B + (t + 9)), .ref (B + t)]) (b := B + (t + 9)) K hH hS (N5_init l G B (L ++ _) (t + 9) 121 (lenE L _ _ ht rfl) (by decide) (by decide)) q_216 q_54 q_18 q_55 rfl ⟨hv_X5_init.2.1, hv_X5_init.2.2.1, hv_X5_init.2.2.2⟩ ⟨Nat.le_of_ble_eq_true rfl, Nat.le_of_ble_eq_true rfl⟩ rfl hl.1 rfl (Nat.le_of_ble_eq_true rfl) dX2_init_63 ⟨Nat.le_of_ble_eq_true rfl, Nat.le_of_ble_eq_true rfl⟩ (fun H locs hH hS => ?_)
  rw [appE] at hH
  have hH : HB G B (L ++ (.inr (1, [.int 0, .int 0, .int 0, .int 0, .int 0, .ref (B + (t + 1)), .ref (B + (t + 3)), .ref (B + (t + 5)), .int 0, .int 0, .ref (B + (t + 7)), .null])) :: ([] ++ rowE G B (t + 1) 20 ++ rowE G B (t + 3) 20 ++ rowE G B (t + 5) 20 ++ rowE G B (t + 7) 121 ++ rowE G B (t + 9) 121)) H := hH
  refine k_putF (j := t) (fs := [.int 0, .int 0, .int 0, .int 0, .int 0, .ref (B + (t + 1)), .ref (B + (t + 3)), .ref (B + (t + 5)), .int 0, .int 0, .ref (B + (t + 7)), .null]) (v := .ref (B + (t + 9))) (ty := .object "ShadedBooks$Row") K hi hH hS tuX2 tyX2 tyX2_ok nmX2 (getE L _ _ t ht) rfl 11 (by decide) q_235 rfl rfl (by decide +kernel) rfl rfl (Nat.le_of_ble_eq_true rfl) dX2_init_66 (fun H locs hH hS => ?_)
  rw [setE L _ _ _ t ht] at hH
  have hH : HB G B (L ++ (.inr (1, [.int 0, .int 0, .int 0, .int 0, .int 0, .ref (B + (t + 1)), .ref (B + (t + 3)), .ref (B + (t + 5)), .int 0, .int 0, .ref (B + (t + 7)), .ref (B + (t + 9))])) :: ([] ++ rowE G B (t + 1) 20 ++ rowE G B (t + 3) 20 ++ rowE G B (t + 5) 20 ++ rowE G B (t + 7) 121 ++ rowE G B (t + 9) 121)) H := hH
  exact k_ret K hr hlocks hH hS rfl dX2_init_69

def undoE (G : GG) (B t : Nat) : List va_E := (.inr (7, [.int 0, .int 0, .ref (B + (t + 1))])) :: ([] ++ [.inl (G.2.2.1, 4, .inr (.inr (.inr (.inr (va_up (va_up (va_up (va_up (fun _ => none) 0 (some (B + (t + 2)))) 1 (some (B + (t + 42)))) 2 (some (B + (t + 82)))) 3 (some (B + (t + 122))))))))] ++ auctionE G B (t + 2) ++ auctionE G B (t + 42) ++ auctionE G B (t + 82) ++ auctionE G B (t + 122))
set_option maxHeartbeats 4000000 in
set_option maxRecDepth 100000 in
theorem N8_init (l : Launch) (G : GG) (B : Nat) (L : List va_E) (t : Nat) (ht : L.length = t) : NC l yX8_init (.code yX8_init cX8_init 2 Option.none) 4 73 161 1308 G B [.ref (B + t)] (L ++ [.inr (7, [.int 0, .int 0, .null])]) (L ++ undoE G B t) := by
  refine NC.of (by decide) rfl (Nat.le_of_ble_eq_true rfl) ?_
  intro p e s m below meth c ls K hr hlocks hi hH hl
  have hS : va_S (AB B) s.heap s.heap [] := va_S.rf
  have hl : lv_has ls 2 [(0, .ref (B + t))] := hl
  have hH : HB G B (L ++ (.inr (7, [.int 0, .int 0, .null])) :: ([])) s.heap := hH
  refine lv_aload_n K.1.1 K.1.2.1 dX8_init_0 rfl (lv_at hl 0 rfl) ?_
  refine k_obj K q_266 hl.1 ⟨Nat.le_of_ble_eq_true rfl, Nat.le_of_ble_eq_true rfl⟩ dX8_init_1 ?_
  refine lv_aload_n K.1.1 K.1.2.1 dX8_init_4 rfl (lv_at hl 0 rfl) ?_
  refine lv_iconst (v := 4) K.1.1 K.1.2.1 dX8_init_5 (by decide) ?_
  refine k_newq (N := 4) (n := t + 1) K hH hS (lenE L _ _ ht rfl) q_267 (by decide) rfl (by decide) (Nat.le_of_ble_eq_true rfl) (Nat.le_of_ble_eq_true rfl) dX8_init_6 (fun H hH hS => ?_)
  rw [appE] at hH
  have hH : HB G B (L ++ (.inr (7, [.int 0, .int 0, .null])) :: ([] ++ [.inl (G.2.2.1, 4, .inr (.inr (.inr (.inr (fun _ => none)))))])) H := hH
  refine k_putF (j := t) (fs := [.int 0, .int 0, .null]) (v := .ref (B + (t + 1))) (ty := .array (.object "ShadedBooks$Auction")) K hi hH hS tuX8 tyX8 tyX8_ok nmX8 (getE L _ _ t ht) rfl 2 (by decide) q_273 rfl rfl (by decide +kernel) rfl rfl (Nat.le_of_ble_eq_true rfl) dX8_init_9 (fun H locs hH hS => ?_)
  rw [setE L _ _ _ t ht] at hH
  have hH : HB G B (L ++ (.inr (7, [.int 0, .int 0, .ref (B + (t + 1))])) :: ([] ++ [.inl (G.2.2.1, 4, .inr (.inr (.inr (.inr (fun _ => none)))))])) H := hH
  refine lv_iconst (v := 0) K.1.1 K.1.2.1 dX8_init_12 (by decide) ?_
  refine lv_istore_n (lv' := [(1, .int 0), (0, .ref (B + t))]) K.1.1 K.1.2.1 dX8_init_13 rfl hl (by decide) rfl (fun ls hl => ?_)
  refine lv_iload_n K.1.1 K.1.2.1 dX8_init_14 rfl (lv_at hl 0 rfl) ?_
  refine lv_aload_n K.1.1 K.1.2.1 dX8_init_15 rfl (lv_at hl 1 rfl) ?_
  refine k_get (j := t) (v := .ref (B + (t + 1))) K hH tuX8 (getE L _ _ t ht) rfl 2 (by decide) q_273 rfl dX8_init_16 ?_
  refine k_alen K hH (j := t + 1) (n := 4) (getX L _ t 1 ht rfl) dX8_init_19 ?_
  refine lv_icmp_ge (tgt := 42) K.1.1 K.1.2.1 dX8_init_20 (by decide) (fun c => absurd c (by decide)) (fun c => ?_)
  refine lv_aload_n K.1.1 K.1.2.1 dX8_init_23 rfl (lv_at hl 1 rfl) ?_
  refine k_get (j := t) (v := .ref (B + (t + 1))) K hH tuX8 (getE L _ _ t ht) rfl 2 (by decide) q_273 rfl dX8_init_24 ?_
  refine lv_iload_n K.1.1 K.1.2.1 dX8_init_27 rfl (lv_at hl 0 rfl) ?_
  refine k_new (ci := 0) (fs := [.null, .null, .null, .int 0, .int 0, .int 0, .int 0, .int 0, .int 0, .int 0, .int 0]) (N := 11) (n := t + 2) K hH hS (lenE L _ _ ht rfl) tuX1 tyX1 tyX1_ok q_267 q_40 q_16 rfl (fun j hj => by rcases (show j = 0 ∨ j = 1 ∨ j = 2 ∨ j = 3 ∨ j = 4 ∨ j = 5 ∨ j = 6 ∨ j = 7 ∨ j = 8 ∨ j = 9 ∨ j = 10 by omega) with rfl | rfl | rfl | rfl | rfl | rfl | rfl | rfl | rfl | rfl | rfl <;> rfl) (Nat.le_of_ble_eq_true rfl) (Nat.le_of_ble_eq_true rfl) dX8_init_28 (fun H hH hS => ?_)
  refine lv_dup K.1.1 K.1.2.1 dX8_init_31 rfl ?_
  refine k_cIN (n := 0) (As := []) (rest := [.ref (B + (t + 2)), .int 0, .ref (B + (t + 1))]) (b := B + (t + 2)) K hH hS (N1_init l G B (L ++ _) (t + 2) (lenE L _ _ ht rfl)) K.2.2.1.2.2.2.2.2.1 q_42 q_16 q_43 rfl ⟨hv_X1_init.2.1, hv_X1_init.2.2.1, hv_X1_init.2.2.2⟩ ⟨Nat.le_of_ble_eq_true rfl, Nat.le_of_ble_eq_true rfl⟩ rfl hl.1 rfl (Nat.le_of_ble_eq_true rfl) dX8_init_32 ⟨Nat.le_of_ble_eq_true rfl, Nat.le_of_ble_eq_true rfl⟩ (fun H locs hH hS => ?_)
  rw [appE] at hH
  have hH : HB G B (L ++ (.inr (7, [.int 0, .int 0, .ref (B + (t + 1))])) :: ([] ++ [.inl (G.2.2.1, 4, .inr (.inr (.inr (.inr (fun _ => none)))))] ++ auctionE G B (t + 2))) H := hH
  refine k_astq (j := t + 1) (jv := t + 2) (n := 4) (f := (fun _ => none)) K hH hS (getX L _ t 1 ht rfl) (getX L _ t 2 ht rfl) (vpd rfl) dX8_init_35 (fun H locs hH hS => ?_)
  rw [setX L _ t 1 _ ht] at hH
  have hH : HB G B (L ++ (.inr (7, [.int 0, .int 0, .ref (B + (t + 1))])) :: ([] ++ [.inl (G.2.2.1, 4, .inr (.inr (.inr (.inr (va_up (fun _ => none) 0 (some (B + (t + 2))))))))] ++ auctionE G B (t + 2))) H := hH
  refine lv_iinc (v := 1) (lv' := [(1, .int 1), (0, .ref (B + t))]) K.1.1 K.1.2.1 dX8_init_36 hl (k := 0) rfl (by decide) (by decide) rfl (fun ls hl => ?_)
  refine lv_goto (tgt := 14) K.1.1 K.1.2.1 dX8_init_39 (by decide) ?_
  refine lv_iload_n K.1.1 K.1.2.1 dX8_init_14 rfl (lv_at hl 0 rfl) ?_
  refine lv_aload_n K.1.1 K.1.2.1 dX8_init_15 rfl (lv_at hl 1 rfl) ?_
  refine k_get (j := t) (v := .ref (B + (t + 1))) K hH tuX8 (getE L _ _ t ht) rfl 2 (by decide) q_273 rfl dX8_init_16 ?_
  refine k_alen K hH (j := t + 1) (n := 4) (getX L _ t 1 ht rfl) dX8_init_19 ?_
  refine lv_icmp_ge (tgt := 42) K.1.1 K.1.2.1 dX8_init_20 (by decide) (fun c => absurd c (by decide)) (fun c => ?_)
  refine lv_aload_n K.1.1 K.1.2.1 dX8_init_23 rfl (lv_at hl 1 rfl) ?_
  refine k_get (j := t) (v := .ref (B + (t + 1))) K hH tuX8 (getE L _ _ t ht) rfl 2 (by decide) q_273 rfl dX8_init_24 ?_
  refine lv_iload_n K.1.1 K.1.2.1 dX8_init_27 rfl (lv_at hl 0 rfl) ?_
  refine k_new (ci := 0) (fs := [.null, .null, .null, .int 0, .int 0, .int 0, .int 0, .int 0, .int 0, .int 0, .int 0]) (N := 11) (n := t + 42) K hH hS (lenE L _ _ ht rfl) tuX1 tyX1 tyX1_ok q_267 q_40 q_16 rfl (fun j hj => by rcases (show j = 0 ∨ j = 1 ∨ j = 2 ∨ j = 3 ∨ j = 4 ∨ j = 5 ∨ j = 6 ∨ j = 7 ∨ j = 8 ∨ j = 9 ∨ j = 10 by omega) with rfl | rfl | rfl | rfl | rfl | rfl | rfl | rfl | rfl | rfl | rfl <;> rfl) (Nat.le_of_ble_eq_true rfl) (Nat.le_of_ble_eq_true rfl) dX8_init_28 (fun H hH hS => ?_)
  refine lv_dup K.1.1 K.1.2.1 dX8_init_31 rfl ?_
  refine k_cIN (n := 0) (As := []) (rest := [.ref (B + (t + 42)), .int 1, .ref (B + (t + 1))]) (b := B + (t + 42)) K hH hS (N1_init l G B (L ++ _) (t + 42) (lenE L _ _ ht rfl)) K.2.2.1.2.2.2.2.2.1 q_42 q_16 q_43 rfl ⟨hv_X1_init.2.1, hv_X1_init.2.2.1, hv_X1_init.2.2.2⟩ ⟨Nat.le_of_ble_eq_true rfl, Nat.le_of_ble_eq_true rfl⟩ rfl hl.1 rfl (Nat.le_of_ble_eq_true rfl) dX8_init_32 ⟨Nat.le_of_ble_eq_true rfl, Nat.le_of_ble_eq_true rfl⟩ (fun H locs hH hS => ?_)
  rw [appE] at hH
  have hH : HB G B (L ++ (.inr (7, [.int 0, .int 0, .ref (B + (t + 1))])) :: ([] ++ [.inl (G.2.2.1, 4, .inr (.inr (.inr (.inr (va_up (fun _ => none) 0 (some (B + (t + 2))))))))] ++ auctionE G B (t + 2) ++ auctionE G B (t + 42))) H := hH
  refine k_astq (j := t + 1) (jv := t + 42) (n := 4) (f := (va_up (fun _ => none) 0 (some (B + (t + 2))))) K hH hS (getX L _ t 1 ht rfl) (getX L _ t 42 ht rfl) (vpd rfl) dX8_init_35 (fun H locs hH hS => ?_)
  rw [setX L _ t 1 _ ht] at hH
  have hH : HB G B (L ++ (.inr (7, [.int 0, .int 0, .ref (B + (t + 1))])) :: ([] ++ [.inl (G.2.2.1, 4, .inr (.inr (.inr (.inr (va_up (va_up (fun _ => none) 0 (some (B + (t + 2)))) 1 (some (B + (t + 42))))))))] ++ auctionE G B (t + 2) ++ auctionE G B (t + 42))) H := hH
  refine lv_iinc (v := 2) (lv' := [(1, .int 2), (0, .ref (B + t))]) K.1.1 K.1.2.1 dX8_init_36 hl (k := 0) rfl (by decide) (by decide) rfl (fun ls hl => ?_)
  refine lv_goto (tgt := 14) K.1.1 K.1.2.1 dX8_init_39 (by decide) ?_
  refine lv_iload_n K.1.1 K.1.2.1 dX8_init_14 rfl (lv_at hl 0 rfl) ?_
  refine lv_aload_n K.1.1 K.1.2.1 dX8_init_15 rfl (lv_at hl 1 rfl) ?_
  refine k_get (j := t) (v := .ref (B + (t + 1))) K hH tuX8 (getE L _ _ t ht) rfl 2 (by decide) q_273 rfl dX8_init_16 ?_
  refine k_alen K hH (j := t + 1) (n := 4) (getX L _ t 1 ht rfl) dX8_init_19 ?_
  refine lv_icmp_ge (tgt := 42) K.1.1 K.1.2.1 dX8_init_20 (by decide) (fun c => absurd c (by decide)) (fun c => ?_)
  refine lv_aload_n K.1.1 K.1.2.1 dX8_init_23 rfl (lv_at hl 1 rfl) ?_
  refine k_get (j := t) (v := .ref (B + (t + 1))) K hH tuX8 (getE L _ _ t ht) rfl 2 (by decide) q_273 rfl dX8_init_24 ?_
  refine lv_iload_n K.1.1 K.1.2.1 dX8_init_27 rfl (lv_at hl 0 rfl) ?_
  refine k_new (ci := 0) (fs := [.null, .null, .null, .int 0, .int 0, .int 0, .int 0, .int 0, .int 0, .int 0, .int 0]) (N := 11) (n := t + 82) K hH hS (lenE L _ _ ht rfl) tuX1 tyX1 tyX1_ok q_267 q_40 q_16 rfl (fun j hj => by rcases (show j = 0 ∨ j = 1 ∨ j = 2 ∨ j = 3 ∨ j = 4 ∨ j = 5 ∨ j = 6 ∨ j = 7 ∨ j = 8 ∨ j = 9 ∨ j = 10 by omega) with rfl | rfl | rfl | rfl | rfl | rfl | rfl | rfl | rfl | rfl | rfl <;> rfl) (Nat.le_of_ble_eq_true rfl) (Nat.le_of_ble_eq_true rfl) dX8_init_28 (fun H hH hS => ?_)
  refine lv_dup K.1.1 K.1.2.1 dX8_init_31 rfl ?_
  refine k_cIN (n := 0) (As := []) (rest := [.ref (B + (t + 82)), .int 2, .ref (B + (t + 1))]) (b := B + (t + 82)) K hH hS (N1_init l G B (L ++ _) (t + 82) (lenE L _ _ ht rfl)) K.2.2.1.2.2.2.2.2.1 q_42 q_16 q_43 rfl ⟨hv_X1_init.2.1, hv_X1_init.2.2.1, hv_X1_init.2.2.2⟩ ⟨Nat.le_of_ble_eq_true rfl, Nat.le_of_ble_eq_true rfl⟩ rfl hl.1 rfl (Nat.le_of_ble_eq_true rfl) dX8_init_32 ⟨Nat.le_of_ble_eq_true rfl, Nat.le_of_ble_eq_true rfl⟩ (fun H locs hH hS => ?_)
  rw [appE] at hH
  have hH : HB G B (L ++ (.inr (7, [.int 0, .int 0, .ref (B + (t + 1))])) :: ([] ++ [.inl (G.2.2.1, 4, .inr (.inr (.inr (.inr (va_up (va_up (fun _ => none) 0 (some (B + (t + 2)))) 1 (some (B + (t + 42))))))))] ++ auctionE G B (t + 2) ++ auctionE G B (t + 42) ++ auctionE G B (t + 82))) H := hH
  refine k_astq (j := t + 1) (jv := t + 82) (n := 4) (f := (va_up (va_up (fun _ => none) 0 (some (B + (t + 2)))) 1 (some (B + (t + 42))))) K hH hS (getX L _ t 1 ht rfl) (getX L _ t 82 ht rfl) (vpd rfl) dX8_init_35 (fun H locs hH hS => ?_)
  rw [setX L _ t 1 _ ht] at hH
  have hH : HB G B (L ++ (.inr (7, [.int 0, .int 0, .ref (B + (t + 1))])) :: ([] ++ [.inl (G.2.2.1, 4, .inr (.inr (.inr (.inr (va_up (va_up (va_up (fun _ => none) 0 (some (B + (t + 2)))) 1 (some (B + (t + 42)))) 2 (some (B + (t + 82))))))))] ++ auctionE G B (t + 2) ++ auctionE G B (t + 42) ++ auctionE G B (t + 82))) H := hH
  refine lv_iinc (v := 3) (lv' := [(1, .int 3), (0, .ref (B + t))]) K.1.1 K.1.2.1 dX8_init_36 hl (k := 0) rfl (by decide) (by decide) rfl (fun ls hl => ?_)
  refine lv_goto (tgt := 14) K.1.1 K.1.2.1 dX8_init_39 (by decide) ?_
  refine lv_iload_n K.1.1 K.1.2.1 dX8_init_14 rfl (lv_at hl 0 rfl) ?_
  refine lv_aload_n K.1.1 K.1.2.1 dX8_init_15 rfl (lv_at hl 1 rfl) ?_
  refine k_get (j := t) (v := .ref (B + (t + 1))) K hH tuX8 (getE L _ _ t ht) rfl 2 (by decide) q_273 rfl dX8_init_16 ?_
  refine k_alen K hH (j := t + 1) (n := 4) (getX L _ t 1 ht rfl) dX8_init_19 ?_
  refine lv_icmp_ge (tgt := 42) K.1.1 K.1.2.1 dX8_init_20 (by decide) (fun c => absurd c (by decide)) (fun c => ?_)
  refine lv_aload_n K.1.1 K.1.2.1 dX8_init_23 rfl (lv_at hl 1 rfl) ?_
  refine k_get (j := t) (v := .ref (B + (t + 1))) K hH tuX8 (getE L _ _ t ht) rfl 2 (by decide) q_273 rfl dX8_init_24 ?_
  refine lv_iload_n K.1.1 K.1.2.1 dX8_init_27 rfl (lv_at hl 0 rfl) ?_
  refine k_new (ci := 0) (fs := [.null, .null, .null, .int 0, .int 0, .int 0, .int 0, .int 0, .int 0, .int 0, .int 0]) (N := 11) (n := t + 122) K hH hS (lenE L _ _ ht rfl) tuX1 tyX1 tyX1_ok q_267 q_40 q_16 rfl (fun j hj => by rcases (show j = 0 ∨ j = 1 ∨ j = 2 ∨ j = 3 ∨ j = 4 ∨ j = 5 ∨ j = 6 ∨ j = 7 ∨ j = 8 ∨ j = 9 ∨ j = 10 by omega) with rfl | rfl | rfl | rfl | rfl | rfl | rfl | rfl | rfl | rfl | rfl <;> rfl) (Nat.le_of_ble_eq_true rfl) (Nat.le_of_ble_eq_true rfl) dX8_init_28 (fun H hH hS => ?_)
  refine lv_dup K.1.1 K.1.2.1 dX8_init_31 rfl ?_
  refine k_cIN (n := 0) (As := []) (rest := [.ref (B + (t + 122)), .int 3, .ref (B + (t + 1))]) (b := B + (t + 122)) K hH hS (N1_init l G B (L ++ _) (t + 122) (lenE L _ _ ht rfl)) K.2.2.1.2.2.2.2.2.1 q_42 q_16 q_43 rfl ⟨hv_X1_init.2.1, hv_X1_init.2.2.1, hv_X1_init.2.2.2⟩ ⟨Nat.le_of_ble_eq_true rfl, Nat.le_of_ble_eq_true rfl⟩ rfl hl.1 rfl (Nat.le_of_ble_eq_true rfl) dX8_init_32 ⟨Nat.le_of_ble_eq_true rfl, Nat.le_of_ble_eq_true rfl⟩ (fun H locs hH hS => ?_)
  rw [appE] at hH
  have hH : HB G B (L ++ (.inr (7, [.int 0, .int 0, .ref (B + (t + 1))])) :: ([] ++ [.inl (G.2.2.1, 4, .inr (.inr (.inr (.inr (va_up (va_up (va_up (fun _ => none) 0 (some (B + (t + 2)))) 1 (some (B + (t + 42)))) 2 (some (B + (t + 82))))))))] ++ auctionE G B (t + 2) ++ auctionE G B (t + 42) ++ auctionE G B (t + 82) ++ auctionE G B (t + 122))) H := hH
  refine k_astq (j := t + 1) (jv := t + 122) (n := 4) (f := (va_up (va_up (va_up (fun _ => none) 0 (some (B + (t + 2)))) 1 (some (B + (t + 42)))) 2 (some (B + (t + 82))))) K hH hS (getX L _ t 1 ht rfl) (getX L _ t 122 ht rfl) (vpd rfl) dX8_init_35 (fun H locs hH hS => ?_)
  rw [setX L _ t 1 _ ht] at hH
  have hH : HB G B (L ++ (.inr (7, [.int 0, .int 0, .ref (B + (t + 1))])) :: ([] ++ [.inl (G.2.2.1, 4, .inr (.inr (.inr (.inr (va_up (va_up (va_up (va_up (fun _ => none) 0 (some (B + (t + 2)))) 1 (some (B + (t + 42)))) 2 (some (B + (t + 82)))) 3 (some (B + (t + 122))))))))] ++ auctionE G B (t + 2) ++ auctionE G B (t + 42) ++ auctionE G B (t + 82) ++ auctionE G B (t + 122))) H := hH
  refine lv_iinc (v := 4) (lv' := [(1, .int 4), (0, .ref (B + t))]) K.1.1 K.1.2.1 dX8_init_36 hl (k := 0) rfl (by decide) (by decide) rfl (fun ls hl => ?_)
  refine lv_goto (tgt := 14) K.1.1 K.1.2.1 dX8_init_39 (by decide) ?_
  refine lv_iload_n K.1.1 K.1.2.1 dX8_init_14 rfl (lv_at hl 0 rfl) ?_
  refine lv_aload_n K.1.1 K.1.2.1 dX8_init_15 rfl (lv_at hl 1 rfl) ?_
  refine k_get (j := t) (v := .ref (B + (t + 1))) K hH tuX8 (getE L _ _ t ht) rfl 2 (by decide) q_273 rfl dX8_init_16 ?_
  refine k_alen K hH (j := t + 1) (n := 4) (getX L _ t 1 ht rfl) dX8_init_19 ?_
  refine lv_icmp_ge (tgt := 42) K.1.1 K.1.2.1 dX8_init_20 (by decide) (fun c => ?_) (fun c => absurd (by decide) c)
  exact k_ret K hr hlocks hH hS rfl dX8_init_42

def commandE (G : GG) (B t : Nat) : List va_E := (.inr (2, [.int 0, .null, .ref (B + (t + 1)), .ref (B + (t + 3)), .int 0, .int (-1)])) :: ([] ++ rowE G B (t + 1) 3 ++ rowE G B (t + 3) 150)
set_option maxHeartbeats 4000000 in
set_option maxRecDepth 100000 in
theorem N3_init (l : Launch) (G : GG) (B : Nat) (L : List va_E) (t : Nat) (ht : L.length = t) : NC l yX3_init (.code yX3_init cX3_init 1 Option.none) 2 33 4 155 G B [.ref (B + t)] (L ++ [.inr (2, [.int 0, .null, .null, .null, .int 0, .int 0])]) (L ++ commandE G B t) := by
  refine NC.of (by decide) rfl (Nat.le_of_ble_eq_true rfl) ?_
  intro p e s m below meth c ls K hr hlocks hi hH hl
  have hS : va_S (AB B) s.heap s.heap [] := va_S.rf
  have hl : lv_has ls 1 [(0, .ref (B + t))] := hl
  have hH : HB G B (L ++ (.inr (2, [.int 0, .null, .null, .null, .int 0, .int 0])) :: ([])) s.heap := hH
  refine lv_aload_n K.1.1 K.1.2.1 dX3_init_0 rfl (lv_at hl 0 rfl) ?_
  refine k_obj K q_286 hl.1 ⟨Nat.le_of_ble_eq_true rfl, Nat.le_of_ble_eq_true rfl⟩ dX3_init_1 ?_
  refine lv_aload_n K.1.1 K.1.2.1 dX3_init_4 rfl (lv_at hl 0 rfl) ?_
  refine k_new (ci := 4) (fs := [.null]) (N := 1) (n := t + 1) K hH hS (lenE L _ _ ht rfl) tuX5 tyX5 tyX5_ok q_287 q_52 q_18 rfl (fun j hj => by rcases (show j = 0 by omega) with rfl <;> rfl) (Nat.le_of_ble_eq_true rfl) (Nat.le_of_ble_eq_true rfl) dX3_init_5 (fun H hH hS => ?_)
  refine lv_dup K.1.1 K.1.2.1 dX3_init_8 rfl ?_
  refine lv_iconst (v := 3) K.1.1 K.1.2.1 dX3_init_9 (by decide) ?_
  refine k_cI (n := 1) (As := [.int 3]) (rest := [.ref (B + (t + 1)), .ref (B + t)]) (b := B + (t + 1)) K hH hS (N5_init l G B (L ++ _) (t + 1) 3 (lenE L _ _ ht rfl) (by decide) (by decide)) q_288 q_54 q_18 q_55 rfl ⟨hv_X5_init.2.1, hv_X5_init.2.2.1, hv_X5_init.2.2.2⟩ ⟨Nat.le_of_ble_eq_true rfl, Nat.le_of_ble_eq_true rfl⟩ rfl hl.1 rfl (Nat.le_of_ble_eq_true rfl) dX3_init_10 ⟨Nat.le_of_ble_eq_true rfl, Nat.le_of_ble_eq_true rfl⟩ (fun H locs hH hS => ?_)
  rw [appE] at hH
  have hH : HB G B (L ++ (.inr (2, [.int 0, .null, .null, .null, .int 0, .int 0])) :: ([] ++ rowE G B (t + 1) 3)) H := hH
  refine k_putF (j := t) (fs := [.int 0, .null, .null, .null, .int 0, .int 0]) (v := .ref (B + (t + 1))) (ty := .object "ShadedBooks$Row") K hi hH hS tuX3 tyX3 tyX3_ok nmX3 (getE L _ _ t ht) rfl 2 (by decide) q_290 rfl rfl (by decide +kernel) rfl rfl (Nat.le_of_ble_eq_true rfl) dX3_init_13 (fun H locs hH hS => ?_)
  rw [setE L _ _ _ t ht] at hH
  have hH : HB G B (L ++ (.inr (2, [.int 0, .null, .ref (B + (t + 1)), .null, .int 0, .int 0])) :: ([] ++ rowE G B (t + 1) 3)) H := hH
  refine lv_aload_n K.1.1 K.1.2.1 dX3_init_16 rfl (lv_at hl 0 rfl) ?_
  refine k_new (ci := 4) (fs := [.null]) (N := 1) (n := t + 3) K hH hS (lenE L _ _ ht rfl) tuX5 tyX5 tyX5_ok q_287 q_52 q_18 rfl (fun j hj => by rcases (show j = 0 by omega) with rfl <;> rfl) (Nat.le_of_ble_eq_true rfl) (Nat.le_of_ble_eq_true rfl) dX3_init_17 (fun H hH hS => ?_)
  refine lv_dup K.1.1 K.1.2.1 dX3_init_20 rfl ?_
  refine lv_sipush (v := 150) K.1.1 K.1.2.1 dX3_init_21 (by decide) ?_
  refine k_cI (n := 1) (As := [.int 150]) (rest := [.ref (B + (t + 3)), .ref (B + t)]) (b := B + (t + 3)) K hH hS (N5_init l G B (L ++ _) (t + 3) 150 (lenE L _ _ ht rfl) (by decide) (by decide)) q_288 q_54 q_18 q_55 rfl ⟨hv_X5_init.2.1, hv_X5_init.2.2.1, hv_X5_init.2.2.2⟩ ⟨Nat.le_of_ble_eq_true rfl, Nat.le_of_ble_eq_true rfl⟩ rfl hl.1 rfl (Nat.le_of_ble_eq_true rfl) dX3_init_24 ⟨Nat.le_of_ble_eq_true rfl, Nat.le_of_ble_eq_true rfl⟩ (fun H locs hH hS => ?_)
  rw [appE] at hH
  have hH : HB G B (L ++ (.inr (2, [.int 0, .null, .ref (B + (t + 1)), .null, .int 0, .int 0])) :: ([] ++ rowE G B (t + 1) 3 ++ rowE G B (t + 3) 150)) H := hH
  refine k_putF (j := t) (fs := [.int 0, .null, .ref (B + (t + 1)), .null, .int 0, .int 0]) (v := .ref (B + (t + 3))) (ty := .object "ShadedBooks$Row") K hi hH hS tuX3 tyX3 tyX3_ok nmX3 (getE L _ _ t ht) rfl 3 (by decide) q_291 rfl rfl (by decide +kernel) rfl rfl (Nat.le_of_ble_eq_true rfl) dX3_init_27 (fun H locs hH hS => ?_)
  rw [setE L _ _ _ t ht] at hH
  have hH : HB G B (L ++ (.inr (2, [.int 0, .null, .ref (B + (t + 1)), .ref (B + (t + 3)), .int 0, .int 0])) :: ([] ++ rowE G B (t + 1) 3 ++ rowE G B (t + 3) 150)) H := hH
  refine lv_aload_n K.1.1 K.1.2.1 dX3_init_30 rfl (lv_at hl 0 rfl) ?_
  refine lv_iconst (v := (-1)) K.1.1 K.1.2.1 dX3_init_31 (by decide) ?_
  refine k_put (j := t) (fs := [.int 0, .null, .ref (B + (t + 1)), .ref (B + (t + 3)), .int 0, .int 0]) (v := .int (-1)) (ty := .int) K hH hS tuX3 tyX3 tyX3_ok nmX3 (getE L _ _ t ht) rfl 5 (by decide) q_292 rfl (by decide +kernel) rfl rfl (Nat.le_of_ble_eq_true rfl) dX3_init_32 (fun H locs hH hS => ?_)
  rw [setE L _ _ _ t ht] at hH
  have hH : HB G B (L ++ (.inr (2, [.int 0, .null, .ref (B + (t + 1)), .ref (B + (t + 3)), .int 0, .int (-1)])) :: ([] ++ rowE G B (t + 1) 3 ++ rowE G B (t + 3) 150)) H := hH
  exact k_ret K hr hlocks hH hS rfl dX3_init_35

def booksE (G : GG) (B t : Nat) : List va_E := (.inr (8, [.ref (B + (t + 1)), .ref (B + (t + 41)), .ref (B + (t + 81)), .ref (B + (t + 92)), .ref (B + (t + 254))])) :: ([] ++ auctionE G B (t + 1) ++ auctionE G B (t + 41) ++ clearingE G B (t + 81) ++ undoE G B (t + 92) ++ commandE G B (t + 254))
