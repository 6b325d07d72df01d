set_option maxHeartbeats 4000000 in
set_option maxRecDepth 100000 in
theorem N10_init (l : Launch) (G : GG) (B : Nat) (L : List va_E) (t : Nat) (ht : L.length = t) : NC l yX10_init (.code yX10_init cX10_init 1 Option.none) 5 94 258 2443 G B [.ref (B + t)] (L ++ [.inr (8, [.null, .null, .null, .null, .null])]) (L ++ booksE G B t) := by
  refine NC.of (by decide) rfl (Nat.le_of_ble_eq_true rfl) ?_
  intro p e s m below meth c ls K hr hlocks hi hH hl
  have hS : va_S (AB B) s.heap s.heap [] := va_S.rf
  have hl : lv_has ls 1 [(0, .ref (B + t))] := hl
  have hH : HB G B (L ++ (.inr (8, [.null, .null, .null, .null, .null])) :: ([])) s.heap := hH
  refine lv_aload_n K.1.1 K.1.2.1 dX10_init_0 rfl (lv_at hl 0 rfl) ?_
  refine k_obj K q_36 hl.1 ⟨Nat.le_of_ble_eq_true rfl, Nat.le_of_ble_eq_true rfl⟩ dX10_init_1 ?_
  refine lv_aload_n K.1.1 K.1.2.1 dX10_init_4 rfl (lv_at hl 0 rfl) ?_
  refine k_new (ci := 0) (fs := [.null, .null, .null, .int 0, .int 0, .int 0, .int 0, .int 0, .int 0, .int 0, .int 0]) (N := 11) (n := t + 1) K hH hS (lenE L _ _ ht rfl) tuX1 tyX1 tyX1_ok q_39 q_40 q_16 rfl (fun j hj => by rcases (show j = 0 ∨ j = 1 ∨ j = 2 ∨ j = 3 ∨ j = 4 ∨ j = 5 ∨ j = 6 ∨ j = 7 ∨ j = 8 ∨ j = 9 ∨ j = 10 by omega) with rfl | rfl | rfl | rfl | rfl | rfl | rfl | rfl | rfl | rfl | rfl <;> rfl) (Nat.le_of_ble_eq_true rfl) (Nat.le_of_ble_eq_true rfl) dX10_init_5 (fun H hH hS => ?_)
  refine lv_dup K.1.1 K.1.2.1 dX10_init_8 rfl ?_
  refine k_cIN (n := 0) (As := []) (rest := [.ref (B + (t + 1)), .ref (B + t)]) (b := B + (t + 1)) K hH hS (N1_init l G B (L ++ _) (t + 1) (lenE L _ _ ht rfl)) K.2.2.1.1 q_42 q_16 q_43 rfl ⟨hv_X1_init.2.1, hv_X1_init.2.2.1, hv_X1_init.2.2.2⟩ ⟨Nat.le_of_ble_eq_true rfl, Nat.le_of_ble_eq_true rfl⟩ rfl hl.1 rfl (Nat.le_of_ble_eq_true rfl) dX10_init_9 ⟨Nat.le_of_ble_eq_true rfl, Nat.le_of_ble_eq_true rfl⟩ (fun H locs hH hS => ?_)
  rw [appE] at hH
  have hH : HB G B (L ++ (.inr (8, [.null, .null, .null, .null, .null])) :: ([] ++ auctionE G B (t + 1))) H := hH
  refine k_putF (j := t) (fs := [.null, .null, .null, .null, .null]) (v := .ref (B + (t + 1))) (ty := .object "ShadedBooks$Auction") K hi hH hS tuX10 tyX10 tyX10_ok nmX10 (getE L _ _ t ht) rfl 0 (by decide) q_306 rfl rfl (by decide +kernel) rfl rfl (Nat.le_of_ble_eq_true rfl) dX10_init_12 (fun H locs hH hS => ?_)
  rw [setE L _ _ _ t ht] at hH
  have hH : HB G B (L ++ (.inr (8, [.ref (B + (t + 1)), .null, .null, .null, .null])) :: ([] ++ auctionE G B (t + 1))) H := hH
  refine lv_aload_n K.1.1 K.1.2.1 dX10_init_15 rfl (lv_at hl 0 rfl) ?_
  refine k_new (ci := 0) (fs := [.null, .null, .null, .int 0, .int 0, .int 0, .int 0, .int 0, .int 0, .int 0, .int 0]) (N := 11) (n := t + 41) K hH hS (lenE L _ _ ht rfl) tuX1 tyX1 tyX1_ok q_39 q_40 q_16 rfl (fun j hj => by rcases (show j = 0 ∨ j = 1 ∨ j = 2 ∨ j = 3 ∨ j = 4 ∨ j = 5 ∨ j = 6 ∨ j = 7 ∨ j = 8 ∨ j = 9 ∨ j = 10 by omega) with rfl | rfl | rfl | rfl | rfl | rfl | rfl | rfl | rfl | rfl | rfl <;> rfl) (Nat.le_of_ble_eq_true rfl) (Nat.le_of_ble_eq_true rfl) dX10_init_16 (fun H hH hS => ?_)
  refine lv_dup K.1.1 K.1.2.1 dX10_init_19 rfl ?_
  refine k_cIN (n := 0) (As := []) (rest := [.ref (B + (t + 41)), .ref (B + t)]) (b := B + (t + 41)) K hH hS (N1_init l G B (L ++ _) (t + 41) (lenE L _ _ ht rfl)) K.2.2.1.1 q_42 q_16 q_43 rfl ⟨hv_X1_init.2.1, hv_X1_init.2.2.1, hv_X1_init.2.2.2⟩ ⟨Nat.le_of_ble_eq_true rfl, Nat.le_of_ble_eq_true rfl⟩ rfl hl.1 rfl (Nat.le_of_ble_eq_true rfl) dX10_init_20 ⟨Nat.le_of_ble_eq_true rfl, Nat.le_of_ble_eq_true rfl⟩ (fun H locs hH hS => ?_)
  rw [appE] at hH
  have hH : HB G B (L ++ (.inr (8, [.ref (B + (t + 1)), .null, .null, .null, .null])) :: ([] ++ auctionE G B (t + 1) ++ auctionE G B (t + 41))) H := hH
  refine k_putF (j := t) (fs := [.ref (B + (t + 1)), .null, .null, .null, .null]) (v := .ref (B + (t + 41))) (ty := .object "ShadedBooks$Auction") K hi hH hS tuX10 tyX10 tyX10_ok nmX10 (getE L _ _ t ht) rfl 1 (by decide) q_307 rfl rfl (by decide +kernel) rfl rfl (Nat.le_of_ble_eq_true rfl) dX10_init_23 (fun H locs hH hS => ?_)
  rw [setE L _ _ _ t ht] at hH
  have hH : HB G B (L ++ (.inr (8, [.ref (B + (t + 1)), .ref (B + (t + 41)), .null, .null, .null])) :: ([] ++ auctionE G B (t + 1) ++ auctionE G B (t + 41))) H := hH
  refine lv_aload_n K.1.1 K.1.2.1 dX10_init_26 rfl (lv_at hl 0 rfl) ?_
  refine k_new (ci := 1) (fs := [.int 0, .int 0, .int 0, .int 0, .int 0, .null, .null, .null, .int 0, .int 0, .null, .null]) (N := 12) (n := t + 81) K hH hS (lenE L _ _ ht rfl) tuX2 tyX2 tyX2_ok q_209 q_210 q_21 rfl (fun j hj => by rcases (show j = 0 ∨ j = 1 ∨ j = 2 ∨ j = 3 ∨ j = 4 ∨ j = 5 ∨ j = 6 ∨ j = 7 ∨ j = 8 ∨ j = 9 ∨ j = 10 ∨ j = 11 by omega) with rfl | rfl | rfl | rfl | rfl | rfl | rfl | rfl | rfl | rfl | rfl | rfl <;> rfl) (Nat.le_of_ble_eq_true rfl) (Nat.le_of_ble_eq_true rfl) dX10_init_27 (fun H hH hS => ?_)
  refine lv_dup K.1.1 K.1.2.1 dX10_init_30 rfl ?_
  refine k_cIN (n := 0) (As := []) (rest := [.ref (B + (t + 81)), .ref (B + t)]) (b := B + (t + 81)) K hH hS (N2_init l G B (L ++ _) (t + 81) (lenE L _ _ ht rfl)) K.2.2.1.2.2.2.2.1 q_212 q_21 q_213 rfl ⟨hv_X2_init.2.1, hv_X2_init.2.2.1, hv_X2_init.2.2.2⟩ ⟨Nat.le_of_ble_eq_true rfl, Nat.le_of_ble_eq_true rfl⟩ rfl hl.1 rfl (Nat.le_of_ble_eq_true rfl) dX10_init_31 ⟨Nat.le_of_ble_eq_true rfl, Nat.le_of_ble_eq_true rfl⟩ (fun H locs hH hS => ?_)
  rw [appE] at hH
  have hH : HB G B (L ++ (.inr (8, [.ref (B + (t + 1)), .ref (B + (t + 41)), .null, .null, .null])) :: ([] ++ auctionE G B (t + 1) ++ auctionE G B (t + 41) ++ clearingE G B (t + 81))) H := hH
  refine k_putF (j := t) (fs := [.ref (B + (t + 1)), .ref (B + (t + 41)), .null, .null, .null]) (v := .ref (B + (t + 81))) (ty := .object "ShadedBooks$Clearing") K hi hH hS tuX10 tyX10 tyX10_ok nmX10 (getE L _ _ t ht) rfl 2 (by decide) q_308 rfl rfl (by decide +kernel) rfl rfl (Nat.le_of_ble_eq_true rfl) dX10_init_34 (fun H locs hH hS => ?_)
  rw [setE L _ _ _ t ht] at hH
  have hH : HB G B (L ++ (.inr (8, [.ref (B + (t + 1)), .ref (B + (t + 41)), .ref (B + (t + 81)), .null, .null])) :: ([] ++ auctionE G B (t + 1) ++ auctionE G B (t + 41) ++ clearingE G B (t + 81))) H := hH
  refine lv_aload_n K.1.1 K.1.2.1 dX10_init_37 rfl (lv_at hl 0 rfl) ?_
  refine k_new (ci := 7) (fs := [.int 0, .int 0, .null]) (N := 3) (n := t + 92) K hH hS (lenE L _ _ ht rfl) tuX8 tyX8 tyX8_ok q_261 q_262 q_22 rfl (fun j hj => by rcases (show j = 0 ∨ j = 1 ∨ j = 2 by omega) with rfl | rfl | rfl <;> rfl) (Nat.le_of_ble_eq_true rfl) (Nat.le_of_ble_eq_true rfl) dX10_init_38 (fun H hH hS => ?_)
  refine lv_dup K.1.1 K.1.2.1 dX10_init_41 rfl ?_
  refine k_cI (n := 0) (As := []) (rest := [.ref (B + (t + 92)), .ref (B + t)]) (b := B + (t + 92)) K hH hS (N8_init l G B (L ++ _) (t + 92) (lenE L _ _ ht rfl)) q_263 q_264 q_22 q_265 rfl ⟨hv_X8_init.2.1, hv_X8_init.2.2.1, hv_X8_init.2.2.2⟩ ⟨Nat.le_of_ble_eq_true rfl, Nat.le_of_ble_eq_true rfl⟩ rfl hl.1 rfl (Nat.le_of_ble_eq_true rfl) dX10_init_42 ⟨Nat.le_of_ble_eq_true rfl, Nat.le_of_ble_eq_true rfl⟩ (fun H locs hH hS => ?_)
  rw [appE] at hH
  have hH : HB G B (L ++ (.inr (8, [.ref (B + (t + 1)), .ref (B + (t + 41)), .ref (B + (t + 81)), .null, .null])) :: ([] ++ auctionE G B (t + 1) ++ auctionE G B (t + 41) ++ clearingE G B (t + 81) ++ undoE G B (t + 92))) H := hH
  refine k_putF (j := t) (fs := [.ref (B + (t + 1)), .ref (B + (t + 41)), .ref (B + (t + 81)), .null, .null]) (v := .ref (B + (t + 92))) (ty := .object "ShadedBooks$UndoStack") K hi hH hS tuX10 tyX10 tyX10_ok nmX10 (getE L _ _ t ht) rfl 3 (by decide) q_309 rfl rfl (by decide +kernel) rfl rfl (Nat.le_of_ble_eq_true rfl) dX10_init_45 (fun H locs hH hS => ?_)
  rw [setE L _ _ _ t ht] at hH
  have hH : HB G B (L ++ (.inr (8, [.ref (B + (t + 1)), .ref (B + (t + 41)), .ref (B + (t + 81)), .ref (B + (t + 92)), .null])) :: ([] ++ auctionE G B (t + 1) ++ auctionE G B (t + 41) ++ clearingE G B (t + 81) ++ undoE G B (t + 92))) H := hH
  refine lv_aload_n K.1.1 K.1.2.1 dX10_init_48 rfl (lv_at hl 0 rfl) ?_
  refine k_new (ci := 2) (fs := [.int 0, .null, .null, .null, .int 0, .int 0]) (N := 6) (n := t + 254) K hH hS (lenE L _ _ ht rfl) tuX3 tyX3 tyX3_ok q_281 q_282 q_23 rfl (fun j hj => by rcases (show j = 0 ∨ j = 1 ∨ j = 2 ∨ j = 3 ∨ j = 4 ∨ j = 5 by omega) with rfl | rfl | rfl | rfl | rfl | rfl <;> rfl) (Nat.le_of_ble_eq_true rfl) (Nat.le_of_ble_eq_true rfl) dX10_init_49 (fun H hH hS => ?_)
  refine lv_dup K.1.1 K.1.2.1 dX10_init_52 rfl ?_
  refine k_cIN (n := 0) (As := []) (rest := [.ref (B + (t + 254)), .ref (B + t)]) (b := B + (t + 254)) K hH hS (N3_init l G B (L ++ _) (t + 254) (lenE L _ _ ht rfl)) K.2.2.1.2.2.2.2.2.2 q_284 q_23 q_285 rfl ⟨hv_X3_init.2.1, hv_X3_init.2.2.1, hv_X3_init.2.2.2⟩ ⟨Nat.le_of_ble_eq_true rfl, Nat.le_of_ble_eq_true rfl⟩ rfl hl.1 rfl (Nat.le_of_ble_eq_true rfl) dX10_init_53 ⟨Nat.le_of_ble_eq_true rfl, Nat.le_of_ble_eq_true rfl⟩ (fun H locs hH hS => ?_)
  rw [appE] at hH
  have hH : HB G B (L ++ (.inr (8, [.ref (B + (t + 1)), .ref (B + (t + 41)), .ref (B + (t + 81)), .ref (B + (t + 92)), .null])) :: ([] ++ auctionE G B (t + 1) ++ auctionE G B (t + 41) ++ clearingE G B (t + 81) ++ undoE G B (t + 92) ++ commandE G B (t + 254))) H := hH
  refine k_putF (j := t) (fs := [.ref (B + (t + 1)), .ref (B + (t + 41)), .ref (B + (t + 81)), .ref (B + (t + 92)), .null]) (v := .ref (B + (t + 254))) (ty := .object "ShadedBooks$CommandText") K hi hH hS tuX10 tyX10 tyX10_ok nmX10 (getE L _ _ t ht) rfl 4 (by decide) q_310 rfl rfl (by decide +kernel) rfl rfl (Nat.le_of_ble_eq_true rfl) dX10_init_56 (fun H locs hH hS => ?_)
  rw [setE L _ _ _ t ht] at hH
  have hH : HB G B (L ++ (.inr (8, [.ref (B + (t + 1)), .ref (B + (t + 41)), .ref (B + (t + 81)), .ref (B + (t + 92)), .ref (B + (t + 254))])) :: ([] ++ auctionE G B (t + 1) ++ auctionE G B (t + 41) ++ clearingE G B (t + 81) ++ undoE G B (t + 92) ++ commandE G B (t + 254))) H := hH
  exact k_ret K hr hlocks hH hS rfl dX10_init_59

