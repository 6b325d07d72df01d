set_option maxHeartbeats 4000000 in
set_option maxRecDepth 100000 in
theorem N10_init (l : Launch) (G : GG) (B : Nat) (L : List va_E) (t : Nat) (ht : L.length = t) : NC l yX10_init (.code yX10_init cX10_init 1 Option.none) 5 94 258 2443 G B [.ref (B + t)] (L ++ [.inr (9, [.null, .null, .null, .null, .null])]) (L ++ booksE G B t) := by
  refine NC.of (by decide) rfl (Nat.le_of_ble_eq_true rfl) ?_
  intro p e s m below meth c ls K hr hlocks hi hH hl
  have hS : va_S (AB B) s.heap s.heap [] := va_S.rf
  have hl : lv_has ls 1 [(0, .ref (B + t))] := hl
  have hH : HB G B (L ++ (.inr (9, [.null, .null, .null, .null, .null])) :: ([])) s.heap := hH
  refine lv_aload_n K.1.1 K.1.2.1 dX10_init_0 rfl (lv_at hl 0 rfl) ?_
  refine k_obj K q_111 hl.1 ⟨Nat.le_of_ble_eq_true rfl, Nat.le_of_ble_eq_true rfl⟩ dX10_init_1 ?_
  refine lv_aload_n K.1.1 K.1.2.1 dX10_init_4 rfl (lv_at hl 0 rfl) ?_
  refine k_new (ci := 0) (fs := [.null, .null, .null, .int 0, .int 0, .int 0, .int 0, .int 0, .int 0, .int 0, .int 0]) (N := 11) (n := t + 1) K hH hS (lenE L _ _ ht rfl) tuX1 tyX1 tyX1_ok q_114 q_115 q_83 rfl (fun j hj => by rcases (show j = 0 ∨ j = 1 ∨ j = 2 ∨ j = 3 ∨ j = 4 ∨ j = 5 ∨ j = 6 ∨ j = 7 ∨ j = 8 ∨ j = 9 ∨ j = 10 by omega) with rfl | rfl | rfl | rfl | rfl | rfl | rfl | rfl | rfl | rfl | rfl <;> rfl) (Nat.le_of_ble_eq_true rfl) (Nat.le_of_ble_eq_true rfl) dX10_init_5 (fun H hH hS => ?_)
  refine lv_dup K.1.1 K.1.2.1 dX10_init_8 rfl ?_
  refine k_cIN (n := 0) (As := []) (rest := [.ref (B + (t + 1)), .ref (B + t)]) (b := B + (t + 1)) K hH hS (N1_init l G B (L ++ _) (t + 1) (lenE L _ _ ht rfl)) K.2.2.1.1 q_117 q_83 q_118 rfl ⟨hv_X1_init.2.1, hv_X1_init.2.2.1, hv_X1_init.2.2.2⟩ ⟨Nat.le_of_ble_eq_true rfl, Nat.le_of_ble_eq_true rfl⟩ rfl hl.1 rfl (Nat.le_of_ble_eq_true rfl) dX10_init_9 ⟨Nat.le_of_ble_eq_true rfl, Nat.le_of_ble_eq_true rfl⟩ (fun H locs hH hS => ?_)
  rw [appE] at hH
  have hH : HB G B (L ++ (.inr (9, [.null, .null, .null, .null, .null])) :: ([] ++ auctionE G B (t + 1))) H := hH
  refine k_putF (j := t) (fs := [.null, .null, .null, .null, .null]) (v := .ref (B + (t + 1))) (ty := .object "ShadedBooks$Auction") K hi hH hS tuX10 tyX10 tyX10_ok nmX10 (getE L _ _ t ht) rfl 0 (by decide) q_387 rfl rfl (by decide +kernel) rfl rfl (Nat.le_of_ble_eq_true rfl) dX10_init_12 (fun H locs hH hS => ?_)
  rw [setE L _ _ _ t ht] at hH
  have hH : HB G B (L ++ (.inr (9, [.ref (B + (t + 1)), .null, .null, .null, .null])) :: ([] ++ auctionE G B (t + 1))) H := hH
  refine lv_aload_n K.1.1 K.1.2.1 dX10_init_15 rfl (lv_at hl 0 rfl) ?_
  refine k_new (ci := 0) (fs := [.null, .null, .null, .int 0, .int 0, .int 0, .int 0, .int 0, .int 0, .int 0, .int 0]) (N := 11) (n := t + 41) K hH hS (lenE L _ _ ht rfl) tuX1 tyX1 tyX1_ok q_114 q_115 q_83 rfl (fun j hj => by rcases (show j = 0 ∨ j = 1 ∨ j = 2 ∨ j = 3 ∨ j = 4 ∨ j = 5 ∨ j = 6 ∨ j = 7 ∨ j = 8 ∨ j = 9 ∨ j = 10 by omega) with rfl | rfl | rfl | rfl | rfl | rfl | rfl | rfl | rfl | rfl | rfl <;> rfl) (Nat.le_of_ble_eq_true rfl) (Nat.le_of_ble_eq_true rfl) dX10_init_16 (fun H hH hS => ?_)
  refine lv_dup K.1.1 K.1.2.1 dX10_init_19 rfl ?_
  refine k_cIN (n := 0) (As := []) (rest := [.ref (B + (t + 41)), .ref (B + t)]) (b := B + (t + 41)) K hH hS (N1_init l G B (L ++ _) (t + 41) (lenE L _ _ ht rfl)) K.2.2.1.1 q_117 q_83 q_118 rfl ⟨hv_X1_init.2.1, hv_X1_init.2.2.1, hv_X1_init.2.2.2⟩ ⟨Nat.le_of_ble_eq_true rfl, Nat.le_of_ble_eq_true rfl⟩ rfl hl.1 rfl (Nat.le_of_ble_eq_true rfl) dX10_init_20 ⟨Nat.le_of_ble_eq_true rfl, Nat.le_of_ble_eq_true rfl⟩ (fun H locs hH hS => ?_)
  rw [appE] at hH
  have hH : HB G B (L ++ (.inr (9, [.ref (B + (t + 1)), .null, .null, .null, .null])) :: ([] ++ auctionE G B (t + 1) ++ auctionE G B (t + 41))) H := hH
  refine k_putF (j := t) (fs := [.ref (B + (t + 1)), .null, .null, .null, .null]) (v := .ref (B + (t + 41))) (ty := .object "ShadedBooks$Auction") K hi hH hS tuX10 tyX10 tyX10_ok nmX10 (getE L _ _ t ht) rfl 1 (by decide) q_388 rfl rfl (by decide +kernel) rfl rfl (Nat.le_of_ble_eq_true rfl) dX10_init_23 (fun H locs hH hS => ?_)
  rw [setE L _ _ _ t ht] at hH
  have hH : HB G B (L ++ (.inr (9, [.ref (B + (t + 1)), .ref (B + (t + 41)), .null, .null, .null])) :: ([] ++ auctionE G B (t + 1) ++ auctionE G B (t + 41))) H := hH
  refine lv_aload_n K.1.1 K.1.2.1 dX10_init_26 rfl (lv_at hl 0 rfl) ?_
  refine k_new (ci := 1) (fs := [.int 0, .int 0, .int 0, .int 0, .int 0, .null, .null, .null, .int 0, .int 0, .null, .null]) (N := 12) (n := t + 81) K hH hS (lenE L _ _ ht rfl) tuX2 tyX2 tyX2_ok q_285 q_286 q_88 rfl (fun j hj => by rcases (show j = 0 ∨ j = 1 ∨ j = 2 ∨ j = 3 ∨ j = 4 ∨ j = 5 ∨ j = 6 ∨ j = 7 ∨ j = 8 ∨ j = 9 ∨ j = 10 ∨ j = 11 by omega) with rfl | rfl | rfl | rfl | rfl | rfl | rfl | rfl | rfl | rfl | rfl | rfl <;> rfl) (Nat.le_of_ble_eq_true rfl) (Nat.le_of_ble_eq_true rfl) dX10_init_27 (fun H hH hS => ?_)
  refine lv_dup K.1.1 K.1.2.1 dX10_init_30 rfl ?_
  refine k_cIN (n := 0) (As := []) (rest := [.ref (B + (t + 81)), .ref (B + t)]) (b := B + (t + 81)) K hH hS (N2_init l G B (L ++ _) (t + 81) (lenE L _ _ ht rfl)) K.2.2.1.2.2.2.2.1 q_288 q_88 q_289 rfl ⟨hv_X2_init.2.1, hv_X2_init.2.2.1, hv_X2_init.2.2.2⟩ ⟨Nat.le_of_ble_eq_true rfl, Nat.le_of_ble_eq_true rfl⟩ rfl hl.1 rfl (Nat.le_of_ble_eq_true rfl) dX10_init_31 ⟨Nat.le_of_ble_eq_true rfl, Nat.le_of_ble_eq_true rfl⟩ (fun H locs hH hS => ?_)
  rw [appE] at hH
  have hH : HB G B (L ++ (.inr (9, [.ref (B + (t + 1)), .ref (B + (t + 41)), .null, .null, .null])) :: ([] ++ auctionE G B (t + 1) ++ auctionE G B (t + 41) ++ clearingE G B (t + 81))) H := hH
  refine k_putF (j := t) (fs := [.ref (B + (t + 1)), .ref (B + (t + 41)), .null, .null, .null]) (v := .ref (B + (t + 81))) (ty := .object "ShadedBooks$Clearing") K hi hH hS tuX10 tyX10 tyX10_ok nmX10 (getE L _ _ t ht) rfl 2 (by decide) q_389 rfl rfl (by decide +kernel) rfl rfl (Nat.le_of_ble_eq_true rfl) dX10_init_34 (fun H locs hH hS => ?_)
  rw [setE L _ _ _ t ht] at hH
  have hH : HB G B (L ++ (.inr (9, [.ref (B + (t + 1)), .ref (B + (t + 41)), .ref (B + (t + 81)), .null, .null])) :: ([] ++ auctionE G B (t + 1) ++ auctionE G B (t + 41) ++ clearingE G B (t + 81))) H := hH
  refine lv_aload_n K.1.1 K.1.2.1 dX10_init_37 rfl (lv_at hl 0 rfl) ?_
  refine k_new (ci := 7) (fs := [.int 0, .int 0, .null]) (N := 3) (n := t + 92) K hH hS (lenE L _ _ ht rfl) tuX8 tyX8 tyX8_ok q_337 q_338 q_89 rfl (fun j hj => by rcases (show j = 0 ∨ j = 1 ∨ j = 2 by omega) with rfl | rfl | rfl <;> rfl) (Nat.le_of_ble_eq_true rfl) (Nat.le_of_ble_eq_true rfl) dX10_init_38 (fun H hH hS => ?_)
  refine lv_dup K.1.1 K.1.2.1 dX10_init_41 rfl ?_
  refine k_cI (n := 0) (As := []) (rest := [.ref (B + (t + 92)), .ref (B + t)]) (b := B + (t + 92)) K hH hS (N8_init l G B (L ++ _) (t + 92) (lenE L _ _ ht rfl)) q_339 q_340 q_89 q_341 rfl ⟨hv_X8_init.2.1, hv_X8_init.2.2.1, hv_X8_init.2.2.2⟩ ⟨Nat.le_of_ble_eq_true rfl, Nat.le_of_ble_eq_true rfl⟩ rfl hl.1 rfl (Nat.le_of_ble_eq_true rfl) dX10_init_42 ⟨Nat.le_of_ble_eq_true rfl, Nat.le_of_ble_eq_true rfl⟩ (fun H locs hH hS => ?_)
  rw [appE] at hH
  have hH : HB G B (L ++ (.inr (9, [.ref (B + (t + 1)), .ref (B + (t + 41)), .ref (B + (t + 81)), .null, .null])) :: ([] ++ auctionE G B (t + 1) ++ auctionE G B (t + 41) ++ clearingE G B (t + 81) ++ undoE G B (t + 92))) H := hH
  refine k_putF (j := t) (fs := [.ref (B + (t + 1)), .ref (B + (t + 41)), .ref (B + (t + 81)), .null, .null]) (v := .ref (B + (t + 92))) (ty := .object "ShadedBooks$UndoStack") K hi hH hS tuX10 tyX10 tyX10_ok nmX10 (getE L _ _ t ht) rfl 3 (by decide) q_390 rfl rfl (by decide +kernel) rfl rfl (Nat.le_of_ble_eq_true rfl) dX10_init_45 (fun H locs hH hS => ?_)
  rw [setE L _ _ _ t ht] at hH
  have hH : HB G B (L ++ (.inr (9, [.ref (B + (t + 1)), .ref (B + (t + 41)), .ref (B + (t + 81)), .ref (B + (t + 92)), .null])) :: ([] ++ auctionE G B (t + 1) ++ auctionE G B (t + 41) ++ clearingE G B (t + 81) ++ undoE G B (t + 92))) H := hH
  refine lv_aload_n K.1.1 K.1.2.1 dX10_init_48 rfl (lv_at hl 0 rfl) ?_
  refine k_new (ci := 2) (fs := [.int 0, .null, .null, .null, .int 0, .int 0]) (N := 6) (n := t + 254) K hH hS (lenE L _ _ ht rfl) tuX3 tyX3 tyX3_ok q_357 q_358 q_90 rfl (fun j hj => by rcases (show j = 0 ∨ j = 1 ∨ j = 2 ∨ j = 3 ∨ j = 4 ∨ j = 5 by omega) with rfl | rfl | rfl | rfl | rfl | rfl <;> rfl) (Nat.le_of_ble_eq_true rfl) (Nat.le_of_ble_eq_true rfl) dX10_init_49 (fun H hH hS => ?_)
  refine lv_dup K.1.1 K.1.2.1 dX10_init_52 rfl ?_
  refine k_cIN (n := 0) (As := []) (rest := [.ref (B + (t + 254)), .ref (B + t)]) (b := B + (t + 254)) K hH hS (N3_init l G B (L ++ _) (t + 254) (lenE L _ _ ht rfl)) K.2.2.1.2.2.2.2.2.2 q_360 q_90 q_361 rfl ⟨hv_X3_init.2.1, hv_X3_init.2.2.1, hv_X3_init.2.2.2⟩ ⟨Nat.le_of_ble_eq_true rfl, Nat.le_of_ble_eq_true rfl⟩ rfl hl.1 rfl (Nat.le_of_ble_eq_true rfl) dX10_init_53 ⟨Nat.le_of_ble_eq_true rfl, Nat.le_of_ble_eq_true rfl⟩ (fun H locs hH hS => ?_)
  rw [appE] at hH
  have hH : HB G B (L ++ (.inr (9, [.ref (B + (t + 1)), .ref (B + (t + 41)), .ref (B + (t + 81)), .ref (B + (t + 92)), .null])) :: ([] ++ auctionE G B (t + 1) ++ auctionE G B (t + 41) ++ clearingE G B (t + 81) ++ undoE G B (t + 92) ++ commandE G B (t + 254))) H := hH
  refine k_putF (j := t) (fs := [.ref (B + (t + 1)), .ref (B + (t + 41)), .ref (B + (t + 81)), .ref (B + (t + 92)), .null]) (v := .ref (B + (t + 254))) (ty := .object "ShadedBooks$CommandText") K hi hH hS tuX10 tyX10 tyX10_ok nmX10 (getE L _ _ t ht) rfl 4 (by decide) q_391 rfl rfl (by decide +kernel) rfl rfl (Nat.le_of_ble_eq_true rfl) dX10_init_56 (fun H locs hH hS => ?_)
  rw [setE L _ _ _ t ht] at hH
  have hH : HB G B (L ++ (.inr (9, [.ref (B + (t + 1)), .ref (B + (t + 41)), .ref (B + (t + 81)), .ref (B + (t + 92)), .ref (B + (t + 254))])) :: ([] ++ auctionE G B (t + 1) ++ auctionE G B (t + 41) ++ clearingE G B (t + 81) ++ undoE G B (t + 92) ++ commandE G B (t + 254))) H := hH
  exact k_ret K hr hlocks hH hS rfl dX10_init_59

def modelE (G : GG) (B t : Nat) : List va_E := (.inr (10, [.ref (B + (t + 1)), .ref (B + (t + 2)), .int 0, .int 0, .int 0, .int 0, .int 0, .int 0, .ref (B + (t + 3)), .int 0, .int 0, .int 0, .ref (B + (t + 4)), .ref (B + (t + 5))])) :: ([] ++ [.inl (G.2.1, 267, .inl (upd (upd (upd (fun _ => 0) 3 5) 4 3) 8 (-10000)))] ++ [.inl (G.2.1, 1335, .inl (fun _ => 0))] ++ [.inl (G.2.1, 150, .inl (fun _ => 0))] ++ [.inl (G.2.1, 3, .inl (fun _ => 0))] ++ [.inl (G.2.1, 20, .inl (fun _ => 0))])
set_option maxHeartbeats 4000000 in
set_option maxRecDepth 100000 in
theorem N11_init (l : Launch) (G : GG) (B : Nat) (L : List va_E) (t : Nat) (ht : L.length = t) : NC l yX11_init (.code yX11_init cX11_init 1 Option.none) 1 12 5 1775 G B [.ref (B + t)] (L ++ [.inr (10, [.null, .null, .int 0, .int 0, .int 0, .int 0, .int 0, .int 0, .null, .int 0, .int 0, .int 0, .null, .null])]) (L ++ modelE G B t) := by
  refine NC.of (by decide) rfl (Nat.le_of_ble_eq_true rfl) ?_
  intro p e s m below meth c ls K hr hlocks hi hH hl
  have hS : va_S (AB B) s.heap s.heap [] := va_S.rf
  have hl : lv_has ls 1 [(0, .ref (B + t))] := hl
  have hH : HB G B (L ++ (.inr (10, [.null, .null, .int 0, .int 0, .int 0, .int 0, .int 0, .int 0, .null, .int 0, .int 0, .int 0, .null, .null])) :: ([])) s.heap := hH
  refine lv_aload_n K.1.1 K.1.2.1 dX11_init_0 rfl (lv_at hl 0 rfl) ?_
  refine k_obj K q_1149 hl.1 ⟨Nat.le_of_ble_eq_true rfl, Nat.le_of_ble_eq_true rfl⟩ dX11_init_1 ?_
  refine lv_aload_n K.1.1 K.1.2.1 dX11_init_4 rfl (lv_at hl 0 rfl) ?_
  refine lv_sipush (v := 267) K.1.1 K.1.2.1 dX11_init_5 (by decide) ?_
  refine k_newa (N := 267) (n := t + 1) K hH hS (lenE L _ _ ht rfl) (by decide) rfl (by decide) (Nat.le_of_ble_eq_true rfl) (Nat.le_of_ble_eq_true rfl) dX11_init_8 (fun H hH hS => ?_)
  rw [appE] at hH
  have hH : HB G B (L ++ (.inr (10, [.null, .null, .int 0, .int 0, .int 0, .int 0, .int 0, .int 0, .null, .int 0, .int 0, .int 0, .null, .null])) :: ([] ++ [.inl (G.2.1, 267, .inl (fun _ => 0))])) H := hH
  refine k_putF (j := t) (fs := [.null, .null, .int 0, .int 0, .int 0, .int 0, .int 0, .int 0, .null, .int 0, .int 0, .int 0, .null, .null]) (v := .ref (B + (t + 1))) (ty := .array .int) K hi hH hS tuX11 tyX11 tyX11_ok nmX11 (getE L _ _ t ht) rfl 0 (by decide) q_1150 rfl rfl (by decide +kernel) rfl rfl (Nat.le_of_ble_eq_true rfl) dX11_init_10 (fun H locs hH hS => ?_)
  rw [setE L _ _ _ t ht] at hH
  have hH : HB G B (L ++ (.inr (10, [.ref (B + (t + 1)), .null, .int 0, .int 0, .int 0, .int 0, .int 0, .int 0, .null, .int 0, .int 0, .int 0, .null, .null])) :: ([] ++ [.inl (G.2.1, 267, .inl (fun _ => 0))])) H := hH
  refine lv_aload_n K.1.1 K.1.2.1 dX11_init_13 rfl (lv_at hl 0 rfl) ?_
  refine lv_sipush (v := 1335) K.1.1 K.1.2.1 dX11_init_14 (by decide) ?_
  refine k_newa (N := 1335) (n := t + 2) K hH hS (lenE L _ _ ht rfl) (by decide) rfl (by decide) (Nat.le_of_ble_eq_true rfl) (Nat.le_of_ble_eq_true rfl) dX11_init_17 (fun H hH hS => ?_)
  rw [appE] at hH
  have hH : HB G B (L ++ (.inr (10, [.ref (B + (t + 1)), .null, .int 0, .int 0, .int 0, .int 0, .int 0, .int 0, .null, .int 0, .int 0, .int 0, .null, .null])) :: ([] ++ [.inl (G.2.1, 267, .inl (fun _ => 0))] ++ [.inl (G.2.1, 1335, .inl (fun _ => 0))])) H := hH
  refine k_putF (j := t) (fs := [.ref (B + (t + 1)), .null, .int 0, .int 0, .int 0, .int 0, .int 0, .int 0, .null, .int 0, .int 0, .int 0, .null, .null]) (v := .ref (B + (t + 2))) (ty := .array .int) K hi hH hS tuX11 tyX11 tyX11_ok nmX11 (getE L _ _ t ht) rfl 1 (by decide) q_1151 rfl rfl (by decide +kernel) rfl rfl (Nat.le_of_ble_eq_true rfl) dX11_init_19 (fun H locs hH hS => ?_)
  rw [setE L _ _ _ t ht] at hH
  have hH : HB G B (L ++ (.inr (10, [.ref (B + (t + 1)), .ref (B + (t + 2)), .int 0, .int 0, .int 0, .int 0, .int 0, .int 0, .null, .int 0, .int 0, .int 0, .null, .null])) :: ([] ++ [.inl (G.2.1, 267, .inl (fun _ => 0))] ++ [.inl (G.2.1, 1335, .inl (fun _ => 0))])) H := hH
  refine lv_aload_n K.1.1 K.1.2.1 dX11_init_22 rfl (lv_at hl 0 rfl) ?_
  refine lv_sipush (v := 150) K.1.1 K.1.2.1 dX11_init_23 (by decide) ?_
  refine k_newa (N := 150) (n := t + 3) K hH hS (lenE L _ _ ht rfl) (by decide) rfl (by decide) (Nat.le_of_ble_eq_true rfl) (Nat.le_of_ble_eq_true rfl) dX11_init_26 (fun H hH hS => ?_)
  rw [appE] at hH
  have hH : HB G B (L ++ (.inr (10, [.ref (B + (t + 1)), .ref (B + (t + 2)), .int 0, .int 0, .int 0, .int 0, .int 0, .int 0, .null, .int 0, .int 0, .int 0, .null, .null])) :: ([] ++ [.inl (G.2.1, 267, .inl (fun _ => 0))] ++ [.inl (G.2.1, 1335, .inl (fun _ => 0))] ++ [.inl (G.2.1, 150, .inl (fun _ => 0))])) H := hH
  refine k_putF (j := t) (fs := [.ref (B + (t + 1)), .ref (B + (t + 2)), .int 0, .int 0, .int 0, .int 0, .int 0, .int 0, .null, .int 0, .int 0, .int 0, .null, .null]) (v := .ref (B + (t + 3))) (ty := .array .int) K hi hH hS tuX11 tyX11 tyX11_ok nmX11 (getE L _ _ t ht) rfl 8 (by decide) q_1158 rfl rfl (by decide +kernel) rfl rfl (Nat.le_of_ble_eq_true rfl) dX11_init_28 (fun H locs hH hS => ?_)
  rw [setE L _ _ _ t ht] at hH
  have hH : HB G B (L ++ (.inr (10, [.ref (B + (t + 1)), .ref (B + (t + 2)), .int 0, .int 0, .int 0, .int 0, .int 0, .int 0, .ref (B + (t + 3)), .int 0, .int 0, .int 0, .null, .null])) :: ([] ++ [.inl (G.2.1, 267, .inl (fun _ => 0))] ++ [.inl (G.2.1, 1335, .inl (fun _ => 0))] ++ [.inl (G.2.1, 150, .inl (fun _ => 0))])) H := hH
  refine lv_aload_n K.1.1 K.1.2.1 dX11_init_31 rfl (lv_at hl 0 rfl) ?_
  refine lv_iconst (v := 3) K.1.1 K.1.2.1 dX11_init_32 (by decide) ?_
  refine k_newa (N := 3) (n := t + 4) K hH hS (lenE L _ _ ht rfl) (by decide) rfl (by decide) (Nat.le_of_ble_eq_true rfl) (Nat.le_of_ble_eq_true rfl) dX11_init_33 (fun H hH hS => ?_)
  rw [appE] at hH
  have hH : HB G B (L ++ (.inr (10, [.ref (B + (t + 1)), .ref (B + (t + 2)), .int 0, .int 0, .int 0, .int 0, .int 0, .int 0, .ref (B + (t + 3)), .int 0, .int 0, .int 0, .null, .null])) :: ([] ++ [.inl (G.2.1, 267, .inl (fun _ => 0))] ++ [.inl (G.2.1, 1335, .inl (fun _ => 0))] ++ [.inl (G.2.1, 150, .inl (fun _ => 0))] ++ [.inl (G.2.1, 3, .inl (fun _ => 0))])) H := hH
  refine k_putF (j := t) (fs := [.ref (B + (t + 1)), .ref (B + (t + 2)), .int 0, .int 0, .int 0, .int 0, .int 0, .int 0, .ref (B + (t + 3)), .int 0, .int 0, .int 0, .null, .null]) (v := .ref (B + (t + 4))) (ty := .array .int) K hi hH hS tuX11 tyX11 tyX11_ok nmX11 (getE L _ _ t ht) rfl 12 (by decide) q_1162 rfl rfl (by decide +kernel) rfl rfl (Nat.le_of_ble_eq_true rfl) dX11_init_35 (fun H locs hH hS => ?_)
  rw [setE L _ _ _ t ht] at hH
  have hH : HB G B (L ++ (.inr (10, [.ref (B + (t + 1)), .ref (B + (t + 2)), .int 0, .int 0, .int 0, .int 0, .int 0, .int 0, .ref (B + (t + 3)), .int 0, .int 0, .int 0, .ref (B + (t + 4)), .null])) :: ([] ++ [.inl (G.2.1, 267, .inl (fun _ => 0))] ++ [.inl (G.2.1, 1335, .inl (fun _ => 0))] ++ [.inl (G.2.1, 150, .inl (fun _ => 0))] ++ [.inl (G.2.1, 3, .inl (fun _ => 0))])) H := hH
  refine lv_aload_n K.1.1 K.1.2.1 dX11_init_38 rfl (lv_at hl 0 rfl) ?_
  refine lv_bipush (v := 20) K.1.1 K.1.2.1 dX11_init_39 (by decide) ?_
  refine k_newa (N := 20) (n := t + 5) K hH hS (lenE L _ _ ht rfl) (by decide) rfl (by decide) (Nat.le_of_ble_eq_true rfl) (Nat.le_of_ble_eq_true rfl) dX11_init_41 (fun H hH hS => ?_)
  rw [appE] at hH
  have hH : HB G B (L ++ (.inr (10, [.ref (B + (t + 1)), .ref (B + (t + 2)), .int 0, .int 0, .int 0, .int 0, .int 0, .int 0, .ref (B + (t + 3)), .int 0, .int 0, .int 0, .ref (B + (t + 4)), .null])) :: ([] ++ [.inl (G.2.1, 267, .inl (fun _ => 0))] ++ [.inl (G.2.1, 1335, .inl (fun _ => 0))] ++ [.inl (G.2.1, 150, .inl (fun _ => 0))] ++ [.inl (G.2.1, 3, .inl (fun _ => 0))] ++ [.inl (G.2.1, 20, .inl (fun _ => 0))])) H := hH
  refine k_putF (j := t) (fs := [.ref (B + (t + 1)), .ref (B + (t + 2)), .int 0, .int 0, .int 0, .int 0, .int 0, .int 0, .ref (B + (t + 3)), .int 0, .int 0, .int 0, .ref (B + (t + 4)), .null]) (v := .ref (B + (t + 5))) (ty := .array .int) K hi hH hS tuX11 tyX11 tyX11_ok nmX11 (getE L _ _ t ht) rfl 13 (by decide) q_1163 rfl rfl (by decide +kernel) rfl rfl (Nat.le_of_ble_eq_true rfl) dX11_init_43 (fun H locs hH hS => ?_)
  rw [setE L _ _ _ t ht] at hH
  have hH : HB G B (L ++ (.inr (10, [.ref (B + (t + 1)), .ref (B + (t + 2)), .int 0, .int 0, .int 0, .int 0, .int 0, .int 0, .ref (B + (t + 3)), .int 0, .int 0, .int 0, .ref (B + (t + 4)), .ref (B + (t + 5))])) :: ([] ++ [.inl (G.2.1, 267, .inl (fun _ => 0))] ++ [.inl (G.2.1, 1335, .inl (fun _ => 0))] ++ [.inl (G.2.1, 150, .inl (fun _ => 0))] ++ [.inl (G.2.1, 3, .inl (fun _ => 0))] ++ [.inl (G.2.1, 20, .inl (fun _ => 0))])) H := hH
  refine lv_aload_n K.1.1 K.1.2.1 dX11_init_46 rfl (lv_at hl 0 rfl) ?_
  refine k_get (j := t) (v := .ref (B + (t + 1))) K hH tuX11 (getE L _ _ t ht) rfl 0 (by decide) q_1150 rfl dX11_init_47 ?_
  refine lv_iconst (v := 3) K.1.1 K.1.2.1 dX11_init_50 (by decide) ?_
  refine lv_iconst (v := 5) K.1.1 K.1.2.1 dX11_init_51 (by decide) ?_
  refine k_iast (j := t + 1) (n := 267) (f := (fun _ => 0)) K hH hS (getX L _ t 1 ht rfl) (vpd rfl) dX11_init_52 (fun H locs hH hS => ?_)
  rw [setX L _ t 1 _ ht] at hH
  have hH : HB G B (L ++ (.inr (10, [.ref (B + (t + 1)), .ref (B + (t + 2)), .int 0, .int 0, .int 0, .int 0, .int 0, .int 0, .ref (B + (t + 3)), .int 0, .int 0, .int 0, .ref (B + (t + 4)), .ref (B + (t + 5))])) :: ([] ++ [.inl (G.2.1, 267, .inl (upd (fun _ => 0) 3 5))] ++ [.inl (G.2.1, 1335, .inl (fun _ => 0))] ++ [.inl (G.2.1, 150, .inl (fun _ => 0))] ++ [.inl (G.2.1, 3, .inl (fun _ => 0))] ++ [.inl (G.2.1, 20, .inl (fun _ => 0))])) H := hH
  refine lv_aload_n K.1.1 K.1.2.1 dX11_init_53 rfl (lv_at hl 0 rfl) ?_
  refine k_get (j := t) (v := .ref (B + (t + 1))) K hH tuX11 (getE L _ _ t ht) rfl 0 (by decide) q_1150 rfl dX11_init_54 ?_
  refine lv_iconst (v := 4) K.1.1 K.1.2.1 dX11_init_57 (by decide) ?_
  refine lv_iconst (v := 3) K.1.1 K.1.2.1 dX11_init_58 (by decide) ?_
  refine k_iast (j := t + 1) (n := 267) (f := (upd (fun _ => 0) 3 5)) K hH hS (getX L _ t 1 ht rfl) (vpd rfl) dX11_init_59 (fun H locs hH hS => ?_)
  rw [setX L _ t 1 _ ht] at hH
  have hH : HB G B (L ++ (.inr (10, [.ref (B + (t + 1)), .ref (B + (t + 2)), .int 0, .int 0, .int 0, .int 0, .int 0, .int 0, .ref (B + (t + 3)), .int 0, .int 0, .int 0, .ref (B + (t + 4)), .ref (B + (t + 5))])) :: ([] ++ [.inl (G.2.1, 267, .inl (upd (upd (fun _ => 0) 3 5) 4 3))] ++ [.inl (G.2.1, 1335, .inl (fun _ => 0))] ++ [.inl (G.2.1, 150, .inl (fun _ => 0))] ++ [.inl (G.2.1, 3, .inl (fun _ => 0))] ++ [.inl (G.2.1, 20, .inl (fun _ => 0))])) H := hH
  refine lv_aload_n K.1.1 K.1.2.1 dX11_init_60 rfl (lv_at hl 0 rfl) ?_
  refine k_get (j := t) (v := .ref (B + (t + 1))) K hH tuX11 (getE L _ _ t ht) rfl 0 (by decide) q_1150 rfl dX11_init_61 ?_
  refine lv_bipush (v := 8) K.1.1 K.1.2.1 dX11_init_64 (by decide) ?_
  refine lv_sipush (v := (-10000)) K.1.1 K.1.2.1 dX11_init_66 (by decide) ?_
  refine k_iast (j := t + 1) (n := 267) (f := (upd (upd (fun _ => 0) 3 5) 4 3)) K hH hS (getX L _ t 1 ht rfl) (vpd rfl) dX11_init_69 (fun H locs hH hS => ?_)
  rw [setX L _ t 1 _ ht] at hH
  have hH : HB G B (L ++ (.inr (10, [.ref (B + (t + 1)), .ref (B + (t + 2)), .int 0, .int 0, .int 0, .int 0, .int 0, .int 0, .ref (B + (t + 3)), .int 0, .int 0, .int 0, .ref (B + (t + 4)), .ref (B + (t + 5))])) :: ([] ++ [.inl (G.2.1, 267, .inl (upd (upd (upd (fun _ => 0) 3 5) 4 3) 8 (-10000)))] ++ [.inl (G.2.1, 1335, .inl (fun _ => 0))] ++ [.inl (G.2.1, 150, .inl (fun _ => 0))] ++ [.inl (G.2.1, 3, .inl (fun _ => 0))] ++ [.inl (G.2.1, 20, .inl (fun _ => 0))])) H := hH
  exact k_ret K hr hlocks hH hS rfl dX11_init_70

