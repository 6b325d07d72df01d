set_option maxHeartbeats 4000000 in
set_option maxRecDepth 100000 in
theorem law_begin {p : Program} {e : Env} {s : State} {m : MethodId} {below : List Frame} {meth : Method} {c : Code} (l : Launch) (hfl : l.stackTraces = false) {b L : Nat} {xs : Nat → Int32} (hL : L ≤ 260) (C0 : lw_At p s m meth c b L xs) (I : Nat → Int32 → Mm → Prop) (hI0 : I 0 0 mu0)
    (HT : ∀ (G : GG) (B k : Nat) (C : Int32) (μ : Mm), k < 36 → I k C μ → ∀ x a b w bb : Int32, w = (if k < 3 then 0 else x &&& 15) → bb = (if k < 2 then nI k else b) → TURNP l G B I k C μ x a b w bb) : W p l e room_1 s m #[Value.ref b] below meth c s.heap [] 0 0 (lw_Z below #[Value.ref b] s) (entryFrame m ([Value.ref b] : List Value).toArray 16) := by
  obtain ⟨hx, hb, hr, hml, hown, hts, hX, hbl, hlocks, hgv⟩ := C0
  have h0 : ∀ w ∈ TBL, w.before #[Value.ref b] s = true := fun w h => hts w (List.mem_filter.mp h).1
  have h1 : ∀ w ∈ (Cond.arrayClass .int :: TBL), w.before #[Value.ref b] s = true := fun w h => (List.mem_cons.mp h).elim (fun e => e ▸ h0 _ q_61) (h0 w)
  obtain ⟨dg, cI, cQ, hK1⟩ := st_K hts
  obtain ⟨ad, hN⟩ := st_NW hts hgv dg cI cQ
  obtain ⟨G, hG⟩ : ∃ G : GG, G = (dg, cI, cQ, ad) := ⟨_, rfl⟩
  have hK : va_K G.1 vwCl (tyL G) s := by rw [hG]; exact hK1 ad
  have hN : NW G s.heap.size s s.heap := by rw [hG]; exact hN
  have F : CallFix p m c cL_law 16 s #[Value.ref b] (Cond.arrayClass .int :: TBL) RL := ⟨hx, hb, hml, hown, h1⟩
  have K0 : KZ p m c cL_law 16 s #[Value.ref b] (Cond.arrayClass .int) RL G := ⟨F, hK, st_NZ hts⟩
  have hl := lv_entry ([Value.ref b]) (n := 16) (Nat.le_of_ble_eq_true rfl)
  rw [lg_entry_eq]
  generalize (lg_sl ([Value.ref b]) ++ List.replicate (16 - (lg_sl ([Value.ref b])).length) Slot.unset).toArray = ls at hl ⊢
  have hl : lv_has ls 16 [(0, .ref b)] := hl
  have hS : va_S (AB s.heap.size) s.heap s.heap [] := va_S.rf
  have hH : HB G s.heap.size [] s.heap := ⟨fun k q hk => absurd (pl_at hk).1 (Nat.not_lt_zero k), rfl⟩
  refine k_new (ci := 8) (fs := [.null, .null, .null, .null, .null]) (N := 5) (n := 0) K0 hH hS rfl tuX10 tyX10 tyX10_ok q_31 q_32 q_15 rfl (fun j hj => by rcases (show j = 0 ∨ j = 1 ∨ j = 2 ∨ j = 3 ∨ j = 4 by omega) with rfl | rfl | rfl | rfl | rfl <;> rfl) (Nat.le_of_ble_eq_true rfl) (Nat.le_of_ble_eq_true rfl) dL_law_0 (fun H hH hS => ?_)
  refine lv_dup K0.1.1 K0.1.2.1 dL_law_3 rfl ?_
  refine k_cI (n := 0) (As := []) (rest := [.ref (s.heap.size + 0)]) (b := s.heap.size + 0) K0 hH hS (N10_init l G _ ([]) 0 (by rfl)) q_33 q_34 q_15 q_35 rfl ⟨hv_X10_init.2.1, hv_X10_init.2.2.1, hv_X10_init.2.2.2⟩ ⟨Nat.le_of_ble_eq_true rfl, Nat.le_of_ble_eq_true rfl⟩ rfl hl.1 rfl (Nat.le_of_ble_eq_true rfl) dL_law_4 ⟨Nat.le_of_ble_eq_true rfl, Nat.le_of_ble_eq_true rfl⟩ (fun H locs hH hS => ?_)
  refine lv_astore_n (lv' := [(1, .ref (s.heap.size + 0)), (0, .ref b)]) K0.1.1 K0.1.2.1 dL_law_7 rfl hl (by decide) rfl (fun ls hl => ?_)
  have hH : HB G s.heap.size (booksE G s.heap.size 0) H := hH
  have hP : MP G s.heap.size mu0 H := made_MP hH
  have hS : va_S (AA s.heap.size) s.heap H locs := hS
  have hbA : ¬ AA s.heap.size b := fun z => by have h9 : s.heap.size ≤ b := z; omega
  have K : KK p m c cL_law 16 s #[Value.ref b] (Cond.arrayClass .int) RL G s.heap.size := ⟨F, hK, hN⟩
  have h26 : ∀ (T : Nat) (ls : Array Slot), T ≤ 36 → lv_has ls 16 [(1, .ref (s.heap.size + 0)), (0, .ref b)] → W p l e room_1 s m #[Value.ref b] below meth c H locs (0 + 1 + 258) (0 + 5 + 2443) (lw_Z below #[Value.ref b] s) (F0 m 26 ls [.int (nI T)]) := by
    intro T ls hT hl
    refine lv_istore_n (lv' := [(2, .int (nI T)), (1, .ref (s.heap.size + 0)), (0, .ref b)]) K.1.1 K.1.2.1 dL_law_26 rfl hl (by decide) rfl (fun ls hl => ?_)
    refine lv_iconst (v := 0) K.1.1 K.1.2.1 dL_law_27 (by decide) ?_
    refine lv_istore_n (lv' := [(3, .int 0), (2, .int (nI T)), (1, .ref (s.heap.size + 0)), (0, .ref b)]) K.1.1 K.1.2.1 dL_law_28 rfl hl (by decide) rfl (fun ls hl => ?_)
    refine lv_iconst (v := 0) K.1.1 K.1.2.1 dL_law_29 (by decide) ?_
    refine lv_istore (lv' := [(4, .int 0), (3, .int 0), (2, .int (nI T)), (1, .ref (s.heap.size + 0)), (0, .ref b)]) K.1.1 K.1.2.1 dL_law_30 hl (by decide) rfl (fun ls hl => ?_)
    refine W.widen (k := 259 + 300 * 0) (n := 2448 + 1800 * 0) (by decide) (by decide) ?_
    exact law_loop I K (st_ND hts) hfl hr hlocks rfl hX hbl hL hT (HT G s.heap.size) T 0 0 H locs ls mu0 (Nat.zero_add _) hI0 hP hS hl
  refine lv_aload_n K0.1.1 K0.1.2.1 dL_law_8 rfl (lv_at hl 1 rfl) ?_
  refine va_slen K0.1.1 K0.1.2.1 hX hbl hbA hS dL_law_9 ?_
  refine lv_iconst (v := 3) K0.1.1 K0.1.2.1 dL_law_10 (by decide) ?_
  refine lv_idiv K0.1.1 K0.1.2.1 dL_law_11 (by decide) ?_
  refine lv_bipush (v := 36) K0.1.1 K0.1.2.1 dL_law_12 (by decide) ?_
  refine lv_icmp_ge (tgt := 24) K0.1.1 K0.1.2.1 dL_law_14 (by decide) (fun c9 => ?_) (fun c9 => ?_)
  · refine lv_bipush (v := 36) K0.1.1 K0.1.2.1 dL_law_24 (by decide) ?_
    exact h26 36 ls (Nat.le_refl _) hl
  · refine lv_aload_n K0.1.1 K0.1.2.1 dL_law_17 rfl (lv_at hl 1 rfl) ?_
    refine va_slen K0.1.1 K0.1.2.1 hX hbl hbA hS dL_law_18 ?_
    refine lv_iconst (v := 3) K0.1.1 K0.1.2.1 dL_law_19 (by decide) ?_
    refine lv_idiv K0.1.1 K0.1.2.1 dL_law_20 (by decide) ?_
    refine lv_goto (tgt := 26) K0.1.1 K0.1.2.1 dL_law_21 (by decide) ?_
    have e3 : (Int32.ofNat L / 3 : Int32) = nI (L / 3) := nI_div (a := L) (b := 3) (by omega) (by decide)
    rw [e3] at c9 ⊢
    exact h26 (L / 3) ls (Nat.le_of_not_lt fun z => c9 (nI_le (a := 36) (b := L / 3) (by omega) (by omega))) hl
