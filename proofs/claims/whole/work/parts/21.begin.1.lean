noncomputable section
/-- the memory that the makers leave -/
def mu0 : Mm := fun k i =>
  if k = 1 ∨ k = 41 ∨ k = 94 ∨ k = 134 ∨ k = 174 ∨ k = 214 then (if i = 3 then 5 else if i = 4 then 3 else if i = 9 then -10000 else 0)
  else if k = 254 then (if i = 1 then -1 else if i = 5 then -1 else 0)
  else if k = 260 then (if i = 3 then 5 else if i = 4 then 3 else if i = 8 then -10000 else 0)
  else 0
def ce1 (G : GG) (B k : Nat) : va_E :=
  if k = 93 then .inl (G.2.2.1, 4, .inr (.inr (.inr (.inr (va_up (va_up (va_up (va_up (fun _ => none) 0 (some (B + 94))) 1 (some (B + 134))) 2 (some (B + 174))) 3 (some (B + 214)))))))
  else if k = 260 then .inl (G.2.1, 267, .inl (upd (upd (upd (fun _ => 0) 3 5) 4 3) 8 (-10000)))
  else ce G B k (mu0 k)
set_option maxHeartbeats 4000000 in
set_option maxRecDepth 100000 in
theorem made_eq (G : GG) (B : Nat) : booksE G B 0 ++ modelE G B 259 = (List.range 265).map (ce1 G B) := by rfl
theorem made_MP {G : GG} {B : Nat} {H : Heap} {e : va_E} (h : HB G B (booksE G B 0 ++ modelE G B 259 ++ [e]) H) : MP G B mu0 H := by
  intro k q hk
  obtain ⟨hk2, rfl⟩ := mL_of hk
  have hL : (booksE G B 0 ++ modelE G B 259 ++ [e])[k]? = some (ce1 G B k) := by
    rw [made_eq, List.getElem?_append_left (by simpa using hk2)]
    simp [hk2]
  have h1 := h.1 k (B + k, ce1 G B k) (by rw [pl_get, hL]; rfl)
  by_cases h93 : k = 93
  · subst h93
    show H[B + 93]? = some (vp_cell G.2.2.1 (4, .inr (.inr (.inr (.inr (fun i => some (B + (94 + 40 * i))))))))
    have h1 : H[B + 93]? = some (vp_cell G.2.2.1 (4, .inr (.inr (.inr (.inr (va_up (va_up (va_up (va_up (fun _ => none) 0 (some (B + 94))) 1 (some (B + 134))) 2 (some (B + 174))) 3 (some (B + 214)))))))) := h1
    rw [h1, vp_cell_q, vp_cell_q]
    refine congrArg some (arrV_congr fun i hi => ?_)
    rcases (show i = 0 ∨ i = 1 ∨ i = 2 ∨ i = 3 by omega) with rfl | rfl | rfl | rfl <;> rfl
  · by_cases h260 : k = 260
    · subst h260
      show H[B + 260]? = some (vp_cell G.2.1 (267, .inl (mu0 260)))
      have h1 : H[B + 260]? = some (vp_cell G.2.1 (267, .inl (upd (upd (upd (fun _ => 0) 3 5) 4 3) 8 (-10000)))) := h1
      rw [h1]
      have e : upd (upd (upd (fun _ => (0 : Int32)) 3 5) 4 3) 8 (-10000) = mu0 260 := by
        funext i
        simp only [upd, mu0]
        by_cases c8 : i = 8
        · subst c8; simp
        · by_cases c4 : i = 4
          · subst c4; simp
          · by_cases c3 : i = 3
            · subst c3; simp
            · simp [c8, c4, c3]
      rw [e]
    · unfold ce1 at h1
      rw [if_neg h93, if_neg h260] at h1
      exact h1
set_option maxHeartbeats 4000000 in
set_option maxRecDepth 100000 in
theorem st_K {s : State} {args : Array Value} (hts : ∀ w ∈ lw_tbl, w.before args s = true) : ∃ (dg : va_G) (cI cQ : ClassId), ∀ ad : Nat → Nat, va_K dg vwCl (tyL (dg, cI, cQ, ad)) s := by
  have h0 : ∀ w ∈ TBL, w.before args s = true := fun w h => hts w (List.mem_filter.mp h).1
  obtain ⟨c0, i0, k0⟩ := u_known (C := RX1) (T := TX1) (N := 11) h0 tuX1 (h0 _ q_115)
  obtain ⟨c1, i1, k1⟩ := u_known (C := RX2) (T := TX2) (N := 12) h0 tuX2 (h0 _ q_286)
  obtain ⟨c2, i2, k2⟩ := u_known (C := RX3) (T := TX3) (N := 6) h0 tuX3 (h0 _ q_358)
  obtain ⟨c3, i3, k3⟩ := u_known (C := RX4) (T := TX4) (N := 7) h0 tuX4 (h0 _ q_174)
  obtain ⟨c4, i4, k4⟩ := u_known (C := RX5) (T := TX5) (N := 1) h0 tuX5 (h0 _ q_127)
  obtain ⟨c5, i5, k5⟩ := u_known (C := RX6) (T := TX6) (N := 8) h0 tuX6 (h0 _ q_121)
  obtain ⟨c6, i6, k6⟩ := u_known (C := RX7) (T := TX7) (N := 6) h0 tuX7 (h0 _ q_216)
  obtain ⟨c7, i7, k7⟩ := u_known (C := RX8) (T := TX8) (N := 3) h0 tuX8 (h0 _ q_338)
  obtain ⟨c8, i8, k8⟩ := u_known (C := RX9) (T := TX9) (N := 0) h0 (fun w h => absurd (show w ∈ [] from h) List.not_mem_nil) (h0 _ q_454)
  obtain ⟨c9, i9, k9⟩ := u_known (C := RX10) (T := TX10) (N := 5) h0 tuX10 (h0 _ q_107)
  obtain ⟨c10, i10, k10⟩ := u_known (C := RX11) (T := TX11) (N := 14) h0 tuX11 (h0 _ q_1145)
  obtain ⟨cI, kI, cpI, a1, a2, a3⟩ := Cond.arrayClass_spec (h0 _ q_136)
  obtain ⟨cpQ, cQ, kQ, b1, b2, b3, b4, b5⟩ := Cond.arrayOver_spec (n := "ShadedBooks$Auction") (hts _ (lt_mem 344 (by decide +kernel)))
  refine ⟨(fun c => [c0, c1, c2, c3, c4, c5, c6, c7, c8, c9, c10].getD c c0, fun c => [i0, i1, i2, i3, i4, i5, i6, i7, i8, i9, i10].getD c i0), cI, cQ, fun ad => ⟨fun c q hc => ?_, fun k q hk => ?_⟩⟩
  · have hc2 : c < 11 := (List.getElem?_eq_some_iff.mp hc).1
    rcases (show c = 0 ∨ c = 1 ∨ c = 2 ∨ c = 3 ∨ c = 4 ∨ c = 5 ∨ c = 6 ∨ c = 7 ∨ c = 8 ∨ c = 9 ∨ c = 10 by omega) with rfl | rfl | rfl | rfl | rfl | rfl | rfl | rfl | rfl | rfl | rfl <;> (cases hc; assumption)
  · have hk2 : k < 2 := (List.getElem?_eq_some_iff.mp hk).1
    rcases (show k = 0 ∨ k = 1 by omega) with rfl | rfl
    · cases hk
      exact ⟨fun n z => ⟨fun k h => (by cases h), kI, a2, cpI, a3⟩, a1⟩
    · cases hk
      exact ⟨fun n z => ⟨fun k h => (by cases h), kQ, b3, cpQ, b4⟩, kQ, cpQ, b3, b4, b1, b5⟩
set_option maxHeartbeats 4000000 in
set_option maxRecDepth 100000 in
theorem law_begin {p : Program} {e : Env} {s : State} {m : MethodId} {below : List Frame} {meth : Method} {c : Code} (l : Launch) {b L : Nat} {xs : Nat → Int32} (hL : L ≤ 2048) (C0 : lw_At p s m meth c b L xs) (I : Nat → Mm → Prop) (hm : ∀ k μ, I k μ → I (k + 1) μ) (hI0 : I 0 mu0) (op0 : ∀ (G : GG) (B : Nat) (cL : ClassId) (k : Nat) (μ : Mm) (x : Int64) (p0 : Int32) (p1 : Int32), k < 512 → I k μ → OPC_addTrader l G B cL (I (k + 1)) μ x p0 p1) (op1 : ∀ (G : GG) (B : Nat) (cL : ClassId) (k : Nat) (μ : Mm) (x : Int64) (p0 : Int32) (p1 : Int32), k < 512 → I k μ → OPC_setValue l G B cL (I (k + 1)) μ x p0 p1) (op2 : ∀ (G : GG) (B : Nat) (cL : ClassId) (k : Nat) (μ : Mm) (x : Int64) (p0 : Int32) (p1 : Int32) (p2 : Int32), k < 512 → I k μ → OPC_setShade l G B cL (I (k + 1)) μ x p0 p1 p2) (op3 : ∀ (G : GG) (B : Nat) (cL : ClassId) (k : Nat) (μ : Mm) (x : Int64) (p0 : Int32) (p1 : Int32), k < 512 → I k μ → OPC_set l G B cL (I (k + 1)) μ x p0 p1) (op4 : ∀ (G : GG) (B : Nat) (cL : ClassId) (k : Nat) (μ : Mm) (x : Int64) (p0 : Int32) (p1 : Int32), k < 512 → I k μ → OPC_bid l G B cL (I (k + 1)) μ x p0 p1) (op5 : ∀ (G : GG) (B : Nat) (cL : ClassId) (k : Nat) (μ : Mm) (x : Int64) (p0 : Int32) (p1 : Int32) (p2 : Int32), k < 512 → I k μ → OPC_order l G B cL (I (k + 1)) μ x p0 p1 p2) (op6 : ∀ (G : GG) (B : Nat) (cL : ClassId) (k : Nat) (μ : Mm) (x : Int64) (p0 : Int32), k < 512 → I k μ → OPC_cancel l G B cL (I (k + 1)) μ x p0) (op7 : ∀ (G : GG) (B : Nat) (cL : ClassId) (k : Nat) (μ : Mm) (x : Int64), k < 512 → I k μ → OPC_clear l G B cL (I (k + 1)) μ x) (op8 : ∀ (G : GG) (B : Nat) (cL : ClassId) (k : Nat) (μ : Mm) (x : Int64) (p0 : Int32) (p1 : Int32), k < 512 → I k μ → OPC_trader l G B cL (I (k + 1)) μ x p0 p1) (op9 : ∀ (G : GG) (B : Nat) (cL : ClassId) (k : Nat) (μ : Mm) (x : Int64) (p0 : Int32) (p1 : Int32), k < 512 → I k μ → OPC_orderOf l G B cL (I (k + 1)) μ x p0 p1) (op10 : ∀ (G : GG) (B : Nat) (cL : ClassId) (k : Nat) (μ : Mm) (x : Int64) (p0 : Int32) (p1 : Int32), k < 512 → I k μ → OPC_trade l G B cL (I (k + 1)) μ x p0 p1) (op11 : ∀ (G : GG) (B : Nat) (cL : ClassId) (k : Nat) (μ : Mm) (x : Int64) (p0 : Int32) (p1 : Int32), k < 512 → I k μ → OPC_at l G B cL (I (k + 1)) μ x p0 p1) (op12 : ∀ (G : GG) (B : Nat) (cL : ClassId) (k : Nat) (μ : Mm) (x : Int64) (p0 : Int32), k < 512 → I k μ → OPC_now l G B cL (I (k + 1)) μ x p0) (op13 : ∀ (G : GG) (B : Nat) (cL : ClassId) (k : Nat) (μ : Mm) (x : Int64) (p0 : Int32), k < 512 → I k μ → OPC_whole l G B cL (I (k + 1)) μ x p0) (op14 : ∀ (G : GG) (B : Nat) (cL : ClassId) (k : Nat) (μ : Mm) (x : Int64) (p0 : Int32), k < 512 → I k μ → OPC_filled l G B cL (I (k + 1)) μ x p0) (op15 : ∀ (G : GG) (B : Nat) (cL : ClassId) (k : Nat) (μ : Mm) (x : Int64) (p0 : Int32), k < 512 → I k μ → OPC_reason l G B cL (I (k + 1)) μ x p0) (op16 : ∀ (G : GG) (B : Nat) (cL : ClassId) (k : Nat) (μ : Mm) (x : Int64) (p0 : Int32) (p1 : Int32), k < 512 → I k μ → OPC_gainWith l G B cL (I (k + 1)) μ x p0 p1) (op17 : ∀ (G : GG) (B : Nat) (cL : ClassId) (k : Nat) (μ : Mm) (x : Int64) (p0 : Int32), k < 512 → I k μ → OPC_bestShade l G B cL (I (k + 1)) μ x p0) (op18 : ∀ (G : GG) (B : Nat) (cL : ClassId) (k : Nat) (μ : Mm) (x : Int64) (p0 : Int32), k < 512 → I k μ → OPC_bestSplit l G B cL (I (k + 1)) μ x p0) (op19 : ∀ (G : GG) (B : Nat) (cL : ClassId) (k : Nat) (μ : Mm) (x : Int64) (p0 : Int32), k < 512 → I k μ → OPC_goneIn l G B cL (I (k + 1)) μ x p0) (op20 : ∀ (G : GG) (B : Nat) (cL : ClassId) (k : Nat) (μ : Mm) (x : Int64) (p0 : Int32), k < 512 → I k μ → OPC_type l G B cL (I (k + 1)) μ x p0) (op21 : ∀ (G : GG) (B : Nat) (k : Nat) (μ : Mm), k < 512 → I k μ → OPC_clearCommands l G B (I (k + 1)) μ) (op22 : ∀ (G : GG) (B : Nat) (k : Nat) (μ : Mm), k < 512 → I k μ → OPC_runCommands l G B (I (k + 1)) μ) (op23 : ∀ (G : GG) (B : Nat) (cL : ClassId) (k : Nat) (μ : Mm) (x : Int64), k < 512 → I k μ → OPC_undo l G B cL (I (k + 1)) μ x) (op24 : ∀ (G : GG) (B : Nat) (k : Nat) (μ : Mm), k < 512 → I k μ → OPC_digest l G B (I (k + 1)) μ) : W p l e room_1 s m #[Value.ref b] below meth c s.heap [] 0 0 (lw_Z below #[Value.ref b] s) (entryFrame m ([Value.ref b] : List Value).toArray 7) := by
  obtain ⟨hx, hb, hr, hml, hown, hts, hX, hbl, hlocks, hgv⟩ := C0
  have h0 : ∀ w ∈ TBL, w.before #[Value.ref b] s = true := fun w h => hts w (List.mem_filter.mp h).1
  have h1 : ∀ w ∈ (Cond.arrayClass .int :: TBL), w.before #[Value.ref b] s = true := fun w h => (List.mem_cons.mp h).elim (fun e => e ▸ h0 _ q_136) (h0 w)
  obtain ⟨dg, cI, cQ, hK1⟩ := st_K hts
  obtain ⟨ad, hN⟩ := st_NW hts hgv dg cI cQ
  obtain ⟨G, hG⟩ : ∃ G : GG, G = (dg, cI, cQ, ad) := ⟨_, rfl⟩
  have hK : va_K G.1 vwCl (tyL G) s := by rw [hG]; exact hK1 ad
  have hN : NW G s.heap.size s s.heap := by rw [hG]; exact hN
  have F : CallFix p m c cL_law 7 s #[Value.ref b] (Cond.arrayClass .int :: TBL) RL := ⟨hx, hb, hml, hown, h1⟩
  have K0 : KZ p m c cL_law 7 s #[Value.ref b] (Cond.arrayClass .int) RL G := ⟨F, hK, st_NZ hts⟩
  have hl := lv_entry ([Value.ref b]) (n := 7) (Nat.le_of_ble_eq_true rfl)
  rw [lg_entry_eq]
  generalize (lg_sl ([Value.ref b]) ++ List.replicate (7 - (lg_sl ([Value.ref b])).length) Slot.unset).toArray = ls at hl ⊢
  have hl : lv_has ls 7 [(0, .ref b)] := hl
  have hS : va_S (AB s.heap.size) s.heap s.heap [] := va_S.rf
  have hH : HB G s.heap.size [] s.heap := ⟨fun k q hk => absurd (pl_at hk).1 (Nat.not_lt_zero k), rfl⟩
  refine k_new (ci := 9) (fs := [.null, .null, .null, .null, .null]) (N := 5) (n := 0) K0 hH hS rfl tuX10 tyX10 tyX10_ok q_106 q_107 q_82 rfl (fun j hj => by rcases (show j = 0 ∨ j = 1 ∨ j = 2 ∨ j = 3 ∨ j = 4 by omega) with rfl | rfl | rfl | rfl | rfl <;> rfl) (Nat.le_of_ble_eq_true rfl) (Nat.le_of_ble_eq_true rfl) dL_law_0 (fun H hH hS => ?_)
  refine lv_dup K0.1.1 K0.1.2.1 dL_law_3 rfl ?_
  refine k_cI (n := 0) (As := []) (rest := [.ref (s.heap.size + 0)]) (b := s.heap.size + 0) K0 hH hS (N10_init l G _ ([]) 0 (by rfl)) q_108 q_109 q_82 q_110 rfl ⟨hv_X10_init.2.1, hv_X10_init.2.2.1, hv_X10_init.2.2.2⟩ ⟨Nat.le_of_ble_eq_true rfl, Nat.le_of_ble_eq_true rfl⟩ rfl hl.1 rfl (Nat.le_of_ble_eq_true rfl) dL_law_4 ⟨Nat.le_of_ble_eq_true rfl, Nat.le_of_ble_eq_true rfl⟩ (fun H locs hH hS => ?_)
  refine lv_astore_n (lv' := [(1, .ref (s.heap.size + 0)), (0, .ref b)]) K0.1.1 K0.1.2.1 dL_law_7 rfl hl (by decide) rfl (fun ls hl => ?_)
  refine k_new (ci := 10) (fs := [.null, .null, .int 0, .int 0, .int 0, .int 0, .int 0, .int 0, .null, .int 0, .int 0, .int 0, .null, .null]) (N := 14) (n := 259) K0 hH hS (by rfl) tuX11 tyX11 tyX11_ok q_1144 q_1145 q_91 rfl (fun j hj => by rcases (show j = 0 ∨ j = 1 ∨ j = 2 ∨ j = 3 ∨ j = 4 ∨ j = 5 ∨ j = 6 ∨ j = 7 ∨ j = 8 ∨ j = 9 ∨ j = 10 ∨ j = 11 ∨ j = 12 ∨ j = 13 by omega) with rfl | rfl | rfl | rfl | rfl | rfl | rfl | rfl | rfl | rfl | rfl | rfl | rfl | rfl <;> rfl) (Nat.le_of_ble_eq_true rfl) (Nat.le_of_ble_eq_true rfl) dL_law_8 (fun H hH hS => ?_)
  refine lv_dup K0.1.1 K0.1.2.1 dL_law_11 rfl ?_
  refine k_cI (n := 0) (As := []) (rest := [.ref (s.heap.size + 259)]) (b := s.heap.size + 259) K0 hH hS (N11_init l G _ ([] ++ booksE G s.heap.size 0) 259 (by rfl)) q_1146 q_1147 q_91 q_1148 rfl ⟨hv_X11_init.2.1, hv_X11_init.2.2.1, hv_X11_init.2.2.2⟩ ⟨Nat.le_of_ble_eq_true rfl, Nat.le_of_ble_eq_true rfl⟩ rfl hl.1 rfl (Nat.le_of_ble_eq_true rfl) dL_law_12 ⟨Nat.le_of_ble_eq_true rfl, Nat.le_of_ble_eq_true rfl⟩ (fun H locs hH hS => ?_)
  refine lv_astore_n (lv' := [(2, .ref (s.heap.size + 259)), (1, .ref (s.heap.size + 0)), (0, .ref b)]) K0.1.1 K0.1.2.1 dL_law_15 rfl hl (by decide) rfl (fun ls hl => ?_)
  refine lv_iconst (v := 1) K0.1.1 K0.1.2.1 dL_law_16 (by decide) ?_
  have hH : HB G s.heap.size (booksE G s.heap.size 0 ++ modelE G s.heap.size 259) H := hH
  have hlen : (booksE G s.heap.size 0 ++ modelE G s.heap.size 259).length = 265 := by rw [made_eq]; simp
  have hz : H.size = s.heap.size + 265 := by rw [hH.2, hlen]
  refine va_newaK (atype := .long) K0.1.1 K0.1.2.1 (h0 _ q_1549) rfl dL_law_17 rfl (by decide) (N := 1) rfl (by decide) (Nat.le_of_ble_eq_true rfl) (Nat.le_of_ble_eq_true rfl) hz fun H1 cL e1 z1 o1 hAr hNm => ?_
  have hP1 : HB G s.heap.size (booksE G s.heap.size 0 ++ modelE G s.heap.size 259 ++ [.inl (cL, 1, .inr (.inl (fun _ => 0)))]) H1 := hH.push (by rw [z1, hlen]) (fun q hq => o1 q (by rw [hlen] at hq; exact hq)) (by
    show H1[s.heap.size + (booksE G s.heap.size 0 ++ modelE G s.heap.size 259).length]? = some (vp_cell _ _)
    rw [hlen, e1]
    rfl)
  have hOM : OM G s.heap.size cL mu0 0 H1 := ⟨made_MP hP1, by rw [e1]; rfl⟩
  have hS1 : va_S (AA s.heap.size) s.heap H1 [] := ⟨by rw [z1]; omega, fun q h2 _ => (o1 q (by omega)).trans (hS.2.1 q h2 (fun z => by have h9 : s.heap.size ≤ q := z; omega)), fun _ h => by cases h⟩
  refine va_forget (fun q hq => hS.2.2 q hq) ?_
  refine W.eq (g2 := F0 m 19 ls [.ref (s.heap.size + 265)]) rfl ?_
  refine lv_astore_n (lv' := [(3, .ref (s.heap.size + 265)), (2, .ref (s.heap.size + 259)), (1, .ref (s.heap.size + 0)), (0, .ref b)]) K0.1.1 K0.1.2.1 dL_law_19 rfl hl (by decide) rfl (fun ls hl => ?_)
  refine lv_iconst (v := 0) K0.1.1 K0.1.2.1 dL_law_20 (by decide) ?_
  refine lv_istore (lv' := [(4, .int 0), (3, .ref (s.heap.size + 265)), (2, .ref (s.heap.size + 259)), (1, .ref (s.heap.size + 0)), (0, .ref b)]) K0.1.1 K0.1.2.1 dL_law_21 hl (by decide) rfl (fun ls hl => ?_)
  exact law_loop I hm hL ⟨F, hK, hN⟩ hr hlocks (st_ND hts) hAr rfl hX hbl (op0 G _ cL) (op1 G _ cL) (op2 G _ cL) (op3 G _ cL) (op4 G _ cL) (op5 G _ cL) (op6 G _ cL) (op7 G _ cL) (op8 G _ cL) (op9 G _ cL) (op10 G _ cL) (op11 G _ cL) (op12 G _ cL) (op13 G _ cL) (op14 G _ cL) (op15 G _ cL) (op16 G _ cL) (op17 G _ cL) (op18 G _ cL) (op19 G _ cL) (op20 G _ cL) (op21 G _) (op22 G _) (op23 G _ cL) (op24 G _) (L / 4) 0 H1 ls mu0 0 (Nat.zero_add _) hI0 hOM hS1 (lv_sub hl [3, 2, 1, 4, 0] rfl)
end
