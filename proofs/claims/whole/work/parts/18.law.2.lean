set_option maxHeartbeats 4000000 in
set_option maxRecDepth 100000 in
theorem law_order {p : Program} {l : Launch} {e : Env} {s : State} {m : MethodId} {args : Array Value} {below : List Frame} {meth : Method} {c : Code} {H : Heap} {cells slots : Nat} {Q : State → Prop} {ls : Array Slot} {G : GG} {B b L : Nat} {cL : ClassId} {μ : Mm} {x : Int64} {c1 : Cond} {xs : Nat → Int32} {i : Int32} (I : Mm → Prop) (K : KK p m c cL_law 7 s args c1 RL G B) (hD : ND s) (hA : ArrOfT s cL .long) (hB : s.heap.size = B) (hX : va_X b L xs s s.heap) (hbl : b < s.heap.size) (hP : OM G B cL μ x H) (hS : va_S (AA B) s.heap H []) (hl : lv_has ls 7 [(1, .ref (B + 0)), (2, .ref (B + 259)), (3, .ref (B + 265)), (0, .ref b), (4, .int i)]) (hr1 : vp_in (i + 1) L) (hr2 : vp_in (i + 2) L) (hr3 : vp_in (i + 3) L) (hop : OPC_order l G B cL I μ x (xs (i + 1).toNatClampNeg) (xs (i + 2).toNatClampNeg) (xs (i + 3).toNatClampNeg)) (hc : cells + 1 ≤ 601024 ∧ slots + 6 ≤ 7293034) (kk : ∀ (H1 : Heap) (ls1 : Array Slot) (μ1 : Mm) (x1 : Int64), I μ1 → OM G B cL μ1 x1 H1 → va_S (AA B) s.heap H1 [] → lv_has ls1 7 [(1, .ref (B + 0)), (2, .ref (B + 259)), (3, .ref (B + 265)), (0, .ref b), (4, .int i)] → W p l e room_1 s m args below meth c H1 [] (cells + 1) (slots + 6) Q (F0 m 1556 ls1 [])) : W p l e room_1 s m args below meth c H [] cells slots Q (F0 m 504 ls []) := by
  obtain ⟨k, v, μ1, μ2, x1, h1, h2, hk, hx, hI⟩ := hop
  refine lv_aload_n K.1.1 K.1.2.1 dL_law_504 rfl (lv_at hl 0 rfl) ?_
  refine lv_aload_n K.1.1 K.1.2.1 dL_law_505 rfl (lv_at hl 3 rfl) ?_
  refine lv_iload K.1.1 K.1.2.1 dL_law_506 (lv_at hl 4 rfl) ?_
  refine lv_iconst (v := 1) K.1.1 K.1.2.1 dL_law_508 (by decide) ?_
  refine lv_iadd K.1.1 K.1.2.1 dL_law_509 ?_
  refine va_sld K.1.1 K.1.2.1 hX hbl (fun z => by have h9 : B ≤ b := z.1; omega) hS hr1 dL_law_510 ?_
  refine lv_aload_n K.1.1 K.1.2.1 dL_law_511 rfl (lv_at hl 3 rfl) ?_
  refine lv_iload K.1.1 K.1.2.1 dL_law_512 (lv_at hl 4 rfl) ?_
  refine lv_iconst (v := 2) K.1.1 K.1.2.1 dL_law_514 (by decide) ?_
  refine lv_iadd K.1.1 K.1.2.1 dL_law_515 ?_
  refine va_sld K.1.1 K.1.2.1 hX hbl (fun z => by have h9 : B ≤ b := z.1; omega) hS hr2 dL_law_516 ?_
  refine lv_aload_n K.1.1 K.1.2.1 dL_law_517 rfl (lv_at hl 3 rfl) ?_
  refine lv_iload K.1.1 K.1.2.1 dL_law_518 (lv_at hl 4 rfl) ?_
  refine lv_iconst (v := 3) K.1.1 K.1.2.1 dL_law_520 (by decide) ?_
  refine lv_iadd K.1.1 K.1.2.1 dL_law_521 ?_
  refine va_sld K.1.1 K.1.2.1 hX hbl (fun z => by have h9 : B ≤ b := z.1; omega) hS hr3 dL_law_522 ?_
  refine lv_aload_n K.1.1 K.1.2.1 dL_law_523 rfl (lv_at hl 2 rfl) ?_
  refine w_cS (n := 5) (As := [.ref (B + 0), .int (xs (i + 1).toNatClampNeg), .int (xs (i + 2).toNatClampNeg), .int (xs (i + 3).toNatClampNeg), .ref (B + 265)]) (rest := []) K hD hA hB hP hS h1 q_968 q_969 q_81 q_970 hv_L_order.2 ⟨Nat.le_of_ble_eq_true rfl, Nat.le_of_ble_eq_true rfl⟩ rfl hl.1 rfl (Nat.le_of_ble_eq_true rfl) dL_law_524 ⟨by show _ ≤ 601024; omega, by show _ ≤ 7293034; omega⟩ (fun H hP hS => ?_)
  refine lv_istore (lv' := [(5, .int k), (1, .ref (B + 0)), (2, .ref (B + 259)), (3, .ref (B + 265)), (0, .ref b), (4, .int i)]) K.1.1 K.1.2.1 dL_law_527 hl (by decide) rfl (fun ls hl => ?_)
  refine lv_aload_n K.1.1 K.1.2.1 dL_law_529 rfl (lv_at hl 2 rfl) ?_
  refine lv_aload_n K.1.1 K.1.2.1 dL_law_530 rfl (lv_at hl 4 rfl) ?_
  refine lv_iload K.1.1 K.1.2.1 dL_law_531 (lv_at hl 5 rfl) ?_
  refine lv_iconst (v := 1) K.1.1 K.1.2.1 dL_law_533 (by decide) ?_
  refine lv_iadd K.1.1 K.1.2.1 dL_law_534 ?_
  refine va_sld K.1.1 K.1.2.1 hX hbl (fun z => by have h9 : B ≤ b := z.1; omega) hS hr1 dL_law_535 ?_
  refine lv_aload_n K.1.1 K.1.2.1 dL_law_536 rfl (lv_at hl 4 rfl) ?_
  refine lv_iload K.1.1 K.1.2.1 dL_law_537 (lv_at hl 5 rfl) ?_
  refine lv_iconst (v := 2) K.1.1 K.1.2.1 dL_law_539 (by decide) ?_
  refine lv_iadd K.1.1 K.1.2.1 dL_law_540 ?_
  refine va_sld K.1.1 K.1.2.1 hX hbl (fun z => by have h9 : B ≤ b := z.1; omega) hS hr2 dL_law_541 ?_
  refine lv_aload_n K.1.1 K.1.2.1 dL_law_542 rfl (lv_at hl 4 rfl) ?_
  refine lv_iload K.1.1 K.1.2.1 dL_law_543 (lv_at hl 5 rfl) ?_
  refine lv_iconst (v := 3) K.1.1 K.1.2.1 dL_law_545 (by decide) ?_
  refine lv_iadd K.1.1 K.1.2.1 dL_law_546 ?_
  refine va_sld K.1.1 K.1.2.1 hX hbl (fun z => by have h9 : B ≤ b := z.1; omega) hS hr3 dL_law_547 ?_
  refine w_cV (n := 3) (As := [.int (xs (i + 1).toNatClampNeg), .int (xs (i + 2).toNatClampNeg), .int (xs (i + 3).toNatClampNeg)]) (rest := []) (k := 259) K hB hP hS h2 (by decide) sh_259 rfl q_1295 q_1296 q_1297 q_91 q_1298 hv_X11_order ⟨Nat.le_of_ble_eq_true rfl, Nat.le_of_ble_eq_true rfl⟩ rfl hl.1 rfl (Nat.le_of_ble_eq_true rfl) dL_law_548 ⟨by show _ ≤ 601024; omega, by show _ ≤ 7293034; omega⟩ (fun H hP hS => ?_)
  refine lv_topi (fun v1 ev => ?_)
  refine lv_istore (lv' := [(6, .int v1), (5, .int k), (1, .ref (B + 0)), (2, .ref (B + 259)), (3, .ref (B + 265)), (0, .ref b), (4, .int i)]) K.1.1 K.1.2.1 dL_law_551 hl (by decide) rfl (fun ls hl => ?_)
  refine lv_aload_n K.1.1 K.1.2.1 dL_law_553 rfl (lv_at hl 3 rfl) ?_
  refine w_cV (n := 0) (As := []) (rest := []) (k := 259) K hB hP hS (MX11_thrown l G B μ2) (by decide) sh_259 rfl q_1193 q_1194 q_1195 q_91 q_1196 hv_X11_thrown ⟨Nat.le_of_ble_eq_true rfl, Nat.le_of_ble_eq_true rfl⟩ rfl hl.1 rfl (Nat.le_of_ble_eq_true rfl) dL_law_554 ⟨by show _ ≤ 601024; omega, by show _ ≤ 7293034; omega⟩ (fun H hP hS => ?_)
  refine lv_topi (fun t1 et => ?_)
  refine lv_iload K.1.1 K.1.2.1 dL_law_557 (lv_at hl 1 rfl) ?_
  refine lv_icmp_eq (tgt := 564) K.1.1 K.1.2.1 dL_law_559 (by decide) (fun c => ?_) (fun c => absurd (et.trans hk) c)
  refine lv_iload K.1.1 K.1.2.1 dL_law_564 (lv_at hl 1 rfl) ?_
  refine lv_if_ne (tgt := 581) K.1.1 K.1.2.1 dL_law_566 (by decide) (fun c0 => ?_) (fun c0 => ?_)
  · refine lv_goto (tgt := 1556) K.1.1 K.1.2.1 dL_law_581 (by decide) ?_
    exact kk H _ μ2 x1 hI hP hS (lv_sub hl [2, 3, 4, 5, 6] rfl)
  · refine lv_aload_n K.1.1 K.1.2.1 dL_law_569 rfl (lv_at hl 4 rfl) ?_
    refine lv_iconst (v := 0) K.1.1 K.1.2.1 dL_law_570 (by decide) ?_
    refine w_lald K hA hP dL_law_571 ?_
    refine lv_iload K.1.1 K.1.2.1 dL_law_572 (lv_at hl 0 rfl) ?_
    refine lv_i2l K.1.1 K.1.2.1 dL_law_574 rfl ?_
    refine W.lcmp K.1.1 K.1.2.1 dL_law_575 ?_
    refine lv_if_eq (tgt := 581) K.1.1 K.1.2.1 dL_law_576 (by decide) (fun c => ?_) (fun c => absurd (by rw [hx c0, ev]; exact cmp_rfl _) c)
    refine lv_goto (tgt := 1556) K.1.1 K.1.2.1 dL_law_581 (by decide) ?_
    exact kk H _ μ2 x1 hI hP hS (lv_sub hl [2, 3, 4, 5, 6] rfl)

def OPC_cancel (l : Launch) (G : GG) (B : Nat) (cL : ClassId) (I : Mm → Prop) (μ : Mm) (x : Int64) (p0 : Int32) : Prop :=
  ∃ (k v : Int32) (μ1 μ2 : Mm) (x1 : Int64), LM l yL_cancel (.codeWith yL_cancel cL_cancel 4 (Option.some FieldType.int) [(0, 9, 12, 20)]) 8 131 1 6 G B cL [.ref (B + 0), .int p0, .ref (B + 265)] μ x k μ1 x1 ∧ CM l yX11_cancel (.code yX11_cancel cX11_cancel 2 (Option.some FieldType.int)) 2 44 G B [.ref (B + 259), .int p0] μ1 (some (.int v)) μ2 ∧ μ2 259 3 = k ∧ (k = 0 → x1 = v.toInt64) ∧ I μ2
set_option maxHeartbeats 4000000 in
set_option maxRecDepth 100000 in
theorem law_cancel {p : Program} {l : Launch} {e : Env} {s : State} {m : MethodId} {args : Array Value} {below : List Frame} {meth : Method} {c : Code} {H : Heap} {cells slots : Nat} {Q : State → Prop} {ls : Array Slot} {G : GG} {B b L : Nat} {cL : ClassId} {μ : Mm} {x : Int64} {c1 : Cond} {xs : Nat → Int32} {i : Int32} (I : Mm → Prop) (K : KK p m c cL_law 7 s args c1 RL G B) (hD : ND s) (hA : ArrOfT s cL .long) (hB : s.heap.size = B) (hX : va_X b L xs s s.heap) (hbl : b < s.heap.size) (hP : OM G B cL μ x H) (hS : va_S (AA B) s.heap H []) (hl : lv_has ls 7 [(1, .ref (B + 0)), (2, .ref (B + 259)), (3, .ref (B + 265)), (0, .ref b), (4, .int i)]) (hr1 : vp_in (i + 1) L) (hop : OPC_cancel l G B cL I μ x (xs (i + 1).toNatClampNeg)) (hc : cells + 1 ≤ 601024 ∧ slots + 6 ≤ 7293034) (kk : ∀ (H1 : Heap) (ls1 : Array Slot) (μ1 : Mm) (x1 : Int64), I μ1 → OM G B cL μ1 x1 H1 → va_S (AA B) s.heap H1 [] → lv_has ls1 7 [(1, .ref (B + 0)), (2, .ref (B + 259)), (3, .ref (B + 265)), (0, .ref b), (4, .int i)] → W p l e room_1 s m args below meth c H1 [] (cells + 1) (slots + 6) Q (F0 m 1556 ls1 [])) : W p l e room_1 s m args below meth c H [] cells slots Q (F0 m 584 ls []) := by
  obtain ⟨k, v, μ1, μ2, x1, h1, h2, hk, hx, hI⟩ := hop
  refine lv_aload_n K.1.1 K.1.2.1 dL_law_584 rfl (lv_at hl 0 rfl) ?_
  refine lv_aload_n K.1.1 K.1.2.1 dL_law_585 rfl (lv_at hl 3 rfl) ?_
  refine lv_iload K.1.1 K.1.2.1 dL_law_586 (lv_at hl 4 rfl) ?_
  refine lv_iconst (v := 1) K.1.1 K.1.2.1 dL_law_588 (by decide) ?_
  refine lv_iadd K.1.1 K.1.2.1 dL_law_589 ?_
  refine va_sld K.1.1 K.1.2.1 hX hbl (fun z => by have h9 : B ≤ b := z.1; omega) hS hr1 dL_law_590 ?_
  refine lv_aload_n K.1.1 K.1.2.1 dL_law_591 rfl (lv_at hl 2 rfl) ?_
  refine w_cS (n := 3) (As := [.ref (B + 0), .int (xs (i + 1).toNatClampNeg), .ref (B + 265)]) (rest := []) K hD hA hB hP hS h1 q_975 q_976 q_81 q_977 hv_L_cancel.2 ⟨Nat.le_of_ble_eq_true rfl, Nat.le_of_ble_eq_true rfl⟩ rfl hl.1 rfl (Nat.le_of_ble_eq_true rfl) dL_law_592 ⟨by show _ ≤ 601024; omega, by show _ ≤ 7293034; omega⟩ (fun H hP hS => ?_)
  refine lv_istore (lv' := [(5, .int k), (1, .ref (B + 0)), (2, .ref (B + 259)), (3, .ref (B + 265)), (0, .ref b), (4, .int i)]) K.1.1 K.1.2.1 dL_law_595 hl (by decide) rfl (fun ls hl => ?_)
  refine lv_aload_n K.1.1 K.1.2.1 dL_law_597 rfl (lv_at hl 2 rfl) ?_
  refine lv_aload_n K.1.1 K.1.2.1 dL_law_598 rfl (lv_at hl 4 rfl) ?_
  refine lv_iload K.1.1 K.1.2.1 dL_law_599 (lv_at hl 5 rfl) ?_
  refine lv_iconst (v := 1) K.1.1 K.1.2.1 dL_law_601 (by decide) ?_
  refine lv_iadd K.1.1 K.1.2.1 dL_law_602 ?_
  refine va_sld K.1.1 K.1.2.1 hX hbl (fun z => by have h9 : B ≤ b := z.1; omega) hS hr1 dL_law_603 ?_
  refine w_cV (n := 1) (As := [.int (xs (i + 1).toNatClampNeg)]) (rest := []) (k := 259) K hB hP hS h2 (by decide) sh_259 rfl q_1299 q_1300 q_1301 q_91 q_1302 hv_X11_cancel ⟨Nat.le_of_ble_eq_true rfl, Nat.le_of_ble_eq_true rfl⟩ rfl hl.1 rfl (Nat.le_of_ble_eq_true rfl) dL_law_604 ⟨by show _ ≤ 601024; omega, by show _ ≤ 7293034; omega⟩ (fun H hP hS => ?_)
  refine lv_topi (fun v1 ev => ?_)
  refine lv_istore (lv' := [(6, .int v1), (5, .int k), (1, .ref (B + 0)), (2, .ref (B + 259)), (3, .ref (B + 265)), (0, .ref b), (4, .int i)]) K.1.1 K.1.2.1 dL_law_607 hl (by decide) rfl (fun ls hl => ?_)
  refine lv_aload_n K.1.1 K.1.2.1 dL_law_609 rfl (lv_at hl 3 rfl) ?_
  refine w_cV (n := 0) (As := []) (rest := []) (k := 259) K hB hP hS (MX11_thrown l G B μ2) (by decide) sh_259 rfl q_1193 q_1194 q_1195 q_91 q_1196 hv_X11_thrown ⟨Nat.le_of_ble_eq_true rfl, Nat.le_of_ble_eq_true rfl⟩ rfl hl.1 rfl (Nat.le_of_ble_eq_true rfl) dL_law_610 ⟨by show _ ≤ 601024; omega, by show _ ≤ 7293034; omega⟩ (fun H hP hS => ?_)
  refine lv_topi (fun t1 et => ?_)
  refine lv_iload K.1.1 K.1.2.1 dL_law_613 (lv_at hl 1 rfl) ?_
  refine lv_icmp_eq (tgt := 620) K.1.1 K.1.2.1 dL_law_615 (by decide) (fun c => ?_) (fun c => absurd (et.trans hk) c)
  refine lv_iload K.1.1 K.1.2.1 dL_law_620 (lv_at hl 1 rfl) ?_
  refine lv_if_ne (tgt := 637) K.1.1 K.1.2.1 dL_law_622 (by decide) (fun c0 => ?_) (fun c0 => ?_)
  · refine lv_goto (tgt := 1556) K.1.1 K.1.2.1 dL_law_637 (by decide) ?_
    exact kk H _ μ2 x1 hI hP hS (lv_sub hl [2, 3, 4, 5, 6] rfl)
  · refine lv_aload_n K.1.1 K.1.2.1 dL_law_625 rfl (lv_at hl 4 rfl) ?_
    refine lv_iconst (v := 0) K.1.1 K.1.2.1 dL_law_626 (by decide) ?_
    refine w_lald K hA hP dL_law_627 ?_
    refine lv_iload K.1.1 K.1.2.1 dL_law_628 (lv_at hl 0 rfl) ?_
    refine lv_i2l K.1.1 K.1.2.1 dL_law_630 rfl ?_
    refine W.lcmp K.1.1 K.1.2.1 dL_law_631 ?_
    refine lv_if_eq (tgt := 637) K.1.1 K.1.2.1 dL_law_632 (by decide) (fun c => ?_) (fun c => absurd (by rw [hx c0, ev]; exact cmp_rfl _) c)
    refine lv_goto (tgt := 1556) K.1.1 K.1.2.1 dL_law_637 (by decide) ?_
    exact kk H _ μ2 x1 hI hP hS (lv_sub hl [2, 3, 4, 5, 6] rfl)

def OPC_clear (l : Launch) (G : GG) (B : Nat) (cL : ClassId) (I : Mm → Prop) (μ : Mm) (x : Int64) : Prop :=
  ∃ (k v : Int32) (μ1 μ2 : Mm) (x1 : Int64), LM l yL_clear (.codeWith yL_clear cL_clear 3 (Option.some FieldType.int) [(0, 8, 11, 15)]) 8 134 1 6 G B cL [.ref (B + 0), .ref (B + 265)] μ x k μ1 x1 ∧ CM l yX11_clear (.code yX11_clear cX11_clear 1 (Option.some FieldType.int)) 7 166 G B [.ref (B + 259)] μ1 (some (.int v)) μ2 ∧ μ2 259 3 = k ∧ (k = 0 → x1 = v.toInt64) ∧ I μ2
set_option maxHeartbeats 4000000 in
set_option maxRecDepth 100000 in
theorem law_clear {p : Program} {l : Launch} {e : Env} {s : State} {m : MethodId} {args : Array Value} {below : List Frame} {meth : Method} {c : Code} {H : Heap} {cells slots : Nat} {Q : State → Prop} {ls : Array Slot} {G : GG} {B b L : Nat} {cL : ClassId} {μ : Mm} {x : Int64} {c1 : Cond} {xs : Nat → Int32} {i : Int32} (I : Mm → Prop) (K : KK p m c cL_law 7 s args c1 RL G B) (hD : ND s) (hA : ArrOfT s cL .long) (hB : s.heap.size = B) (hX : va_X b L xs s s.heap) (hbl : b < s.heap.size) (hP : OM G B cL μ x H) (hS : va_S (AA B) s.heap H []) (hl : lv_has ls 7 [(1, .ref (B + 0)), (2, .ref (B + 259)), (3, .ref (B + 265)), (0, .ref b), (4, .int i)]) (hop : OPC_clear l G B cL I μ x) (hc : cells + 1 ≤ 601024 ∧ slots + 6 ≤ 7293034) (kk : ∀ (H1 : Heap) (ls1 : Array Slot) (μ1 : Mm) (x1 : Int64), I μ1 → OM G B cL μ1 x1 H1 → va_S (AA B) s.heap H1 [] → lv_has ls1 7 [(1, .ref (B + 0)), (2, .ref (B + 259)), (3, .ref (B + 265)), (0, .ref b), (4, .int i)] → W p l e room_1 s m args below meth c H1 [] (cells + 1) (slots + 6) Q (F0 m 1556 ls1 [])) : W p l e room_1 s m args below meth c H [] cells slots Q (F0 m 640 ls []) := by
  obtain ⟨k, v, μ1, μ2, x1, h1, h2, hk, hx, hI⟩ := hop
  refine lv_aload_n K.1.1 K.1.2.1 dL_law_640 rfl (lv_at hl 0 rfl) ?_
  refine lv_aload_n K.1.1 K.1.2.1 dL_law_641 rfl (lv_at hl 2 rfl) ?_
  refine w_cS (n := 2) (As := [.ref (B + 0), .ref (B + 265)]) (rest := []) K hD hA hB hP hS h1 q_982 q_983 q_81 q_984 hv_L_clear.2 ⟨Nat.le_of_ble_eq_true rfl, Nat.le_of_ble_eq_true rfl⟩ rfl hl.1 rfl (Nat.le_of_ble_eq_true rfl) dL_law_642 ⟨by show _ ≤ 601024; omega, by show _ ≤ 7293034; omega⟩ (fun H hP hS => ?_)
  refine lv_istore (lv' := [(5, .int k), (1, .ref (B + 0)), (2, .ref (B + 259)), (3, .ref (B + 265)), (0, .ref b), (4, .int i)]) K.1.1 K.1.2.1 dL_law_645 hl (by decide) rfl (fun ls hl => ?_)
  refine lv_aload_n K.1.1 K.1.2.1 dL_law_647 rfl (lv_at hl 2 rfl) ?_
  refine w_cV (n := 0) (As := []) (rest := []) (k := 259) K hB hP hS h2 (by decide) sh_259 rfl q_1315 q_1316 q_1317 q_91 q_1318 hv_X11_clear ⟨Nat.le_of_ble_eq_true rfl, Nat.le_of_ble_eq_true rfl⟩ rfl hl.1 rfl (Nat.le_of_ble_eq_true rfl) dL_law_648 ⟨by show _ ≤ 601024; omega, by show _ ≤ 7293034; omega⟩ (fun H hP hS => ?_)
  refine lv_topi (fun v1 ev => ?_)
  refine lv_istore (lv' := [(6, .int v1), (5, .int k), (1, .ref (B + 0)), (2, .ref (B + 259)), (3, .ref (B + 265)), (0, .ref b), (4, .int i)]) K.1.1 K.1.2.1 dL_law_651 hl (by decide) rfl (fun ls hl => ?_)
  refine lv_aload_n K.1.1 K.1.2.1 dL_law_653 rfl (lv_at hl 3 rfl) ?_
  refine w_cV (n := 0) (As := []) (rest := []) (k := 259) K hB hP hS (MX11_thrown l G B μ2) (by decide) sh_259 rfl q_1193 q_1194 q_1195 q_91 q_1196 hv_X11_thrown ⟨Nat.le_of_ble_eq_true rfl, Nat.le_of_ble_eq_true rfl⟩ rfl hl.1 rfl (Nat.le_of_ble_eq_true rfl) dL_law_654 ⟨by show _ ≤ 601024; omega, by show _ ≤ 7293034; omega⟩ (fun H hP hS => ?_)
  refine lv_topi (fun t1 et => ?_)
  refine lv_iload K.1.1 K.1.2.1 dL_law_657 (lv_at hl 1 rfl) ?_
  refine lv_icmp_eq (tgt := 664) K.1.1 K.1.2.1 dL_law_659 (by decide) (fun c => ?_) (fun c => absurd (et.trans hk) c)
  refine lv_iload K.1.1 K.1.2.1 dL_law_664 (lv_at hl 1 rfl) ?_
  refine lv_if_ne (tgt := 681) K.1.1 K.1.2.1 dL_law_666 (by decide) (fun c0 => ?_) (fun c0 => ?_)
  · refine lv_goto (tgt := 1556) K.1.1 K.1.2.1 dL_law_681 (by decide) ?_
    exact kk H _ μ2 x1 hI hP hS (lv_sub hl [2, 3, 4, 5, 6] rfl)
  · refine lv_aload_n K.1.1 K.1.2.1 dL_law_669 rfl (lv_at hl 4 rfl) ?_
    refine lv_iconst (v := 0) K.1.1 K.1.2.1 dL_law_670 (by decide) ?_
    refine w_lald K hA hP dL_law_671 ?_
    refine lv_iload K.1.1 K.1.2.1 dL_law_672 (lv_at hl 0 rfl) ?_
    refine lv_i2l K.1.1 K.1.2.1 dL_law_674 rfl ?_
    refine W.lcmp K.1.1 K.1.2.1 dL_law_675 ?_
    refine lv_if_eq (tgt := 681) K.1.1 K.1.2.1 dL_law_676 (by decide) (fun c => ?_) (fun c => absurd (by rw [hx c0, ev]; exact cmp_rfl _) c)
    refine lv_goto (tgt := 1556) K.1.1 K.1.2.1 dL_law_681 (by decide) ?_
    exact kk H _ μ2 x1 hI hP hS (lv_sub hl [2, 3, 4, 5, 6] rfl)

def OPC_trader (l : Launch) (G : GG) (B : Nat) (cL : ClassId) (I : Mm → Prop) (μ : Mm) (x : Int64) (p0 : Int32) (p1 : Int32) : Prop :=
  ∃ (k v : Int32) (μ1 μ2 : Mm) (x1 : Int64), LM l yL_trader (.codeWith yL_trader cL_trader 5 (Option.some FieldType.int) [(0, 10, 13, 20), (0, 10, 17, 13)]) 8 132 1 6 G B cL [.ref (B + 0), .int p0, .int p1, .ref (B + 265)] μ x k μ1 x1 ∧ CM l yX11_trader (.code yX11_trader cX11_trader 3 (Option.some FieldType.int)) 4 90 G B [.ref (B + 259), .int p0, .int p1] μ1 (some (.int v)) μ2 ∧ μ2 259 3 = k ∧ (k = 0 → x1 = v.toInt64) ∧ I μ2
set_option maxHeartbeats 4000000 in
set_option maxRecDepth 100000 in
theorem law_trader {p : Program} {l : Launch} {e : Env} {s : State} {m : MethodId} {args : Array Value} {below : List Frame} {meth : Method} {c : Code} {H : Heap} {cells slots : Nat} {Q : State → Prop} {ls : Array Slot} {G : GG} {B b L : Nat} {cL : ClassId} {μ : Mm} {x : Int64} {c1 : Cond} {xs : Nat → Int32} {i : Int32} (I : Mm → Prop) (K : KK p m c cL_law 7 s args c1 RL G B) (hD : ND s) (hA : ArrOfT s cL .long) (hB : s.heap.size = B) (hX : va_X b L xs s s.heap) (hbl : b < s.heap.size) (hP : OM G B cL μ x H) (hS : va_S (AA B) s.heap H []) (hl : lv_has ls 7 [(1, .ref (B + 0)), (2, .ref (B + 259)), (3, .ref (B + 265)), (0, .ref b), (4, .int i)]) (hr1 : vp_in (i + 1) L) (hr2 : vp_in (i + 2) L) (hop : OPC_trader l G B cL I μ x (xs (i + 1).toNatClampNeg) (xs (i + 2).toNatClampNeg)) (hc : cells + 1 ≤ 601024 ∧ slots + 6 ≤ 7293034) (kk : ∀ (H1 : Heap) (ls1 : Array Slot) (μ1 : Mm) (x1 : Int64), I μ1 → OM G B cL μ1 x1 H1 → va_S (AA B) s.heap H1 [] → lv_has ls1 7 [(1, .ref (B + 0)), (2, .ref (B + 259)), (3, .ref (B + 265)), (0, .ref b), (4, .int i)] → W p l e room_1 s m args below meth c H1 [] (cells + 1) (slots + 6) Q (F0 m 1556 ls1 [])) : W p l e room_1 s m args below meth c H [] cells slots Q (F0 m 684 ls []) := by
  obtain ⟨k, v, μ1, μ2, x1, h1, h2, hk, hx, hI⟩ := hop
  refine lv_aload_n K.1.1 K.1.2.1 dL_law_684 rfl (lv_at hl 0 rfl) ?_
  refine lv_aload_n K.1.1 K.1.2.1 dL_law_685 rfl (lv_at hl 3 rfl) ?_
  refine lv_iload K.1.1 K.1.2.1 dL_law_686 (lv_at hl 4 rfl) ?_
  refine lv_iconst (v := 1) K.1.1 K.1.2.1 dL_law_688 (by decide) ?_
  refine lv_iadd K.1.1 K.1.2.1 dL_law_689 ?_
  refine va_sld K.1.1 K.1.2.1 hX hbl (fun z => by have h9 : B ≤ b := z.1; omega) hS hr1 dL_law_690 ?_
  refine lv_aload_n K.1.1 K.1.2.1 dL_law_691 rfl (lv_at hl 3 rfl) ?_
  refine lv_iload K.1.1 K.1.2.1 dL_law_692 (lv_at hl 4 rfl) ?_
  refine lv_iconst (v := 2) K.1.1 K.1.2.1 dL_law_694 (by decide) ?_
  refine lv_iadd K.1.1 K.1.2.1 dL_law_695 ?_
  refine va_sld K.1.1 K.1.2.1 hX hbl (fun z => by have h9 : B ≤ b := z.1; omega) hS hr2 dL_law_696 ?_
  refine lv_aload_n K.1.1 K.1.2.1 dL_law_697 rfl (lv_at hl 2 rfl) ?_
  refine w_cS (n := 4) (As := [.ref (B + 0), .int (xs (i + 1).toNatClampNeg), .int (xs (i + 2).toNatClampNeg), .ref (B + 265)]) (rest := []) K hD hA hB hP hS h1 q_989 q_990 q_81 q_991 hv_L_trader.2 ⟨Nat.le_of_ble_eq_true rfl, Nat.le_of_ble_eq_true rfl⟩ rfl hl.1 rfl (Nat.le_of_ble_eq_true rfl) dL_law_698 ⟨by show _ ≤ 601024; omega, by show _ ≤ 7293034; omega⟩ (fun H hP hS => ?_)
  refine lv_istore (lv' := [(5, .int k), (1, .ref (B + 0)), (2, .ref (B + 259)), (3, .ref (B + 265)), (0, .ref b), (4, .int i)]) K.1.1 K.1.2.1 dL_law_701 hl (by decide) rfl (fun ls hl => ?_)
  refine lv_aload_n K.1.1 K.1.2.1 dL_law_703 rfl (lv_at hl 2 rfl) ?_
  refine lv_aload_n K.1.1 K.1.2.1 dL_law_704 rfl (lv_at hl 4 rfl) ?_
  refine lv_iload K.1.1 K.1.2.1 dL_law_705 (lv_at hl 5 rfl) ?_
  refine lv_iconst (v := 1) K.1.1 K.1.2.1 dL_law_707 (by decide) ?_
  refine lv_iadd K.1.1 K.1.2.1 dL_law_708 ?_
  refine va_sld K.1.1 K.1.2.1 hX hbl (fun z => by have h9 : B ≤ b := z.1; omega) hS hr1 dL_law_709 ?_
  refine lv_aload_n K.1.1 K.1.2.1 dL_law_710 rfl (lv_at hl 4 rfl) ?_
  refine lv_iload K.1.1 K.1.2.1 dL_law_711 (lv_at hl 5 rfl) ?_
  refine lv_iconst (v := 2) K.1.1 K.1.2.1 dL_law_713 (by decide) ?_
  refine lv_iadd K.1.1 K.1.2.1 dL_law_714 ?_
  refine va_sld K.1.1 K.1.2.1 hX hbl (fun z => by have h9 : B ≤ b := z.1; omega) hS hr2 dL_law_715 ?_
  refine w_cV (n := 2) (As := [.int (xs (i + 1).toNatClampNeg), .int (xs (i + 2).toNatClampNeg)]) (rest := []) (k := 259) K hB hP hS h2 (by decide) sh_259 rfl q_1399 q_1400 q_1401 q_91 q_1402 hv_X11_trader ⟨Nat.le_of_ble_eq_true rfl, Nat.le_of_ble_eq_true rfl⟩ rfl hl.1 rfl (Nat.le_of_ble_eq_true rfl) dL_law_716 ⟨by show _ ≤ 601024; omega, by show _ ≤ 7293034; omega⟩ (fun H hP hS => ?_)
  refine lv_topi (fun v1 ev => ?_)
  refine lv_istore (lv' := [(6, .int v1), (5, .int k), (1, .ref (B + 0)), (2, .ref (B + 259)), (3, .ref (B + 265)), (0, .ref b), (4, .int i)]) K.1.1 K.1.2.1 dL_law_719 hl (by decide) rfl (fun ls hl => ?_)
  refine lv_aload_n K.1.1 K.1.2.1 dL_law_721 rfl (lv_at hl 3 rfl) ?_
  refine w_cV (n := 0) (As := []) (rest := []) (k := 259) K hB hP hS (MX11_thrown l G B μ2) (by decide) sh_259 rfl q_1193 q_1194 q_1195 q_91 q_1196 hv_X11_thrown ⟨Nat.le_of_ble_eq_true rfl, Nat.le_of_ble_eq_true rfl⟩ rfl hl.1 rfl (Nat.le_of_ble_eq_true rfl) dL_law_722 ⟨by show _ ≤ 601024; omega, by show _ ≤ 7293034; omega⟩ (fun H hP hS => ?_)
  refine lv_topi (fun t1 et => ?_)
  refine lv_iload K.1.1 K.1.2.1 dL_law_725 (lv_at hl 1 rfl) ?_
  refine lv_icmp_eq (tgt := 732) K.1.1 K.1.2.1 dL_law_727 (by decide) (fun c => ?_) (fun c => absurd (et.trans hk) c)
  refine lv_iload K.1.1 K.1.2.1 dL_law_732 (lv_at hl 1 rfl) ?_
  refine lv_if_ne (tgt := 749) K.1.1 K.1.2.1 dL_law_734 (by decide) (fun c0 => ?_) (fun c0 => ?_)
  · refine lv_goto (tgt := 1556) K.1.1 K.1.2.1 dL_law_749 (by decide) ?_
    exact kk H _ μ2 x1 hI hP hS (lv_sub hl [2, 3, 4, 5, 6] rfl)
  · refine lv_aload_n K.1.1 K.1.2.1 dL_law_737 rfl (lv_at hl 4 rfl) ?_
    refine lv_iconst (v := 0) K.1.1 K.1.2.1 dL_law_738 (by decide) ?_
    refine w_lald K hA hP dL_law_739 ?_
    refine lv_iload K.1.1 K.1.2.1 dL_law_740 (lv_at hl 0 rfl) ?_
    refine lv_i2l K.1.1 K.1.2.1 dL_law_742 rfl ?_
    refine W.lcmp K.1.1 K.1.2.1 dL_law_743 ?_
    refine lv_if_eq (tgt := 749) K.1.1 K.1.2.1 dL_law_744 (by decide) (fun c => ?_) (fun c => absurd (by rw [hx c0, ev]; exact cmp_rfl _) c)
    refine lv_goto (tgt := 1556) K.1.1 K.1.2.1 dL_law_749 (by decide) ?_
    exact kk H _ μ2 x1 hI hP hS (lv_sub hl [2, 3, 4, 5, 6] rfl)

def OPC_orderOf (l : Launch) (G : GG) (B : Nat) (cL : ClassId) (I : Mm → Prop) (μ : Mm) (x : Int64) (p0 : Int32) (p1 : Int32) : Prop :=
  ∃ (k v : Int32) (μ1 μ2 : Mm) (x1 : Int64), LM l yL_orderOf (.codeWith yL_orderOf cL_orderOf 5 (Option.some FieldType.int) [(0, 10, 13, 20), (0, 10, 17, 13)]) 8 132 1 6 G B cL [.ref (B + 0), .int p0, .int p1, .ref (B + 265)] μ x k μ1 x1 ∧ CM l yX11_orderOf (.code yX11_orderOf cX11_orderOf 3 (Option.some FieldType.int)) 5 113 G B [.ref (B + 259), .int p0, .int p1] μ1 (some (.int v)) μ2 ∧ μ2 259 3 = k ∧ (k = 0 → x1 = v.toInt64) ∧ I μ2
set_option maxHeartbeats 4000000 in
set_option maxRecDepth 100000 in
theorem law_orderOf {p : Program} {l : Launch} {e : Env} {s : State} {m : MethodId} {args : Array Value} {below : List Frame} {meth : Method} {c : Code} {H : Heap} {cells slots : Nat} {Q : State → Prop} {ls : Array Slot} {G : GG} {B b L : Nat} {cL : ClassId} {μ : Mm} {x : Int64} {c1 : Cond} {xs : Nat → Int32} {i : Int32} (I : Mm → Prop) (K : KK p m c cL_law 7 s args c1 RL G B) (hD : ND s) (hA : ArrOfT s cL .long) (hB : s.heap.size = B) (hX : va_X b L xs s s.heap) (hbl : b < s.heap.size) (hP : OM G B cL μ x H) (hS : va_S (AA B) s.heap H []) (hl : lv_has ls 7 [(1, .ref (B + 0)), (2, .ref (B + 259)), (3, .ref (B + 265)), (0, .ref b), (4, .int i)]) (hr1 : vp_in (i + 1) L) (hr2 : vp_in (i + 2) L) (hop : OPC_orderOf l G B cL I μ x (xs (i + 1).toNatClampNeg) (xs (i + 2).toNatClampNeg)) (hc : cells + 1 ≤ 601024 ∧ slots + 6 ≤ 7293034) (kk : ∀ (H1 : Heap) (ls1 : Array Slot) (μ1 : Mm) (x1 : Int64), I μ1 → OM G B cL μ1 x1 H1 → va_S (AA B) s.heap H1 [] → lv_has ls1 7 [(1, .ref (B + 0)), (2, .ref (B + 259)), (3, .ref (B + 265)), (0, .ref b), (4, .int i)] → W p l e room_1 s m args below meth c H1 [] (cells + 1) (slots + 6) Q (F0 m 1556 ls1 [])) : W p l e room_1 s m args below meth c H [] cells slots Q (F0 m 752 ls []) := by
  obtain ⟨k, v, μ1, μ2, x1, h1, h2, hk, hx, hI⟩ := hop
  refine lv_aload_n K.1.1 K.1.2.1 dL_law_752 rfl (lv_at hl 0 rfl) ?_
  refine lv_aload_n K.1.1 K.1.2.1 dL_law_753 rfl (lv_at hl 3 rfl) ?_
  refine lv_iload K.1.1 K.1.2.1 dL_law_754 (lv_at hl 4 rfl) ?_
  refine lv_iconst (v := 1) K.1.1 K.1.2.1 dL_law_756 (by decide) ?_
  refine lv_iadd K.1.1 K.1.2.1 dL_law_757 ?_
  refine va_sld K.1.1 K.1.2.1 hX hbl (fun z => by have h9 : B ≤ b := z.1; omega) hS hr1 dL_law_758 ?_
  refine lv_aload_n K.1.1 K.1.2.1 dL_law_759 rfl (lv_at hl 3 rfl) ?_
  refine lv_iload K.1.1 K.1.2.1 dL_law_760 (lv_at hl 4 rfl) ?_
  refine lv_iconst (v := 2) K.1.1 K.1.2.1 dL_law_762 (by decide) ?_
  refine lv_iadd K.1.1 K.1.2.1 dL_law_763 ?_
  refine va_sld K.1.1 K.1.2.1 hX hbl (fun z => by have h9 : B ≤ b := z.1; omega) hS hr2 dL_law_764 ?_
  refine lv_aload_n K.1.1 K.1.2.1 dL_law_765 rfl (lv_at hl 2 rfl) ?_
  refine w_cS (n := 4) (As := [.ref (B + 0), .int (xs (i + 1).toNatClampNeg), .int (xs (i + 2).toNatClampNeg), .ref (B + 265)]) (rest := []) K hD hA hB hP hS h1 q_1005 q_1006 q_81 q_1007 hv_L_orderOf.2 ⟨Nat.le_of_ble_eq_true rfl, Nat.le_of_ble_eq_true rfl⟩ rfl hl.1 rfl (Nat.le_of_ble_eq_true rfl) dL_law_766 ⟨by show _ ≤ 601024; omega, by show _ ≤ 7293034; omega⟩ (fun H hP hS => ?_)
  refine lv_istore (lv' := [(5, .int k), (1, .ref (B + 0)), (2, .ref (B + 259)), (3, .ref (B + 265)), (0, .ref b), (4, .int i)]) K.1.1 K.1.2.1 dL_law_769 hl (by decide) rfl (fun ls hl => ?_)
  refine lv_aload_n K.1.1 K.1.2.1 dL_law_771 rfl (lv_at hl 2 rfl) ?_
  refine lv_aload_n K.1.1 K.1.2.1 dL_law_772 rfl (lv_at hl 4 rfl) ?_
  refine lv_iload K.1.1 K.1.2.1 dL_law_773 (lv_at hl 5 rfl) ?_
  refine lv_iconst (v := 1) K.1.1 K.1.2.1 dL_law_775 (by decide) ?_
  refine lv_iadd K.1.1 K.1.2.1 dL_law_776 ?_
  refine va_sld K.1.1 K.1.2.1 hX hbl (fun z => by have h9 : B ≤ b := z.1; omega) hS hr1 dL_law_777 ?_
  refine lv_aload_n K.1.1 K.1.2.1 dL_law_778 rfl (lv_at hl 4 rfl) ?_
  refine lv_iload K.1.1 K.1.2.1 dL_law_779 (lv_at hl 5 rfl) ?_
  refine lv_iconst (v := 2) K.1.1 K.1.2.1 dL_law_781 (by decide) ?_
  refine lv_iadd K.1.1 K.1.2.1 dL_law_782 ?_
  refine va_sld K.1.1 K.1.2.1 hX hbl (fun z => by have h9 : B ≤ b := z.1; omega) hS hr2 dL_law_783 ?_
  refine w_cV (n := 2) (As := [.int (xs (i + 1).toNatClampNeg), .int (xs (i + 2).toNatClampNeg)]) (rest := []) (k := 259) K hB hP hS h2 (by decide) sh_259 rfl q_1411 q_1412 q_1413 q_91 q_1414 hv_X11_orderOf ⟨Nat.le_of_ble_eq_true rfl, Nat.le_of_ble_eq_true rfl⟩ rfl hl.1 rfl (Nat.le_of_ble_eq_true rfl) dL_law_784 ⟨by show _ ≤ 601024; omega, by show _ ≤ 7293034; omega⟩ (fun H hP hS => ?_)
  refine lv_topi (fun v1 ev => ?_)
  refine lv_istore (lv' := [(6, .int v1), (5, .int k), (1, .ref (B + 0)), (2, .ref (B + 259)), (3, .ref (B + 265)), (0, .ref b), (4, .int i)]) K.1.1 K.1.2.1 dL_law_787 hl (by decide) rfl (fun ls hl => ?_)
  refine lv_aload_n K.1.1 K.1.2.1 dL_law_789 rfl (lv_at hl 3 rfl) ?_
  refine w_cV (n := 0) (As := []) (rest := []) (k := 259) K hB hP hS (MX11_thrown l G B μ2) (by decide) sh_259 rfl q_1193 q_1194 q_1195 q_91 q_1196 hv_X11_thrown ⟨Nat.le_of_ble_eq_true rfl, Nat.le_of_ble_eq_true rfl⟩ rfl hl.1 rfl (Nat.le_of_ble_eq_true rfl) dL_law_790 ⟨by show _ ≤ 601024; omega, by show _ ≤ 7293034; omega⟩ (fun H hP hS => ?_)
  refine lv_topi (fun t1 et => ?_)
  refine lv_iload K.1.1 K.1.2.1 dL_law_793 (lv_at hl 1 rfl) ?_
  refine lv_icmp_eq (tgt := 800) K.1.1 K.1.2.1 dL_law_795 (by decide) (fun c => ?_) (fun c => absurd (et.trans hk) c)
  refine lv_iload K.1.1 K.1.2.1 dL_law_800 (lv_at hl 1 rfl) ?_
  refine lv_if_ne (tgt := 817) K.1.1 K.1.2.1 dL_law_802 (by decide) (fun c0 => ?_) (fun c0 => ?_)
  · refine lv_goto (tgt := 1556) K.1.1 K.1.2.1 dL_law_817 (by decide) ?_
    exact kk H _ μ2 x1 hI hP hS (lv_sub hl [2, 3, 4, 5, 6] rfl)
  · refine lv_aload_n K.1.1 K.1.2.1 dL_law_805 rfl (lv_at hl 4 rfl) ?_
    refine lv_iconst (v := 0) K.1.1 K.1.2.1 dL_law_806 (by decide) ?_
    refine w_lald K hA hP dL_law_807 ?_
    refine lv_iload K.1.1 K.1.2.1 dL_law_808 (lv_at hl 0 rfl) ?_
    refine lv_i2l K.1.1 K.1.2.1 dL_law_810 rfl ?_
    refine W.lcmp K.1.1 K.1.2.1 dL_law_811 ?_
    refine lv_if_eq (tgt := 817) K.1.1 K.1.2.1 dL_law_812 (by decide) (fun c => ?_) (fun c => absurd (by rw [hx c0, ev]; exact cmp_rfl _) c)
    refine lv_goto (tgt := 1556) K.1.1 K.1.2.1 dL_law_817 (by decide) ?_
    exact kk H _ μ2 x1 hI hP hS (lv_sub hl [2, 3, 4, 5, 6] rfl)

def OPC_trade (l : Launch) (G : GG) (B : Nat) (cL : ClassId) (I : Mm → Prop) (μ : Mm) (x : Int64) (p0 : Int32) (p1 : Int32) : Prop :=
  ∃ (k v : Int32) (μ1 μ2 : Mm) (x1 : Int64), LM l yL_trade (.codeWith yL_trade cL_trade 5 (Option.some FieldType.int) [(0, 10, 13, 13)]) 8 132 1 6 G B cL [.ref (B + 0), .int p0, .int p1, .ref (B + 265)] μ x k μ1 x1 ∧ CM l yX11_trade (.code yX11_trade cX11_trade 3 (Option.some FieldType.int)) 1 22 G B [.ref (B + 259), .int p0, .int p1] μ1 (some (.int v)) μ2 ∧ μ2 259 3 = k ∧ (k = 0 → x1 = v.toInt64) ∧ I μ2
set_option maxHeartbeats 4000000 in
set_option maxRecDepth 100000 in
theorem law_trade {p : Program} {l : Launch} {e : Env} {s : State} {m : MethodId} {args : Array Value} {below : List Frame} {meth : Method} {c : Code} {H : Heap} {cells slots : Nat} {Q : State → Prop} {ls : Array Slot} {G : GG} {B b L : Nat} {cL : ClassId} {μ : Mm} {x : Int64} {c1 : Cond} {xs : Nat → Int32} {i : Int32} (I : Mm → Prop) (K : KK p m c cL_law 7 s args c1 RL G B) (hD : ND s) (hA : ArrOfT s cL .long) (hB : s.heap.size = B) (hX : va_X b L xs s s.heap) (hbl : b < s.heap.size) (hP : OM G B cL μ x H) (hS : va_S (AA B) s.heap H []) (hl : lv_has ls 7 [(1, .ref (B + 0)), (2, .ref (B + 259)), (3, .ref (B + 265)), (0, .ref b), (4, .int i)]) (hr1 : vp_in (i + 1) L) (hr2 : vp_in (i + 2) L) (hop : OPC_trade l G B cL I μ x (xs (i + 1).toNatClampNeg) (xs (i + 2).toNatClampNeg)) (hc : cells + 1 ≤ 601024 ∧ slots + 6 ≤ 7293034) (kk : ∀ (H1 : Heap) (ls1 : Array Slot) (μ1 : Mm) (x1 : Int64), I μ1 → OM G B cL μ1 x1 H1 → va_S (AA B) s.heap H1 [] → lv_has ls1 7 [(1, .ref (B + 0)), (2, .ref (B + 259)), (3, .ref (B + 265)), (0, .ref b), (4, .int i)] → W p l e room_1 s m args below meth c H1 [] (cells + 1) (slots + 6) Q (F0 m 1556 ls1 [])) : W p l e room_1 s m args below meth c H [] cells slots Q (F0 m 820 ls []) := by
  obtain ⟨k, v, μ1, μ2, x1, h1, h2, hk, hx, hI⟩ := hop
  refine lv_aload_n K.1.1 K.1.2.1 dL_law_820 rfl (lv_at hl 0 rfl) ?_
  refine lv_aload_n K.1.1 K.1.2.1 dL_law_821 rfl (lv_at hl 3 rfl) ?_
  refine lv_iload K.1.1 K.1.2.1 dL_law_822 (lv_at hl 4 rfl) ?_
  refine lv_iconst (v := 1) K.1.1 K.1.2.1 dL_law_824 (by decide) ?_
  refine lv_iadd K.1.1 K.1.2.1 dL_law_825 ?_
  refine va_sld K.1.1 K.1.2.1 hX hbl (fun z => by have h9 : B ≤ b := z.1; omega) hS hr1 dL_law_826 ?_
  refine lv_aload_n K.1.1 K.1.2.1 dL_law_827 rfl (lv_at hl 3 rfl) ?_
  refine lv_iload K.1.1 K.1.2.1 dL_law_828 (lv_at hl 4 rfl) ?_
  refine lv_iconst (v := 2) K.1.1 K.1.2.1 dL_law_830 (by decide) ?_
  refine lv_iadd K.1.1 K.1.2.1 dL_law_831 ?_
  refine va_sld K.1.1 K.1.2.1 hX hbl (fun z => by have h9 : B ≤ b := z.1; omega) hS hr2 dL_law_832 ?_
  refine lv_aload_n K.1.1 K.1.2.1 dL_law_833 rfl (lv_at hl 2 rfl) ?_
  refine w_cS (n := 4) (As := [.ref (B + 0), .int (xs (i + 1).toNatClampNeg), .int (xs (i + 2).toNatClampNeg), .ref (B + 265)]) (rest := []) K hD hA hB hP hS h1 q_1013 q_1014 q_81 q_1015 hv_L_trade.2 ⟨Nat.le_of_ble_eq_true rfl, Nat.le_of_ble_eq_true rfl⟩ rfl hl.1 rfl (Nat.le_of_ble_eq_true rfl) dL_law_834 ⟨by show _ ≤ 601024; omega, by show _ ≤ 7293034; omega⟩ (fun H hP hS => ?_)
  refine lv_istore (lv' := [(5, .int k), (1, .ref (B + 0)), (2, .ref (B + 259)), (3, .ref (B + 265)), (0, .ref b), (4, .int i)]) K.1.1 K.1.2.1 dL_law_837 hl (by decide) rfl (fun ls hl => ?_)
  refine lv_aload_n K.1.1 K.1.2.1 dL_law_839 rfl (lv_at hl 2 rfl) ?_
  refine lv_aload_n K.1.1 K.1.2.1 dL_law_840 rfl (lv_at hl 4 rfl) ?_
  refine lv_iload K.1.1 K.1.2.1 dL_law_841 (lv_at hl 5 rfl) ?_
  refine lv_iconst (v := 1) K.1.1 K.1.2.1 dL_law_843 (by decide) ?_
  refine lv_iadd K.1.1 K.1.2.1 dL_law_844 ?_
  refine va_sld K.1.1 K.1.2.1 hX hbl (fun z => by have h9 : B ≤ b := z.1; omega) hS hr1 dL_law_845 ?_
  refine lv_aload_n K.1.1 K.1.2.1 dL_law_846 rfl (lv_at hl 4 rfl) ?_
  refine lv_iload K.1.1 K.1.2.1 dL_law_847 (lv_at hl 5 rfl) ?_
  refine lv_iconst (v := 2) K.1.1 K.1.2.1 dL_law_849 (by decide) ?_
  refine lv_iadd K.1.1 K.1.2.1 dL_law_850 ?_
  refine va_sld K.1.1 K.1.2.1 hX hbl (fun z => by have h9 : B ≤ b := z.1; omega) hS hr2 dL_law_851 ?_
  refine w_cV (n := 2) (As := [.int (xs (i + 1).toNatClampNeg), .int (xs (i + 2).toNatClampNeg)]) (rest := []) (k := 259) K hB hP hS h2 (by decide) sh_259 rfl q_1419 q_1420 q_1421 q_91 q_1422 hv_X11_trade ⟨Nat.le_of_ble_eq_true rfl, Nat.le_of_ble_eq_true rfl⟩ rfl hl.1 rfl (Nat.le_of_ble_eq_true rfl) dL_law_852 ⟨by show _ ≤ 601024; omega, by show _ ≤ 7293034; omega⟩ (fun H hP hS => ?_)
  refine lv_topi (fun v1 ev => ?_)
  refine lv_istore (lv' := [(6, .int v1), (5, .int k), (1, .ref (B + 0)), (2, .ref (B + 259)), (3, .ref (B + 265)), (0, .ref b), (4, .int i)]) K.1.1 K.1.2.1 dL_law_855 hl (by decide) rfl (fun ls hl => ?_)
  refine lv_aload_n K.1.1 K.1.2.1 dL_law_857 rfl (lv_at hl 3 rfl) ?_
  refine w_cV (n := 0) (As := []) (rest := []) (k := 259) K hB hP hS (MX11_thrown l G B μ2) (by decide) sh_259 rfl q_1193 q_1194 q_1195 q_91 q_1196 hv_X11_thrown ⟨Nat.le_of_ble_eq_true rfl, Nat.le_of_ble_eq_true rfl⟩ rfl hl.1 rfl (Nat.le_of_ble_eq_true rfl) dL_law_858 ⟨by show _ ≤ 601024; omega, by show _ ≤ 7293034; omega⟩ (fun H hP hS => ?_)
  refine lv_topi (fun t1 et => ?_)
  refine lv_iload K.1.1 K.1.2.1 dL_law_861 (lv_at hl 1 rfl) ?_
  refine lv_icmp_eq (tgt := 868) K.1.1 K.1.2.1 dL_law_863 (by decide) (fun c => ?_) (fun c => absurd (et.trans hk) c)
  refine lv_iload K.1.1 K.1.2.1 dL_law_868 (lv_at hl 1 rfl) ?_
  refine lv_if_ne (tgt := 885) K.1.1 K.1.2.1 dL_law_870 (by decide) (fun c0 => ?_) (fun c0 => ?_)
  · refine lv_goto (tgt := 1556) K.1.1 K.1.2.1 dL_law_885 (by decide) ?_
    exact kk H _ μ2 x1 hI hP hS (lv_sub hl [2, 3, 4, 5, 6] rfl)
  · refine lv_aload_n K.1.1 K.1.2.1 dL_law_873 rfl (lv_at hl 4 rfl) ?_
    refine lv_iconst (v := 0) K.1.1 K.1.2.1 dL_law_874 (by decide) ?_
    refine w_lald K hA hP dL_law_875 ?_
    refine lv_iload K.1.1 K.1.2.1 dL_law_876 (lv_at hl 0 rfl) ?_
    refine lv_i2l K.1.1 K.1.2.1 dL_law_878 rfl ?_
    refine W.lcmp K.1.1 K.1.2.1 dL_law_879 ?_
    refine lv_if_eq (tgt := 885) K.1.1 K.1.2.1 dL_law_880 (by decide) (fun c => ?_) (fun c => absurd (by rw [hx c0, ev]; exact cmp_rfl _) c)
    refine lv_goto (tgt := 1556) K.1.1 K.1.2.1 dL_law_885 (by decide) ?_
    exact kk H _ μ2 x1 hI hP hS (lv_sub hl [2, 3, 4, 5, 6] rfl)

def OPC_at (l : Launch) (G : GG) (B : Nat) (cL : ClassId) (I : Mm → Prop) (μ : Mm) (x : Int64) (p0 : Int32) (p1 : Int32) : Prop :=
  ∃ (k v : Int32) (μ1 μ2 : Mm) (x1 : Int64), LM l yL_at (.codeWith yL_at cL_at 5 (Option.some FieldType.int) [(0, 10, 13, 13)]) 8 132 1 6 G B cL [.ref (B + 0), .int p0, .int p1, .ref (B + 265)] μ x k μ1 x1 ∧ CM l yX11_at (.code yX11_at cX11_at 3 (Option.some FieldType.int)) 5 112 G B [.ref (B + 259), .int p0, .int p1] μ1 (some (.int v)) μ2 ∧ μ2 259 3 = k ∧ (k = 0 → x1 = v.toInt64) ∧ I μ2
set_option maxHeartbeats 4000000 in
set_option maxRecDepth 100000 in
theorem law_at {p : Program} {l : Launch} {e : Env} {s : State} {m : MethodId} {args : Array Value} {below : List Frame} {meth : Method} {c : Code} {H : Heap} {cells slots : Nat} {Q : State → Prop} {ls : Array Slot} {G : GG} {B b L : Nat} {cL : ClassId} {μ : Mm} {x : Int64} {c1 : Cond} {xs : Nat → Int32} {i : Int32} (I : Mm → Prop) (K : KK p m c cL_law 7 s args c1 RL G B) (hD : ND s) (hA : ArrOfT s cL .long) (hB : s.heap.size = B) (hX : va_X b L xs s s.heap) (hbl : b < s.heap.size) (hP : OM G B cL μ x H) (hS : va_S (AA B) s.heap H []) (hl : lv_has ls 7 [(1, .ref (B + 0)), (2, .ref (B + 259)), (3, .ref (B + 265)), (0, .ref b), (4, .int i)]) (hr1 : vp_in (i + 1) L) (hr2 : vp_in (i + 2) L) (hop : OPC_at l G B cL I μ x (xs (i + 1).toNatClampNeg) (xs (i + 2).toNatClampNeg)) (hc : cells + 1 ≤ 601024 ∧ slots + 6 ≤ 7293034) (kk : ∀ (H1 : Heap) (ls1 : Array Slot) (μ1 : Mm) (x1 : Int64), I μ1 → OM G B cL μ1 x1 H1 → va_S (AA B) s.heap H1 [] → lv_has ls1 7 [(1, .ref (B + 0)), (2, .ref (B + 259)), (3, .ref (B + 265)), (0, .ref b), (4, .int i)] → W p l e room_1 s m args below meth c H1 [] (cells + 1) (slots + 6) Q (F0 m 1556 ls1 [])) : W p l e room_1 s m args below meth c H [] cells slots Q (F0 m 888 ls []) := by
  obtain ⟨k, v, μ1, μ2, x1, h1, h2, hk, hx, hI⟩ := hop
  refine lv_aload_n K.1.1 K.1.2.1 dL_law_888 rfl (lv_at hl 0 rfl) ?_
  refine lv_aload_n K.1.1 K.1.2.1 dL_law_889 rfl (lv_at hl 3 rfl) ?_
  refine lv_iload K.1.1 K.1.2.1 dL_law_890 (lv_at hl 4 rfl) ?_
  refine lv_iconst (v := 1) K.1.1 K.1.2.1 dL_law_892 (by decide) ?_
  refine lv_iadd K.1.1 K.1.2.1 dL_law_893 ?_
  refine va_sld K.1.1 K.1.2.1 hX hbl (fun z => by have h9 : B ≤ b := z.1; omega) hS hr1 dL_law_894 ?_
  refine lv_aload_n K.1.1 K.1.2.1 dL_law_895 rfl (lv_at hl 3 rfl) ?_
  refine lv_iload K.1.1 K.1.2.1 dL_law_896 (lv_at hl 4 rfl) ?_
  refine lv_iconst (v := 2) K.1.1 K.1.2.1 dL_law_898 (by decide) ?_
  refine lv_iadd K.1.1 K.1.2.1 dL_law_899 ?_
  refine va_sld K.1.1 K.1.2.1 hX hbl (fun z => by have h9 : B ≤ b := z.1; omega) hS hr2 dL_law_900 ?_
  refine lv_aload_n K.1.1 K.1.2.1 dL_law_901 rfl (lv_at hl 2 rfl) ?_
  refine w_cS (n := 4) (As := [.ref (B + 0), .int (xs (i + 1).toNatClampNeg), .int (xs (i + 2).toNatClampNeg), .ref (B + 265)]) (rest := []) K hD hA hB hP hS h1 q_1020 q_1021 q_81 q_1022 hv_L_at.2 ⟨Nat.le_of_ble_eq_true rfl, Nat.le_of_ble_eq_true rfl⟩ rfl hl.1 rfl (Nat.le_of_ble_eq_true rfl) dL_law_902 ⟨by show _ ≤ 601024; omega, by show _ ≤ 7293034; omega⟩ (fun H hP hS => ?_)
  refine lv_istore (lv' := [(5, .int k), (1, .ref (B + 0)), (2, .ref (B + 259)), (3, .ref (B + 265)), (0, .ref b), (4, .int i)]) K.1.1 K.1.2.1 dL_law_905 hl (by decide) rfl (fun ls hl => ?_)
  refine lv_aload_n K.1.1 K.1.2.1 dL_law_907 rfl (lv_at hl 2 rfl) ?_
  refine lv_aload_n K.1.1 K.1.2.1 dL_law_908 rfl (lv_at hl 4 rfl) ?_
  refine lv_iload K.1.1 K.1.2.1 dL_law_909 (lv_at hl 5 rfl) ?_
  refine lv_iconst (v := 1) K.1.1 K.1.2.1 dL_law_911 (by decide) ?_
  refine lv_iadd K.1.1 K.1.2.1 dL_law_912 ?_
  refine va_sld K.1.1 K.1.2.1 hX hbl (fun z => by have h9 : B ≤ b := z.1; omega) hS hr1 dL_law_913 ?_
  refine lv_aload_n K.1.1 K.1.2.1 dL_law_914 rfl (lv_at hl 4 rfl) ?_
  refine lv_iload K.1.1 K.1.2.1 dL_law_915 (lv_at hl 5 rfl) ?_
  refine lv_iconst (v := 2) K.1.1 K.1.2.1 dL_law_917 (by decide) ?_
  refine lv_iadd K.1.1 K.1.2.1 dL_law_918 ?_
  refine va_sld K.1.1 K.1.2.1 hX hbl (fun z => by have h9 : B ≤ b := z.1; omega) hS hr2 dL_law_919 ?_
  refine w_cV (n := 2) (As := [.int (xs (i + 1).toNatClampNeg), .int (xs (i + 2).toNatClampNeg)]) (rest := []) (k := 259) K hB hP hS h2 (by decide) sh_259 rfl q_1423 q_1424 q_1425 q_91 q_1426 hv_X11_at ⟨Nat.le_of_ble_eq_true rfl, Nat.le_of_ble_eq_true rfl⟩ rfl hl.1 rfl (Nat.le_of_ble_eq_true rfl) dL_law_920 ⟨by show _ ≤ 601024; omega, by show _ ≤ 7293034; omega⟩ (fun H hP hS => ?_)
  refine lv_topi (fun v1 ev => ?_)
  refine lv_istore (lv' := [(6, .int v1), (5, .int k), (1, .ref (B + 0)), (2, .ref (B + 259)), (3, .ref (B + 265)), (0, .ref b), (4, .int i)]) K.1.1 K.1.2.1 dL_law_923 hl (by decide) rfl (fun ls hl => ?_)
  refine lv_aload_n K.1.1 K.1.2.1 dL_law_925 rfl (lv_at hl 3 rfl) ?_
  refine w_cV (n := 0) (As := []) (rest := []) (k := 259) K hB hP hS (MX11_thrown l G B μ2) (by decide) sh_259 rfl q_1193 q_1194 q_1195 q_91 q_1196 hv_X11_thrown ⟨Nat.le_of_ble_eq_true rfl, Nat.le_of_ble_eq_true rfl⟩ rfl hl.1 rfl (Nat.le_of_ble_eq_true rfl) dL_law_926 ⟨by show _ ≤ 601024; omega, by show _ ≤ 7293034; omega⟩ (fun H hP hS => ?_)
  refine lv_topi (fun t1 et => ?_)
  refine lv_iload K.1.1 K.1.2.1 dL_law_929 (lv_at hl 1 rfl) ?_
  refine lv_icmp_eq (tgt := 936) K.1.1 K.1.2.1 dL_law_931 (by decide) (fun c => ?_) (fun c => absurd (et.trans hk) c)
  refine lv_iload K.1.1 K.1.2.1 dL_law_936 (lv_at hl 1 rfl) ?_
  refine lv_if_ne (tgt := 953) K.1.1 K.1.2.1 dL_law_938 (by decide) (fun c0 => ?_) (fun c0 => ?_)
  · refine lv_goto (tgt := 1556) K.1.1 K.1.2.1 dL_law_953 (by decide) ?_
    exact kk H _ μ2 x1 hI hP hS (lv_sub hl [2, 3, 4, 5, 6] rfl)
  · refine lv_aload_n K.1.1 K.1.2.1 dL_law_941 rfl (lv_at hl 4 rfl) ?_
    refine lv_iconst (v := 0) K.1.1 K.1.2.1 dL_law_942 (by decide) ?_
    refine w_lald K hA hP dL_law_943 ?_
    refine lv_iload K.1.1 K.1.2.1 dL_law_944 (lv_at hl 0 rfl) ?_
    refine lv_i2l K.1.1 K.1.2.1 dL_law_946 rfl ?_
    refine W.lcmp K.1.1 K.1.2.1 dL_law_947 ?_
    refine lv_if_eq (tgt := 953) K.1.1 K.1.2.1 dL_law_948 (by decide) (fun c => ?_) (fun c => absurd (by rw [hx c0, ev]; exact cmp_rfl _) c)
    refine lv_goto (tgt := 1556) K.1.1 K.1.2.1 dL_law_953 (by decide) ?_
    exact kk H _ μ2 x1 hI hP hS (lv_sub hl [2, 3, 4, 5, 6] rfl)

def OPC_now (l : Launch) (G : GG) (B : Nat) (cL : ClassId) (I : Mm → Prop) (μ : Mm) (x : Int64) (p0 : Int32) : Prop :=
  ∃ (k v : Int32) (μ1 μ2 : Mm) (x1 : Int64), LM l yL_now (.codeWith yL_now cL_now 4 (Option.some FieldType.int) [(0, 9, 12, 13)]) 8 131 1 6 G B cL [.ref (B + 0), .int p0, .ref (B + 265)] μ x k μ1 x1 ∧ CM l yX11_now (.code yX11_now cX11_now 2 (Option.some FieldType.int)) 7 157 G B [.ref (B + 259), .int p0] μ1 (some (.int v)) μ2 ∧ μ2 259 3 = k ∧ (k = 0 → x1 = v.toInt64) ∧ I μ2
