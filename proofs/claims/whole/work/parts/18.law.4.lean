set_option maxHeartbeats 4000000 in
set_option maxRecDepth 100000 in
theorem law_type {p : Program} {l : Launch} {e : Env} {s : State} {m : MethodId} {args : Array Value} {below : List Frame} {meth : Method} {c : Code} {H : Heap} {cells slots : Nat} {Q : State → Prop} {ls : Array Slot} {G : GG} {B b L : Nat} {cL : ClassId} {μ : Mm} {x : Int64} {c1 : Cond} {xs : Nat → Int32} {i : Int32} (I : Mm → Prop) (K : KK p m c cL_law 7 s args c1 RL G B) (hD : ND s) (hA : ArrOfT s cL .long) (hB : s.heap.size = B) (hX : va_X b L xs s s.heap) (hbl : b < s.heap.size) (hP : OM G B cL μ x H) (hS : va_S (AA B) s.heap H []) (hl : lv_has ls 7 [(1, .ref (B + 0)), (2, .ref (B + 259)), (3, .ref (B + 265)), (0, .ref b), (4, .int i)]) (hr1 : vp_in (i + 1) L) (hop : OPC_type l G B cL I μ x (xs (i + 1).toNatClampNeg)) (hc : cells + 1 ≤ 601024 ∧ slots + 6 ≤ 7293034) (kk : ∀ (H1 : Heap) (ls1 : Array Slot) (μ1 : Mm) (x1 : Int64), I μ1 → OM G B cL μ1 x1 H1 → va_S (AA B) s.heap H1 [] → lv_has ls1 7 [(1, .ref (B + 0)), (2, .ref (B + 259)), (3, .ref (B + 265)), (0, .ref b), (4, .int i)] → W p l e room_1 s m args below meth c H1 [] (cells + 1) (slots + 6) Q (F0 m 1556 ls1 [])) : W p l e room_1 s m args below meth c H [] cells slots Q (F0 m 1416 ls []) := by
  obtain ⟨k, v, μ1, μ2, x1, h1, h2, hk, hx, hI⟩ := hop
  refine lv_aload_n K.1.1 K.1.2.1 dL_law_1416 rfl (lv_at hl 0 rfl) ?_
  refine lv_aload_n K.1.1 K.1.2.1 dL_law_1417 rfl (lv_at hl 3 rfl) ?_
  refine lv_iload K.1.1 K.1.2.1 dL_law_1418 (lv_at hl 4 rfl) ?_
  refine lv_iconst (v := 1) K.1.1 K.1.2.1 dL_law_1420 (by decide) ?_
  refine lv_iadd K.1.1 K.1.2.1 dL_law_1421 ?_
  refine va_sld K.1.1 K.1.2.1 hX hbl (fun z => by have h9 : B ≤ b := z.1; omega) hS hr1 dL_law_1422 ?_
  refine lv_aload_n K.1.1 K.1.2.1 dL_law_1423 rfl (lv_at hl 2 rfl) ?_
  refine w_cS (n := 3) (As := [.ref (B + 0), .int (xs (i + 1).toNatClampNeg), .ref (B + 265)]) (rest := []) K hD hA hB hP hS h1 q_1118 q_1119 q_81 q_1120 hv_L_type.2 ⟨Nat.le_of_ble_eq_true rfl, Nat.le_of_ble_eq_true rfl⟩ rfl hl.1 rfl (Nat.le_of_ble_eq_true rfl) dL_law_1424 ⟨by show _ ≤ 601024; omega, by show _ ≤ 7293034; omega⟩ (fun H hP hS => ?_)
  refine lv_istore (lv' := [(5, .int k), (1, .ref (B + 0)), (2, .ref (B + 259)), (3, .ref (B + 265)), (0, .ref b), (4, .int i)]) K.1.1 K.1.2.1 dL_law_1427 hl (by decide) rfl (fun ls hl => ?_)
  refine lv_aload_n K.1.1 K.1.2.1 dL_law_1429 rfl (lv_at hl 2 rfl) ?_
  refine lv_aload_n K.1.1 K.1.2.1 dL_law_1430 rfl (lv_at hl 4 rfl) ?_
  refine lv_iload K.1.1 K.1.2.1 dL_law_1431 (lv_at hl 5 rfl) ?_
  refine lv_iconst (v := 1) K.1.1 K.1.2.1 dL_law_1433 (by decide) ?_
  refine lv_iadd K.1.1 K.1.2.1 dL_law_1434 ?_
  refine va_sld K.1.1 K.1.2.1 hX hbl (fun z => by have h9 : B ≤ b := z.1; omega) hS hr1 dL_law_1435 ?_
  refine w_cV (n := 1) (As := [.int (xs (i + 1).toNatClampNeg)]) (rest := []) (k := 259) K hB hP hS h2 (by decide) sh_259 rfl q_1486 q_1487 q_1488 q_91 q_1489 hv_X11_type ⟨Nat.le_of_ble_eq_true rfl, Nat.le_of_ble_eq_true rfl⟩ rfl hl.1 rfl (Nat.le_of_ble_eq_true rfl) dL_law_1436 ⟨by show _ ≤ 601024; omega, by show _ ≤ 7293034; omega⟩ (fun H hP hS => ?_)
  refine lv_topi (fun v1 ev => ?_)
  refine lv_istore (lv' := [(6, .int v1), (5, .int k), (1, .ref (B + 0)), (2, .ref (B + 259)), (3, .ref (B + 265)), (0, .ref b), (4, .int i)]) K.1.1 K.1.2.1 dL_law_1439 hl (by decide) rfl (fun ls hl => ?_)
  refine lv_aload_n K.1.1 K.1.2.1 dL_law_1441 rfl (lv_at hl 3 rfl) ?_
  refine w_cV (n := 0) (As := []) (rest := []) (k := 259) K hB hP hS (MX11_thrown l G B μ2) (by decide) sh_259 rfl q_1193 q_1194 q_1195 q_91 q_1196 hv_X11_thrown ⟨Nat.le_of_ble_eq_true rfl, Nat.le_of_ble_eq_true rfl⟩ rfl hl.1 rfl (Nat.le_of_ble_eq_true rfl) dL_law_1442 ⟨by show _ ≤ 601024; omega, by show _ ≤ 7293034; omega⟩ (fun H hP hS => ?_)
  refine lv_topi (fun t1 et => ?_)
  refine lv_iload K.1.1 K.1.2.1 dL_law_1445 (lv_at hl 1 rfl) ?_
  refine lv_icmp_eq (tgt := 1452) K.1.1 K.1.2.1 dL_law_1447 (by decide) (fun c => ?_) (fun c => absurd (et.trans hk) c)
  refine lv_iload K.1.1 K.1.2.1 dL_law_1452 (lv_at hl 1 rfl) ?_
  refine lv_if_ne (tgt := 1469) K.1.1 K.1.2.1 dL_law_1454 (by decide) (fun c0 => ?_) (fun c0 => ?_)
  · refine lv_goto (tgt := 1556) K.1.1 K.1.2.1 dL_law_1469 (by decide) ?_
    exact kk H _ μ2 x1 hI hP hS (lv_sub hl [2, 3, 4, 5, 6] rfl)
  · refine lv_aload_n K.1.1 K.1.2.1 dL_law_1457 rfl (lv_at hl 4 rfl) ?_
    refine lv_iconst (v := 0) K.1.1 K.1.2.1 dL_law_1458 (by decide) ?_
    refine w_lald K hA hP dL_law_1459 ?_
    refine lv_iload K.1.1 K.1.2.1 dL_law_1460 (lv_at hl 0 rfl) ?_
    refine lv_i2l K.1.1 K.1.2.1 dL_law_1462 rfl ?_
    refine W.lcmp K.1.1 K.1.2.1 dL_law_1463 ?_
    refine lv_if_eq (tgt := 1469) K.1.1 K.1.2.1 dL_law_1464 (by decide) (fun c => ?_) (fun c => absurd (by rw [hx c0, ev]; exact cmp_rfl _) c)
    refine lv_goto (tgt := 1556) K.1.1 K.1.2.1 dL_law_1469 (by decide) ?_
    exact kk H _ μ2 x1 hI hP hS (lv_sub hl [2, 3, 4, 5, 6] rfl)

def OPC_clearCommands (l : Launch) (G : GG) (B : Nat) (I : Mm → Prop) (μ : Mm) : Prop :=
  ∃ (v : Int32) (μ1 μ2 : Mm), CM l yX10_clearCommands (.code yX10_clearCommands cX10_clearCommands 1 (Option.some FieldType.int)) 1 21 G B [.ref (B + 0)] μ (some (.int v)) μ1 ∧ CM l yX11_clearCommands (.code yX11_clearCommands cX11_clearCommands 2 (Option.some FieldType.int)) 0 0 G B [.ref (B + 259)] μ1 (some (.int v)) μ2 ∧ I μ2
set_option maxHeartbeats 4000000 in
set_option maxRecDepth 100000 in
theorem law_clearCommands {p : Program} {l : Launch} {e : Env} {s : State} {m : MethodId} {args : Array Value} {below : List Frame} {meth : Method} {c : Code} {H : Heap} {cells slots : Nat} {Q : State → Prop} {ls : Array Slot} {G : GG} {B b L : Nat} {cL : ClassId} {μ : Mm} {x : Int64} {c1 : Cond} {xs : Nat → Int32} {i : Int32} (I : Mm → Prop) (K : KK p m c cL_law 7 s args c1 RL G B) (hD : ND s) (hA : ArrOfT s cL .long) (hB : s.heap.size = B) (hX : va_X b L xs s s.heap) (hbl : b < s.heap.size) (hP : OM G B cL μ x H) (hS : va_S (AA B) s.heap H []) (hl : lv_has ls 7 [(1, .ref (B + 0)), (2, .ref (B + 259)), (3, .ref (B + 265)), (0, .ref b), (4, .int i)]) (hop : OPC_clearCommands l G B I μ) (hc : cells + 1 ≤ 601024 ∧ slots + 6 ≤ 7293034) (kk : ∀ (H1 : Heap) (ls1 : Array Slot) (μ1 : Mm) (x1 : Int64), I μ1 → OM G B cL μ1 x1 H1 → va_S (AA B) s.heap H1 [] → lv_has ls1 7 [(1, .ref (B + 0)), (2, .ref (B + 259)), (3, .ref (B + 265)), (0, .ref b), (4, .int i)] → W p l e room_1 s m args below meth c H1 [] (cells + 1) (slots + 6) Q (F0 m 1556 ls1 [])) : W p l e room_1 s m args below meth c H [] cells slots Q (F0 m 1472 ls []) := by
  obtain ⟨v, μ1, μ2, h1, h2, hI⟩ := hop
  refine lv_aload_n K.1.1 K.1.2.1 dL_law_1472 rfl (lv_at hl 0 rfl) ?_
  refine w_cV (n := 0) (As := []) (rest := []) (k := 0) K hB hP hS h1 (by decide) sh_0 rfl q_403 q_404 q_405 q_82 q_406 hv_X10_clearCommands ⟨Nat.le_of_ble_eq_true rfl, Nat.le_of_ble_eq_true rfl⟩ rfl hl.1 rfl (Nat.le_of_ble_eq_true rfl) dL_law_1473 ⟨by show _ ≤ 601024; omega, by show _ ≤ 7293034; omega⟩ (fun H hP hS => ?_)
  refine lv_topi (fun r1 e1 => ?_)
  refine lv_aload_n K.1.1 K.1.2.1 dL_law_1476 rfl (lv_at hl 1 rfl) ?_
  refine w_cV (n := 0) (As := []) (rest := [.int r1]) (k := 259) K hB hP hS h2 (by decide) sh_259 rfl q_1490 q_1491 q_1492 q_91 q_1493 hv_X11_clearCommands ⟨Nat.le_of_ble_eq_true rfl, Nat.le_of_ble_eq_true rfl⟩ rfl hl.1 rfl (Nat.le_of_ble_eq_true rfl) dL_law_1477 ⟨by show _ ≤ 601024; omega, by show _ ≤ 7293034; omega⟩ (fun H hP hS => ?_)
  refine lv_topi (fun r2 e2 => ?_)
  refine lv_icmp_eq (tgt := 1556) K.1.1 K.1.2.1 dL_law_1480 (by decide) (fun c => ?_) (fun c => absurd (by rw [e1, e2]) c)
  exact W.widen (k := cells + 1) (n := slots + 6) (by omega) (by omega) (kk H _ μ2 x hI hP hS hl)

def OPC_runCommands (l : Launch) (G : GG) (B : Nat) (I : Mm → Prop) (μ : Mm) : Prop :=
  ∃ (v : Int32) (μ1 μ2 : Mm), CM l yX10_runCommands (.code yX10_runCommands cX10_runCommands 3 (Option.some FieldType.int)) 9 197 G B [.ref (B + 0)] μ (some (.int v)) μ1 ∧ CM l yX11_runCommands (.code yX11_runCommands cX11_runCommands 4 (Option.some FieldType.int)) 8 188 G B [.ref (B + 259)] μ1 (some (.int v)) μ2 ∧ I μ2
set_option maxHeartbeats 4000000 in
set_option maxRecDepth 100000 in
theorem law_runCommands {p : Program} {l : Launch} {e : Env} {s : State} {m : MethodId} {args : Array Value} {below : List Frame} {meth : Method} {c : Code} {H : Heap} {cells slots : Nat} {Q : State → Prop} {ls : Array Slot} {G : GG} {B b L : Nat} {cL : ClassId} {μ : Mm} {x : Int64} {c1 : Cond} {xs : Nat → Int32} {i : Int32} (I : Mm → Prop) (K : KK p m c cL_law 7 s args c1 RL G B) (hD : ND s) (hA : ArrOfT s cL .long) (hB : s.heap.size = B) (hX : va_X b L xs s s.heap) (hbl : b < s.heap.size) (hP : OM G B cL μ x H) (hS : va_S (AA B) s.heap H []) (hl : lv_has ls 7 [(1, .ref (B + 0)), (2, .ref (B + 259)), (3, .ref (B + 265)), (0, .ref b), (4, .int i)]) (hop : OPC_runCommands l G B I μ) (hc : cells + 1 ≤ 601024 ∧ slots + 6 ≤ 7293034) (kk : ∀ (H1 : Heap) (ls1 : Array Slot) (μ1 : Mm) (x1 : Int64), I μ1 → OM G B cL μ1 x1 H1 → va_S (AA B) s.heap H1 [] → lv_has ls1 7 [(1, .ref (B + 0)), (2, .ref (B + 259)), (3, .ref (B + 265)), (0, .ref b), (4, .int i)] → W p l e room_1 s m args below meth c H1 [] (cells + 1) (slots + 6) Q (F0 m 1556 ls1 [])) : W p l e room_1 s m args below meth c H [] cells slots Q (F0 m 1485 ls []) := by
  obtain ⟨v, μ1, μ2, h1, h2, hI⟩ := hop
  refine lv_aload_n K.1.1 K.1.2.1 dL_law_1485 rfl (lv_at hl 0 rfl) ?_
  refine w_cV (n := 0) (As := []) (rest := []) (k := 0) K hB hP hS h1 (by decide) sh_0 rfl q_411 q_412 q_413 q_82 q_414 hv_X10_runCommands ⟨Nat.le_of_ble_eq_true rfl, Nat.le_of_ble_eq_true rfl⟩ rfl hl.1 rfl (Nat.le_of_ble_eq_true rfl) dL_law_1486 ⟨by show _ ≤ 601024; omega, by show _ ≤ 7293034; omega⟩ (fun H hP hS => ?_)
  refine lv_topi (fun r1 e1 => ?_)
  refine lv_aload_n K.1.1 K.1.2.1 dL_law_1489 rfl (lv_at hl 1 rfl) ?_
  refine w_cV (n := 0) (As := []) (rest := [.int r1]) (k := 259) K hB hP hS h2 (by decide) sh_259 rfl q_1494 q_1495 q_1496 q_91 q_1497 hv_X11_runCommands ⟨Nat.le_of_ble_eq_true rfl, Nat.le_of_ble_eq_true rfl⟩ rfl hl.1 rfl (Nat.le_of_ble_eq_true rfl) dL_law_1490 ⟨by show _ ≤ 601024; omega, by show _ ≤ 7293034; omega⟩ (fun H hP hS => ?_)
  refine lv_topi (fun r2 e2 => ?_)
  refine lv_icmp_eq (tgt := 1556) K.1.1 K.1.2.1 dL_law_1493 (by decide) (fun c => ?_) (fun c => absurd (by rw [e1, e2]) c)
  exact W.widen (k := cells + 1) (n := slots + 6) (by omega) (by omega) (kk H _ μ2 x hI hP hS hl)

def OPC_undo (l : Launch) (G : GG) (B : Nat) (cL : ClassId) (I : Mm → Prop) (μ : Mm) (x : Int64) : Prop :=
  ∃ (k v : Int32) (μ1 μ2 : Mm) (x1 : Int64), LM l yL_undo (.codeWith yL_undo cL_undo 3 (Option.some FieldType.int) [(0, 8, 11, 15)]) 8 130 1 6 G B cL [.ref (B + 0), .ref (B + 265)] μ x k μ1 x1 ∧ CM l yX11_undo (.code yX11_undo cX11_undo 1 (Option.some FieldType.int)) 1 22 G B [.ref (B + 259)] μ1 (some (.int v)) μ2 ∧ μ2 259 3 = k ∧ (k = 0 → x1 = v.toInt64) ∧ I μ2
set_option maxHeartbeats 4000000 in
set_option maxRecDepth 100000 in
theorem law_undo {p : Program} {l : Launch} {e : Env} {s : State} {m : MethodId} {args : Array Value} {below : List Frame} {meth : Method} {c : Code} {H : Heap} {cells slots : Nat} {Q : State → Prop} {ls : Array Slot} {G : GG} {B b L : Nat} {cL : ClassId} {μ : Mm} {x : Int64} {c1 : Cond} {xs : Nat → Int32} {i : Int32} (I : Mm → Prop) (K : KK p m c cL_law 7 s args c1 RL G B) (hD : ND s) (hA : ArrOfT s cL .long) (hB : s.heap.size = B) (hX : va_X b L xs s s.heap) (hbl : b < s.heap.size) (hP : OM G B cL μ x H) (hS : va_S (AA B) s.heap H []) (hl : lv_has ls 7 [(1, .ref (B + 0)), (2, .ref (B + 259)), (3, .ref (B + 265)), (0, .ref b), (4, .int i)]) (hop : OPC_undo l G B cL I μ x) (hc : cells + 1 ≤ 601024 ∧ slots + 6 ≤ 7293034) (kk : ∀ (H1 : Heap) (ls1 : Array Slot) (μ1 : Mm) (x1 : Int64), I μ1 → OM G B cL μ1 x1 H1 → va_S (AA B) s.heap H1 [] → lv_has ls1 7 [(1, .ref (B + 0)), (2, .ref (B + 259)), (3, .ref (B + 265)), (0, .ref b), (4, .int i)] → W p l e room_1 s m args below meth c H1 [] (cells + 1) (slots + 6) Q (F0 m 1556 ls1 [])) : W p l e room_1 s m args below meth c H [] cells slots Q (F0 m 1498 ls []) := by
  obtain ⟨k, v, μ1, μ2, x1, h1, h2, hk, hx, hI⟩ := hop
  refine lv_aload_n K.1.1 K.1.2.1 dL_law_1498 rfl (lv_at hl 0 rfl) ?_
  refine lv_aload_n K.1.1 K.1.2.1 dL_law_1499 rfl (lv_at hl 2 rfl) ?_
  refine w_cS (n := 2) (As := [.ref (B + 0), .ref (B + 265)]) (rest := []) K hD hA hB hP hS h1 q_1133 q_1134 q_81 q_1135 hv_L_undo.2 ⟨Nat.le_of_ble_eq_true rfl, Nat.le_of_ble_eq_true rfl⟩ rfl hl.1 rfl (Nat.le_of_ble_eq_true rfl) dL_law_1500 ⟨by show _ ≤ 601024; omega, by show _ ≤ 7293034; omega⟩ (fun H hP hS => ?_)
  refine lv_istore (lv' := [(5, .int k), (1, .ref (B + 0)), (2, .ref (B + 259)), (3, .ref (B + 265)), (0, .ref b), (4, .int i)]) K.1.1 K.1.2.1 dL_law_1503 hl (by decide) rfl (fun ls hl => ?_)
  refine lv_aload_n K.1.1 K.1.2.1 dL_law_1505 rfl (lv_at hl 2 rfl) ?_
  refine w_cV (n := 0) (As := []) (rest := []) (k := 259) K hB hP hS h2 (by decide) sh_259 rfl q_1197 q_1198 q_1199 q_91 q_1200 hv_X11_undo ⟨Nat.le_of_ble_eq_true rfl, Nat.le_of_ble_eq_true rfl⟩ rfl hl.1 rfl (Nat.le_of_ble_eq_true rfl) dL_law_1506 ⟨by show _ ≤ 601024; omega, by show _ ≤ 7293034; omega⟩ (fun H hP hS => ?_)
  refine lv_topi (fun v1 ev => ?_)
  refine lv_istore (lv' := [(6, .int v1), (5, .int k), (1, .ref (B + 0)), (2, .ref (B + 259)), (3, .ref (B + 265)), (0, .ref b), (4, .int i)]) K.1.1 K.1.2.1 dL_law_1509 hl (by decide) rfl (fun ls hl => ?_)
  refine lv_aload_n K.1.1 K.1.2.1 dL_law_1511 rfl (lv_at hl 3 rfl) ?_
  refine w_cV (n := 0) (As := []) (rest := []) (k := 259) K hB hP hS (MX11_thrown l G B μ2) (by decide) sh_259 rfl q_1193 q_1194 q_1195 q_91 q_1196 hv_X11_thrown ⟨Nat.le_of_ble_eq_true rfl, Nat.le_of_ble_eq_true rfl⟩ rfl hl.1 rfl (Nat.le_of_ble_eq_true rfl) dL_law_1512 ⟨by show _ ≤ 601024; omega, by show _ ≤ 7293034; omega⟩ (fun H hP hS => ?_)
  refine lv_topi (fun t1 et => ?_)
  refine lv_iload K.1.1 K.1.2.1 dL_law_1515 (lv_at hl 1 rfl) ?_
  refine lv_icmp_eq (tgt := 1522) K.1.1 K.1.2.1 dL_law_1517 (by decide) (fun c => ?_) (fun c => absurd (et.trans hk) c)
  refine lv_iload K.1.1 K.1.2.1 dL_law_1522 (lv_at hl 1 rfl) ?_
  refine lv_if_ne (tgt := 1539) K.1.1 K.1.2.1 dL_law_1524 (by decide) (fun c0 => ?_) (fun c0 => ?_)
  · refine lv_goto (tgt := 1556) K.1.1 K.1.2.1 dL_law_1539 (by decide) ?_
    exact kk H _ μ2 x1 hI hP hS (lv_sub hl [2, 3, 4, 5, 6] rfl)
  · refine lv_aload_n K.1.1 K.1.2.1 dL_law_1527 rfl (lv_at hl 4 rfl) ?_
    refine lv_iconst (v := 0) K.1.1 K.1.2.1 dL_law_1528 (by decide) ?_
    refine w_lald K hA hP dL_law_1529 ?_
    refine lv_iload K.1.1 K.1.2.1 dL_law_1530 (lv_at hl 0 rfl) ?_
    refine lv_i2l K.1.1 K.1.2.1 dL_law_1532 rfl ?_
    refine W.lcmp K.1.1 K.1.2.1 dL_law_1533 ?_
    refine lv_if_eq (tgt := 1539) K.1.1 K.1.2.1 dL_law_1534 (by decide) (fun c => ?_) (fun c => absurd (by rw [hx c0, ev]; exact cmp_rfl _) c)
    refine lv_goto (tgt := 1556) K.1.1 K.1.2.1 dL_law_1539 (by decide) ?_
    exact kk H _ μ2 x1 hI hP hS (lv_sub hl [2, 3, 4, 5, 6] rfl)

def OPC_digest (l : Launch) (G : GG) (B : Nat) (I : Mm → Prop) (μ : Mm) : Prop :=
  ∃ (v : Int64) (μ1 μ2 : Mm), CM l yX10_digest (.code yX10_digest cX10_digest 4 (Option.some FieldType.long)) 5 115 G B [.ref (B + 0)] μ (some (.long v)) μ1 ∧ CM l yX11_digest (.code yX11_digest cX11_digest 4 (Option.some FieldType.long)) 7 157 G B [.ref (B + 259)] μ1 (some (.long v)) μ2 ∧ I μ2
set_option maxHeartbeats 4000000 in
set_option maxRecDepth 100000 in
theorem law_digest {p : Program} {l : Launch} {e : Env} {s : State} {m : MethodId} {args : Array Value} {below : List Frame} {meth : Method} {c : Code} {H : Heap} {cells slots : Nat} {Q : State → Prop} {ls : Array Slot} {G : GG} {B b L : Nat} {cL : ClassId} {μ : Mm} {x : Int64} {c1 : Cond} {xs : Nat → Int32} {i : Int32} (I : Mm → Prop) (K : KK p m c cL_law 7 s args c1 RL G B) (hD : ND s) (hA : ArrOfT s cL .long) (hB : s.heap.size = B) (hX : va_X b L xs s s.heap) (hbl : b < s.heap.size) (hP : OM G B cL μ x H) (hS : va_S (AA B) s.heap H []) (hl : lv_has ls 7 [(1, .ref (B + 0)), (2, .ref (B + 259)), (3, .ref (B + 265)), (0, .ref b), (4, .int i)]) (hop : OPC_digest l G B I μ) (hc : cells + 1 ≤ 601024 ∧ slots + 6 ≤ 7293034) (kk : ∀ (H1 : Heap) (ls1 : Array Slot) (μ1 : Mm) (x1 : Int64), I μ1 → OM G B cL μ1 x1 H1 → va_S (AA B) s.heap H1 [] → lv_has ls1 7 [(1, .ref (B + 0)), (2, .ref (B + 259)), (3, .ref (B + 265)), (0, .ref b), (4, .int i)] → W p l e room_1 s m args below meth c H1 [] (cells + 1) (slots + 6) Q (F0 m 1556 ls1 [])) : W p l e room_1 s m args below meth c H [] cells slots Q (F0 m 1542 ls []) := by
  obtain ⟨v, μ1, μ2, h1, h2, hI⟩ := hop
  refine lv_aload_n K.1.1 K.1.2.1 dL_law_1542 rfl (lv_at hl 0 rfl) ?_
  refine w_cV (n := 0) (As := []) (rest := []) (k := 0) K hB hP hS h1 (by decide) sh_0 rfl q_754 q_755 q_756 q_82 q_757 hv_X10_digest ⟨Nat.le_of_ble_eq_true rfl, Nat.le_of_ble_eq_true rfl⟩ rfl hl.1 rfl (Nat.le_of_ble_eq_true rfl) dL_law_1543 ⟨by show _ ≤ 601024; omega, by show _ ≤ 7293034; omega⟩ (fun H hP hS => ?_)
  refine lv_topl (fun r1 e1 => ?_)
  refine lv_aload_n K.1.1 K.1.2.1 dL_law_1546 rfl (lv_at hl 1 rfl) ?_
  refine w_cV (n := 0) (As := []) (rest := [.long r1]) (k := 259) K hB hP hS h2 (by decide) sh_259 rfl q_1535 q_1536 q_1537 q_91 q_1538 hv_X11_digest ⟨Nat.le_of_ble_eq_true rfl, Nat.le_of_ble_eq_true rfl⟩ rfl hl.1 rfl (Nat.le_of_ble_eq_true rfl) dL_law_1547 ⟨by show _ ≤ 601024; omega, by show _ ≤ 7293034; omega⟩ (fun H hP hS => ?_)
  refine lv_topl (fun r2 e2 => ?_)
  refine W.lcmp K.1.1 K.1.2.1 dL_law_1550 ?_
  refine lv_if_eq (tgt := 1556) K.1.1 K.1.2.1 dL_law_1551 (by decide) (fun c => ?_) (fun c => absurd (by rw [e1, e2]; exact cmp_rfl v) c)
  exact W.widen (k := cells + 1) (n := slots + 6) (by omega) (by omega) (kk H _ μ2 x hI hP hS hl)

