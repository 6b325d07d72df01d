set_option maxHeartbeats 4000000 in
set_option maxRecDepth 100000 in
theorem law_now {p : Program} {l : Launch} {e : Env} {s : State} {m : MethodId} {args : Array Value} {below : List Frame} {meth : Method} {c : Code} {H : Heap} {cells slots : Nat} {Q : State → Prop} {ls : Array Slot} {G : GG} {B b L : Nat} {cL : ClassId} {μ : Mm} {x : Int64} {c1 : Cond} {xs : Nat → Int32} {i : Int32} (I : Mm → Prop) (K : KK p m c cL_law 7 s args c1 RL G B) (hD : ND s) (hA : ArrOfT s cL .long) (hB : s.heap.size = B) (hX : va_X b L xs s s.heap) (hbl : b < s.heap.size) (hP : OM G B cL μ x H) (hS : va_S (AA B) s.heap H []) (hl : lv_has ls 7 [(1, .ref (B + 0)), (2, .ref (B + 259)), (3, .ref (B + 265)), (0, .ref b), (4, .int i)]) (hr1 : vp_in (i + 1) L) (hop : OPC_now l G B cL I μ x (xs (i + 1).toNatClampNeg)) (hc : cells + 1 ≤ 601024 ∧ slots + 6 ≤ 7293034) (kk : ∀ (H1 : Heap) (ls1 : Array Slot) (μ1 : Mm) (x1 : Int64), I μ1 → OM G B cL μ1 x1 H1 → va_S (AA B) s.heap H1 [] → lv_has ls1 7 [(1, .ref (B + 0)), (2, .ref (B + 259)), (3, .ref (B + 265)), (0, .ref b), (4, .int i)] → W p l e room_1 s m args below meth c H1 [] (cells + 1) (slots + 6) Q (F0 m 1556 ls1 [])) : W p l e room_1 s m args below meth c H [] cells slots Q (F0 m 956 ls []) := by
  obtain ⟨k, v, μ1, μ2, x1, h1, h2, hk, hx, hI⟩ := hop
  refine lv_aload_n K.1.1 K.1.2.1 dL_law_956 rfl (lv_at hl 0 rfl) ?_
  refine lv_aload_n K.1.1 K.1.2.1 dL_law_957 rfl (lv_at hl 3 rfl) ?_
  refine lv_iload K.1.1 K.1.2.1 dL_law_958 (lv_at hl 4 rfl) ?_
  refine lv_iconst (v := 1) K.1.1 K.1.2.1 dL_law_960 (by decide) ?_
  refine lv_iadd K.1.1 K.1.2.1 dL_law_961 ?_
  refine va_sld K.1.1 K.1.2.1 hX hbl (fun z => by have h9 : B ≤ b := z.1; omega) hS hr1 dL_law_962 ?_
  refine lv_aload_n K.1.1 K.1.2.1 dL_law_963 rfl (lv_at hl 2 rfl) ?_
  refine w_cS (n := 3) (As := [.ref (B + 0), .int (xs (i + 1).toNatClampNeg), .ref (B + 265)]) (rest := []) K hD hA hB hP hS h1 q_1043 q_1044 q_81 q_1045 hv_L_now.2 ⟨Nat.le_of_ble_eq_true rfl, Nat.le_of_ble_eq_true rfl⟩ rfl hl.1 rfl (Nat.le_of_ble_eq_true rfl) dL_law_964 ⟨by show _ ≤ 601024; omega, by show _ ≤ 7293034; omega⟩ (fun H hP hS => ?_)
  refine lv_istore (lv' := [(5, .int k), (1, .ref (B + 0)), (2, .ref (B + 259)), (3, .ref (B + 265)), (0, .ref b), (4, .int i)]) K.1.1 K.1.2.1 dL_law_967 hl (by decide) rfl (fun ls hl => ?_)
  refine lv_aload_n K.1.1 K.1.2.1 dL_law_969 rfl (lv_at hl 2 rfl) ?_
  refine lv_aload_n K.1.1 K.1.2.1 dL_law_970 rfl (lv_at hl 4 rfl) ?_
  refine lv_iload K.1.1 K.1.2.1 dL_law_971 (lv_at hl 5 rfl) ?_
  refine lv_iconst (v := 1) K.1.1 K.1.2.1 dL_law_973 (by decide) ?_
  refine lv_iadd K.1.1 K.1.2.1 dL_law_974 ?_
  refine va_sld K.1.1 K.1.2.1 hX hbl (fun z => by have h9 : B ≤ b := z.1; omega) hS hr1 dL_law_975 ?_
  refine w_cV (n := 1) (As := [.int (xs (i + 1).toNatClampNeg)]) (rest := []) (k := 259) K hB hP hS h2 (by decide) sh_259 rfl q_1427 q_1428 q_1429 q_91 q_1430 hv_X11_now ⟨Nat.le_of_ble_eq_true rfl, Nat.le_of_ble_eq_true rfl⟩ rfl hl.1 rfl (Nat.le_of_ble_eq_true rfl) dL_law_976 ⟨by show _ ≤ 601024; omega, by show _ ≤ 7293034; omega⟩ (fun H hP hS => ?_)
  refine lv_topi (fun v1 ev => ?_)
  refine lv_istore (lv' := [(6, .int v1), (5, .int k), (1, .ref (B + 0)), (2, .ref (B + 259)), (3, .ref (B + 265)), (0, .ref b), (4, .int i)]) K.1.1 K.1.2.1 dL_law_979 hl (by decide) rfl (fun ls hl => ?_)
  refine lv_aload_n K.1.1 K.1.2.1 dL_law_981 rfl (lv_at hl 3 rfl) ?_
  refine w_cV (n := 0) (As := []) (rest := []) (k := 259) K hB hP hS (MX11_thrown l G B μ2) (by decide) sh_259 rfl q_1193 q_1194 q_1195 q_91 q_1196 hv_X11_thrown ⟨Nat.le_of_ble_eq_true rfl, Nat.le_of_ble_eq_true rfl⟩ rfl hl.1 rfl (Nat.le_of_ble_eq_true rfl) dL_law_982 ⟨by show _ ≤ 601024; omega, by show _ ≤ 7293034; omega⟩ (fun H hP hS => ?_)
  refine lv_topi (fun t1 et => ?_)
  refine lv_iload K.1.1 K.1.2.1 dL_law_985 (lv_at hl 1 rfl) ?_
  refine lv_icmp_eq (tgt := 992) K.1.1 K.1.2.1 dL_law_987 (by decide) (fun c => ?_) (fun c => absurd (et.trans hk) c)
  refine lv_iload K.1.1 K.1.2.1 dL_law_992 (lv_at hl 1 rfl) ?_
  refine lv_if_ne (tgt := 1009) K.1.1 K.1.2.1 dL_law_994 (by decide) (fun c0 => ?_) (fun c0 => ?_)
  · refine lv_goto (tgt := 1556) K.1.1 K.1.2.1 dL_law_1009 (by decide) ?_
    exact kk H _ μ2 x1 hI hP hS (lv_sub hl [2, 3, 4, 5, 6] rfl)
  · refine lv_aload_n K.1.1 K.1.2.1 dL_law_997 rfl (lv_at hl 4 rfl) ?_
    refine lv_iconst (v := 0) K.1.1 K.1.2.1 dL_law_998 (by decide) ?_
    refine w_lald K hA hP dL_law_999 ?_
    refine lv_iload K.1.1 K.1.2.1 dL_law_1000 (lv_at hl 0 rfl) ?_
    refine lv_i2l K.1.1 K.1.2.1 dL_law_1002 rfl ?_
    refine W.lcmp K.1.1 K.1.2.1 dL_law_1003 ?_
    refine lv_if_eq (tgt := 1009) K.1.1 K.1.2.1 dL_law_1004 (by decide) (fun c => ?_) (fun c => absurd (by rw [hx c0, ev]; exact cmp_rfl _) c)
    refine lv_goto (tgt := 1556) K.1.1 K.1.2.1 dL_law_1009 (by decide) ?_
    exact kk H _ μ2 x1 hI hP hS (lv_sub hl [2, 3, 4, 5, 6] rfl)

def OPC_whole (l : Launch) (G : GG) (B : Nat) (cL : ClassId) (I : Mm → Prop) (μ : Mm) (x : Int64) (p0 : Int32) : Prop :=
  ∃ (k v : Int32) (μ1 μ2 : Mm) (x1 : Int64), LM l yL_whole (.codeWith yL_whole cL_whole 4 (Option.some FieldType.int) [(0, 9, 12, 13)]) 8 131 1 6 G B cL [.ref (B + 0), .int p0, .ref (B + 265)] μ x k μ1 x1 ∧ CM l yX11_whole (.code yX11_whole cX11_whole 2 (Option.some FieldType.int)) 1 22 G B [.ref (B + 259), .int p0] μ1 (some (.int v)) μ2 ∧ μ2 259 3 = k ∧ (k = 0 → x1 = v.toInt64) ∧ I μ2
set_option maxHeartbeats 4000000 in
set_option maxRecDepth 100000 in
theorem law_whole {p : Program} {l : Launch} {e : Env} {s : State} {m : MethodId} {args : Array Value} {below : List Frame} {meth : Method} {c : Code} {H : Heap} {cells slots : Nat} {Q : State → Prop} {ls : Array Slot} {G : GG} {B b L : Nat} {cL : ClassId} {μ : Mm} {x : Int64} {c1 : Cond} {xs : Nat → Int32} {i : Int32} (I : Mm → Prop) (K : KK p m c cL_law 7 s args c1 RL G B) (hD : ND s) (hA : ArrOfT s cL .long) (hB : s.heap.size = B) (hX : va_X b L xs s s.heap) (hbl : b < s.heap.size) (hP : OM G B cL μ x H) (hS : va_S (AA B) s.heap H []) (hl : lv_has ls 7 [(1, .ref (B + 0)), (2, .ref (B + 259)), (3, .ref (B + 265)), (0, .ref b), (4, .int i)]) (hr1 : vp_in (i + 1) L) (hop : OPC_whole l G B cL I μ x (xs (i + 1).toNatClampNeg)) (hc : cells + 1 ≤ 601024 ∧ slots + 6 ≤ 7293034) (kk : ∀ (H1 : Heap) (ls1 : Array Slot) (μ1 : Mm) (x1 : Int64), I μ1 → OM G B cL μ1 x1 H1 → va_S (AA B) s.heap H1 [] → lv_has ls1 7 [(1, .ref (B + 0)), (2, .ref (B + 259)), (3, .ref (B + 265)), (0, .ref b), (4, .int i)] → W p l e room_1 s m args below meth c H1 [] (cells + 1) (slots + 6) Q (F0 m 1556 ls1 [])) : W p l e room_1 s m args below meth c H [] cells slots Q (F0 m 1012 ls []) := by
  obtain ⟨k, v, μ1, μ2, x1, h1, h2, hk, hx, hI⟩ := hop
  refine lv_aload_n K.1.1 K.1.2.1 dL_law_1012 rfl (lv_at hl 0 rfl) ?_
  refine lv_aload_n K.1.1 K.1.2.1 dL_law_1013 rfl (lv_at hl 3 rfl) ?_
  refine lv_iload K.1.1 K.1.2.1 dL_law_1014 (lv_at hl 4 rfl) ?_
  refine lv_iconst (v := 1) K.1.1 K.1.2.1 dL_law_1016 (by decide) ?_
  refine lv_iadd K.1.1 K.1.2.1 dL_law_1017 ?_
  refine va_sld K.1.1 K.1.2.1 hX hbl (fun z => by have h9 : B ≤ b := z.1; omega) hS hr1 dL_law_1018 ?_
  refine lv_aload_n K.1.1 K.1.2.1 dL_law_1019 rfl (lv_at hl 2 rfl) ?_
  refine w_cS (n := 3) (As := [.ref (B + 0), .int (xs (i + 1).toNatClampNeg), .ref (B + 265)]) (rest := []) K hD hA hB hP hS h1 q_1050 q_1051 q_81 q_1052 hv_L_whole.2 ⟨Nat.le_of_ble_eq_true rfl, Nat.le_of_ble_eq_true rfl⟩ rfl hl.1 rfl (Nat.le_of_ble_eq_true rfl) dL_law_1020 ⟨by show _ ≤ 601024; omega, by show _ ≤ 7293034; omega⟩ (fun H hP hS => ?_)
  refine lv_istore (lv' := [(5, .int k), (1, .ref (B + 0)), (2, .ref (B + 259)), (3, .ref (B + 265)), (0, .ref b), (4, .int i)]) K.1.1 K.1.2.1 dL_law_1023 hl (by decide) rfl (fun ls hl => ?_)
  refine lv_aload_n K.1.1 K.1.2.1 dL_law_1025 rfl (lv_at hl 2 rfl) ?_
  refine lv_aload_n K.1.1 K.1.2.1 dL_law_1026 rfl (lv_at hl 4 rfl) ?_
  refine lv_iload K.1.1 K.1.2.1 dL_law_1027 (lv_at hl 5 rfl) ?_
  refine lv_iconst (v := 1) K.1.1 K.1.2.1 dL_law_1029 (by decide) ?_
  refine lv_iadd K.1.1 K.1.2.1 dL_law_1030 ?_
  refine va_sld K.1.1 K.1.2.1 hX hbl (fun z => by have h9 : B ≤ b := z.1; omega) hS hr1 dL_law_1031 ?_
  refine w_cV (n := 1) (As := [.int (xs (i + 1).toNatClampNeg)]) (rest := []) (k := 259) K hB hP hS h2 (by decide) sh_259 rfl q_1446 q_1447 q_1448 q_91 q_1449 hv_X11_whole ⟨Nat.le_of_ble_eq_true rfl, Nat.le_of_ble_eq_true rfl⟩ rfl hl.1 rfl (Nat.le_of_ble_eq_true rfl) dL_law_1032 ⟨by show _ ≤ 601024; omega, by show _ ≤ 7293034; omega⟩ (fun H hP hS => ?_)
  refine lv_topi (fun v1 ev => ?_)
  refine lv_istore (lv' := [(6, .int v1), (5, .int k), (1, .ref (B + 0)), (2, .ref (B + 259)), (3, .ref (B + 265)), (0, .ref b), (4, .int i)]) K.1.1 K.1.2.1 dL_law_1035 hl (by decide) rfl (fun ls hl => ?_)
  refine lv_aload_n K.1.1 K.1.2.1 dL_law_1037 rfl (lv_at hl 3 rfl) ?_
  refine w_cV (n := 0) (As := []) (rest := []) (k := 259) K hB hP hS (MX11_thrown l G B μ2) (by decide) sh_259 rfl q_1193 q_1194 q_1195 q_91 q_1196 hv_X11_thrown ⟨Nat.le_of_ble_eq_true rfl, Nat.le_of_ble_eq_true rfl⟩ rfl hl.1 rfl (Nat.le_of_ble_eq_true rfl) dL_law_1038 ⟨by show _ ≤ 601024; omega, by show _ ≤ 7293034; omega⟩ (fun H hP hS => ?_)
  refine lv_topi (fun t1 et => ?_)
  refine lv_iload K.1.1 K.1.2.1 dL_law_1041 (lv_at hl 1 rfl) ?_
  refine lv_icmp_eq (tgt := 1048) K.1.1 K.1.2.1 dL_law_1043 (by decide) (fun c => ?_) (fun c => absurd (et.trans hk) c)
  refine lv_iload K.1.1 K.1.2.1 dL_law_1048 (lv_at hl 1 rfl) ?_
  refine lv_if_ne (tgt := 1065) K.1.1 K.1.2.1 dL_law_1050 (by decide) (fun c0 => ?_) (fun c0 => ?_)
  · refine lv_goto (tgt := 1556) K.1.1 K.1.2.1 dL_law_1065 (by decide) ?_
    exact kk H _ μ2 x1 hI hP hS (lv_sub hl [2, 3, 4, 5, 6] rfl)
  · refine lv_aload_n K.1.1 K.1.2.1 dL_law_1053 rfl (lv_at hl 4 rfl) ?_
    refine lv_iconst (v := 0) K.1.1 K.1.2.1 dL_law_1054 (by decide) ?_
    refine w_lald K hA hP dL_law_1055 ?_
    refine lv_iload K.1.1 K.1.2.1 dL_law_1056 (lv_at hl 0 rfl) ?_
    refine lv_i2l K.1.1 K.1.2.1 dL_law_1058 rfl ?_
    refine W.lcmp K.1.1 K.1.2.1 dL_law_1059 ?_
    refine lv_if_eq (tgt := 1065) K.1.1 K.1.2.1 dL_law_1060 (by decide) (fun c => ?_) (fun c => absurd (by rw [hx c0, ev]; exact cmp_rfl _) c)
    refine lv_goto (tgt := 1556) K.1.1 K.1.2.1 dL_law_1065 (by decide) ?_
    exact kk H _ μ2 x1 hI hP hS (lv_sub hl [2, 3, 4, 5, 6] rfl)

def OPC_filled (l : Launch) (G : GG) (B : Nat) (cL : ClassId) (I : Mm → Prop) (μ : Mm) (x : Int64) (p0 : Int32) : Prop :=
  ∃ (k v : Int32) (μ1 μ2 : Mm) (x1 : Int64), LM l yL_filled (.codeWith yL_filled cL_filled 4 (Option.some FieldType.int) [(0, 9, 12, 20)]) 8 131 1 6 G B cL [.ref (B + 0), .int p0, .ref (B + 265)] μ x k μ1 x1 ∧ CM l yX11_filled (.code yX11_filled cX11_filled 2 (Option.some FieldType.int)) 7 155 G B [.ref (B + 259), .int p0] μ1 (some (.int v)) μ2 ∧ μ2 259 3 = k ∧ (k = 0 → x1 = v.toInt64) ∧ I μ2
set_option maxHeartbeats 4000000 in
set_option maxRecDepth 100000 in
theorem law_filled {p : Program} {l : Launch} {e : Env} {s : State} {m : MethodId} {args : Array Value} {below : List Frame} {meth : Method} {c : Code} {H : Heap} {cells slots : Nat} {Q : State → Prop} {ls : Array Slot} {G : GG} {B b L : Nat} {cL : ClassId} {μ : Mm} {x : Int64} {c1 : Cond} {xs : Nat → Int32} {i : Int32} (I : Mm → Prop) (K : KK p m c cL_law 7 s args c1 RL G B) (hD : ND s) (hA : ArrOfT s cL .long) (hB : s.heap.size = B) (hX : va_X b L xs s s.heap) (hbl : b < s.heap.size) (hP : OM G B cL μ x H) (hS : va_S (AA B) s.heap H []) (hl : lv_has ls 7 [(1, .ref (B + 0)), (2, .ref (B + 259)), (3, .ref (B + 265)), (0, .ref b), (4, .int i)]) (hr1 : vp_in (i + 1) L) (hop : OPC_filled l G B cL I μ x (xs (i + 1).toNatClampNeg)) (hc : cells + 1 ≤ 601024 ∧ slots + 6 ≤ 7293034) (kk : ∀ (H1 : Heap) (ls1 : Array Slot) (μ1 : Mm) (x1 : Int64), I μ1 → OM G B cL μ1 x1 H1 → va_S (AA B) s.heap H1 [] → lv_has ls1 7 [(1, .ref (B + 0)), (2, .ref (B + 259)), (3, .ref (B + 265)), (0, .ref b), (4, .int i)] → W p l e room_1 s m args below meth c H1 [] (cells + 1) (slots + 6) Q (F0 m 1556 ls1 [])) : W p l e room_1 s m args below meth c H [] cells slots Q (F0 m 1068 ls []) := by
  obtain ⟨k, v, μ1, μ2, x1, h1, h2, hk, hx, hI⟩ := hop
  refine lv_aload_n K.1.1 K.1.2.1 dL_law_1068 rfl (lv_at hl 0 rfl) ?_
  refine lv_aload_n K.1.1 K.1.2.1 dL_law_1069 rfl (lv_at hl 3 rfl) ?_
  refine lv_iload K.1.1 K.1.2.1 dL_law_1070 (lv_at hl 4 rfl) ?_
  refine lv_iconst (v := 1) K.1.1 K.1.2.1 dL_law_1072 (by decide) ?_
  refine lv_iadd K.1.1 K.1.2.1 dL_law_1073 ?_
  refine va_sld K.1.1 K.1.2.1 hX hbl (fun z => by have h9 : B ≤ b := z.1; omega) hS hr1 dL_law_1074 ?_
  refine lv_aload_n K.1.1 K.1.2.1 dL_law_1075 rfl (lv_at hl 2 rfl) ?_
  refine w_cS (n := 3) (As := [.ref (B + 0), .int (xs (i + 1).toNatClampNeg), .ref (B + 265)]) (rest := []) K hD hA hB hP hS h1 q_1057 q_1058 q_81 q_1059 hv_L_filled.2 ⟨Nat.le_of_ble_eq_true rfl, Nat.le_of_ble_eq_true rfl⟩ rfl hl.1 rfl (Nat.le_of_ble_eq_true rfl) dL_law_1076 ⟨by show _ ≤ 601024; omega, by show _ ≤ 7293034; omega⟩ (fun H hP hS => ?_)
  refine lv_istore (lv' := [(5, .int k), (1, .ref (B + 0)), (2, .ref (B + 259)), (3, .ref (B + 265)), (0, .ref b), (4, .int i)]) K.1.1 K.1.2.1 dL_law_1079 hl (by decide) rfl (fun ls hl => ?_)
  refine lv_aload_n K.1.1 K.1.2.1 dL_law_1081 rfl (lv_at hl 2 rfl) ?_
  refine lv_aload_n K.1.1 K.1.2.1 dL_law_1082 rfl (lv_at hl 4 rfl) ?_
  refine lv_iload K.1.1 K.1.2.1 dL_law_1083 (lv_at hl 5 rfl) ?_
  refine lv_iconst (v := 1) K.1.1 K.1.2.1 dL_law_1085 (by decide) ?_
  refine lv_iadd K.1.1 K.1.2.1 dL_law_1086 ?_
  refine va_sld K.1.1 K.1.2.1 hX hbl (fun z => by have h9 : B ≤ b := z.1; omega) hS hr1 dL_law_1087 ?_
  refine w_cV (n := 1) (As := [.int (xs (i + 1).toNatClampNeg)]) (rest := []) (k := 259) K hB hP hS h2 (by decide) sh_259 rfl q_1454 q_1455 q_1456 q_91 q_1457 hv_X11_filled ⟨Nat.le_of_ble_eq_true rfl, Nat.le_of_ble_eq_true rfl⟩ rfl hl.1 rfl (Nat.le_of_ble_eq_true rfl) dL_law_1088 ⟨by show _ ≤ 601024; omega, by show _ ≤ 7293034; omega⟩ (fun H hP hS => ?_)
  refine lv_topi (fun v1 ev => ?_)
  refine lv_istore (lv' := [(6, .int v1), (5, .int k), (1, .ref (B + 0)), (2, .ref (B + 259)), (3, .ref (B + 265)), (0, .ref b), (4, .int i)]) K.1.1 K.1.2.1 dL_law_1091 hl (by decide) rfl (fun ls hl => ?_)
  refine lv_aload_n K.1.1 K.1.2.1 dL_law_1093 rfl (lv_at hl 3 rfl) ?_
  refine w_cV (n := 0) (As := []) (rest := []) (k := 259) K hB hP hS (MX11_thrown l G B μ2) (by decide) sh_259 rfl q_1193 q_1194 q_1195 q_91 q_1196 hv_X11_thrown ⟨Nat.le_of_ble_eq_true rfl, Nat.le_of_ble_eq_true rfl⟩ rfl hl.1 rfl (Nat.le_of_ble_eq_true rfl) dL_law_1094 ⟨by show _ ≤ 601024; omega, by show _ ≤ 7293034; omega⟩ (fun H hP hS => ?_)
  refine lv_topi (fun t1 et => ?_)
  refine lv_iload K.1.1 K.1.2.1 dL_law_1097 (lv_at hl 1 rfl) ?_
  refine lv_icmp_eq (tgt := 1104) K.1.1 K.1.2.1 dL_law_1099 (by decide) (fun c => ?_) (fun c => absurd (et.trans hk) c)
  refine lv_iload K.1.1 K.1.2.1 dL_law_1104 (lv_at hl 1 rfl) ?_
  refine lv_if_ne (tgt := 1121) K.1.1 K.1.2.1 dL_law_1106 (by decide) (fun c0 => ?_) (fun c0 => ?_)
  · refine lv_goto (tgt := 1556) K.1.1 K.1.2.1 dL_law_1121 (by decide) ?_
    exact kk H _ μ2 x1 hI hP hS (lv_sub hl [2, 3, 4, 5, 6] rfl)
  · refine lv_aload_n K.1.1 K.1.2.1 dL_law_1109 rfl (lv_at hl 4 rfl) ?_
    refine lv_iconst (v := 0) K.1.1 K.1.2.1 dL_law_1110 (by decide) ?_
    refine w_lald K hA hP dL_law_1111 ?_
    refine lv_iload K.1.1 K.1.2.1 dL_law_1112 (lv_at hl 0 rfl) ?_
    refine lv_i2l K.1.1 K.1.2.1 dL_law_1114 rfl ?_
    refine W.lcmp K.1.1 K.1.2.1 dL_law_1115 ?_
    refine lv_if_eq (tgt := 1121) K.1.1 K.1.2.1 dL_law_1116 (by decide) (fun c => ?_) (fun c => absurd (by rw [hx c0, ev]; exact cmp_rfl _) c)
    refine lv_goto (tgt := 1556) K.1.1 K.1.2.1 dL_law_1121 (by decide) ?_
    exact kk H _ μ2 x1 hI hP hS (lv_sub hl [2, 3, 4, 5, 6] rfl)

def OPC_reason (l : Launch) (G : GG) (B : Nat) (cL : ClassId) (I : Mm → Prop) (μ : Mm) (x : Int64) (p0 : Int32) : Prop :=
  ∃ (k v : Int32) (μ1 μ2 : Mm) (x1 : Int64), LM l yL_reason (.codeWith yL_reason cL_reason 4 (Option.some FieldType.int) [(0, 9, 12, 20)]) 8 131 1 6 G B cL [.ref (B + 0), .int p0, .ref (B + 265)] μ x k μ1 x1 ∧ CM l yX11_reason (.code yX11_reason cX11_reason 3 (Option.some FieldType.int)) 7 155 G B [.ref (B + 259), .int p0] μ1 (some (.int v)) μ2 ∧ μ2 259 3 = k ∧ (k = 0 → x1 = v.toInt64) ∧ I μ2
set_option maxHeartbeats 4000000 in
set_option maxRecDepth 100000 in
theorem law_reason {p : Program} {l : Launch} {e : Env} {s : State} {m : MethodId} {args : Array Value} {below : List Frame} {meth : Method} {c : Code} {H : Heap} {cells slots : Nat} {Q : State → Prop} {ls : Array Slot} {G : GG} {B b L : Nat} {cL : ClassId} {μ : Mm} {x : Int64} {c1 : Cond} {xs : Nat → Int32} {i : Int32} (I : Mm → Prop) (K : KK p m c cL_law 7 s args c1 RL G B) (hD : ND s) (hA : ArrOfT s cL .long) (hB : s.heap.size = B) (hX : va_X b L xs s s.heap) (hbl : b < s.heap.size) (hP : OM G B cL μ x H) (hS : va_S (AA B) s.heap H []) (hl : lv_has ls 7 [(1, .ref (B + 0)), (2, .ref (B + 259)), (3, .ref (B + 265)), (0, .ref b), (4, .int i)]) (hr1 : vp_in (i + 1) L) (hop : OPC_reason l G B cL I μ x (xs (i + 1).toNatClampNeg)) (hc : cells + 1 ≤ 601024 ∧ slots + 6 ≤ 7293034) (kk : ∀ (H1 : Heap) (ls1 : Array Slot) (μ1 : Mm) (x1 : Int64), I μ1 → OM G B cL μ1 x1 H1 → va_S (AA B) s.heap H1 [] → lv_has ls1 7 [(1, .ref (B + 0)), (2, .ref (B + 259)), (3, .ref (B + 265)), (0, .ref b), (4, .int i)] → W p l e room_1 s m args below meth c H1 [] (cells + 1) (slots + 6) Q (F0 m 1556 ls1 [])) : W p l e room_1 s m args below meth c H [] cells slots Q (F0 m 1124 ls []) := by
  obtain ⟨k, v, μ1, μ2, x1, h1, h2, hk, hx, hI⟩ := hop
  refine lv_aload_n K.1.1 K.1.2.1 dL_law_1124 rfl (lv_at hl 0 rfl) ?_
  refine lv_aload_n K.1.1 K.1.2.1 dL_law_1125 rfl (lv_at hl 3 rfl) ?_
  refine lv_iload K.1.1 K.1.2.1 dL_law_1126 (lv_at hl 4 rfl) ?_
  refine lv_iconst (v := 1) K.1.1 K.1.2.1 dL_law_1128 (by decide) ?_
  refine lv_iadd K.1.1 K.1.2.1 dL_law_1129 ?_
  refine va_sld K.1.1 K.1.2.1 hX hbl (fun z => by have h9 : B ≤ b := z.1; omega) hS hr1 dL_law_1130 ?_
  refine lv_aload_n K.1.1 K.1.2.1 dL_law_1131 rfl (lv_at hl 2 rfl) ?_
  refine w_cS (n := 3) (As := [.ref (B + 0), .int (xs (i + 1).toNatClampNeg), .ref (B + 265)]) (rest := []) K hD hA hB hP hS h1 q_1064 q_1065 q_81 q_1066 hv_L_reason.2 ⟨Nat.le_of_ble_eq_true rfl, Nat.le_of_ble_eq_true rfl⟩ rfl hl.1 rfl (Nat.le_of_ble_eq_true rfl) dL_law_1132 ⟨by show _ ≤ 601024; omega, by show _ ≤ 7293034; omega⟩ (fun H hP hS => ?_)
  refine lv_istore (lv' := [(5, .int k), (1, .ref (B + 0)), (2, .ref (B + 259)), (3, .ref (B + 265)), (0, .ref b), (4, .int i)]) K.1.1 K.1.2.1 dL_law_1135 hl (by decide) rfl (fun ls hl => ?_)
  refine lv_aload_n K.1.1 K.1.2.1 dL_law_1137 rfl (lv_at hl 2 rfl) ?_
  refine lv_aload_n K.1.1 K.1.2.1 dL_law_1138 rfl (lv_at hl 4 rfl) ?_
  refine lv_iload K.1.1 K.1.2.1 dL_law_1139 (lv_at hl 5 rfl) ?_
  refine lv_iconst (v := 1) K.1.1 K.1.2.1 dL_law_1141 (by decide) ?_
  refine lv_iadd K.1.1 K.1.2.1 dL_law_1142 ?_
  refine va_sld K.1.1 K.1.2.1 hX hbl (fun z => by have h9 : B ≤ b := z.1; omega) hS hr1 dL_law_1143 ?_
  refine w_cV (n := 1) (As := [.int (xs (i + 1).toNatClampNeg)]) (rest := []) (k := 259) K hB hP hS h2 (by decide) sh_259 rfl q_1462 q_1463 q_1464 q_91 q_1465 hv_X11_reason ⟨Nat.le_of_ble_eq_true rfl, Nat.le_of_ble_eq_true rfl⟩ rfl hl.1 rfl (Nat.le_of_ble_eq_true rfl) dL_law_1144 ⟨by show _ ≤ 601024; omega, by show _ ≤ 7293034; omega⟩ (fun H hP hS => ?_)
  refine lv_topi (fun v1 ev => ?_)
  refine lv_istore (lv' := [(6, .int v1), (5, .int k), (1, .ref (B + 0)), (2, .ref (B + 259)), (3, .ref (B + 265)), (0, .ref b), (4, .int i)]) K.1.1 K.1.2.1 dL_law_1147 hl (by decide) rfl (fun ls hl => ?_)
  refine lv_aload_n K.1.1 K.1.2.1 dL_law_1149 rfl (lv_at hl 3 rfl) ?_
  refine w_cV (n := 0) (As := []) (rest := []) (k := 259) K hB hP hS (MX11_thrown l G B μ2) (by decide) sh_259 rfl q_1193 q_1194 q_1195 q_91 q_1196 hv_X11_thrown ⟨Nat.le_of_ble_eq_true rfl, Nat.le_of_ble_eq_true rfl⟩ rfl hl.1 rfl (Nat.le_of_ble_eq_true rfl) dL_law_1150 ⟨by show _ ≤ 601024; omega, by show _ ≤ 7293034; omega⟩ (fun H hP hS => ?_)
  refine lv_topi (fun t1 et => ?_)
  refine lv_iload K.1.1 K.1.2.1 dL_law_1153 (lv_at hl 1 rfl) ?_
  refine lv_icmp_eq (tgt := 1160) K.1.1 K.1.2.1 dL_law_1155 (by decide) (fun c => ?_) (fun c => absurd (et.trans hk) c)
  refine lv_iload K.1.1 K.1.2.1 dL_law_1160 (lv_at hl 1 rfl) ?_
  refine lv_if_ne (tgt := 1177) K.1.1 K.1.2.1 dL_law_1162 (by decide) (fun c0 => ?_) (fun c0 => ?_)
  · refine lv_goto (tgt := 1556) K.1.1 K.1.2.1 dL_law_1177 (by decide) ?_
    exact kk H _ μ2 x1 hI hP hS (lv_sub hl [2, 3, 4, 5, 6] rfl)
  · refine lv_aload_n K.1.1 K.1.2.1 dL_law_1165 rfl (lv_at hl 4 rfl) ?_
    refine lv_iconst (v := 0) K.1.1 K.1.2.1 dL_law_1166 (by decide) ?_
    refine w_lald K hA hP dL_law_1167 ?_
    refine lv_iload K.1.1 K.1.2.1 dL_law_1168 (lv_at hl 0 rfl) ?_
    refine lv_i2l K.1.1 K.1.2.1 dL_law_1170 rfl ?_
    refine W.lcmp K.1.1 K.1.2.1 dL_law_1171 ?_
    refine lv_if_eq (tgt := 1177) K.1.1 K.1.2.1 dL_law_1172 (by decide) (fun c => ?_) (fun c => absurd (by rw [hx c0, ev]; exact cmp_rfl _) c)
    refine lv_goto (tgt := 1556) K.1.1 K.1.2.1 dL_law_1177 (by decide) ?_
    exact kk H _ μ2 x1 hI hP hS (lv_sub hl [2, 3, 4, 5, 6] rfl)

def OPC_gainWith (l : Launch) (G : GG) (B : Nat) (cL : ClassId) (I : Mm → Prop) (μ : Mm) (x : Int64) (p0 : Int32) (p1 : Int32) : Prop :=
  ∃ (k v : Int32) (μ1 μ2 : Mm) (x1 : Int64), LM l yL_gainWith (.codeWith yL_gainWith cL_gainWith 5 (Option.some FieldType.int) [(0, 10, 13, 20), (0, 10, 17, 13)]) 8 132 1 6 G B cL [.ref (B + 0), .int p0, .int p1, .ref (B + 265)] μ x k μ1 x1 ∧ CM l yX11_gainWith (.code yX11_gainWith cX11_gainWith 3 (Option.some FieldType.int)) 7 157 G B [.ref (B + 259), .int p0, .int p1] μ1 (some (.int v)) μ2 ∧ μ2 259 3 = k ∧ (k = 0 → x1 = v.toInt64) ∧ I μ2
set_option maxHeartbeats 4000000 in
set_option maxRecDepth 100000 in
theorem law_gainWith {p : Program} {l : Launch} {e : Env} {s : State} {m : MethodId} {args : Array Value} {below : List Frame} {meth : Method} {c : Code} {H : Heap} {cells slots : Nat} {Q : State → Prop} {ls : Array Slot} {G : GG} {B b L : Nat} {cL : ClassId} {μ : Mm} {x : Int64} {c1 : Cond} {xs : Nat → Int32} {i : Int32} (I : Mm → Prop) (K : KK p m c cL_law 7 s args c1 RL G B) (hD : ND s) (hA : ArrOfT s cL .long) (hB : s.heap.size = B) (hX : va_X b L xs s s.heap) (hbl : b < s.heap.size) (hP : OM G B cL μ x H) (hS : va_S (AA B) s.heap H []) (hl : lv_has ls 7 [(1, .ref (B + 0)), (2, .ref (B + 259)), (3, .ref (B + 265)), (0, .ref b), (4, .int i)]) (hr1 : vp_in (i + 1) L) (hr2 : vp_in (i + 2) L) (hop : OPC_gainWith l G B cL I μ x (xs (i + 1).toNatClampNeg) (xs (i + 2).toNatClampNeg)) (hc : cells + 1 ≤ 601024 ∧ slots + 6 ≤ 7293034) (kk : ∀ (H1 : Heap) (ls1 : Array Slot) (μ1 : Mm) (x1 : Int64), I μ1 → OM G B cL μ1 x1 H1 → va_S (AA B) s.heap H1 [] → lv_has ls1 7 [(1, .ref (B + 0)), (2, .ref (B + 259)), (3, .ref (B + 265)), (0, .ref b), (4, .int i)] → W p l e room_1 s m args below meth c H1 [] (cells + 1) (slots + 6) Q (F0 m 1556 ls1 [])) : W p l e room_1 s m args below meth c H [] cells slots Q (F0 m 1180 ls []) := by
  obtain ⟨k, v, μ1, μ2, x1, h1, h2, hk, hx, hI⟩ := hop
  refine lv_aload_n K.1.1 K.1.2.1 dL_law_1180 rfl (lv_at hl 0 rfl) ?_
  refine lv_aload_n K.1.1 K.1.2.1 dL_law_1181 rfl (lv_at hl 3 rfl) ?_
  refine lv_iload K.1.1 K.1.2.1 dL_law_1182 (lv_at hl 4 rfl) ?_
  refine lv_iconst (v := 1) K.1.1 K.1.2.1 dL_law_1184 (by decide) ?_
  refine lv_iadd K.1.1 K.1.2.1 dL_law_1185 ?_
  refine va_sld K.1.1 K.1.2.1 hX hbl (fun z => by have h9 : B ≤ b := z.1; omega) hS hr1 dL_law_1186 ?_
  refine lv_aload_n K.1.1 K.1.2.1 dL_law_1187 rfl (lv_at hl 3 rfl) ?_
  refine lv_iload K.1.1 K.1.2.1 dL_law_1188 (lv_at hl 4 rfl) ?_
  refine lv_iconst (v := 2) K.1.1 K.1.2.1 dL_law_1190 (by decide) ?_
  refine lv_iadd K.1.1 K.1.2.1 dL_law_1191 ?_
  refine va_sld K.1.1 K.1.2.1 hX hbl (fun z => by have h9 : B ≤ b := z.1; omega) hS hr2 dL_law_1192 ?_
  refine lv_aload_n K.1.1 K.1.2.1 dL_law_1193 rfl (lv_at hl 2 rfl) ?_
  refine w_cS (n := 4) (As := [.ref (B + 0), .int (xs (i + 1).toNatClampNeg), .int (xs (i + 2).toNatClampNeg), .ref (B + 265)]) (rest := []) K hD hA hB hP hS h1 q_1076 q_1077 q_81 q_1078 hv_L_gainWith.2 ⟨Nat.le_of_ble_eq_true rfl, Nat.le_of_ble_eq_true rfl⟩ rfl hl.1 rfl (Nat.le_of_ble_eq_true rfl) dL_law_1194 ⟨by show _ ≤ 601024; omega, by show _ ≤ 7293034; omega⟩ (fun H hP hS => ?_)
  refine lv_istore (lv' := [(5, .int k), (1, .ref (B + 0)), (2, .ref (B + 259)), (3, .ref (B + 265)), (0, .ref b), (4, .int i)]) K.1.1 K.1.2.1 dL_law_1197 hl (by decide) rfl (fun ls hl => ?_)
  refine lv_aload_n K.1.1 K.1.2.1 dL_law_1199 rfl (lv_at hl 2 rfl) ?_
  refine lv_aload_n K.1.1 K.1.2.1 dL_law_1200 rfl (lv_at hl 4 rfl) ?_
  refine lv_iload K.1.1 K.1.2.1 dL_law_1201 (lv_at hl 5 rfl) ?_
  refine lv_iconst (v := 1) K.1.1 K.1.2.1 dL_law_1203 (by decide) ?_
  refine lv_iadd K.1.1 K.1.2.1 dL_law_1204 ?_
  refine va_sld K.1.1 K.1.2.1 hX hbl (fun z => by have h9 : B ≤ b := z.1; omega) hS hr1 dL_law_1205 ?_
  refine lv_aload_n K.1.1 K.1.2.1 dL_law_1206 rfl (lv_at hl 4 rfl) ?_
  refine lv_iload K.1.1 K.1.2.1 dL_law_1207 (lv_at hl 5 rfl) ?_
  refine lv_iconst (v := 2) K.1.1 K.1.2.1 dL_law_1209 (by decide) ?_
  refine lv_iadd K.1.1 K.1.2.1 dL_law_1210 ?_
  refine va_sld K.1.1 K.1.2.1 hX hbl (fun z => by have h9 : B ≤ b := z.1; omega) hS hr2 dL_law_1211 ?_
  refine w_cV (n := 2) (As := [.int (xs (i + 1).toNatClampNeg), .int (xs (i + 2).toNatClampNeg)]) (rest := []) (k := 259) K hB hP hS h2 (by decide) sh_259 rfl q_1466 q_1467 q_1468 q_91 q_1469 hv_X11_gainWith ⟨Nat.le_of_ble_eq_true rfl, Nat.le_of_ble_eq_true rfl⟩ rfl hl.1 rfl (Nat.le_of_ble_eq_true rfl) dL_law_1212 ⟨by show _ ≤ 601024; omega, by show _ ≤ 7293034; omega⟩ (fun H hP hS => ?_)
  refine lv_topi (fun v1 ev => ?_)
  refine lv_istore (lv' := [(6, .int v1), (5, .int k), (1, .ref (B + 0)), (2, .ref (B + 259)), (3, .ref (B + 265)), (0, .ref b), (4, .int i)]) K.1.1 K.1.2.1 dL_law_1215 hl (by decide) rfl (fun ls hl => ?_)
  refine lv_aload_n K.1.1 K.1.2.1 dL_law_1217 rfl (lv_at hl 3 rfl) ?_
  refine w_cV (n := 0) (As := []) (rest := []) (k := 259) K hB hP hS (MX11_thrown l G B μ2) (by decide) sh_259 rfl q_1193 q_1194 q_1195 q_91 q_1196 hv_X11_thrown ⟨Nat.le_of_ble_eq_true rfl, Nat.le_of_ble_eq_true rfl⟩ rfl hl.1 rfl (Nat.le_of_ble_eq_true rfl) dL_law_1218 ⟨by show _ ≤ 601024; omega, by show _ ≤ 7293034; omega⟩ (fun H hP hS => ?_)
  refine lv_topi (fun t1 et => ?_)
  refine lv_iload K.1.1 K.1.2.1 dL_law_1221 (lv_at hl 1 rfl) ?_
  refine lv_icmp_eq (tgt := 1228) K.1.1 K.1.2.1 dL_law_1223 (by decide) (fun c => ?_) (fun c => absurd (et.trans hk) c)
  refine lv_iload K.1.1 K.1.2.1 dL_law_1228 (lv_at hl 1 rfl) ?_
  refine lv_if_ne (tgt := 1245) K.1.1 K.1.2.1 dL_law_1230 (by decide) (fun c0 => ?_) (fun c0 => ?_)
  · refine lv_goto (tgt := 1556) K.1.1 K.1.2.1 dL_law_1245 (by decide) ?_
    exact kk H _ μ2 x1 hI hP hS (lv_sub hl [2, 3, 4, 5, 6] rfl)
  · refine lv_aload_n K.1.1 K.1.2.1 dL_law_1233 rfl (lv_at hl 4 rfl) ?_
    refine lv_iconst (v := 0) K.1.1 K.1.2.1 dL_law_1234 (by decide) ?_
    refine w_lald K hA hP dL_law_1235 ?_
    refine lv_iload K.1.1 K.1.2.1 dL_law_1236 (lv_at hl 0 rfl) ?_
    refine lv_i2l K.1.1 K.1.2.1 dL_law_1238 rfl ?_
    refine W.lcmp K.1.1 K.1.2.1 dL_law_1239 ?_
    refine lv_if_eq (tgt := 1245) K.1.1 K.1.2.1 dL_law_1240 (by decide) (fun c => ?_) (fun c => absurd (by rw [hx c0, ev]; exact cmp_rfl _) c)
    refine lv_goto (tgt := 1556) K.1.1 K.1.2.1 dL_law_1245 (by decide) ?_
    exact kk H _ μ2 x1 hI hP hS (lv_sub hl [2, 3, 4, 5, 6] rfl)

def OPC_bestShade (l : Launch) (G : GG) (B : Nat) (cL : ClassId) (I : Mm → Prop) (μ : Mm) (x : Int64) (p0 : Int32) : Prop :=
  ∃ (k v : Int32) (μ1 μ2 : Mm) (x1 : Int64), LM l yL_bestShade (.codeWith yL_bestShade cL_bestShade 4 (Option.some FieldType.int) [(0, 9, 12, 20)]) 8 138 1 6 G B cL [.ref (B + 0), .int p0, .ref (B + 265)] μ x k μ1 x1 ∧ CM l yX11_bestShade (.code yX11_bestShade cX11_bestShade 6 (Option.some FieldType.int)) 7 157 G B [.ref (B + 259), .int p0] μ1 (some (.int v)) μ2 ∧ μ2 259 3 = k ∧ (k = 0 → x1 = v.toInt64) ∧ I μ2
set_option maxHeartbeats 4000000 in
set_option maxRecDepth 100000 in
theorem law_bestShade {p : Program} {l : Launch} {e : Env} {s : State} {m : MethodId} {args : Array Value} {below : List Frame} {meth : Method} {c : Code} {H : Heap} {cells slots : Nat} {Q : State → Prop} {ls : Array Slot} {G : GG} {B b L : Nat} {cL : ClassId} {μ : Mm} {x : Int64} {c1 : Cond} {xs : Nat → Int32} {i : Int32} (I : Mm → Prop) (K : KK p m c cL_law 7 s args c1 RL G B) (hD : ND s) (hA : ArrOfT s cL .long) (hB : s.heap.size = B) (hX : va_X b L xs s s.heap) (hbl : b < s.heap.size) (hP : OM G B cL μ x H) (hS : va_S (AA B) s.heap H []) (hl : lv_has ls 7 [(1, .ref (B + 0)), (2, .ref (B + 259)), (3, .ref (B + 265)), (0, .ref b), (4, .int i)]) (hr1 : vp_in (i + 1) L) (hop : OPC_bestShade l G B cL I μ x (xs (i + 1).toNatClampNeg)) (hc : cells + 1 ≤ 601024 ∧ slots + 6 ≤ 7293034) (kk : ∀ (H1 : Heap) (ls1 : Array Slot) (μ1 : Mm) (x1 : Int64), I μ1 → OM G B cL μ1 x1 H1 → va_S (AA B) s.heap H1 [] → lv_has ls1 7 [(1, .ref (B + 0)), (2, .ref (B + 259)), (3, .ref (B + 265)), (0, .ref b), (4, .int i)] → W p l e room_1 s m args below meth c H1 [] (cells + 1) (slots + 6) Q (F0 m 1556 ls1 [])) : W p l e room_1 s m args below meth c H [] cells slots Q (F0 m 1248 ls []) := by
  obtain ⟨k, v, μ1, μ2, x1, h1, h2, hk, hx, hI⟩ := hop
  refine lv_aload_n K.1.1 K.1.2.1 dL_law_1248 rfl (lv_at hl 0 rfl) ?_
  refine lv_aload_n K.1.1 K.1.2.1 dL_law_1249 rfl (lv_at hl 3 rfl) ?_
  refine lv_iload K.1.1 K.1.2.1 dL_law_1250 (lv_at hl 4 rfl) ?_
  refine lv_iconst (v := 1) K.1.1 K.1.2.1 dL_law_1252 (by decide) ?_
  refine lv_iadd K.1.1 K.1.2.1 dL_law_1253 ?_
  refine va_sld K.1.1 K.1.2.1 hX hbl (fun z => by have h9 : B ≤ b := z.1; omega) hS hr1 dL_law_1254 ?_
  refine lv_aload_n K.1.1 K.1.2.1 dL_law_1255 rfl (lv_at hl 2 rfl) ?_
  refine w_cS (n := 3) (As := [.ref (B + 0), .int (xs (i + 1).toNatClampNeg), .ref (B + 265)]) (rest := []) K hD hA hB hP hS h1 q_1091 q_1092 q_81 q_1093 hv_L_bestShade.2 ⟨Nat.le_of_ble_eq_true rfl, Nat.le_of_ble_eq_true rfl⟩ rfl hl.1 rfl (Nat.le_of_ble_eq_true rfl) dL_law_1256 ⟨by show _ ≤ 601024; omega, by show _ ≤ 7293034; omega⟩ (fun H hP hS => ?_)
  refine lv_istore (lv' := [(5, .int k), (1, .ref (B + 0)), (2, .ref (B + 259)), (3, .ref (B + 265)), (0, .ref b), (4, .int i)]) K.1.1 K.1.2.1 dL_law_1259 hl (by decide) rfl (fun ls hl => ?_)
  refine lv_aload_n K.1.1 K.1.2.1 dL_law_1261 rfl (lv_at hl 2 rfl) ?_
  refine lv_aload_n K.1.1 K.1.2.1 dL_law_1262 rfl (lv_at hl 4 rfl) ?_
  refine lv_iload K.1.1 K.1.2.1 dL_law_1263 (lv_at hl 5 rfl) ?_
  refine lv_iconst (v := 1) K.1.1 K.1.2.1 dL_law_1265 (by decide) ?_
  refine lv_iadd K.1.1 K.1.2.1 dL_law_1266 ?_
  refine va_sld K.1.1 K.1.2.1 hX hbl (fun z => by have h9 : B ≤ b := z.1; omega) hS hr1 dL_law_1267 ?_
  refine w_cV (n := 1) (As := [.int (xs (i + 1).toNatClampNeg)]) (rest := []) (k := 259) K hB hP hS h2 (by decide) sh_259 rfl q_1474 q_1475 q_1476 q_91 q_1477 hv_X11_bestShade ⟨Nat.le_of_ble_eq_true rfl, Nat.le_of_ble_eq_true rfl⟩ rfl hl.1 rfl (Nat.le_of_ble_eq_true rfl) dL_law_1268 ⟨by show _ ≤ 601024; omega, by show _ ≤ 7293034; omega⟩ (fun H hP hS => ?_)
  refine lv_topi (fun v1 ev => ?_)
  refine lv_istore (lv' := [(6, .int v1), (5, .int k), (1, .ref (B + 0)), (2, .ref (B + 259)), (3, .ref (B + 265)), (0, .ref b), (4, .int i)]) K.1.1 K.1.2.1 dL_law_1271 hl (by decide) rfl (fun ls hl => ?_)
  refine lv_aload_n K.1.1 K.1.2.1 dL_law_1273 rfl (lv_at hl 3 rfl) ?_
  refine w_cV (n := 0) (As := []) (rest := []) (k := 259) K hB hP hS (MX11_thrown l G B μ2) (by decide) sh_259 rfl q_1193 q_1194 q_1195 q_91 q_1196 hv_X11_thrown ⟨Nat.le_of_ble_eq_true rfl, Nat.le_of_ble_eq_true rfl⟩ rfl hl.1 rfl (Nat.le_of_ble_eq_true rfl) dL_law_1274 ⟨by show _ ≤ 601024; omega, by show _ ≤ 7293034; omega⟩ (fun H hP hS => ?_)
  refine lv_topi (fun t1 et => ?_)
  refine lv_iload K.1.1 K.1.2.1 dL_law_1277 (lv_at hl 1 rfl) ?_
  refine lv_icmp_eq (tgt := 1284) K.1.1 K.1.2.1 dL_law_1279 (by decide) (fun c => ?_) (fun c => absurd (et.trans hk) c)
  refine lv_iload K.1.1 K.1.2.1 dL_law_1284 (lv_at hl 1 rfl) ?_
  refine lv_if_ne (tgt := 1301) K.1.1 K.1.2.1 dL_law_1286 (by decide) (fun c0 => ?_) (fun c0 => ?_)
  · refine lv_goto (tgt := 1556) K.1.1 K.1.2.1 dL_law_1301 (by decide) ?_
    exact kk H _ μ2 x1 hI hP hS (lv_sub hl [2, 3, 4, 5, 6] rfl)
  · refine lv_aload_n K.1.1 K.1.2.1 dL_law_1289 rfl (lv_at hl 4 rfl) ?_
    refine lv_iconst (v := 0) K.1.1 K.1.2.1 dL_law_1290 (by decide) ?_
    refine w_lald K hA hP dL_law_1291 ?_
    refine lv_iload K.1.1 K.1.2.1 dL_law_1292 (lv_at hl 0 rfl) ?_
    refine lv_i2l K.1.1 K.1.2.1 dL_law_1294 rfl ?_
    refine W.lcmp K.1.1 K.1.2.1 dL_law_1295 ?_
    refine lv_if_eq (tgt := 1301) K.1.1 K.1.2.1 dL_law_1296 (by decide) (fun c => ?_) (fun c => absurd (by rw [hx c0, ev]; exact cmp_rfl _) c)
    refine lv_goto (tgt := 1556) K.1.1 K.1.2.1 dL_law_1301 (by decide) ?_
    exact kk H _ μ2 x1 hI hP hS (lv_sub hl [2, 3, 4, 5, 6] rfl)

def OPC_bestSplit (l : Launch) (G : GG) (B : Nat) (cL : ClassId) (I : Mm → Prop) (μ : Mm) (x : Int64) (p0 : Int32) : Prop :=
  ∃ (k v : Int32) (μ1 μ2 : Mm) (x1 : Int64), LM l yL_bestSplit (.codeWith yL_bestSplit cL_bestSplit 4 (Option.some FieldType.int) [(0, 9, 12, 20)]) 8 135 1 6 G B cL [.ref (B + 0), .int p0, .ref (B + 265)] μ x k μ1 x1 ∧ CM l yX11_bestSplit (.code yX11_bestSplit cX11_bestSplit 7 (Option.some FieldType.int)) 6 134 G B [.ref (B + 259), .int p0] μ1 (some (.int v)) μ2 ∧ μ2 259 3 = k ∧ (k = 0 → x1 = v.toInt64) ∧ I μ2
set_option maxHeartbeats 4000000 in
set_option maxRecDepth 100000 in
theorem law_bestSplit {p : Program} {l : Launch} {e : Env} {s : State} {m : MethodId} {args : Array Value} {below : List Frame} {meth : Method} {c : Code} {H : Heap} {cells slots : Nat} {Q : State → Prop} {ls : Array Slot} {G : GG} {B b L : Nat} {cL : ClassId} {μ : Mm} {x : Int64} {c1 : Cond} {xs : Nat → Int32} {i : Int32} (I : Mm → Prop) (K : KK p m c cL_law 7 s args c1 RL G B) (hD : ND s) (hA : ArrOfT s cL .long) (hB : s.heap.size = B) (hX : va_X b L xs s s.heap) (hbl : b < s.heap.size) (hP : OM G B cL μ x H) (hS : va_S (AA B) s.heap H []) (hl : lv_has ls 7 [(1, .ref (B + 0)), (2, .ref (B + 259)), (3, .ref (B + 265)), (0, .ref b), (4, .int i)]) (hr1 : vp_in (i + 1) L) (hop : OPC_bestSplit l G B cL I μ x (xs (i + 1).toNatClampNeg)) (hc : cells + 1 ≤ 601024 ∧ slots + 6 ≤ 7293034) (kk : ∀ (H1 : Heap) (ls1 : Array Slot) (μ1 : Mm) (x1 : Int64), I μ1 → OM G B cL μ1 x1 H1 → va_S (AA B) s.heap H1 [] → lv_has ls1 7 [(1, .ref (B + 0)), (2, .ref (B + 259)), (3, .ref (B + 265)), (0, .ref b), (4, .int i)] → W p l e room_1 s m args below meth c H1 [] (cells + 1) (slots + 6) Q (F0 m 1556 ls1 [])) : W p l e room_1 s m args below meth c H [] cells slots Q (F0 m 1304 ls []) := by
  obtain ⟨k, v, μ1, μ2, x1, h1, h2, hk, hx, hI⟩ := hop
  refine lv_aload_n K.1.1 K.1.2.1 dL_law_1304 rfl (lv_at hl 0 rfl) ?_
  refine lv_aload_n K.1.1 K.1.2.1 dL_law_1305 rfl (lv_at hl 3 rfl) ?_
  refine lv_iload K.1.1 K.1.2.1 dL_law_1306 (lv_at hl 4 rfl) ?_
  refine lv_iconst (v := 1) K.1.1 K.1.2.1 dL_law_1308 (by decide) ?_
  refine lv_iadd K.1.1 K.1.2.1 dL_law_1309 ?_
  refine va_sld K.1.1 K.1.2.1 hX hbl (fun z => by have h9 : B ≤ b := z.1; omega) hS hr1 dL_law_1310 ?_
  refine lv_aload_n K.1.1 K.1.2.1 dL_law_1311 rfl (lv_at hl 2 rfl) ?_
  refine w_cS (n := 3) (As := [.ref (B + 0), .int (xs (i + 1).toNatClampNeg), .ref (B + 265)]) (rest := []) K hD hA hB hP hS h1 q_1103 q_1104 q_81 q_1105 hv_L_bestSplit.2 ⟨Nat.le_of_ble_eq_true rfl, Nat.le_of_ble_eq_true rfl⟩ rfl hl.1 rfl (Nat.le_of_ble_eq_true rfl) dL_law_1312 ⟨by show _ ≤ 601024; omega, by show _ ≤ 7293034; omega⟩ (fun H hP hS => ?_)
  refine lv_istore (lv' := [(5, .int k), (1, .ref (B + 0)), (2, .ref (B + 259)), (3, .ref (B + 265)), (0, .ref b), (4, .int i)]) K.1.1 K.1.2.1 dL_law_1315 hl (by decide) rfl (fun ls hl => ?_)
  refine lv_aload_n K.1.1 K.1.2.1 dL_law_1317 rfl (lv_at hl 2 rfl) ?_
  refine lv_aload_n K.1.1 K.1.2.1 dL_law_1318 rfl (lv_at hl 4 rfl) ?_
  refine lv_iload K.1.1 K.1.2.1 dL_law_1319 (lv_at hl 5 rfl) ?_
  refine lv_iconst (v := 1) K.1.1 K.1.2.1 dL_law_1321 (by decide) ?_
  refine lv_iadd K.1.1 K.1.2.1 dL_law_1322 ?_
  refine va_sld K.1.1 K.1.2.1 hX hbl (fun z => by have h9 : B ≤ b := z.1; omega) hS hr1 dL_law_1323 ?_
  refine w_cV (n := 1) (As := [.int (xs (i + 1).toNatClampNeg)]) (rest := []) (k := 259) K hB hP hS h2 (by decide) sh_259 rfl q_1478 q_1479 q_1480 q_91 q_1481 hv_X11_bestSplit ⟨Nat.le_of_ble_eq_true rfl, Nat.le_of_ble_eq_true rfl⟩ rfl hl.1 rfl (Nat.le_of_ble_eq_true rfl) dL_law_1324 ⟨by show _ ≤ 601024; omega, by show _ ≤ 7293034; omega⟩ (fun H hP hS => ?_)
  refine lv_topi (fun v1 ev => ?_)
  refine lv_istore (lv' := [(6, .int v1), (5, .int k), (1, .ref (B + 0)), (2, .ref (B + 259)), (3, .ref (B + 265)), (0, .ref b), (4, .int i)]) K.1.1 K.1.2.1 dL_law_1327 hl (by decide) rfl (fun ls hl => ?_)
  refine lv_aload_n K.1.1 K.1.2.1 dL_law_1329 rfl (lv_at hl 3 rfl) ?_
  refine w_cV (n := 0) (As := []) (rest := []) (k := 259) K hB hP hS (MX11_thrown l G B μ2) (by decide) sh_259 rfl q_1193 q_1194 q_1195 q_91 q_1196 hv_X11_thrown ⟨Nat.le_of_ble_eq_true rfl, Nat.le_of_ble_eq_true rfl⟩ rfl hl.1 rfl (Nat.le_of_ble_eq_true rfl) dL_law_1330 ⟨by show _ ≤ 601024; omega, by show _ ≤ 7293034; omega⟩ (fun H hP hS => ?_)
  refine lv_topi (fun t1 et => ?_)
  refine lv_iload K.1.1 K.1.2.1 dL_law_1333 (lv_at hl 1 rfl) ?_
  refine lv_icmp_eq (tgt := 1340) K.1.1 K.1.2.1 dL_law_1335 (by decide) (fun c => ?_) (fun c => absurd (et.trans hk) c)
  refine lv_iload K.1.1 K.1.2.1 dL_law_1340 (lv_at hl 1 rfl) ?_
  refine lv_if_ne (tgt := 1357) K.1.1 K.1.2.1 dL_law_1342 (by decide) (fun c0 => ?_) (fun c0 => ?_)
  · refine lv_goto (tgt := 1556) K.1.1 K.1.2.1 dL_law_1357 (by decide) ?_
    exact kk H _ μ2 x1 hI hP hS (lv_sub hl [2, 3, 4, 5, 6] rfl)
  · refine lv_aload_n K.1.1 K.1.2.1 dL_law_1345 rfl (lv_at hl 4 rfl) ?_
    refine lv_iconst (v := 0) K.1.1 K.1.2.1 dL_law_1346 (by decide) ?_
    refine w_lald K hA hP dL_law_1347 ?_
    refine lv_iload K.1.1 K.1.2.1 dL_law_1348 (lv_at hl 0 rfl) ?_
    refine lv_i2l K.1.1 K.1.2.1 dL_law_1350 rfl ?_
    refine W.lcmp K.1.1 K.1.2.1 dL_law_1351 ?_
    refine lv_if_eq (tgt := 1357) K.1.1 K.1.2.1 dL_law_1352 (by decide) (fun c => ?_) (fun c => absurd (by rw [hx c0, ev]; exact cmp_rfl _) c)
    refine lv_goto (tgt := 1556) K.1.1 K.1.2.1 dL_law_1357 (by decide) ?_
    exact kk H _ μ2 x1 hI hP hS (lv_sub hl [2, 3, 4, 5, 6] rfl)

def OPC_goneIn (l : Launch) (G : GG) (B : Nat) (cL : ClassId) (I : Mm → Prop) (μ : Mm) (x : Int64) (p0 : Int32) : Prop :=
  ∃ (k v : Int32) (μ1 μ2 : Mm) (x1 : Int64), LM l yL_goneIn (.codeWith yL_goneIn cL_goneIn 4 (Option.some FieldType.int) [(0, 9, 12, 20)]) 8 136 1 6 G B cL [.ref (B + 0), .int p0, .ref (B + 265)] μ x k μ1 x1 ∧ CM l yX11_goneIn (.code yX11_goneIn cX11_goneIn 3 (Option.some FieldType.int)) 7 166 G B [.ref (B + 259), .int p0] μ1 (some (.int v)) μ2 ∧ μ2 259 3 = k ∧ (k = 0 → x1 = v.toInt64) ∧ I μ2
set_option maxHeartbeats 4000000 in
set_option maxRecDepth 100000 in
theorem law_goneIn {p : Program} {l : Launch} {e : Env} {s : State} {m : MethodId} {args : Array Value} {below : List Frame} {meth : Method} {c : Code} {H : Heap} {cells slots : Nat} {Q : State → Prop} {ls : Array Slot} {G : GG} {B b L : Nat} {cL : ClassId} {μ : Mm} {x : Int64} {c1 : Cond} {xs : Nat → Int32} {i : Int32} (I : Mm → Prop) (K : KK p m c cL_law 7 s args c1 RL G B) (hD : ND s) (hA : ArrOfT s cL .long) (hB : s.heap.size = B) (hX : va_X b L xs s s.heap) (hbl : b < s.heap.size) (hP : OM G B cL μ x H) (hS : va_S (AA B) s.heap H []) (hl : lv_has ls 7 [(1, .ref (B + 0)), (2, .ref (B + 259)), (3, .ref (B + 265)), (0, .ref b), (4, .int i)]) (hr1 : vp_in (i + 1) L) (hop : OPC_goneIn l G B cL I μ x (xs (i + 1).toNatClampNeg)) (hc : cells + 1 ≤ 601024 ∧ slots + 6 ≤ 7293034) (kk : ∀ (H1 : Heap) (ls1 : Array Slot) (μ1 : Mm) (x1 : Int64), I μ1 → OM G B cL μ1 x1 H1 → va_S (AA B) s.heap H1 [] → lv_has ls1 7 [(1, .ref (B + 0)), (2, .ref (B + 259)), (3, .ref (B + 265)), (0, .ref b), (4, .int i)] → W p l e room_1 s m args below meth c H1 [] (cells + 1) (slots + 6) Q (F0 m 1556 ls1 [])) : W p l e room_1 s m args below meth c H [] cells slots Q (F0 m 1360 ls []) := by
  obtain ⟨k, v, μ1, μ2, x1, h1, h2, hk, hx, hI⟩ := hop
  refine lv_aload_n K.1.1 K.1.2.1 dL_law_1360 rfl (lv_at hl 0 rfl) ?_
  refine lv_aload_n K.1.1 K.1.2.1 dL_law_1361 rfl (lv_at hl 3 rfl) ?_
  refine lv_iload K.1.1 K.1.2.1 dL_law_1362 (lv_at hl 4 rfl) ?_
  refine lv_iconst (v := 1) K.1.1 K.1.2.1 dL_law_1364 (by decide) ?_
  refine lv_iadd K.1.1 K.1.2.1 dL_law_1365 ?_
  refine va_sld K.1.1 K.1.2.1 hX hbl (fun z => by have h9 : B ≤ b := z.1; omega) hS hr1 dL_law_1366 ?_
  refine lv_aload_n K.1.1 K.1.2.1 dL_law_1367 rfl (lv_at hl 2 rfl) ?_
  refine w_cS (n := 3) (As := [.ref (B + 0), .int (xs (i + 1).toNatClampNeg), .ref (B + 265)]) (rest := []) K hD hA hB hP hS h1 q_1111 q_1112 q_81 q_1113 hv_L_goneIn.2 ⟨Nat.le_of_ble_eq_true rfl, Nat.le_of_ble_eq_true rfl⟩ rfl hl.1 rfl (Nat.le_of_ble_eq_true rfl) dL_law_1368 ⟨by show _ ≤ 601024; omega, by show _ ≤ 7293034; omega⟩ (fun H hP hS => ?_)
  refine lv_istore (lv' := [(5, .int k), (1, .ref (B + 0)), (2, .ref (B + 259)), (3, .ref (B + 265)), (0, .ref b), (4, .int i)]) K.1.1 K.1.2.1 dL_law_1371 hl (by decide) rfl (fun ls hl => ?_)
  refine lv_aload_n K.1.1 K.1.2.1 dL_law_1373 rfl (lv_at hl 2 rfl) ?_
  refine lv_aload_n K.1.1 K.1.2.1 dL_law_1374 rfl (lv_at hl 4 rfl) ?_
  refine lv_iload K.1.1 K.1.2.1 dL_law_1375 (lv_at hl 5 rfl) ?_
  refine lv_iconst (v := 1) K.1.1 K.1.2.1 dL_law_1377 (by decide) ?_
  refine lv_iadd K.1.1 K.1.2.1 dL_law_1378 ?_
  refine va_sld K.1.1 K.1.2.1 hX hbl (fun z => by have h9 : B ≤ b := z.1; omega) hS hr1 dL_law_1379 ?_
  refine w_cV (n := 1) (As := [.int (xs (i + 1).toNatClampNeg)]) (rest := []) (k := 259) K hB hP hS h2 (by decide) sh_259 rfl q_1482 q_1483 q_1484 q_91 q_1485 hv_X11_goneIn ⟨Nat.le_of_ble_eq_true rfl, Nat.le_of_ble_eq_true rfl⟩ rfl hl.1 rfl (Nat.le_of_ble_eq_true rfl) dL_law_1380 ⟨by show _ ≤ 601024; omega, by show _ ≤ 7293034; omega⟩ (fun H hP hS => ?_)
  refine lv_topi (fun v1 ev => ?_)
  refine lv_istore (lv' := [(6, .int v1), (5, .int k), (1, .ref (B + 0)), (2, .ref (B + 259)), (3, .ref (B + 265)), (0, .ref b), (4, .int i)]) K.1.1 K.1.2.1 dL_law_1383 hl (by decide) rfl (fun ls hl => ?_)
  refine lv_aload_n K.1.1 K.1.2.1 dL_law_1385 rfl (lv_at hl 3 rfl) ?_
  refine w_cV (n := 0) (As := []) (rest := []) (k := 259) K hB hP hS (MX11_thrown l G B μ2) (by decide) sh_259 rfl q_1193 q_1194 q_1195 q_91 q_1196 hv_X11_thrown ⟨Nat.le_of_ble_eq_true rfl, Nat.le_of_ble_eq_true rfl⟩ rfl hl.1 rfl (Nat.le_of_ble_eq_true rfl) dL_law_1386 ⟨by show _ ≤ 601024; omega, by show _ ≤ 7293034; omega⟩ (fun H hP hS => ?_)
  refine lv_topi (fun t1 et => ?_)
  refine lv_iload K.1.1 K.1.2.1 dL_law_1389 (lv_at hl 1 rfl) ?_
  refine lv_icmp_eq (tgt := 1396) K.1.1 K.1.2.1 dL_law_1391 (by decide) (fun c => ?_) (fun c => absurd (et.trans hk) c)
  refine lv_iload K.1.1 K.1.2.1 dL_law_1396 (lv_at hl 1 rfl) ?_
  refine lv_if_ne (tgt := 1413) K.1.1 K.1.2.1 dL_law_1398 (by decide) (fun c0 => ?_) (fun c0 => ?_)
  · refine lv_goto (tgt := 1556) K.1.1 K.1.2.1 dL_law_1413 (by decide) ?_
    exact kk H _ μ2 x1 hI hP hS (lv_sub hl [2, 3, 4, 5, 6] rfl)
  · refine lv_aload_n K.1.1 K.1.2.1 dL_law_1401 rfl (lv_at hl 4 rfl) ?_
    refine lv_iconst (v := 0) K.1.1 K.1.2.1 dL_law_1402 (by decide) ?_
    refine w_lald K hA hP dL_law_1403 ?_
    refine lv_iload K.1.1 K.1.2.1 dL_law_1404 (lv_at hl 0 rfl) ?_
    refine lv_i2l K.1.1 K.1.2.1 dL_law_1406 rfl ?_
    refine W.lcmp K.1.1 K.1.2.1 dL_law_1407 ?_
    refine lv_if_eq (tgt := 1413) K.1.1 K.1.2.1 dL_law_1408 (by decide) (fun c => ?_) (fun c => absurd (by rw [hx c0, ev]; exact cmp_rfl _) c)
    refine lv_goto (tgt := 1556) K.1.1 K.1.2.1 dL_law_1413 (by decide) ?_
    exact kk H _ μ2 x1 hI hP hS (lv_sub hl [2, 3, 4, 5, 6] rfl)

def OPC_type (l : Launch) (G : GG) (B : Nat) (cL : ClassId) (I : Mm → Prop) (μ : Mm) (x : Int64) (p0 : Int32) : Prop :=
  ∃ (k v : Int32) (μ1 μ2 : Mm) (x1 : Int64), LM l yL_type (.codeWith yL_type cL_type 4 (Option.some FieldType.int) [(0, 9, 12, 13), (0, 9, 15, 15)]) 8 131 1 6 G B cL [.ref (B + 0), .int p0, .ref (B + 265)] μ x k μ1 x1 ∧ CM l yX11_type (.code yX11_type cX11_type 2 (Option.some FieldType.int)) 1 22 G B [.ref (B + 259), .int p0] μ1 (some (.int v)) μ2 ∧ μ2 259 3 = k ∧ (k = 0 → x1 = v.toInt64) ∧ I μ2
