theorem hv_L_addTrader : yL_addTrader.cls = RL ∧ yL_addTrader.cls ≠ "java/lang/invoke/MethodHandle" ∧ yL_addTrader.cls ≠ "java/lang/invoke/VarHandle" ∧ (parseMethodDescriptor yL_addTrader.desc).map (fun d => d.parameters.length) = some 4 := ⟨rfl, by decide, by decide, by decide +kernel⟩
theorem hv_L_setValue : yL_setValue.cls = RL ∧ yL_setValue.cls ≠ "java/lang/invoke/MethodHandle" ∧ yL_setValue.cls ≠ "java/lang/invoke/VarHandle" ∧ (parseMethodDescriptor yL_setValue.desc).map (fun d => d.parameters.length) = some 4 := ⟨rfl, by decide, by decide, by decide +kernel⟩
theorem hv_L_setShade : yL_setShade.cls = RL ∧ yL_setShade.cls ≠ "java/lang/invoke/MethodHandle" ∧ yL_setShade.cls ≠ "java/lang/invoke/VarHandle" ∧ (parseMethodDescriptor yL_setShade.desc).map (fun d => d.parameters.length) = some 5 := ⟨rfl, by decide, by decide, by decide +kernel⟩
theorem hv_L_set : yL_set.cls = RL ∧ yL_set.cls ≠ "java/lang/invoke/MethodHandle" ∧ yL_set.cls ≠ "java/lang/invoke/VarHandle" ∧ (parseMethodDescriptor yL_set.desc).map (fun d => d.parameters.length) = some 4 := ⟨rfl, by decide, by decide, by decide +kernel⟩
theorem hv_L_bid : yL_bid.cls = RL ∧ yL_bid.cls ≠ "java/lang/invoke/MethodHandle" ∧ yL_bid.cls ≠ "java/lang/invoke/VarHandle" ∧ (parseMethodDescriptor yL_bid.desc).map (fun d => d.parameters.length) = some 4 := ⟨rfl, by decide, by decide, by decide +kernel⟩
theorem hv_L_order : yL_order.cls = RL ∧ yL_order.cls ≠ "java/lang/invoke/MethodHandle" ∧ yL_order.cls ≠ "java/lang/invoke/VarHandle" ∧ (parseMethodDescriptor yL_order.desc).map (fun d => d.parameters.length) = some 5 := ⟨rfl, by decide, by decide, by decide +kernel⟩
theorem hv_L_cancel : yL_cancel.cls = RL ∧ yL_cancel.cls ≠ "java/lang/invoke/MethodHandle" ∧ yL_cancel.cls ≠ "java/lang/invoke/VarHandle" ∧ (parseMethodDescriptor yL_cancel.desc).map (fun d => d.parameters.length) = some 3 := ⟨rfl, by decide, by decide, by decide +kernel⟩
theorem hv_L_clear : yL_clear.cls = RL ∧ yL_clear.cls ≠ "java/lang/invoke/MethodHandle" ∧ yL_clear.cls ≠ "java/lang/invoke/VarHandle" ∧ (parseMethodDescriptor yL_clear.desc).map (fun d => d.parameters.length) = some 2 := ⟨rfl, by decide, by decide, by decide +kernel⟩
theorem hv_L_trader : yL_trader.cls = RL ∧ yL_trader.cls ≠ "java/lang/invoke/MethodHandle" ∧ yL_trader.cls ≠ "java/lang/invoke/VarHandle" ∧ (parseMethodDescriptor yL_trader.desc).map (fun d => d.parameters.length) = some 4 := ⟨rfl, by decide, by decide, by decide +kernel⟩
theorem hv_L_orderOf : yL_orderOf.cls = RL ∧ yL_orderOf.cls ≠ "java/lang/invoke/MethodHandle" ∧ yL_orderOf.cls ≠ "java/lang/invoke/VarHandle" ∧ (parseMethodDescriptor yL_orderOf.desc).map (fun d => d.parameters.length) = some 4 := ⟨rfl, by decide, by decide, by decide +kernel⟩
theorem hv_L_trade : yL_trade.cls = RL ∧ yL_trade.cls ≠ "java/lang/invoke/MethodHandle" ∧ yL_trade.cls ≠ "java/lang/invoke/VarHandle" ∧ (parseMethodDescriptor yL_trade.desc).map (fun d => d.parameters.length) = some 4 := ⟨rfl, by decide, by decide, by decide +kernel⟩
theorem hv_L_at : yL_at.cls = RL ∧ yL_at.cls ≠ "java/lang/invoke/MethodHandle" ∧ yL_at.cls ≠ "java/lang/invoke/VarHandle" ∧ (parseMethodDescriptor yL_at.desc).map (fun d => d.parameters.length) = some 4 := ⟨rfl, by decide, by decide, by decide +kernel⟩
theorem hv_L_now : yL_now.cls = RL ∧ yL_now.cls ≠ "java/lang/invoke/MethodHandle" ∧ yL_now.cls ≠ "java/lang/invoke/VarHandle" ∧ (parseMethodDescriptor yL_now.desc).map (fun d => d.parameters.length) = some 3 := ⟨rfl, by decide, by decide, by decide +kernel⟩
theorem hv_L_whole : yL_whole.cls = RL ∧ yL_whole.cls ≠ "java/lang/invoke/MethodHandle" ∧ yL_whole.cls ≠ "java/lang/invoke/VarHandle" ∧ (parseMethodDescriptor yL_whole.desc).map (fun d => d.parameters.length) = some 3 := ⟨rfl, by decide, by decide, by decide +kernel⟩
theorem hv_L_filled : yL_filled.cls = RL ∧ yL_filled.cls ≠ "java/lang/invoke/MethodHandle" ∧ yL_filled.cls ≠ "java/lang/invoke/VarHandle" ∧ (parseMethodDescriptor yL_filled.desc).map (fun d => d.parameters.length) = some 3 := ⟨rfl, by decide, by decide, by decide +kernel⟩
theorem hv_L_reason : yL_reason.cls = RL ∧ yL_reason.cls ≠ "java/lang/invoke/MethodHandle" ∧ yL_reason.cls ≠ "java/lang/invoke/VarHandle" ∧ (parseMethodDescriptor yL_reason.desc).map (fun d => d.parameters.length) = some 3 := ⟨rfl, by decide, by decide, by decide +kernel⟩
theorem hv_L_gainWith : yL_gainWith.cls = RL ∧ yL_gainWith.cls ≠ "java/lang/invoke/MethodHandle" ∧ yL_gainWith.cls ≠ "java/lang/invoke/VarHandle" ∧ (parseMethodDescriptor yL_gainWith.desc).map (fun d => d.parameters.length) = some 4 := ⟨rfl, by decide, by decide, by decide +kernel⟩
theorem hv_L_bestShade : yL_bestShade.cls = RL ∧ yL_bestShade.cls ≠ "java/lang/invoke/MethodHandle" ∧ yL_bestShade.cls ≠ "java/lang/invoke/VarHandle" ∧ (parseMethodDescriptor yL_bestShade.desc).map (fun d => d.parameters.length) = some 3 := ⟨rfl, by decide, by decide, by decide +kernel⟩
theorem hv_L_bestSplit : yL_bestSplit.cls = RL ∧ yL_bestSplit.cls ≠ "java/lang/invoke/MethodHandle" ∧ yL_bestSplit.cls ≠ "java/lang/invoke/VarHandle" ∧ (parseMethodDescriptor yL_bestSplit.desc).map (fun d => d.parameters.length) = some 3 := ⟨rfl, by decide, by decide, by decide +kernel⟩
theorem hv_L_goneIn : yL_goneIn.cls = RL ∧ yL_goneIn.cls ≠ "java/lang/invoke/MethodHandle" ∧ yL_goneIn.cls ≠ "java/lang/invoke/VarHandle" ∧ (parseMethodDescriptor yL_goneIn.desc).map (fun d => d.parameters.length) = some 3 := ⟨rfl, by decide, by decide, by decide +kernel⟩
theorem hv_L_type : yL_type.cls = RL ∧ yL_type.cls ≠ "java/lang/invoke/MethodHandle" ∧ yL_type.cls ≠ "java/lang/invoke/VarHandle" ∧ (parseMethodDescriptor yL_type.desc).map (fun d => d.parameters.length) = some 3 := ⟨rfl, by decide, by decide, by decide +kernel⟩
theorem hv_L_undo : yL_undo.cls = RL ∧ yL_undo.cls ≠ "java/lang/invoke/MethodHandle" ∧ yL_undo.cls ≠ "java/lang/invoke/VarHandle" ∧ (parseMethodDescriptor yL_undo.desc).map (fun d => d.parameters.length) = some 2 := ⟨rfl, by decide, by decide, by decide +kernel⟩
def OPC_addTrader (l : Launch) (G : GG) (B : Nat) (cL : ClassId) (I : Mm → Prop) (μ : Mm) (x : Int64) (p0 : Int32) (p1 : Int32) : Prop :=
  ∃ (k v : Int32) (μ1 μ2 : Mm) (x1 : Int64), LM l yL_addTrader (.codeWith yL_addTrader cL_addTrader 5 (Option.some FieldType.int) [(0, 10, 13, 13), (0, 10, 17, 15)]) 8 132 1 6 G B cL [.ref (B + 0), .int p0, .int p1, .ref (B + 265)] μ x k μ1 x1 ∧ CM l yX11_addTrader (.code yX11_addTrader cX11_addTrader 3 (Option.some FieldType.int)) 2 47 G B [.ref (B + 259), .int p0, .int p1] μ1 (some (.int v)) μ2 ∧ μ2 259 3 = k ∧ (k = 0 → x1 = v.toInt64) ∧ I μ2
set_option maxHeartbeats 4000000 in
set_option maxRecDepth 100000 in
theorem law_addTrader {p : Program} {l : Launch} {e : Env} {s : State} {m : MethodId} {args : Array Value} {below : List Frame} {meth : Method} {c : Code} {H : Heap} {cells slots : Nat} {Q : State → Prop} {ls : Array Slot} {G : GG} {B b L : Nat} {cL : ClassId} {μ : Mm} {x : Int64} {c1 : Cond} {xs : Nat → Int32} {i : Int32} (I : Mm → Prop) (K : KK p m c cL_law 7 s args c1 RL G B) (hD : ND s) (hA : ArrOfT s cL .long) (hB : s.heap.size = B) (hX : va_X b L xs s s.heap) (hbl : b < s.heap.size) (hP : OM G B cL μ x H) (hS : va_S (AA B) s.heap H []) (hl : lv_has ls 7 [(1, .ref (B + 0)), (2, .ref (B + 259)), (3, .ref (B + 265)), (0, .ref b), (4, .int i)]) (hr1 : vp_in (i + 1) L) (hr2 : vp_in (i + 2) L) (hop : OPC_addTrader l G B cL I μ x (xs (i + 1).toNatClampNeg) (xs (i + 2).toNatClampNeg)) (hc : cells + 1 ≤ 601024 ∧ slots + 6 ≤ 7293034) (kk : ∀ (H1 : Heap) (ls1 : Array Slot) (μ1 : Mm) (x1 : Int64), I μ1 → OM G B cL μ1 x1 H1 → va_S (AA B) s.heap H1 [] → lv_has ls1 7 [(1, .ref (B + 0)), (2, .ref (B + 259)), (3, .ref (B + 265)), (0, .ref b), (4, .int i)] → W p l e room_1 s m args below meth c H1 [] (cells + 1) (slots + 6) Q (F0 m 1556 ls1 [])) : W p l e room_1 s m args below meth c H [] cells slots Q (F0 m 152 ls []) := by
  obtain ⟨k, v, μ1, μ2, x1, h1, h2, hk, hx, hI⟩ := hop
  refine lv_aload_n K.1.1 K.1.2.1 dL_law_152 rfl (lv_at hl 0 rfl) ?_
  refine lv_aload_n K.1.1 K.1.2.1 dL_law_153 rfl (lv_at hl 3 rfl) ?_
  refine lv_iload K.1.1 K.1.2.1 dL_law_154 (lv_at hl 4 rfl) ?_
  refine lv_iconst (v := 1) K.1.1 K.1.2.1 dL_law_156 (by decide) ?_
  refine lv_iadd K.1.1 K.1.2.1 dL_law_157 ?_
  refine va_sld K.1.1 K.1.2.1 hX hbl (fun z => by have h9 : B ≤ b := z.1; omega) hS hr1 dL_law_158 ?_
  refine lv_aload_n K.1.1 K.1.2.1 dL_law_159 rfl (lv_at hl 3 rfl) ?_
  refine lv_iload K.1.1 K.1.2.1 dL_law_160 (lv_at hl 4 rfl) ?_
  refine lv_iconst (v := 2) K.1.1 K.1.2.1 dL_law_162 (by decide) ?_
  refine lv_iadd K.1.1 K.1.2.1 dL_law_163 ?_
  refine va_sld K.1.1 K.1.2.1 hX hbl (fun z => by have h9 : B ≤ b := z.1; omega) hS hr2 dL_law_164 ?_
  refine lv_aload_n K.1.1 K.1.2.1 dL_law_165 rfl (lv_at hl 2 rfl) ?_
  refine w_cS (n := 4) (As := [.ref (B + 0), .int (xs (i + 1).toNatClampNeg), .int (xs (i + 2).toNatClampNeg), .ref (B + 265)]) (rest := []) K hD hA hB hP hS h1 q_822 q_823 q_81 q_824 hv_L_addTrader.2 ⟨Nat.le_of_ble_eq_true rfl, Nat.le_of_ble_eq_true rfl⟩ rfl hl.1 rfl (Nat.le_of_ble_eq_true rfl) dL_law_166 ⟨by show _ ≤ 601024; omega, by show _ ≤ 7293034; omega⟩ (fun H hP hS => ?_)
  refine lv_istore (lv' := [(5, .int k), (1, .ref (B + 0)), (2, .ref (B + 259)), (3, .ref (B + 265)), (0, .ref b), (4, .int i)]) K.1.1 K.1.2.1 dL_law_169 hl (by decide) rfl (fun ls hl => ?_)
  refine lv_aload_n K.1.1 K.1.2.1 dL_law_171 rfl (lv_at hl 2 rfl) ?_
  refine lv_aload_n K.1.1 K.1.2.1 dL_law_172 rfl (lv_at hl 4 rfl) ?_
  refine lv_iload K.1.1 K.1.2.1 dL_law_173 (lv_at hl 5 rfl) ?_
  refine lv_iconst (v := 1) K.1.1 K.1.2.1 dL_law_175 (by decide) ?_
  refine lv_iadd K.1.1 K.1.2.1 dL_law_176 ?_
  refine va_sld K.1.1 K.1.2.1 hX hbl (fun z => by have h9 : B ≤ b := z.1; omega) hS hr1 dL_law_177 ?_
  refine lv_aload_n K.1.1 K.1.2.1 dL_law_178 rfl (lv_at hl 4 rfl) ?_
  refine lv_iload K.1.1 K.1.2.1 dL_law_179 (lv_at hl 5 rfl) ?_
  refine lv_iconst (v := 2) K.1.1 K.1.2.1 dL_law_181 (by decide) ?_
  refine lv_iadd K.1.1 K.1.2.1 dL_law_182 ?_
  refine va_sld K.1.1 K.1.2.1 hX hbl (fun z => by have h9 : B ≤ b := z.1; omega) hS hr2 dL_law_183 ?_
  refine w_cV (n := 2) (As := [.int (xs (i + 1).toNatClampNeg), .int (xs (i + 2).toNatClampNeg)]) (rest := []) (k := 259) K hB hP hS h2 (by decide) sh_259 rfl q_1205 q_1206 q_1207 q_91 q_1208 hv_X11_addTrader ⟨Nat.le_of_ble_eq_true rfl, Nat.le_of_ble_eq_true rfl⟩ rfl hl.1 rfl (Nat.le_of_ble_eq_true rfl) dL_law_184 ⟨by show _ ≤ 601024; omega, by show _ ≤ 7293034; omega⟩ (fun H hP hS => ?_)
  refine lv_topi (fun v1 ev => ?_)
  refine lv_istore (lv' := [(6, .int v1), (5, .int k), (1, .ref (B + 0)), (2, .ref (B + 259)), (3, .ref (B + 265)), (0, .ref b), (4, .int i)]) K.1.1 K.1.2.1 dL_law_187 hl (by decide) rfl (fun ls hl => ?_)
  refine lv_aload_n K.1.1 K.1.2.1 dL_law_189 rfl (lv_at hl 3 rfl) ?_
  refine w_cV (n := 0) (As := []) (rest := []) (k := 259) K hB hP hS (MX11_thrown l G B μ2) (by decide) sh_259 rfl q_1193 q_1194 q_1195 q_91 q_1196 hv_X11_thrown ⟨Nat.le_of_ble_eq_true rfl, Nat.le_of_ble_eq_true rfl⟩ rfl hl.1 rfl (Nat.le_of_ble_eq_true rfl) dL_law_190 ⟨by show _ ≤ 601024; omega, by show _ ≤ 7293034; omega⟩ (fun H hP hS => ?_)
  refine lv_topi (fun t1 et => ?_)
  refine lv_iload K.1.1 K.1.2.1 dL_law_193 (lv_at hl 1 rfl) ?_
  refine lv_icmp_eq (tgt := 200) K.1.1 K.1.2.1 dL_law_195 (by decide) (fun c => ?_) (fun c => absurd (et.trans hk) c)
  refine lv_iload K.1.1 K.1.2.1 dL_law_200 (lv_at hl 1 rfl) ?_
  refine lv_if_ne (tgt := 217) K.1.1 K.1.2.1 dL_law_202 (by decide) (fun c0 => ?_) (fun c0 => ?_)
  · refine lv_goto (tgt := 1556) K.1.1 K.1.2.1 dL_law_217 (by decide) ?_
    exact kk H _ μ2 x1 hI hP hS (lv_sub hl [2, 3, 4, 5, 6] rfl)
  · refine lv_aload_n K.1.1 K.1.2.1 dL_law_205 rfl (lv_at hl 4 rfl) ?_
    refine lv_iconst (v := 0) K.1.1 K.1.2.1 dL_law_206 (by decide) ?_
    refine w_lald K hA hP dL_law_207 ?_
    refine lv_iload K.1.1 K.1.2.1 dL_law_208 (lv_at hl 0 rfl) ?_
    refine lv_i2l K.1.1 K.1.2.1 dL_law_210 rfl ?_
    refine W.lcmp K.1.1 K.1.2.1 dL_law_211 ?_
    refine lv_if_eq (tgt := 217) K.1.1 K.1.2.1 dL_law_212 (by decide) (fun c => ?_) (fun c => absurd (by rw [hx c0, ev]; exact cmp_rfl _) c)
    refine lv_goto (tgt := 1556) K.1.1 K.1.2.1 dL_law_217 (by decide) ?_
    exact kk H _ μ2 x1 hI hP hS (lv_sub hl [2, 3, 4, 5, 6] rfl)

def OPC_setValue (l : Launch) (G : GG) (B : Nat) (cL : ClassId) (I : Mm → Prop) (μ : Mm) (x : Int64) (p0 : Int32) (p1 : Int32) : Prop :=
  ∃ (k v : Int32) (μ1 μ2 : Mm) (x1 : Int64), LM l yL_setValue (.codeWith yL_setValue cL_setValue 5 (Option.some FieldType.int) [(0, 10, 13, 20), (0, 10, 17, 13)]) 8 133 1 6 G B cL [.ref (B + 0), .int p0, .int p1, .ref (B + 265)] μ x k μ1 x1 ∧ CM l yX11_setValue (.code yX11_setValue cX11_setValue 4 (Option.some FieldType.int)) 2 43 G B [.ref (B + 259), .int p0, .int p1] μ1 (some (.int v)) μ2 ∧ μ2 259 3 = k ∧ (k = 0 → x1 = v.toInt64) ∧ I μ2
set_option maxHeartbeats 4000000 in
set_option maxRecDepth 100000 in
theorem law_setValue {p : Program} {l : Launch} {e : Env} {s : State} {m : MethodId} {args : Array Value} {below : List Frame} {meth : Method} {c : Code} {H : Heap} {cells slots : Nat} {Q : State → Prop} {ls : Array Slot} {G : GG} {B b L : Nat} {cL : ClassId} {μ : Mm} {x : Int64} {c1 : Cond} {xs : Nat → Int32} {i : Int32} (I : Mm → Prop) (K : KK p m c cL_law 7 s args c1 RL G B) (hD : ND s) (hA : ArrOfT s cL .long) (hB : s.heap.size = B) (hX : va_X b L xs s s.heap) (hbl : b < s.heap.size) (hP : OM G B cL μ x H) (hS : va_S (AA B) s.heap H []) (hl : lv_has ls 7 [(1, .ref (B + 0)), (2, .ref (B + 259)), (3, .ref (B + 265)), (0, .ref b), (4, .int i)]) (hr1 : vp_in (i + 1) L) (hr2 : vp_in (i + 2) L) (hop : OPC_setValue l G B cL I μ x (xs (i + 1).toNatClampNeg) (xs (i + 2).toNatClampNeg)) (hc : cells + 1 ≤ 601024 ∧ slots + 6 ≤ 7293034) (kk : ∀ (H1 : Heap) (ls1 : Array Slot) (μ1 : Mm) (x1 : Int64), I μ1 → OM G B cL μ1 x1 H1 → va_S (AA B) s.heap H1 [] → lv_has ls1 7 [(1, .ref (B + 0)), (2, .ref (B + 259)), (3, .ref (B + 265)), (0, .ref b), (4, .int i)] → W p l e room_1 s m args below meth c H1 [] (cells + 1) (slots + 6) Q (F0 m 1556 ls1 [])) : W p l e room_1 s m args below meth c H [] cells slots Q (F0 m 220 ls []) := by
  obtain ⟨k, v, μ1, μ2, x1, h1, h2, hk, hx, hI⟩ := hop
  refine lv_aload_n K.1.1 K.1.2.1 dL_law_220 rfl (lv_at hl 0 rfl) ?_
  refine lv_aload_n K.1.1 K.1.2.1 dL_law_221 rfl (lv_at hl 3 rfl) ?_
  refine lv_iload K.1.1 K.1.2.1 dL_law_222 (lv_at hl 4 rfl) ?_
  refine lv_iconst (v := 1) K.1.1 K.1.2.1 dL_law_224 (by decide) ?_
  refine lv_iadd K.1.1 K.1.2.1 dL_law_225 ?_
  refine va_sld K.1.1 K.1.2.1 hX hbl (fun z => by have h9 : B ≤ b := z.1; omega) hS hr1 dL_law_226 ?_
  refine lv_aload_n K.1.1 K.1.2.1 dL_law_227 rfl (lv_at hl 3 rfl) ?_
  refine lv_iload K.1.1 K.1.2.1 dL_law_228 (lv_at hl 4 rfl) ?_
  refine lv_iconst (v := 2) K.1.1 K.1.2.1 dL_law_230 (by decide) ?_
  refine lv_iadd K.1.1 K.1.2.1 dL_law_231 ?_
  refine va_sld K.1.1 K.1.2.1 hX hbl (fun z => by have h9 : B ≤ b := z.1; omega) hS hr2 dL_law_232 ?_
  refine lv_aload_n K.1.1 K.1.2.1 dL_law_233 rfl (lv_at hl 2 rfl) ?_
  refine w_cS (n := 4) (As := [.ref (B + 0), .int (xs (i + 1).toNatClampNeg), .int (xs (i + 2).toNatClampNeg), .ref (B + 265)]) (rest := []) K hD hA hB hP hS h1 q_934 q_935 q_81 q_936 hv_L_setValue.2 ⟨Nat.le_of_ble_eq_true rfl, Nat.le_of_ble_eq_true rfl⟩ rfl hl.1 rfl (Nat.le_of_ble_eq_true rfl) dL_law_234 ⟨by show _ ≤ 601024; omega, by show _ ≤ 7293034; omega⟩ (fun H hP hS => ?_)
  refine lv_istore (lv' := [(5, .int k), (1, .ref (B + 0)), (2, .ref (B + 259)), (3, .ref (B + 265)), (0, .ref b), (4, .int i)]) K.1.1 K.1.2.1 dL_law_237 hl (by decide) rfl (fun ls hl => ?_)
  refine lv_aload_n K.1.1 K.1.2.1 dL_law_239 rfl (lv_at hl 2 rfl) ?_
  refine lv_aload_n K.1.1 K.1.2.1 dL_law_240 rfl (lv_at hl 4 rfl) ?_
  refine lv_iload K.1.1 K.1.2.1 dL_law_241 (lv_at hl 5 rfl) ?_
  refine lv_iconst (v := 1) K.1.1 K.1.2.1 dL_law_243 (by decide) ?_
  refine lv_iadd K.1.1 K.1.2.1 dL_law_244 ?_
  refine va_sld K.1.1 K.1.2.1 hX hbl (fun z => by have h9 : B ≤ b := z.1; omega) hS hr1 dL_law_245 ?_
  refine lv_aload_n K.1.1 K.1.2.1 dL_law_246 rfl (lv_at hl 4 rfl) ?_
  refine lv_iload K.1.1 K.1.2.1 dL_law_247 (lv_at hl 5 rfl) ?_
  refine lv_iconst (v := 2) K.1.1 K.1.2.1 dL_law_249 (by decide) ?_
  refine lv_iadd K.1.1 K.1.2.1 dL_law_250 ?_
  refine va_sld K.1.1 K.1.2.1 hX hbl (fun z => by have h9 : B ≤ b := z.1; omega) hS hr2 dL_law_251 ?_
  refine w_cV (n := 2) (As := [.int (xs (i + 1).toNatClampNeg), .int (xs (i + 2).toNatClampNeg)]) (rest := []) (k := 259) K hB hP hS h2 (by decide) sh_259 rfl q_1232 q_1233 q_1234 q_91 q_1235 hv_X11_setValue ⟨Nat.le_of_ble_eq_true rfl, Nat.le_of_ble_eq_true rfl⟩ rfl hl.1 rfl (Nat.le_of_ble_eq_true rfl) dL_law_252 ⟨by show _ ≤ 601024; omega, by show _ ≤ 7293034; omega⟩ (fun H hP hS => ?_)
  refine lv_topi (fun v1 ev => ?_)
  refine lv_istore (lv' := [(6, .int v1), (5, .int k), (1, .ref (B + 0)), (2, .ref (B + 259)), (3, .ref (B + 265)), (0, .ref b), (4, .int i)]) K.1.1 K.1.2.1 dL_law_255 hl (by decide) rfl (fun ls hl => ?_)
  refine lv_aload_n K.1.1 K.1.2.1 dL_law_257 rfl (lv_at hl 3 rfl) ?_
  refine w_cV (n := 0) (As := []) (rest := []) (k := 259) K hB hP hS (MX11_thrown l G B μ2) (by decide) sh_259 rfl q_1193 q_1194 q_1195 q_91 q_1196 hv_X11_thrown ⟨Nat.le_of_ble_eq_true rfl, Nat.le_of_ble_eq_true rfl⟩ rfl hl.1 rfl (Nat.le_of_ble_eq_true rfl) dL_law_258 ⟨by show _ ≤ 601024; omega, by show _ ≤ 7293034; omega⟩ (fun H hP hS => ?_)
  refine lv_topi (fun t1 et => ?_)
  refine lv_iload K.1.1 K.1.2.1 dL_law_261 (lv_at hl 1 rfl) ?_
  refine lv_icmp_eq (tgt := 268) K.1.1 K.1.2.1 dL_law_263 (by decide) (fun c => ?_) (fun c => absurd (et.trans hk) c)
  refine lv_iload K.1.1 K.1.2.1 dL_law_268 (lv_at hl 1 rfl) ?_
  refine lv_if_ne (tgt := 285) K.1.1 K.1.2.1 dL_law_270 (by decide) (fun c0 => ?_) (fun c0 => ?_)
  · refine lv_goto (tgt := 1556) K.1.1 K.1.2.1 dL_law_285 (by decide) ?_
    exact kk H _ μ2 x1 hI hP hS (lv_sub hl [2, 3, 4, 5, 6] rfl)
  · refine lv_aload_n K.1.1 K.1.2.1 dL_law_273 rfl (lv_at hl 4 rfl) ?_
    refine lv_iconst (v := 0) K.1.1 K.1.2.1 dL_law_274 (by decide) ?_
    refine w_lald K hA hP dL_law_275 ?_
    refine lv_iload K.1.1 K.1.2.1 dL_law_276 (lv_at hl 0 rfl) ?_
    refine lv_i2l K.1.1 K.1.2.1 dL_law_278 rfl ?_
    refine W.lcmp K.1.1 K.1.2.1 dL_law_279 ?_
    refine lv_if_eq (tgt := 285) K.1.1 K.1.2.1 dL_law_280 (by decide) (fun c => ?_) (fun c => absurd (by rw [hx c0, ev]; exact cmp_rfl _) c)
    refine lv_goto (tgt := 1556) K.1.1 K.1.2.1 dL_law_285 (by decide) ?_
    exact kk H _ μ2 x1 hI hP hS (lv_sub hl [2, 3, 4, 5, 6] rfl)

def OPC_setShade (l : Launch) (G : GG) (B : Nat) (cL : ClassId) (I : Mm → Prop) (μ : Mm) (x : Int64) (p0 : Int32) (p1 : Int32) (p2 : Int32) : Prop :=
  ∃ (k v : Int32) (μ1 μ2 : Mm) (x1 : Int64), LM l yL_setShade (.codeWith yL_setShade cL_setShade 6 (Option.some FieldType.int) [(0, 12, 15, 20), (0, 12, 19, 13)]) 8 133 1 6 G B cL [.ref (B + 0), .int p0, .int p1, .int p2, .ref (B + 265)] μ x k μ1 x1 ∧ CM l yX11_setShade (.code yX11_setShade cX11_setShade 4 (Option.some FieldType.int)) 4 91 G B [.ref (B + 259), .int p0, .int p1, .int p2] μ1 (some (.int v)) μ2 ∧ μ2 259 3 = k ∧ (k = 0 → x1 = v.toInt64) ∧ I μ2
set_option maxHeartbeats 4000000 in
set_option maxRecDepth 100000 in
theorem law_setShade {p : Program} {l : Launch} {e : Env} {s : State} {m : MethodId} {args : Array Value} {below : List Frame} {meth : Method} {c : Code} {H : Heap} {cells slots : Nat} {Q : State → Prop} {ls : Array Slot} {G : GG} {B b L : Nat} {cL : ClassId} {μ : Mm} {x : Int64} {c1 : Cond} {xs : Nat → Int32} {i : Int32} (I : Mm → Prop) (K : KK p m c cL_law 7 s args c1 RL G B) (hD : ND s) (hA : ArrOfT s cL .long) (hB : s.heap.size = B) (hX : va_X b L xs s s.heap) (hbl : b < s.heap.size) (hP : OM G B cL μ x H) (hS : va_S (AA B) s.heap H []) (hl : lv_has ls 7 [(1, .ref (B + 0)), (2, .ref (B + 259)), (3, .ref (B + 265)), (0, .ref b), (4, .int i)]) (hr1 : vp_in (i + 1) L) (hr2 : vp_in (i + 2) L) (hr3 : vp_in (i + 3) L) (hop : OPC_setShade l G B cL I μ x (xs (i + 1).toNatClampNeg) (xs (i + 2).toNatClampNeg) (xs (i + 3).toNatClampNeg)) (hc : cells + 1 ≤ 601024 ∧ slots + 6 ≤ 7293034) (kk : ∀ (H1 : Heap) (ls1 : Array Slot) (μ1 : Mm) (x1 : Int64), I μ1 → OM G B cL μ1 x1 H1 → va_S (AA B) s.heap H1 [] → lv_has ls1 7 [(1, .ref (B + 0)), (2, .ref (B + 259)), (3, .ref (B + 265)), (0, .ref b), (4, .int i)] → W p l e room_1 s m args below meth c H1 [] (cells + 1) (slots + 6) Q (F0 m 1556 ls1 [])) : W p l e room_1 s m args below meth c H [] cells slots Q (F0 m 288 ls []) := by
  obtain ⟨k, v, μ1, μ2, x1, h1, h2, hk, hx, hI⟩ := hop
  refine lv_aload_n K.1.1 K.1.2.1 dL_law_288 rfl (lv_at hl 0 rfl) ?_
  refine lv_aload_n K.1.1 K.1.2.1 dL_law_289 rfl (lv_at hl 3 rfl) ?_
  refine lv_iload K.1.1 K.1.2.1 dL_law_290 (lv_at hl 4 rfl) ?_
  refine lv_iconst (v := 1) K.1.1 K.1.2.1 dL_law_292 (by decide) ?_
  refine lv_iadd K.1.1 K.1.2.1 dL_law_293 ?_
  refine va_sld K.1.1 K.1.2.1 hX hbl (fun z => by have h9 : B ≤ b := z.1; omega) hS hr1 dL_law_294 ?_
  refine lv_aload_n K.1.1 K.1.2.1 dL_law_295 rfl (lv_at hl 3 rfl) ?_
  refine lv_iload K.1.1 K.1.2.1 dL_law_296 (lv_at hl 4 rfl) ?_
  refine lv_iconst (v := 2) K.1.1 K.1.2.1 dL_law_298 (by decide) ?_
  refine lv_iadd K.1.1 K.1.2.1 dL_law_299 ?_
  refine va_sld K.1.1 K.1.2.1 hX hbl (fun z => by have h9 : B ≤ b := z.1; omega) hS hr2 dL_law_300 ?_
  refine lv_aload_n K.1.1 K.1.2.1 dL_law_301 rfl (lv_at hl 3 rfl) ?_
  refine lv_iload K.1.1 K.1.2.1 dL_law_302 (lv_at hl 4 rfl) ?_
  refine lv_iconst (v := 3) K.1.1 K.1.2.1 dL_law_304 (by decide) ?_
  refine lv_iadd K.1.1 K.1.2.1 dL_law_305 ?_
  refine va_sld K.1.1 K.1.2.1 hX hbl (fun z => by have h9 : B ≤ b := z.1; omega) hS hr3 dL_law_306 ?_
  refine lv_aload_n K.1.1 K.1.2.1 dL_law_307 rfl (lv_at hl 2 rfl) ?_
  refine w_cS (n := 5) (As := [.ref (B + 0), .int (xs (i + 1).toNatClampNeg), .int (xs (i + 2).toNatClampNeg), .int (xs (i + 3).toNatClampNeg), .ref (B + 265)]) (rest := []) K hD hA hB hP hS h1 q_947 q_948 q_81 q_949 hv_L_setShade.2 ⟨Nat.le_of_ble_eq_true rfl, Nat.le_of_ble_eq_true rfl⟩ rfl hl.1 rfl (Nat.le_of_ble_eq_true rfl) dL_law_308 ⟨by show _ ≤ 601024; omega, by show _ ≤ 7293034; omega⟩ (fun H hP hS => ?_)
  refine lv_istore (lv' := [(5, .int k), (1, .ref (B + 0)), (2, .ref (B + 259)), (3, .ref (B + 265)), (0, .ref b), (4, .int i)]) K.1.1 K.1.2.1 dL_law_311 hl (by decide) rfl (fun ls hl => ?_)
  refine lv_aload_n K.1.1 K.1.2.1 dL_law_313 rfl (lv_at hl 2 rfl) ?_
  refine lv_aload_n K.1.1 K.1.2.1 dL_law_314 rfl (lv_at hl 4 rfl) ?_
  refine lv_iload K.1.1 K.1.2.1 dL_law_315 (lv_at hl 5 rfl) ?_
  refine lv_iconst (v := 1) K.1.1 K.1.2.1 dL_law_317 (by decide) ?_
  refine lv_iadd K.1.1 K.1.2.1 dL_law_318 ?_
  refine va_sld K.1.1 K.1.2.1 hX hbl (fun z => by have h9 : B ≤ b := z.1; omega) hS hr1 dL_law_319 ?_
  refine lv_aload_n K.1.1 K.1.2.1 dL_law_320 rfl (lv_at hl 4 rfl) ?_
  refine lv_iload K.1.1 K.1.2.1 dL_law_321 (lv_at hl 5 rfl) ?_
  refine lv_iconst (v := 2) K.1.1 K.1.2.1 dL_law_323 (by decide) ?_
  refine lv_iadd K.1.1 K.1.2.1 dL_law_324 ?_
  refine va_sld K.1.1 K.1.2.1 hX hbl (fun z => by have h9 : B ≤ b := z.1; omega) hS hr2 dL_law_325 ?_
  refine lv_aload_n K.1.1 K.1.2.1 dL_law_326 rfl (lv_at hl 4 rfl) ?_
  refine lv_iload K.1.1 K.1.2.1 dL_law_327 (lv_at hl 5 rfl) ?_
  refine lv_iconst (v := 3) K.1.1 K.1.2.1 dL_law_329 (by decide) ?_
  refine lv_iadd K.1.1 K.1.2.1 dL_law_330 ?_
  refine va_sld K.1.1 K.1.2.1 hX hbl (fun z => by have h9 : B ≤ b := z.1; omega) hS hr3 dL_law_331 ?_
  refine w_cV (n := 3) (As := [.int (xs (i + 1).toNatClampNeg), .int (xs (i + 2).toNatClampNeg), .int (xs (i + 3).toNatClampNeg)]) (rest := []) (k := 259) K hB hP hS h2 (by decide) sh_259 rfl q_1244 q_1245 q_1246 q_91 q_1247 hv_X11_setShade ⟨Nat.le_of_ble_eq_true rfl, Nat.le_of_ble_eq_true rfl⟩ rfl hl.1 rfl (Nat.le_of_ble_eq_true rfl) dL_law_332 ⟨by show _ ≤ 601024; omega, by show _ ≤ 7293034; omega⟩ (fun H hP hS => ?_)
  refine lv_topi (fun v1 ev => ?_)
  refine lv_istore (lv' := [(6, .int v1), (5, .int k), (1, .ref (B + 0)), (2, .ref (B + 259)), (3, .ref (B + 265)), (0, .ref b), (4, .int i)]) K.1.1 K.1.2.1 dL_law_335 hl (by decide) rfl (fun ls hl => ?_)
  refine lv_aload_n K.1.1 K.1.2.1 dL_law_337 rfl (lv_at hl 3 rfl) ?_
  refine w_cV (n := 0) (As := []) (rest := []) (k := 259) K hB hP hS (MX11_thrown l G B μ2) (by decide) sh_259 rfl q_1193 q_1194 q_1195 q_91 q_1196 hv_X11_thrown ⟨Nat.le_of_ble_eq_true rfl, Nat.le_of_ble_eq_true rfl⟩ rfl hl.1 rfl (Nat.le_of_ble_eq_true rfl) dL_law_338 ⟨by show _ ≤ 601024; omega, by show _ ≤ 7293034; omega⟩ (fun H hP hS => ?_)
  refine lv_topi (fun t1 et => ?_)
  refine lv_iload K.1.1 K.1.2.1 dL_law_341 (lv_at hl 1 rfl) ?_
  refine lv_icmp_eq (tgt := 348) K.1.1 K.1.2.1 dL_law_343 (by decide) (fun c => ?_) (fun c => absurd (et.trans hk) c)
  refine lv_iload K.1.1 K.1.2.1 dL_law_348 (lv_at hl 1 rfl) ?_
  refine lv_if_ne (tgt := 365) K.1.1 K.1.2.1 dL_law_350 (by decide) (fun c0 => ?_) (fun c0 => ?_)
  · refine lv_goto (tgt := 1556) K.1.1 K.1.2.1 dL_law_365 (by decide) ?_
    exact kk H _ μ2 x1 hI hP hS (lv_sub hl [2, 3, 4, 5, 6] rfl)
  · refine lv_aload_n K.1.1 K.1.2.1 dL_law_353 rfl (lv_at hl 4 rfl) ?_
    refine lv_iconst (v := 0) K.1.1 K.1.2.1 dL_law_354 (by decide) ?_
    refine w_lald K hA hP dL_law_355 ?_
    refine lv_iload K.1.1 K.1.2.1 dL_law_356 (lv_at hl 0 rfl) ?_
    refine lv_i2l K.1.1 K.1.2.1 dL_law_358 rfl ?_
    refine W.lcmp K.1.1 K.1.2.1 dL_law_359 ?_
    refine lv_if_eq (tgt := 365) K.1.1 K.1.2.1 dL_law_360 (by decide) (fun c => ?_) (fun c => absurd (by rw [hx c0, ev]; exact cmp_rfl _) c)
    refine lv_goto (tgt := 1556) K.1.1 K.1.2.1 dL_law_365 (by decide) ?_
    exact kk H _ μ2 x1 hI hP hS (lv_sub hl [2, 3, 4, 5, 6] rfl)

def OPC_set (l : Launch) (G : GG) (B : Nat) (cL : ClassId) (I : Mm → Prop) (μ : Mm) (x : Int64) (p0 : Int32) (p1 : Int32) : Prop :=
  ∃ (k v : Int32) (μ1 μ2 : Mm) (x1 : Int64), LM l yL_set (.codeWith yL_set cL_set 5 (Option.some FieldType.int) [(0, 10, 13, 13)]) 8 132 1 6 G B cL [.ref (B + 0), .int p0, .int p1, .ref (B + 265)] μ x k μ1 x1 ∧ CM l yX11_set (.code yX11_set cX11_set 3 (Option.some FieldType.int)) 2 44 G B [.ref (B + 259), .int p0, .int p1] μ1 (some (.int v)) μ2 ∧ μ2 259 3 = k ∧ (k = 0 → x1 = v.toInt64) ∧ I μ2
set_option maxHeartbeats 4000000 in
set_option maxRecDepth 100000 in
theorem law_set {p : Program} {l : Launch} {e : Env} {s : State} {m : MethodId} {args : Array Value} {below : List Frame} {meth : Method} {c : Code} {H : Heap} {cells slots : Nat} {Q : State → Prop} {ls : Array Slot} {G : GG} {B b L : Nat} {cL : ClassId} {μ : Mm} {x : Int64} {c1 : Cond} {xs : Nat → Int32} {i : Int32} (I : Mm → Prop) (K : KK p m c cL_law 7 s args c1 RL G B) (hD : ND s) (hA : ArrOfT s cL .long) (hB : s.heap.size = B) (hX : va_X b L xs s s.heap) (hbl : b < s.heap.size) (hP : OM G B cL μ x H) (hS : va_S (AA B) s.heap H []) (hl : lv_has ls 7 [(1, .ref (B + 0)), (2, .ref (B + 259)), (3, .ref (B + 265)), (0, .ref b), (4, .int i)]) (hr1 : vp_in (i + 1) L) (hr2 : vp_in (i + 2) L) (hop : OPC_set l G B cL I μ x (xs (i + 1).toNatClampNeg) (xs (i + 2).toNatClampNeg)) (hc : cells + 1 ≤ 601024 ∧ slots + 6 ≤ 7293034) (kk : ∀ (H1 : Heap) (ls1 : Array Slot) (μ1 : Mm) (x1 : Int64), I μ1 → OM G B cL μ1 x1 H1 → va_S (AA B) s.heap H1 [] → lv_has ls1 7 [(1, .ref (B + 0)), (2, .ref (B + 259)), (3, .ref (B + 265)), (0, .ref b), (4, .int i)] → W p l e room_1 s m args below meth c H1 [] (cells + 1) (slots + 6) Q (F0 m 1556 ls1 [])) : W p l e room_1 s m args below meth c H [] cells slots Q (F0 m 368 ls []) := by
  obtain ⟨k, v, μ1, μ2, x1, h1, h2, hk, hx, hI⟩ := hop
  refine lv_aload_n K.1.1 K.1.2.1 dL_law_368 rfl (lv_at hl 0 rfl) ?_
  refine lv_aload_n K.1.1 K.1.2.1 dL_law_369 rfl (lv_at hl 3 rfl) ?_
  refine lv_iload K.1.1 K.1.2.1 dL_law_370 (lv_at hl 4 rfl) ?_
  refine lv_iconst (v := 1) K.1.1 K.1.2.1 dL_law_372 (by decide) ?_
  refine lv_iadd K.1.1 K.1.2.1 dL_law_373 ?_
  refine va_sld K.1.1 K.1.2.1 hX hbl (fun z => by have h9 : B ≤ b := z.1; omega) hS hr1 dL_law_374 ?_
  refine lv_aload_n K.1.1 K.1.2.1 dL_law_375 rfl (lv_at hl 3 rfl) ?_
  refine lv_iload K.1.1 K.1.2.1 dL_law_376 (lv_at hl 4 rfl) ?_
  refine lv_iconst (v := 2) K.1.1 K.1.2.1 dL_law_378 (by decide) ?_
  refine lv_iadd K.1.1 K.1.2.1 dL_law_379 ?_
  refine va_sld K.1.1 K.1.2.1 hX hbl (fun z => by have h9 : B ≤ b := z.1; omega) hS hr2 dL_law_380 ?_
  refine lv_aload_n K.1.1 K.1.2.1 dL_law_381 rfl (lv_at hl 2 rfl) ?_
  refine w_cS (n := 4) (As := [.ref (B + 0), .int (xs (i + 1).toNatClampNeg), .int (xs (i + 2).toNatClampNeg), .ref (B + 265)]) (rest := []) K hD hA hB hP hS h1 q_954 q_955 q_81 q_956 hv_L_set.2 ⟨Nat.le_of_ble_eq_true rfl, Nat.le_of_ble_eq_true rfl⟩ rfl hl.1 rfl (Nat.le_of_ble_eq_true rfl) dL_law_382 ⟨by show _ ≤ 601024; omega, by show _ ≤ 7293034; omega⟩ (fun H hP hS => ?_)
  refine lv_istore (lv' := [(5, .int k), (1, .ref (B + 0)), (2, .ref (B + 259)), (3, .ref (B + 265)), (0, .ref b), (4, .int i)]) K.1.1 K.1.2.1 dL_law_385 hl (by decide) rfl (fun ls hl => ?_)
  refine lv_aload_n K.1.1 K.1.2.1 dL_law_387 rfl (lv_at hl 2 rfl) ?_
  refine lv_aload_n K.1.1 K.1.2.1 dL_law_388 rfl (lv_at hl 4 rfl) ?_
  refine lv_iload K.1.1 K.1.2.1 dL_law_389 (lv_at hl 5 rfl) ?_
  refine lv_iconst (v := 1) K.1.1 K.1.2.1 dL_law_391 (by decide) ?_
  refine lv_iadd K.1.1 K.1.2.1 dL_law_392 ?_
  refine va_sld K.1.1 K.1.2.1 hX hbl (fun z => by have h9 : B ≤ b := z.1; omega) hS hr1 dL_law_393 ?_
  refine lv_aload_n K.1.1 K.1.2.1 dL_law_394 rfl (lv_at hl 4 rfl) ?_
  refine lv_iload K.1.1 K.1.2.1 dL_law_395 (lv_at hl 5 rfl) ?_
  refine lv_iconst (v := 2) K.1.1 K.1.2.1 dL_law_397 (by decide) ?_
  refine lv_iadd K.1.1 K.1.2.1 dL_law_398 ?_
  refine va_sld K.1.1 K.1.2.1 hX hbl (fun z => by have h9 : B ≤ b := z.1; omega) hS hr2 dL_law_399 ?_
  refine w_cV (n := 2) (As := [.int (xs (i + 1).toNatClampNeg), .int (xs (i + 2).toNatClampNeg)]) (rest := []) (k := 259) K hB hP hS h2 (by decide) sh_259 rfl q_1264 q_1265 q_1266 q_91 q_1267 hv_X11_set ⟨Nat.le_of_ble_eq_true rfl, Nat.le_of_ble_eq_true rfl⟩ rfl hl.1 rfl (Nat.le_of_ble_eq_true rfl) dL_law_400 ⟨by show _ ≤ 601024; omega, by show _ ≤ 7293034; omega⟩ (fun H hP hS => ?_)
  refine lv_topi (fun v1 ev => ?_)
  refine lv_istore (lv' := [(6, .int v1), (5, .int k), (1, .ref (B + 0)), (2, .ref (B + 259)), (3, .ref (B + 265)), (0, .ref b), (4, .int i)]) K.1.1 K.1.2.1 dL_law_403 hl (by decide) rfl (fun ls hl => ?_)
  refine lv_aload_n K.1.1 K.1.2.1 dL_law_405 rfl (lv_at hl 3 rfl) ?_
  refine w_cV (n := 0) (As := []) (rest := []) (k := 259) K hB hP hS (MX11_thrown l G B μ2) (by decide) sh_259 rfl q_1193 q_1194 q_1195 q_91 q_1196 hv_X11_thrown ⟨Nat.le_of_ble_eq_true rfl, Nat.le_of_ble_eq_true rfl⟩ rfl hl.1 rfl (Nat.le_of_ble_eq_true rfl) dL_law_406 ⟨by show _ ≤ 601024; omega, by show _ ≤ 7293034; omega⟩ (fun H hP hS => ?_)
  refine lv_topi (fun t1 et => ?_)
  refine lv_iload K.1.1 K.1.2.1 dL_law_409 (lv_at hl 1 rfl) ?_
  refine lv_icmp_eq (tgt := 416) K.1.1 K.1.2.1 dL_law_411 (by decide) (fun c => ?_) (fun c => absurd (et.trans hk) c)
  refine lv_iload K.1.1 K.1.2.1 dL_law_416 (lv_at hl 1 rfl) ?_
  refine lv_if_ne (tgt := 433) K.1.1 K.1.2.1 dL_law_418 (by decide) (fun c0 => ?_) (fun c0 => ?_)
  · refine lv_goto (tgt := 1556) K.1.1 K.1.2.1 dL_law_433 (by decide) ?_
    exact kk H _ μ2 x1 hI hP hS (lv_sub hl [2, 3, 4, 5, 6] rfl)
  · refine lv_aload_n K.1.1 K.1.2.1 dL_law_421 rfl (lv_at hl 4 rfl) ?_
    refine lv_iconst (v := 0) K.1.1 K.1.2.1 dL_law_422 (by decide) ?_
    refine w_lald K hA hP dL_law_423 ?_
    refine lv_iload K.1.1 K.1.2.1 dL_law_424 (lv_at hl 0 rfl) ?_
    refine lv_i2l K.1.1 K.1.2.1 dL_law_426 rfl ?_
    refine W.lcmp K.1.1 K.1.2.1 dL_law_427 ?_
    refine lv_if_eq (tgt := 433) K.1.1 K.1.2.1 dL_law_428 (by decide) (fun c => ?_) (fun c => absurd (by rw [hx c0, ev]; exact cmp_rfl _) c)
    refine lv_goto (tgt := 1556) K.1.1 K.1.2.1 dL_law_433 (by decide) ?_
    exact kk H _ μ2 x1 hI hP hS (lv_sub hl [2, 3, 4, 5, 6] rfl)

def OPC_bid (l : Launch) (G : GG) (B : Nat) (cL : ClassId) (I : Mm → Prop) (μ : Mm) (x : Int64) (p0 : Int32) (p1 : Int32) : Prop :=
  ∃ (k v : Int32) (μ1 μ2 : Mm) (x1 : Int64), LM l yL_bid (.codeWith yL_bid cL_bid 5 (Option.some FieldType.int) [(0, 10, 13, 20), (0, 10, 17, 13), (0, 10, 21, 15)]) 8 132 1 6 G B cL [.ref (B + 0), .int p0, .int p1, .ref (B + 265)] μ x k μ1 x1 ∧ CM l yX11_bid (.code yX11_bid cX11_bid 3 (Option.some FieldType.int)) 3 68 G B [.ref (B + 259), .int p0, .int p1] μ1 (some (.int v)) μ2 ∧ μ2 259 3 = k ∧ (k = 0 → x1 = v.toInt64) ∧ I μ2
set_option maxHeartbeats 4000000 in
set_option maxRecDepth 100000 in
theorem law_bid {p : Program} {l : Launch} {e : Env} {s : State} {m : MethodId} {args : Array Value} {below : List Frame} {meth : Method} {c : Code} {H : Heap} {cells slots : Nat} {Q : State → Prop} {ls : Array Slot} {G : GG} {B b L : Nat} {cL : ClassId} {μ : Mm} {x : Int64} {c1 : Cond} {xs : Nat → Int32} {i : Int32} (I : Mm → Prop) (K : KK p m c cL_law 7 s args c1 RL G B) (hD : ND s) (hA : ArrOfT s cL .long) (hB : s.heap.size = B) (hX : va_X b L xs s s.heap) (hbl : b < s.heap.size) (hP : OM G B cL μ x H) (hS : va_S (AA B) s.heap H []) (hl : lv_has ls 7 [(1, .ref (B + 0)), (2, .ref (B + 259)), (3, .ref (B + 265)), (0, .ref b), (4, .int i)]) (hr1 : vp_in (i + 1) L) (hr2 : vp_in (i + 2) L) (hop : OPC_bid l G B cL I μ x (xs (i + 1).toNatClampNeg) (xs (i + 2).toNatClampNeg)) (hc : cells + 1 ≤ 601024 ∧ slots + 6 ≤ 7293034) (kk : ∀ (H1 : Heap) (ls1 : Array Slot) (μ1 : Mm) (x1 : Int64), I μ1 → OM G B cL μ1 x1 H1 → va_S (AA B) s.heap H1 [] → lv_has ls1 7 [(1, .ref (B + 0)), (2, .ref (B + 259)), (3, .ref (B + 265)), (0, .ref b), (4, .int i)] → W p l e room_1 s m args below meth c H1 [] (cells + 1) (slots + 6) Q (F0 m 1556 ls1 [])) : W p l e room_1 s m args below meth c H [] cells slots Q (F0 m 436 ls []) := by
  obtain ⟨k, v, μ1, μ2, x1, h1, h2, hk, hx, hI⟩ := hop
  refine lv_aload_n K.1.1 K.1.2.1 dL_law_436 rfl (lv_at hl 0 rfl) ?_
  refine lv_aload_n K.1.1 K.1.2.1 dL_law_437 rfl (lv_at hl 3 rfl) ?_
  refine lv_iload K.1.1 K.1.2.1 dL_law_438 (lv_at hl 4 rfl) ?_
  refine lv_iconst (v := 1) K.1.1 K.1.2.1 dL_law_440 (by decide) ?_
  refine lv_iadd K.1.1 K.1.2.1 dL_law_441 ?_
  refine va_sld K.1.1 K.1.2.1 hX hbl (fun z => by have h9 : B ≤ b := z.1; omega) hS hr1 dL_law_442 ?_
  refine lv_aload_n K.1.1 K.1.2.1 dL_law_443 rfl (lv_at hl 3 rfl) ?_
  refine lv_iload K.1.1 K.1.2.1 dL_law_444 (lv_at hl 4 rfl) ?_
  refine lv_iconst (v := 2) K.1.1 K.1.2.1 dL_law_446 (by decide) ?_
  refine lv_iadd K.1.1 K.1.2.1 dL_law_447 ?_
  refine va_sld K.1.1 K.1.2.1 hX hbl (fun z => by have h9 : B ≤ b := z.1; omega) hS hr2 dL_law_448 ?_
  refine lv_aload_n K.1.1 K.1.2.1 dL_law_449 rfl (lv_at hl 2 rfl) ?_
  refine w_cS (n := 4) (As := [.ref (B + 0), .int (xs (i + 1).toNatClampNeg), .int (xs (i + 2).toNatClampNeg), .ref (B + 265)]) (rest := []) K hD hA hB hP hS h1 q_961 q_962 q_81 q_963 hv_L_bid.2 ⟨Nat.le_of_ble_eq_true rfl, Nat.le_of_ble_eq_true rfl⟩ rfl hl.1 rfl (Nat.le_of_ble_eq_true rfl) dL_law_450 ⟨by show _ ≤ 601024; omega, by show _ ≤ 7293034; omega⟩ (fun H hP hS => ?_)
  refine lv_istore (lv' := [(5, .int k), (1, .ref (B + 0)), (2, .ref (B + 259)), (3, .ref (B + 265)), (0, .ref b), (4, .int i)]) K.1.1 K.1.2.1 dL_law_453 hl (by decide) rfl (fun ls hl => ?_)
  refine lv_aload_n K.1.1 K.1.2.1 dL_law_455 rfl (lv_at hl 2 rfl) ?_
  refine lv_aload_n K.1.1 K.1.2.1 dL_law_456 rfl (lv_at hl 4 rfl) ?_
  refine lv_iload K.1.1 K.1.2.1 dL_law_457 (lv_at hl 5 rfl) ?_
  refine lv_iconst (v := 1) K.1.1 K.1.2.1 dL_law_459 (by decide) ?_
  refine lv_iadd K.1.1 K.1.2.1 dL_law_460 ?_
  refine va_sld K.1.1 K.1.2.1 hX hbl (fun z => by have h9 : B ≤ b := z.1; omega) hS hr1 dL_law_461 ?_
  refine lv_aload_n K.1.1 K.1.2.1 dL_law_462 rfl (lv_at hl 4 rfl) ?_
  refine lv_iload K.1.1 K.1.2.1 dL_law_463 (lv_at hl 5 rfl) ?_
  refine lv_iconst (v := 2) K.1.1 K.1.2.1 dL_law_465 (by decide) ?_
  refine lv_iadd K.1.1 K.1.2.1 dL_law_466 ?_
  refine va_sld K.1.1 K.1.2.1 hX hbl (fun z => by have h9 : B ≤ b := z.1; omega) hS hr2 dL_law_467 ?_
  refine w_cV (n := 2) (As := [.int (xs (i + 1).toNatClampNeg), .int (xs (i + 2).toNatClampNeg)]) (rest := []) (k := 259) K hB hP hS h2 (by decide) sh_259 rfl q_1275 q_1276 q_1277 q_91 q_1278 hv_X11_bid ⟨Nat.le_of_ble_eq_true rfl, Nat.le_of_ble_eq_true rfl⟩ rfl hl.1 rfl (Nat.le_of_ble_eq_true rfl) dL_law_468 ⟨by show _ ≤ 601024; omega, by show _ ≤ 7293034; omega⟩ (fun H hP hS => ?_)
  refine lv_topi (fun v1 ev => ?_)
  refine lv_istore (lv' := [(6, .int v1), (5, .int k), (1, .ref (B + 0)), (2, .ref (B + 259)), (3, .ref (B + 265)), (0, .ref b), (4, .int i)]) K.1.1 K.1.2.1 dL_law_471 hl (by decide) rfl (fun ls hl => ?_)
  refine lv_aload_n K.1.1 K.1.2.1 dL_law_473 rfl (lv_at hl 3 rfl) ?_
  refine w_cV (n := 0) (As := []) (rest := []) (k := 259) K hB hP hS (MX11_thrown l G B μ2) (by decide) sh_259 rfl q_1193 q_1194 q_1195 q_91 q_1196 hv_X11_thrown ⟨Nat.le_of_ble_eq_true rfl, Nat.le_of_ble_eq_true rfl⟩ rfl hl.1 rfl (Nat.le_of_ble_eq_true rfl) dL_law_474 ⟨by show _ ≤ 601024; omega, by show _ ≤ 7293034; omega⟩ (fun H hP hS => ?_)
  refine lv_topi (fun t1 et => ?_)
  refine lv_iload K.1.1 K.1.2.1 dL_law_477 (lv_at hl 1 rfl) ?_
  refine lv_icmp_eq (tgt := 484) K.1.1 K.1.2.1 dL_law_479 (by decide) (fun c => ?_) (fun c => absurd (et.trans hk) c)
  refine lv_iload K.1.1 K.1.2.1 dL_law_484 (lv_at hl 1 rfl) ?_
  refine lv_if_ne (tgt := 501) K.1.1 K.1.2.1 dL_law_486 (by decide) (fun c0 => ?_) (fun c0 => ?_)
  · refine lv_goto (tgt := 1556) K.1.1 K.1.2.1 dL_law_501 (by decide) ?_
    exact kk H _ μ2 x1 hI hP hS (lv_sub hl [2, 3, 4, 5, 6] rfl)
  · refine lv_aload_n K.1.1 K.1.2.1 dL_law_489 rfl (lv_at hl 4 rfl) ?_
    refine lv_iconst (v := 0) K.1.1 K.1.2.1 dL_law_490 (by decide) ?_
    refine w_lald K hA hP dL_law_491 ?_
    refine lv_iload K.1.1 K.1.2.1 dL_law_492 (lv_at hl 0 rfl) ?_
    refine lv_i2l K.1.1 K.1.2.1 dL_law_494 rfl ?_
    refine W.lcmp K.1.1 K.1.2.1 dL_law_495 ?_
    refine lv_if_eq (tgt := 501) K.1.1 K.1.2.1 dL_law_496 (by decide) (fun c => ?_) (fun c => absurd (by rw [hx c0, ev]; exact cmp_rfl _) c)
    refine lv_goto (tgt := 1556) K.1.1 K.1.2.1 dL_law_501 (by decide) ?_
    exact kk H _ μ2 x1 hI hP hS (lv_sub hl [2, 3, 4, 5, 6] rfl)

def OPC_order (l : Launch) (G : GG) (B : Nat) (cL : ClassId) (I : Mm → Prop) (μ : Mm) (x : Int64) (p0 : Int32) (p1 : Int32) (p2 : Int32) : Prop :=
  ∃ (k v : Int32) (μ1 μ2 : Mm) (x1 : Int64), LM l yL_order (.codeWith yL_order cL_order 6 (Option.some FieldType.int) [(0, 12, 15, 20), (0, 12, 19, 13), (0, 12, 23, 15)]) 8 133 1 6 G B cL [.ref (B + 0), .int p0, .int p1, .int p2, .ref (B + 265)] μ x k μ1 x1 ∧ CM l yX11_order (.code yX11_order cX11_order 4 (Option.some FieldType.int)) 3 66 G B [.ref (B + 259), .int p0, .int p1, .int p2] μ1 (some (.int v)) μ2 ∧ μ2 259 3 = k ∧ (k = 0 → x1 = v.toInt64) ∧ I μ2
