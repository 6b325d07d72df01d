/-! methods that throw: the class by its name, the memory as it was -/
/-- the makers of the classes above, which the tables know -/
def ND (U : State) : Prop := va_Nw (.declares (Bundle.initS "java/lang/RuntimeException")) U ∧ va_Nw (.declares (Bundle.initS "java/lang/Exception")) U ∧ va_Nw (.declares (Bundle.initS Bundle.tN)) U
theorem ND.warm {s U : State} (hW : s.WarmedH U.vm) (h : ND s) : ND U := ⟨va_Nw.warmD hW h.1, va_Nw.warmD hW h.2.1, va_Nw.warmD hW h.2.2⟩
theorem ND.same {s U : State} (hv : U.vm = s.vm) (h : ND s) : ND U := ⟨va_Nw.same rfl hv.symm h.1, va_Nw.same rfl hv.symm h.2.1, va_Nw.same rfl hv.symm h.2.2⟩
def PX (G : GG) (B : Nat) (μ : Mm) (U : State) : Prop := PM G B μ U ∧ ND U
abbrev XQ (G : GG) (B : Nat) (μ : Mm) (E : String) : String → State → State → Prop := vx_X (fun _ : Unit => True) (fun E' _ t => E' = E ∧ MP G B μ t.heap) (AA B)
abbrev XV (B : Nat) : Array Value → State → Outcome → State → Prop := va_Qv (fun _ : Unit => False) (fun _ _ => True) (AA B)
abbrev XM (l : Launch) (y : MethodName) (cw : Cond) (fr lo : Nat) (G : GG) (B : Nat) (av : List Value) (μ : Mm) (E : String) : Prop :=
  vx_Met l y (cw :: TBL) ({ frames := fr, cells := 1, slots := 6, locals := lo } : Room) (va_Pc av (PX G B μ)) (XV B) (XQ G B μ E) 1 6 (AA B)
abbrev XF (below : List Frame) (G : GG) (B : Nat) (μ : Mm) (E : String) (a : Array Value) (s : State) : State → Prop := vx_MQ below (XV B) (XQ G B μ E) a s 1 6 (AA B)
theorem XM.of {l : Launch} {G : GG} {B : Nat} {μ : Mm} {y : MethodName} {bytes : ByteArray} {maxL : Nat} {ret : Option FieldType} {fr lo : Nat} {av : List Value} {E : String} (hy : plainName y.cls = true) (hlen : (lg_sl av).length ≤ maxL)
    (body : ∀ (p : Program) (e : Env) (s : State) (m : MethodId) (below : List Frame) (meth : Method) (c : Code) (ls : Array Slot), KK p m c bytes maxL s av.toArray (.code y bytes maxL ret) y.cls G B → ND s → (∀ x ∈ c.exceptionTable.toList, False) → meth.sig.returnType = ret → meth.locks = false → MP G B μ s.heap → lv_has ls maxL (lv_args 0 av) →
      W p l e ({ frames := fr, cells := 1, slots := 6, locals := lo } : Room) s m av.toArray below meth c s.heap [] 0 0 (XF below G B μ E av.toArray s) (F0 m 0 ls [])) : XM l y (.code y bytes maxL ret) fr lo G B av μ E := by
  refine vx_ofW (cc := bytes) (maxL := maxL) (ret := ret) hy rfl ?_
  intro p e s m args below meth c s₁ Bd hml hx hv
  obtain ⟨rfl, ⟨hP, hK, hN⟩, hD⟩ := hv
  have hts := atoms_spec (ws := (.code y bytes maxL ret :: TBL)) Bd.pre
  have hown : s.vm.findClass y.cls = some m.cls := findClass_of_methodNamed Bd.named
  have hl := lv_entry av (n := maxL) hlen
  rw [lg_entry_eq]
  generalize (lg_sl av ++ List.replicate (maxL - (lg_sl av).length) Slot.unset).toArray = ls at hl ⊢
  exact body p e s m below meth c ls ⟨⟨Bd.exec, Bd.bytes, hml, hown, hts⟩, hK, hN⟩ hD hx Bd.returns Bd.notSynchronized hP hl
section XROW
variable {p : Program} {l : Launch} {e : Env} {R : Room} {s : State} {m : MethodId} {args : Array Value} {below : List Frame} {meth : Method} {c : Code} {H : Heap} {locs : List Loc}
variable {cc : ByteArray} {pc : Nat} {ls : Array Slot} {rest : List Value} {G : GG} {B nL : Nat} {μ : Mm} {own : String} {c1 : Cond}
theorem x_pre (hP : MP G B μ H) (hS : va_S (AA B) s.heap H locs) (hK : va_K G.1 vwCl (tyL G) s ∧ NW G B s s.heap) (hD : ND s) (av : List Value) : FrameBlind (va_Pc av (PX G B μ)) ∧ ∀ U : State, U.heap = H → s.WarmedH U.vm → va_Pc av (PX G B μ) av.toArray U :=
  ⟨fun a U g mk q => ⟨q.1, ⟨q.2.1.1, va_K.moved (u := U) (U := U.calling g mk a) (Vm.Alike.refl U.vm) q.2.1.2.1, q.2.1.2.2.calling⟩, q.2.2.same rfl⟩, fun U hU hW => ⟨rfl, ⟨by rw [hU]; exact hP, va_K.moved hW.alike hK.1, by rw [hU]; exact hK.2.go hS hW⟩, hD.warm hW⟩⟩
/-- a static call that throws, and nobody catches it here -/
theorem x_cS {y : MethodName} {bytes : ByteArray} {maxL n index fr lo : Nat} {ret : Option FieldType} {E : String} {As st0 : List Value} (K : KK p m c cc nL s args c1 own G B) (hP : MP G B μ H) (hS : va_S (AA B) s.heap H locs) (hD : ND s) (hx : ∀ x ∈ c.exceptionTable.toList, False) (hlocks : meth.locks = false)
    (hM : XM l y (.code y bytes maxL ret) fr lo G B As μ E)
    (q1 : Cond.methodLink own index y ∈ TBL) (q2 : Cond.static y ∈ TBL) (q4 : Cond.initialized own ∈ TBL) (q5 : Cond.code y bytes maxL ret ∈ TBL)
    (hd : y.cls = own ∧ y.cls ≠ "java/lang/invoke/MethodHandle" ∧ y.cls ≠ "java/lang/invoke/VarHandle" ∧ (parseMethodDescriptor y.desc).map (fun d => d.parameters.length) = some n) (hR : fr + 1 ≤ R.frames ∧ 8 + (maxL + 11) + lo ≤ R.locals)
    (hn : As.length = n) (hsize : ls.size = nL) (hst : st0 = As.reverse ++ rest) (hW : (rest.map fun v => v.category).sum ≤ 8) (hdg : decode cc pc = .ok (.invokestatic index, 3)) (hf : 0 + 1 ≤ R.cells ∧ 0 + 6 ≤ R.slots) : W p l e R s m args below meth c H locs 0 0 (XF below G B μ E args s) (F0 m pc ls st0) := by
  obtain ⟨hbl, hpre⟩ := x_pre hP hS K.2 hD As
  refine vx_callv (S := Unit) (SX := Unit) (vx_runS (As := As) (rest := rest) K.1 hM (cwS n K.1.2.2.2.2 (m_goodS q1 q2 q4 q5) rfl rfl rfl hd hR) ⟨hbl, hpre⟩ rfl hn hsize hst (lv_room hW) hdg hf) hS (fun _ _ h => h) (fun _ h => h) (fun _ _ h => h) ?_ (fun _ _ _ _ _ _ hp => hp.elim)
  intro E' ce q9 u t H1 locs1 ht hvm _ hB hz hk hS1 hc1 hc2 hc3
  obtain ⟨rfl, hPt⟩ := hB
  exact vx_out (fun x h => (hx x h).elim) hlocks hc1 hc2 hc3 (fun T hT _ => ⟨(), trivial, ⟨rfl, by rw [hT, ← ht]; exact hPt⟩, by rw [hT]; exact hS1.1, fun q h1 h2 => by rw [hT]; exact hS1.2.1 q h1 h2⟩) hS1.2.2 (Nat.le_refl _) (Nat.le_refl _)
end XROW
/-! the three throws of refuse -/
def xnames : List String := ["java/lang/RuntimeException", "java/lang/Exception"]
theorem xw_good_IOE : ∀ w ∈ (vx_atS RX10 248 IOE xnames).filter goodWord, w ∈ TBL := by
  have h : ((vx_atS RX10 248 IOE xnames).filter goodWord).all (fun w => decide (w ∈ lw_tbl)) = true := by decide +kernel
  intro w hw
  exact List.mem_filter.mpr ⟨of_decide_eq_true (List.all_eq_true.mp h w hw), (List.mem_filter.mp hw).2⟩
theorem xw_bad_IOE : ∀ w ∈ (vx_atS RX10 248 IOE xnames).filter (fun w => !goodWord w), w ∈ [Cond.castable IOE IOE, .declares (Bundle.initS "java/lang/RuntimeException"), .declares (Bundle.initS "java/lang/Exception"), .declares (Bundle.initS Bundle.tN)] := by decide +kernel
theorem xw_ot_IOE : ∀ w ∈ Cond.classLink RX10 244 IOE :: Cond.initialized IOE :: vx_atS RX10 248 IOE xnames, vx_ot w = true := by
  have h : (Cond.classLink RX10 244 IOE :: Cond.initialized IOE :: vx_atS RX10 248 IOE xnames).all vx_ot = true := by decide +kernel
  exact List.all_eq_true.mp h
theorem xl_IOE : Cond.classLink RX10 244 IOE ∈ TBL := tb_at 335 (by decide +kernel) (by decide +kernel)
theorem xi_IOE : Cond.initialized IOE ∈ TBL := tb_at 27 (by decide +kernel) (by decide +kernel)
set_option maxHeartbeats 4000000 in
set_option maxRecDepth 100000 in
theorem X_refuse_IOE (l : Launch) (hfl : l.stackTraces = false) (G : GG) (B : Nat) (μ : Mm) : XM l yX10_refuse (.code yX10_refuse cX10_refuse 1 Option.none) 6 90 G B [.int 1] μ IOE := by
  refine XM.of (by decide) (Nat.le_of_ble_eq_true rfl) ?_
  intro p e s m below meth c ls K hD hx hr hlocks hP hl
  have hS : va_S (AA B) s.heap s.heap [] := va_S.rf
  have hl : lv_has ls 1 [(0, .int 1)] := hl
  refine lv_iload_n K.1.1 K.1.2.1 dX10_refuse_0 rfl (lv_at hl 0 rfl) ?_
  refine lv_tableIn (off := 27) (tgt := 28) K.1.1 K.1.2.1 dX10_refuse_1 (by decide) (by decide) rfl (by decide) ?_
  exact vx_throwS (names := xnames) (text := "there is no such trader or order") K.1.1 K.1.2.1 hfl K.1.2.2.2.1 (by decide +kernel) (by decide +kernel) (K.w xl_IOE) (K.w xi_IOE) K.2.2.1.2.2.2.1
    (vx_hat (fun w h => K.w (xw_good_IOE w h)) xw_bad_IOE (vx_c (va_Nw.use rfl K.2.2.1.2.1.1) (vx_c (va_Nw.use rfl hD.1) (vx_c (va_Nw.use rfl hD.2.1) (vx_c (va_Nw.use rfl hD.2.2) vx_n))))) xw_ot_IOE K.2.2.2.1 K.2.2.2.2 hS (hl.1.trans K.1.2.2.1.symm)
    dX10_refuse_28 dX10_refuse_31 dX10_refuse_32 dX10_refuse_34 dX10_refuse_37 (fun x h => (hx x h).elim) (Nat.le_of_ble_eq_true rfl) (Nat.le_of_ble_eq_true rfl) (Nat.le_of_ble_eq_true rfl) (Nat.le_of_ble_eq_true rfl) hlocks
    (fun t _ h1 h2 => ⟨(), trivial, ⟨rfl, hP.kept (fun k q hk => h2 _ (vx_lt hP hk))⟩, h1, fun q h3 _ => h2 q h3⟩) (fun z h => absurd h List.not_mem_nil) (Nat.le_refl _) (Nat.le_refl _)
theorem xw_good_IAE : ∀ w ∈ (vx_atS RX10 255 IAE xnames).filter goodWord, w ∈ TBL := by
  have h : ((vx_atS RX10 255 IAE xnames).filter goodWord).all (fun w => decide (w ∈ lw_tbl)) = true := by decide +kernel
  intro w hw
  exact List.mem_filter.mpr ⟨of_decide_eq_true (List.all_eq_true.mp h w hw), (List.mem_filter.mp hw).2⟩
theorem xw_bad_IAE : ∀ w ∈ (vx_atS RX10 255 IAE xnames).filter (fun w => !goodWord w), w ∈ [Cond.castable IAE IAE, .declares (Bundle.initS "java/lang/RuntimeException"), .declares (Bundle.initS "java/lang/Exception"), .declares (Bundle.initS Bundle.tN)] := by decide +kernel
theorem xw_ot_IAE : ∀ w ∈ Cond.classLink RX10 251 IAE :: Cond.initialized IAE :: vx_atS RX10 255 IAE xnames, vx_ot w = true := by
  have h : (Cond.classLink RX10 251 IAE :: Cond.initialized IAE :: vx_atS RX10 255 IAE xnames).all vx_ot = true := by decide +kernel
  exact List.all_eq_true.mp h
theorem xl_IAE : Cond.classLink RX10 251 IAE ∈ TBL := tb_at 403 (by decide +kernel) (by decide +kernel)
theorem xi_IAE : Cond.initialized IAE ∈ TBL := tb_at 28 (by decide +kernel) (by decide +kernel)
set_option maxHeartbeats 4000000 in
set_option maxRecDepth 100000 in
theorem X_refuse_IAE (l : Launch) (hfl : l.stackTraces = false) (G : GG) (B : Nat) (μ : Mm) : XM l yX10_refuse (.code yX10_refuse cX10_refuse 1 Option.none) 6 90 G B [.int 2] μ IAE := by
  refine XM.of (by decide) (Nat.le_of_ble_eq_true rfl) ?_
  intro p e s m below meth c ls K hD hx hr hlocks hP hl
  have hS : va_S (AA B) s.heap s.heap [] := va_S.rf
  have hl : lv_has ls 1 [(0, .int 2)] := hl
  refine lv_iload_n K.1.1 K.1.2.1 dX10_refuse_0 rfl (lv_at hl 0 rfl) ?_
  refine lv_tableIn (off := 37) (tgt := 38) K.1.1 K.1.2.1 dX10_refuse_1 (by decide) (by decide) rfl (by decide) ?_
  exact vx_throwS (names := xnames) (text := "a number is out of its range") K.1.1 K.1.2.1 hfl K.1.2.2.2.1 (by decide +kernel) (by decide +kernel) (K.w xl_IAE) (K.w xi_IAE) K.2.2.1.2.2.2.2.1
    (vx_hat (fun w h => K.w (xw_good_IAE w h)) xw_bad_IAE (vx_c (va_Nw.use rfl K.2.2.1.2.1.2.1) (vx_c (va_Nw.use rfl hD.1) (vx_c (va_Nw.use rfl hD.2.1) (vx_c (va_Nw.use rfl hD.2.2) vx_n))))) xw_ot_IAE K.2.2.2.1 K.2.2.2.2 hS (hl.1.trans K.1.2.2.1.symm)
    dX10_refuse_38 dX10_refuse_41 dX10_refuse_42 dX10_refuse_44 dX10_refuse_47 (fun x h => (hx x h).elim) (Nat.le_of_ble_eq_true rfl) (Nat.le_of_ble_eq_true rfl) (Nat.le_of_ble_eq_true rfl) (Nat.le_of_ble_eq_true rfl) hlocks
    (fun t _ h1 h2 => ⟨(), trivial, ⟨rfl, hP.kept (fun k q hk => h2 _ (vx_lt hP hk))⟩, h1, fun q h3 _ => h2 q h3⟩) (fun z h => absurd h List.not_mem_nil) (Nat.le_refl _) (Nat.le_refl _)
theorem xw_good_ISE : ∀ w ∈ (vx_atS RX10 260 ISE xnames).filter goodWord, w ∈ TBL := by
  have h : ((vx_atS RX10 260 ISE xnames).filter goodWord).all (fun w => decide (w ∈ lw_tbl)) = true := by decide +kernel
  intro w hw
  exact List.mem_filter.mpr ⟨of_decide_eq_true (List.all_eq_true.mp h w hw), (List.mem_filter.mp hw).2⟩
theorem xw_bad_ISE : ∀ w ∈ (vx_atS RX10 260 ISE xnames).filter (fun w => !goodWord w), w ∈ [Cond.castable ISE ISE, .declares (Bundle.initS "java/lang/RuntimeException"), .declares (Bundle.initS "java/lang/Exception"), .declares (Bundle.initS Bundle.tN)] := by decide +kernel
theorem xw_ot_ISE : ∀ w ∈ Cond.classLink RX10 256 ISE :: Cond.initialized ISE :: vx_atS RX10 260 ISE xnames, vx_ot w = true := by
  have h : (Cond.classLink RX10 256 ISE :: Cond.initialized ISE :: vx_atS RX10 260 ISE xnames).all vx_ot = true := by decide +kernel
  exact List.all_eq_true.mp h
theorem xl_ISE : Cond.classLink RX10 256 ISE ∈ TBL := tb_at 419 (by decide +kernel) (by decide +kernel)
theorem xi_ISE : Cond.initialized ISE ∈ TBL := tb_at 29 (by decide +kernel) (by decide +kernel)
set_option maxHeartbeats 4000000 in
set_option maxRecDepth 100000 in
theorem X_refuse_ISE (l : Launch) (hfl : l.stackTraces = false) (G : GG) (B : Nat) (μ : Mm) : XM l yX10_refuse (.code yX10_refuse cX10_refuse 1 Option.none) 6 90 G B [.int 3] μ ISE := by
  refine XM.of (by decide) (Nat.le_of_ble_eq_true rfl) ?_
  intro p e s m below meth c ls K hD hx hr hlocks hP hl
  have hS : va_S (AA B) s.heap s.heap [] := va_S.rf
  have hl : lv_has ls 1 [(0, .int 3)] := hl
  refine lv_iload_n K.1.1 K.1.2.1 dX10_refuse_0 rfl (lv_at hl 0 rfl) ?_
  refine lv_tableIn (off := 47) (tgt := 48) K.1.1 K.1.2.1 dX10_refuse_1 (by decide) (by decide) rfl (by decide) ?_
  exact vx_throwSW (names := xnames) (text := "this cannot be done now") K.1.1 K.1.2.1 hfl K.1.2.2.2.1 (by decide +kernel) (by decide +kernel) (K.w xl_ISE) (K.w xi_ISE) K.2.2.1.2.2.2.2.2
    (vx_hat (fun w h => K.w (xw_good_ISE w h)) xw_bad_ISE (vx_c (va_Nw.use rfl K.2.2.1.2.1.2.2) (vx_c (va_Nw.use rfl hD.1) (vx_c (va_Nw.use rfl hD.2.1) (vx_c (va_Nw.use rfl hD.2.2) vx_n))))) xw_ot_ISE K.2.2.2.1 K.2.2.2.2 hS (hl.1.trans K.1.2.2.1.symm)
    dX10_refuse_48 dX10_refuse_51 dX10_refuse_52 dX10_refuse_55 dX10_refuse_58 (fun x h => (hx x h).elim) (Nat.le_of_ble_eq_true rfl) (Nat.le_of_ble_eq_true rfl) (Nat.le_of_ble_eq_true rfl) (Nat.le_of_ble_eq_true rfl) hlocks
    (fun t _ h1 h2 => ⟨(), trivial, ⟨rfl, hP.kept (fun k q hk => h2 _ (vx_lt hP hk))⟩, h1, fun q h3 _ => h2 q h3⟩) (fun z h => absurd h List.not_mem_nil) (Nat.le_refl _) (Nat.le_refl _)
