/-! the law's own methods: contracts that may make cells (what is thrown in them) -/
abbrev ELM (l : Launch) (y : MethodName) (cw : Cond) (fr lo mc ms : Nat) (G : GG) (B : Nat) (av : List Value) (μ : Mm) (v : Option Value) (μ' : Mm) : Prop :=
  Met l y (cw :: TBL) ({ frames := fr, cells := mc, slots := ms, locals := lo } : Room) (va_Pc av (PX G B μ)) (QM G B v μ') mc ms (AA B)
abbrev ELF (below : List Frame) (G : GG) (B : Nat) (v : Option Value) (μ' : Mm) (a : Array Value) (s : State) (mc ms : Nat) : State → Prop := MQ below (QM G B v μ') a s mc ms (AA B)
theorem ELM.of {l : Launch} {G : GG} {B : Nat} {μ μ' : Mm} {y : MethodName} {bytes : ByteArray} {maxL : Nat} {ret : Option FieldType} {fr lo mc ms : Nat} {av : List Value} {v : Option Value} (hy : plainName y.cls = true) (hlen : (lg_sl av).length ≤ maxL)
    (body : ∀ (p : Program) (e : Env) (s : State) (m : MethodId) (below : List Frame) (meth : Method) (c : Code) (ls : Array Slot), KK p m c bytes maxL s av.toArray (.code y bytes maxL ret) y.cls G B → ND s → meth.sig.returnType = ret → meth.locks = false → MP G B μ s.heap → lv_has ls maxL (lv_args 0 av) →
      W p l e ({ frames := fr, cells := mc, slots := ms, locals := lo } : Room) s m av.toArray below meth c s.heap [] 0 0 (ELF below G B v μ' av.toArray s mc ms) (F0 m 0 ls [])) : ELM l y (.code y bytes maxL ret) fr lo mc ms G B av μ v μ' := by
  refine Met.ofW (cc := bytes) (maxL := maxL) (ret := ret) hy rfl ?_
  intro p e s m args below meth c s₁ Bd hml hv
  obtain ⟨rfl, ⟨hP, hK, hN⟩, hD⟩ := hv
  have hts := atoms_spec (ws := (.code y bytes maxL ret :: TBL)) Bd.pre
  have hown : s.vm.findClass y.cls = some m.cls := findClass_of_methodNamed Bd.named
  have hl := lv_entry av (n := maxL) hlen
  rw [lg_entry_eq]
  generalize (lg_sl av ++ List.replicate (maxL - (lg_sl av).length) Slot.unset).toArray = ls at hl ⊢
  exact body p e s m below meth c ls ⟨⟨Bd.exec, Bd.bytes, hml, hown, hts⟩, hK, hN⟩ hD Bd.returns Bd.notSynchronized hP hl
theorem ELM.ofH {l : Launch} {G : GG} {B : Nat} {μ μ' : Mm} {y : MethodName} {bytes : ByteArray} {maxL : Nat} {ret : Option FieldType} {hh : List (Nat × Nat × Nat × Nat)} {fr lo mc ms : Nat} {av : List Value} {v : Option Value} (hy : plainName y.cls = true) (hlen : (lg_sl av).length ≤ maxL)
    (body : ∀ (p : Program) (e : Env) (s : State) (m : MethodId) (below : List Frame) (meth : Method) (c : Code) (ls : Array Slot), KK p m c bytes maxL s av.toArray (.codeWith y bytes maxL ret hh) y.cls G B → ND s → c.exceptionTable.toList = tableOf hh → meth.sig.returnType = ret → meth.locks = false → MP G B μ s.heap → lv_has ls maxL (lv_args 0 av) →
      W p l e ({ frames := fr, cells := mc, slots := ms, locals := lo } : Room) s m av.toArray below meth c s.heap [] 0 0 (ELF below G B v μ' av.toArray s mc ms) (F0 m 0 ls [])) : ELM l y (.codeWith y bytes maxL ret hh) fr lo mc ms G B av μ v μ' := by
  refine va_MetW (cc := bytes) (maxL := maxL) (ret := ret) (hh := hh) hy rfl ?_
  intro p e s m args below meth c s₁ Bd hml hv
  obtain ⟨rfl, ⟨hP, hK, hN⟩, hD⟩ := hv
  have hts := atoms_spec (ws := (.codeWith y bytes maxL ret hh :: TBL)) Bd.pre
  have hown : s.vm.findClass y.cls = some m.cls := findClass_of_methodNamed Bd.named
  have htab := vx_table (x := y) Bd (hts _ List.mem_cons_self)
  have hl := lv_entry av (n := maxL) hlen
  rw [lg_entry_eq]
  generalize (lg_sl av ++ List.replicate (maxL - (lg_sl av).length) Slot.unset).toArray = ls at hl ⊢
  exact body p e s m below meth c ls ⟨⟨Bd.exec, Bd.bytes, hml, hown, hts⟩, hK, hN⟩ hD htab Bd.returns Bd.notSynchronized hP hl
section EROW
variable {p : Program} {l : Launch} {e : Env} {R : Room} {s : State} {m : MethodId} {args : Array Value} {below : List Frame} {meth : Method} {c : Code} {H : Heap} {locs : List Loc} {cells slots : Nat} {Q : State → Prop}
variable {cc : ByteArray} {pc : Nat} {ls : Array Slot} {rest : List Value} {G : GG} {B nL : Nat} {μ : Mm} {own : String} {c1 : Cond}
theorem e_iret {v : Option Value} {μ' : Mm} {mc ms : Nat} (K : KK p m c cc nL s args c1 own G B) (hr : meth.sig.returnType = some .int) (hlocks : meth.locks = false) (hP : MP G B μ H) (hS : va_S (AA B) s.heap H locs) {x : Int32} (hdg : decode cc pc = .ok (.ireturn, 1)) (hv : v = some (.int x)) (hm : μ' = μ) (hc : cells ≤ mc ∧ slots ≤ ms) : W p l e R s m args below meth c H locs cells slots (ELF below G B v μ' args s mc ms) (F0 m pc ls [.int x]) := by
  subst hv; subst hm
  refine W.widen (k := mc) (n := ms) hc.1 hc.2 ?_
  exact W.iret K.1.1 K.1.2.1 hr (fun t ht _ => ⟨rfl, by rw [ht]; exact hP, hS.F ht⟩) hS.2.2 hdg
theorem e_zret {v : Option Value} {μ' : Mm} {mc ms : Nat} (K : KK p m c cc nL s args c1 own G B) (hr : meth.sig.returnType = some .boolean) (hlocks : meth.locks = false) (hP : MP G B μ H) (hS : va_S (AA B) s.heap H locs) {x : Int32} (hdg : decode cc pc = .ok (.ireturn, 1)) (hn : narrow .boolean (.int x) = .int x) (hv : v = some (.int x)) (hm : μ' = μ) (hc : cells ≤ mc ∧ slots ≤ ms) : W p l e R s m args below meth c H locs cells slots (ELF below G B v μ' args s mc ms) (F0 m pc ls [.int x]) := by
  subst hv; subst hm
  refine W.widen (k := mc) (n := ms) hc.1 hc.2 ?_
  exact W.zret K.1.1 K.1.2.1 hr hn (fun t ht _ => ⟨rfl, by rw [ht]; exact hP, hS.F ht⟩) hS.2.2 hdg
theorem e_lret {v : Option Value} {μ' : Mm} {mc ms : Nat} (K : KK p m c cc nL s args c1 own G B) (hr : meth.sig.returnType = some .long) (hlocks : meth.locks = false) (hP : MP G B μ H) (hS : va_S (AA B) s.heap H locs) {x : Int64} (hdg : decode cc pc = .ok (.lreturn, 1)) (hv : v = some (.long x)) (hm : μ' = μ) (hc : cells ≤ mc ∧ slots ≤ ms) : W p l e R s m args below meth c H locs cells slots (ELF below G B v μ' args s mc ms) (F0 m pc ls [.long x]) := by
  subst hv; subst hm
  refine W.widen (k := mc) (n := ms) hc.1 hc.2 ?_
  exact W.lret K.1.1 K.1.2.1 hr (fun t ht _ => ⟨rfl, by rw [ht]; exact hP, hS.F ht⟩) hS.2.2 hdg
theorem e_back {v : Option Value} {μ' : Mm} {st0 : List Value} {a : Array Value} {mc ms : Nat} (hr : va_Run p l e R s m args below meth c H locs cells slots mc ms (F0 m pc ls st0) rest (QM G B v μ' a) (AA B)) (hS : va_S (AA B) s.heap H locs)
    (kk : ∀ (H1 : Heap) (locs1 : List Loc), MP G B μ' H1 → va_S (AA B) s.heap H1 locs1 → W p l e R s m args below meth c H1 locs1 (cells + mc) (slots + ms) Q (F0 m (pc + 3) ls (v.toList ++ rest))) : W p l e R s m args below meth c H locs cells slots Q (F0 m pc ls st0) := by
  intro T hT X
  obtain ⟨v', st₀, t, T', L, h0, X', hL, e1, e2, ⟨hv, hb, hz, hk⟩, st⟩ := hr T hT X
  cases hv
  rw [h0] at hz hk
  obtain ⟨t2, a1, b1⟩ := kk T'.heap (locs ++ L) (by rw [e1]; exact hb)
    ⟨Nat.le_trans hS.1 (by rw [e1]; exact hz), fun q h1 h2 => by rw [e1, hk q (Nat.lt_of_lt_of_le h1 hS.1) h2]; exact hS.2.1 q h1 h2, fun q hq => by
      rcases List.mem_append.mp hq with h | h
      · exact hS.2.2 q h
      · exact hL q h⟩ T' rfl X'
  exact ⟨t2, st t2 a1, b1⟩
/-- a static call of a method that may make cells -/
theorem e_cS {y : MethodName} {bytes : ByteArray} {maxL n index fr lo mc ms : Nat} {ret : Option FieldType} {v : Option Value} {μ' : Mm} {As st0 : List Value} (K : KK p m c cc nL s args c1 own G B) (hP : MP G B μ H) (hS : va_S (AA B) s.heap H locs) (hD : ND s)
    (hM : ELM l y (.code y bytes maxL ret) fr lo mc ms G B As μ v μ')
    (q1 : Cond.methodLink own index y ∈ TBL) (q2 : Cond.static y ∈ TBL) (q4 : Cond.initialized own ∈ TBL) (q5 : Cond.code y bytes maxL ret ∈ TBL)
    (hd : y.cls = own ∧ y.cls ≠ "java/lang/invoke/MethodHandle" ∧ y.cls ≠ "java/lang/invoke/VarHandle" ∧ (parseMethodDescriptor y.desc).map (fun d => d.parameters.length) = some n) (hR : fr + 1 ≤ R.frames ∧ 8 + (maxL + 11) + lo ≤ R.locals)
    (hn : As.length = n) (hsize : ls.size = nL) (hst : st0 = As.reverse ++ rest) (hW : (rest.map fun v => v.category).sum ≤ 8) (hdg : decode cc pc = .ok (.invokestatic index, 3)) (hf : cells + mc ≤ R.cells ∧ slots + ms ≤ R.slots)
    (kk : ∀ (H1 : Heap) (locs1 : List Loc), MP G B μ' H1 → va_S (AA B) s.heap H1 locs1 → W p l e R s m args below meth c H1 locs1 (cells + mc) (slots + ms) Q (F0 m (pc + 3) ls (v.toList ++ rest))) : W p l e R s m args below meth c H locs cells slots Q (F0 m pc ls st0) := by
  obtain ⟨hbl, hpre⟩ := x_pre hP hS K.2 hD As
  exact e_back (va_runS (As := As) (rest := rest) K.1 hM (cwS n K.1.2.2.2.2 (m_goodS q1 q2 q4 q5) rfl rfl rfl hd hR) ⟨hbl, hpre⟩ rfl hn hsize hst (lv_room hW) hdg hf) hS kk
theorem m_goodSW {y : MethodName} {cw : Cond} {index : Nat} (q1 : Cond.methodLink own index y ∈ TBL) (q2 : Cond.static y ∈ TBL) (q4 : Cond.initialized y.cls ∈ TBL) (q5 : cw ∈ TBL) : GoodIn (c1 :: TBL) (va_wsS own index y (cw :: TBL)) := by
  intro w hw
  have h : w ∈ TBL := by
    rcases List.mem_append.mp (show w ∈ [Cond.methodLink own index y, .static y, .initialized y.cls] ++ (cw :: TBL) from hw) with h | h
    · simp only [List.mem_cons, List.not_mem_nil, or_false] at h
      rcases h with rfl | rfl | rfl <;> assumption
    · rcases List.mem_cons.mp h with rfl | h
      · exact q5
      · exact h
  exact ⟨List.mem_cons_of_mem _ h, good_of_word (tb_good h)⟩
/-- the same of a method with handlers -/
theorem e_cSW {y : MethodName} {bytes : ByteArray} {maxL n index fr lo mc ms : Nat} {ret : Option FieldType} {hh : List (Nat × Nat × Nat × Nat)} {v : Option Value} {μ' : Mm} {As st0 : List Value} (K : KK p m c cc nL s args c1 own G B) (hP : MP G B μ H) (hS : va_S (AA B) s.heap H locs) (hD : ND s)
    (hM : ELM l y (.codeWith y bytes maxL ret hh) fr lo mc ms G B As μ v μ')
    (q1 : Cond.methodLink own index y ∈ TBL) (q2 : Cond.static y ∈ TBL) (q4 : Cond.initialized y.cls ∈ TBL) (q5 : Cond.codeWith y bytes maxL ret hh ∈ TBL)
    (hd : y.cls ≠ "java/lang/invoke/MethodHandle" ∧ y.cls ≠ "java/lang/invoke/VarHandle" ∧ (parseMethodDescriptor y.desc).map (fun d => d.parameters.length) = some n) (hR : fr + 1 ≤ R.frames ∧ 8 + (maxL + 11) + lo ≤ R.locals)
    (hn : As.length = n) (hsize : ls.size = nL) (hst : st0 = As.reverse ++ rest) (hW : (rest.map fun v => v.category).sum ≤ 8) (hdg : decode cc pc = .ok (.invokestatic index, 3)) (hf : cells + mc ≤ R.cells ∧ slots + ms ≤ R.slots)
    (kk : ∀ (H1 : Heap) (locs1 : List Loc), MP G B μ' H1 → va_S (AA B) s.heap H1 locs1 → W p l e R s m args below meth c H1 locs1 (cells + mc) (slots + ms) Q (F0 m (pc + 3) ls (v.toList ++ rest))) : W p l e R s m args below meth c H locs cells slots Q (F0 m pc ls st0) := by
  obtain ⟨hbl, hpre⟩ := x_pre hP hS K.2 hD As
  exact e_back (vx_runSW (As := As) (rest := rest) (g := F0 m pc ls st0) K.1 hM (vx_cwSW n K.1.2.2.2.2 (m_goodSW q1 q2 q4 q5) rfl rfl rfl hd hR) ⟨hbl, hpre⟩ rfl hn hsize hst (lv_room hW) hdg hf) hS kk
/-- a static call that throws: on to the handlers -/
theorem e_cX {y : MethodName} {bytes : ByteArray} {maxL n index fr lo : Nat} {ret : Option FieldType} {E : String} {As st0 : List Value} (K : KK p m c cc nL s args c1 own G B) (hP : MP G B μ H) (hS : va_S (AA B) s.heap H locs) (hD : ND s)
    (hM : XM l y (.code y bytes maxL ret) fr lo G B As μ E)
    (q1 : Cond.methodLink own index y ∈ TBL) (q2 : Cond.static y ∈ TBL) (q4 : Cond.initialized own ∈ TBL) (q5 : Cond.code y bytes maxL ret ∈ TBL)
    (hd : y.cls = own ∧ y.cls ≠ "java/lang/invoke/MethodHandle" ∧ y.cls ≠ "java/lang/invoke/VarHandle" ∧ (parseMethodDescriptor y.desc).map (fun d => d.parameters.length) = some n) (hR : fr + 1 ≤ R.frames ∧ 8 + (maxL + 11) + lo ≤ R.locals)
    (hn : As.length = n) (hsize : ls.size = nL) (hst : st0 = As.reverse ++ rest) (hW : (rest.map fun v => v.category).sum ≤ 8) (hdg : decode cc pc = .ok (.invokestatic index, 3)) (hf : cells + 1 ≤ R.cells ∧ slots + 6 ≤ R.slots)
    (kx : ∀ (ce : Cell) (q9 : Addr) (H1 : Heap) (locs1 : List Loc), MP G B μ H1 → va_S (AA B) s.heap H1 locs1 → H1[q9]? = some ce → ce.vm = .none → s.vm.findClass E = some ce.cls → vx_W p l e R s m args below meth c H1 locs1 (cells + 1) (slots + 6) Q (F0 m pc ls rest) q9) : W p l e R s m args below meth c H locs cells slots Q (F0 m pc ls st0) := by
  obtain ⟨hbl, hpre⟩ := x_pre hP hS K.2 hD As
  refine vx_callv (S := Unit) (SX := Unit) (vx_runS (As := As) (rest := rest) K.1 hM (cwS n K.1.2.2.2.2 (m_goodS q1 q2 q4 q5) rfl rfl rfl hd hR) ⟨hbl, hpre⟩ rfl hn hsize hst (lv_room hW) hdg hf) hS (fun _ _ h => h) (fun _ h => h) (fun _ _ h => h) ?_ (fun _ _ _ _ _ _ hp => hp.elim)
  intro E' ce q9 u t H1 locs1 ht hvm _ hB hz hk hS1 hc1 hc2 hc3
  obtain ⟨rfl, hPt⟩ := hB
  exact kx ce q9 H1 locs1 (by rw [← ht]; exact hPt) hS1 hc1 hc2 hc3
/-- an object's method that throws: on to the handlers -/
theorem e_cVX {y : MethodName} {bytes : ByteArray} {maxL n index fr lo k ci N : Nat} {ret : Option FieldType} {C E : String} {T : u_T} {fs : List Fc} {As st0 : List Value} (K : KK p m c cc nL s args c1 own G B) (hP : MP G B μ H) (hS : va_S (AA B) s.heap H locs) (hD : ND s)
    (hM : XM l y (.code y bytes maxL ret) fr lo G B (.ref (B + k) :: As) μ E) (hk : k < 259) (hsh : sh k = (1, ci, fs)) (hc : vwCl[ci]? = some (C, T, N))
    (q1 : Cond.methodLink own index y ∈ TBL) (q2 : Cond.instanceMethod y ∈ TBL) (q3 : Cond.selects C y y ∈ TBL) (q4 : Cond.initialized C ∈ TBL) (q5 : Cond.code y bytes maxL ret ∈ TBL)
    (hd : y.cls = C ∧ y.cls ≠ "java/lang/invoke/MethodHandle" ∧ y.cls ≠ "java/lang/invoke/VarHandle" ∧ (parseMethodDescriptor y.desc).map (fun d => d.parameters.length) = some n) (hR : fr + 1 ≤ R.frames ∧ 8 + (maxL + 11) + lo ≤ R.locals)
    (hn : As.length = n) (hsize : ls.size = nL) (hst : st0 = As.reverse ++ .ref (B + k) :: rest) (hW : (rest.map fun v => v.category).sum ≤ 8) (hdg : decode cc pc = .ok (.invokevirtual index, 3)) (hf : cells + 1 ≤ R.cells ∧ slots + 6 ≤ R.slots)
    (kx : ∀ (ce : Cell) (q9 : Addr) (H1 : Heap) (locs1 : List Loc), MP G B μ H1 → va_S (AA B) s.heap H1 locs1 → H1[q9]? = some ce → ce.vm = .none → s.vm.findClass E = some ce.cls → vx_W p l e R s m args below meth c H1 locs1 (cells + 1) (slots + 6) Q (F0 m pc ls rest) q9) : W p l e R s m args below meth c H locs cells slots Q (F0 m pc ls st0) := by
  have hP0 := mL_get G B μ hk
  rw [ce_obj G B hsh] at hP0
  obtain ⟨hbl, hpre⟩ := x_pre hP hS K.2 hD (.ref (B + k) :: As)
  refine vx_callv (S := Unit) (SX := Unit) (vx_runV (As := As) (rest := rest) K.1 hM (cwV n K.1.2.2.2.2 (m_goodV q1 q2 q3 q4 q5) rfl rfl rfl hd hR) ⟨hbl, va_recv K.2.1 hP hc hP0, hpre⟩ rfl hn hsize hst (lv_room hW) hdg hf) hS (fun _ _ h => h) (fun _ h => h) (fun _ _ h => h) ?_ (fun _ _ _ _ _ _ hp => hp.elim)
  intro E' ce q9 u t H1 locs1 ht hvm _ hB hz hk hS1 hc1 hc2 hc3
  obtain ⟨rfl, hPt⟩ := hB
  exact kx ce q9 H1 locs1 (by rw [← ht]; exact hPt) hS1 hc1 hc2 hc3
/-- an object's method that throws, and nobody catches it here -/
theorem x_cV {y : MethodName} {bytes : ByteArray} {maxL n index fr lo k ci N : Nat} {ret : Option FieldType} {C E : String} {T : u_T} {fs : List Fc} {As st0 : List Value} (K : KK p m c cc nL s args c1 own G B) (hP : MP G B μ H) (hS : va_S (AA B) s.heap H locs) (hD : ND s) (hx : ∀ x ∈ c.exceptionTable.toList, False) (hlocks : meth.locks = false)
    (hM : XM l y (.code y bytes maxL ret) fr lo G B (.ref (B + k) :: As) μ E) (hk : k < 259) (hsh : sh k = (1, ci, fs)) (hc : vwCl[ci]? = some (C, T, N))
    (q1 : Cond.methodLink own index y ∈ TBL) (q2 : Cond.instanceMethod y ∈ TBL) (q3 : Cond.selects C y y ∈ TBL) (q4 : Cond.initialized C ∈ TBL) (q5 : Cond.code y bytes maxL ret ∈ TBL)
    (hd : y.cls = C ∧ y.cls ≠ "java/lang/invoke/MethodHandle" ∧ y.cls ≠ "java/lang/invoke/VarHandle" ∧ (parseMethodDescriptor y.desc).map (fun d => d.parameters.length) = some n) (hR : fr + 1 ≤ R.frames ∧ 8 + (maxL + 11) + lo ≤ R.locals)
    (hn : As.length = n) (hsize : ls.size = nL) (hst : st0 = As.reverse ++ .ref (B + k) :: rest) (hW : (rest.map fun v => v.category).sum ≤ 8) (hdg : decode cc pc = .ok (.invokevirtual index, 3)) (hf : 0 + 1 ≤ R.cells ∧ 0 + 6 ≤ R.slots) : W p l e R s m args below meth c H locs 0 0 (XF below G B μ E args s) (F0 m pc ls st0) :=
  e_cVX K hP hS hD hM hk hsh hc q1 q2 q3 q4 q5 hd hR hn hsize hst hW hdg hf fun _ _ _ _ hP1 hS1 h1 h2 h3 =>
    vx_out (fun x h => (hx x h).elim) hlocks h1 h2 h3 (fun _ hT _ => ⟨(), trivial, ⟨rfl, by rw [hT]; exact hP1⟩, by rw [hT]; exact hS1.1, fun q h4 h5 => by rw [hT]; exact hS1.2.1 q h4 h5⟩) hS1.2.2 (Nat.le_refl _) (Nat.le_refl _)
/-- the cells' count, rounded up -/
theorem e_wide (k n : Nat) (h1 : cells ≤ k) (h2 : slots ≤ n) {g : JFrame} (kk : W p l e R s m args below meth c H locs k n Q g) : W p l e R s m args below meth c H locs cells slots Q g := W.widen h1 h2 kk
end EROW
