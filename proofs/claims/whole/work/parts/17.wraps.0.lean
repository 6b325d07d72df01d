noncomputable section
/-! the law's own row of one long, at B + 265, beside the memory -/
def oV (cL : ClassId) (x : Int64) : Cell := vp_cell cL (1, .inr (.inl (fun _ => x)))
def OM (G : GG) (B : Nat) (cL : ClassId) (μ : Mm) (x : Int64) (H : Heap) : Prop := MP G B μ H ∧ H[B + 265]? = some (oV cL x)
theorem OM.kept {G : GG} {B : Nat} {cL : ClassId} {μ μ' : Mm} {x : Int64} {H H1 : Heap} (h : OM G B cL μ x H) (hP : MP G B μ' H1) (hq : ∀ q, q < H.size → ¬ AA B q → H1[q]? = H[q]?) : OM G B cL μ' x H1 :=
  ⟨hP, by rw [hq _ (Array.getElem?_eq_some_iff.mp h.2).1 (fun z => z.2 rfl)]; exact h.2⟩
theorem AA_AB {B q : Nat} (h : AA B q) : AB B q := h.1
theorem S_AB {B : Nat} {H0 H : Heap} {locs : List Loc} (h : va_S (AA B) H0 H locs) : va_S (AB B) H0 H locs := ⟨h.1, fun q h1 h2 => h.2.1 q h1 (fun z => h2 z.1), fun q h1 => (h.2.2 q h1).1⟩
def PL (G : GG) (B : Nat) (cL : ClassId) (μ : Mm) (x : Int64) (U : State) : Prop := OM G B cL μ x U.heap ∧ va_K G.1 vwCl (tyL G) U ∧ (NW G B U U.heap ∧ ND U) ∧ ArrOfT U cL .long
def QL (G : GG) (B : Nat) (cL : ClassId) (k : Int32) (μ : Mm) (x : Int64) : Array Value → State → Outcome → State → Prop := fun _ st oc t => oc = .returned (some (.int k)) ∧ OM G B cL μ x t.heap ∧ va_F (AB B) st t
/-- a static method of the law with handlers: the number it answers, the memory and the row behind it -/
abbrev LM (l : Launch) (y : MethodName) (cw : Cond) (fr lo mc ms : Nat) (G : GG) (B : Nat) (cL : ClassId) (av : List Value) (μ : Mm) (x : Int64) (k : Int32) (μ' : Mm) (x' : Int64) : Prop :=
  Met l y (cw :: TBL) ({ frames := fr, cells := mc, slots := ms, locals := lo } : Room) (va_Pc av (PL G B cL μ x)) (QL G B cL k μ' x') mc ms (AB B)
abbrev LF (below : List Frame) (G : GG) (B : Nat) (cL : ClassId) (k : Int32) (μ' : Mm) (x' : Int64) (a : Array Value) (s : State) (mc ms : Nat) : State → Prop := MQ below (QL G B cL k μ' x') a s mc ms (AB B)
theorem LM.of {l : Launch} {G : GG} {B : Nat} {cL : ClassId} {y : MethodName} {bytes : ByteArray} {maxL : Nat} {ret : Option FieldType} {hh : List (Nat × Nat × Nat × Nat)} {fr lo mc ms : Nat} {av : List Value} {μ μ' : Mm} {x x' : Int64} {k : Int32} (hy : plainName y.cls = true) (hlen : (lg_sl av).length ≤ maxL)
    (body : ∀ (p : Program) (e : Env) (s : State) (m : MethodId) (below : List Frame) (meth : Method) (c : Code) (ls : Array Slot), KK p m c bytes maxL s av.toArray (.codeWith y bytes maxL ret hh) y.cls G B → ND s → ArrOfT s cL .long → c.exceptionTable.toList = tableOf hh → meth.sig.returnType = ret → meth.locks = false → OM G B cL μ x s.heap → lv_has ls maxL (lv_args 0 av) →
      W p l e ({ frames := fr, cells := mc, slots := ms, locals := lo } : Room) s m av.toArray below meth c s.heap [] 0 0 (LF below G B cL k μ' x' av.toArray s mc ms) (F0 m 0 ls [])) : LM l y (.codeWith y bytes maxL ret hh) fr lo mc ms G B cL av μ x k μ' x' := by
  refine va_MetW (cc := bytes) (maxL := maxL) (ret := ret) (hh := hh) hy rfl ?_
  intro p e s m args below meth c s₁ Bd hml hv
  obtain ⟨rfl, hP, hK, ⟨hN, hD⟩, hA⟩ := hv
  have hts := atoms_spec (ws := (.codeWith y bytes maxL ret hh :: TBL)) Bd.pre
  have hown : s.vm.findClass y.cls = some m.cls := findClass_of_methodNamed Bd.named
  have htab := vx_table (x := y) Bd (hts _ List.mem_cons_self)
  have hl := lv_entry av (n := maxL) hlen
  rw [lg_entry_eq]
  generalize (lg_sl av ++ List.replicate (maxL - (lg_sl av).length) Slot.unset).toArray = ls at hl ⊢
  exact body p e s m below meth c ls ⟨⟨Bd.exec, Bd.bytes, hml, hown, hts⟩, hK, hN⟩ hD hA htab Bd.returns Bd.notSynchronized hP hl
theorem arrV_congr {cI : ClassId} {N : Nat} {f g : Nat → Value} (h : ∀ i, i < N → f i = g i) : arrV cI N f = arrV cI N g := by
  have e : (fun j : Fin N => f j.val) = fun j : Fin N => g j.val := funext fun j => h _ j.2
  unfold arrV
  rw [e]
section LROW
variable {p : Program} {l : Launch} {e : Env} {R : Room} {s : State} {m : MethodId} {args : Array Value} {below : List Frame} {meth : Method} {c : Code} {H : Heap} {locs : List Loc} {cells slots : Nat} {Q : State → Prop}
variable {cc : ByteArray} {pc : Nat} {ls : Array Slot} {rest : List Value} {G : GG} {B nL : Nat} {cL : ClassId} {μ : Mm} {x : Int64} {own : String} {c1 : Cond}
theorem l_ret {k : Int32} {μ' : Mm} {x' : Int64} (K : KK p m c cc nL s args c1 own G B) (hr : meth.sig.returnType = some .int) (hlocks : meth.locks = false) (hP : OM G B cL μ x H) (hS : va_S (AB B) s.heap H locs) (hdg : decode cc pc = .ok (.ireturn, 1)) (hm : μ' = μ) (hx : x' = x) : W p l e R s m args below meth c H locs cells slots (LF below G B cL k μ' x' args s cells slots) (F0 m pc ls [.int k]) := by
  subst hm; subst hx
  exact W.iret K.1.1 K.1.2.1 hr (fun t ht _ => ⟨rfl, by rw [ht]; exact hP, hS.F ht⟩) hS.2.2 hdg
theorem l_last (K : KK p m c cc nL s args c1 own G B) (hA : ArrOfT s cL .long) (hP : OM G B cL μ x H) (hS : va_S (AB B) s.heap H locs) {v : Int64} (hdg : decode cc pc = .ok (.lastore, 1))
    (kk : ∀ (H1 : Heap) (locs1 : List Loc), OM G B cL μ v H1 → va_S (AB B) s.heap H1 locs1 → W p l e R s m args below meth c H1 locs1 cells slots Q (F0 m (pc + 1) ls rest)) : W p l e R s m args below meth c H locs cells slots Q (F0 m pc ls (.long v :: .int 0 :: .ref (B + 265) :: rest)) := by
  refine W.last K.1.1 K.1.2.1 hP.2 (hA 1 (fun _ => .long x)) (fun q => by cases q) (by show ¬ ((0 : Int32) < 0 ∨ (arrV _ _ _).slots.size ≤ _); rw [arrV_size]; show ¬ ((0 : Int32) < 0 ∨ 1 ≤ (0 : Int32).toNatClampNeg); decide) rfl rfl hdg fun H1 e z oq => ?_
  refine kk H1 _ ⟨hP.1.kept (fun k q hk => oq _ ?_), ?_⟩ (hS.put z oq (Nat.le_add_right _ _))
  · obtain ⟨h1, rfl⟩ := mL_of hk
    show B + k ≠ B + 265
    omega
  · rw [e]
    show some ((vp_cell cL (1, .inr (.inl (fun _ => x)))).setSlot _ _) = some (vp_cell cL (1, .inr (.inl (fun _ => v))))
    rw [vp_cell_l, vp_cell_l, arrV_store]
    exact congrArg some (arrV_congr (fun i hi => by rw [show i = 0 by omega]; rfl))
theorem l_back {v : Option Value} {μ' : Mm} {st0 : List Value} {a : Array Value} (hr : va_Run p l e R s m args below meth c H locs cells slots 0 0 (F0 m pc ls st0) rest (QM G B v μ' a) (AA B)) (hS : va_S (AA B) s.heap H locs)
    (kk : ∀ (H1 : Heap) (locs1 : List Loc), MP G B μ' H1 → va_S (AA B) s.heap H1 locs1 → (∀ q, q < H.size → ¬ AA B q → H1[q]? = H[q]?) → W p l e R s m args below meth c H1 locs1 cells slots Q (F0 m (pc + 3) ls (v.toList ++ rest))) : W p l e R s m args below meth c H locs cells slots Q (F0 m pc ls st0) := by
  intro T hT X
  obtain ⟨v', st₀, t, T', L, h0, X', hL, e1, e2, ⟨hv, hb, hz, hk⟩, st⟩ := hr T hT X
  cases hv
  rw [h0] at hz hk
  obtain ⟨t2, a1, b1⟩ := kk T'.heap (locs ++ L) (by rw [e1]; exact hb)
    ⟨Nat.le_trans hS.1 (by rw [e1]; exact hz), fun q h1 h2 => by rw [e1, hk q (Nat.lt_of_lt_of_le h1 hS.1) h2]; exact hS.2.1 q h1 h2, fun q hq => by
      rcases List.mem_append.mp hq with h | h
      · exact hS.2.2 q h
      · exact hL q h⟩ (fun q h1 h2 => by rw [e1]; exact hk q h1 h2) T' rfl X'
  exact ⟨t2, st t2 a1, b1⟩
/-- a call of an object's method from the law: what is outside the memory stays -/
theorem l_cV {y : MethodName} {bytes : ByteArray} {maxL n index fr lo k ci N : Nat} {ret : Option FieldType} {C : String} {T : u_T} {fs : List Fc} {v : Option Value} {μ' : Mm} {As st0 : List Value} (K : KK p m c cc nL s args c1 own G B) (hP : MP G B μ H) (hS : va_S (AA B) s.heap H locs)
    (hM : CM l y (.code y bytes maxL ret) fr lo G B (.ref (B + k) :: As) μ v μ') (hk : k < 265) (hsh : sh k = (1, ci, fs)) (hc : vwCl[ci]? = some (C, T, N))
    (q1 : Cond.methodLink own index y ∈ TBL) (q2 : Cond.instanceMethod y ∈ TBL) (q3 : Cond.selects C y y ∈ TBL) (q4 : Cond.initialized C ∈ TBL) (q5 : Cond.code y bytes maxL ret ∈ TBL)
    (hd : y.cls = C ∧ y.cls ≠ "java/lang/invoke/MethodHandle" ∧ y.cls ≠ "java/lang/invoke/VarHandle" ∧ (parseMethodDescriptor y.desc).map (fun d => d.parameters.length) = some n) (hR : fr + 1 ≤ R.frames ∧ 8 + (maxL + 11) + lo ≤ R.locals)
    (hn : As.length = n) (hsize : ls.size = nL) (hst : st0 = As.reverse ++ .ref (B + k) :: rest) (hW : (rest.map fun v => v.category).sum ≤ 8) (hdg : decode cc pc = .ok (.invokevirtual index, 3)) (hf : cells ≤ R.cells ∧ slots ≤ R.slots)
    (kk : ∀ (H1 : Heap) (locs1 : List Loc), MP G B μ' H1 → va_S (AA B) s.heap H1 locs1 → (∀ q, q < H.size → ¬ AA B q → H1[q]? = H[q]?) → W p l e R s m args below meth c H1 locs1 cells slots Q (F0 m (pc + 3) ls (v.toList ++ rest))) : W p l e R s m args below meth c H locs cells slots Q (F0 m pc ls st0) := by
  have hP0 := mL_get G B μ hk
  rw [ce_obj G B hsh] at hP0
  obtain ⟨hbl, hpre⟩ := m_pre hP hS K.2 (.ref (B + k) :: As)
  exact l_back (va_runV (As := As) (rest := rest) K.1 hM (cwV n K.1.2.2.2.2 (m_goodV q1 q2 q3 q4 q5) rfl rfl rfl hd hR) ⟨hbl, va_recv K.2.1 hP hc hP0, hpre⟩ rfl hn hsize hst (lv_room hW) hdg hf) hS kk
/-- the same of a method that throws -/
theorem l_cX {y : MethodName} {bytes : ByteArray} {maxL n index fr lo k ci N : Nat} {ret : Option FieldType} {C E : String} {T : u_T} {fs : List Fc} {As st0 : List Value} (K : KK p m c cc nL s args c1 own G B) (hP : MP G B μ H) (hS : va_S (AA B) s.heap H locs) (hD : ND s)
    (hM : XM l y (.code y bytes maxL ret) fr lo G B (.ref (B + k) :: As) μ E) (hk : k < 265) (hsh : sh k = (1, ci, fs)) (hc : vwCl[ci]? = some (C, T, N))
    (q1 : Cond.methodLink own index y ∈ TBL) (q2 : Cond.instanceMethod y ∈ TBL) (q3 : Cond.selects C y y ∈ TBL) (q4 : Cond.initialized C ∈ TBL) (q5 : Cond.code y bytes maxL ret ∈ TBL)
    (hd : y.cls = C ∧ y.cls ≠ "java/lang/invoke/MethodHandle" ∧ y.cls ≠ "java/lang/invoke/VarHandle" ∧ (parseMethodDescriptor y.desc).map (fun d => d.parameters.length) = some n) (hR : fr + 1 ≤ R.frames ∧ 8 + (maxL + 11) + lo ≤ R.locals)
    (hn : As.length = n) (hsize : ls.size = nL) (hst : st0 = As.reverse ++ .ref (B + k) :: rest) (hW : (rest.map fun v => v.category).sum ≤ 8) (hdg : decode cc pc = .ok (.invokevirtual index, 3)) (hf : cells + 1 ≤ R.cells ∧ slots + 6 ≤ R.slots)
    (kx : ∀ (ce : Cell) (q9 : Addr) (H1 : Heap) (locs1 : List Loc), MP G B μ H1 → va_S (AA B) s.heap H1 locs1 → (∀ q, q < H.size → ¬ AA B q → H1[q]? = H[q]?) → H1[q9]? = some ce → ce.vm = .none → s.vm.findClass E = some ce.cls → vx_W p l e R s m args below meth c H1 locs1 (cells + 1) (slots + 6) Q (F0 m pc ls rest) q9) : W p l e R s m args below meth c H locs cells slots Q (F0 m pc ls st0) := by
  have hP0 := mL_get G B μ hk
  rw [ce_obj G B hsh] at hP0
  obtain ⟨hbl, hpre⟩ := x_pre hP hS K.2 hD (.ref (B + k) :: As)
  refine vx_callv (S := Unit) (SX := Unit) (vx_runV (As := As) (rest := rest) K.1 hM (cwV n K.1.2.2.2.2 (m_goodV q1 q2 q3 q4 q5) rfl rfl rfl hd hR) ⟨hbl, va_recv K.2.1 hP hc hP0, hpre⟩ rfl hn hsize hst (lv_room hW) hdg hf) hS (fun _ _ h => h) (fun _ h => h) (fun _ _ h => h) ?_ (fun _ _ _ _ _ _ hp => hp.elim)
  intro E' ce q9 u t H1 locs1 ht hvm _ hB hz hk hS1 hc1 hc2 hc3
  obtain ⟨rfl, hPt⟩ := hB
  exact kx ce q9 H1 locs1 (by rw [← ht]; exact hPt) hS1 (fun q h1 h2 => hk q h1 h2) hc1 hc2 hc3
end LROW
end
