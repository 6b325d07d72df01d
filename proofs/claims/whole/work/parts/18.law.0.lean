noncomputable section
/-! the law's own walk: the memory and its row, nothing noted as written (all of it is new since the entry) -/
section WROW
variable {p : Program} {l : Launch} {e : Env} {R : Room} {s : State} {m : MethodId} {args : Array Value} {below : List Frame} {meth : Method} {c : Code} {H : Heap} {cells slots : Nat} {Q : State → Prop}
variable {cc : ByteArray} {pc : Nat} {ls : Array Slot} {rest : List Value} {G : GG} {B nL : Nat} {cL : ClassId} {μ : Mm} {x : Int64} {own : String} {c1 : Cond}
theorem w_cV {y : MethodName} {bytes : ByteArray} {maxL n index fr lo k ci N : Nat} {ret : Option FieldType} {C : String} {T : u_T} {fs : List Fc} {v : Option Value} {μ' : Mm} {As st0 : List Value} (K : KK p m c cc nL s args c1 own G B) (hB : s.heap.size = B) (hP : OM G B cL μ x H) (hS : va_S (AA B) s.heap H [])
    (hM : CM l y (.code y bytes maxL ret) fr lo G B (.ref (B + k) :: As) μ v μ') (hk : k < 265) (hsh : sh k = (1, ci, fs)) (hc : vwCl[ci]? = some (C, T, N))
    (q1 : Cond.methodLink own index y ∈ TBL) (q2 : Cond.instanceMethod y ∈ TBL) (q3 : Cond.selects C y y ∈ TBL) (q4 : Cond.initialized C ∈ TBL) (q5 : Cond.code y bytes maxL ret ∈ TBL)
    (hd : y.cls = C ∧ y.cls ≠ "java/lang/invoke/MethodHandle" ∧ y.cls ≠ "java/lang/invoke/VarHandle" ∧ (parseMethodDescriptor y.desc).map (fun d => d.parameters.length) = some n) (hR : fr + 1 ≤ R.frames ∧ 8 + (maxL + 11) + lo ≤ R.locals)
    (hn : As.length = n) (hsize : ls.size = nL) (hst : st0 = As.reverse ++ .ref (B + k) :: rest) (hW : (rest.map fun v => v.category).sum ≤ 8) (hdg : decode cc pc = .ok (.invokevirtual index, 3)) (hf : cells ≤ R.cells ∧ slots ≤ R.slots)
    (kk : ∀ H1 : Heap, OM G B cL μ' x H1 → va_S (AA B) s.heap H1 [] → W p l e R s m args below meth c H1 [] cells slots Q (F0 m (pc + 3) ls (v.toList ++ rest))) : W p l e R s m args below meth c H [] cells slots Q (F0 m pc ls st0) :=
  l_cV K hP.1 hS hM hk hsh hc q1 q2 q3 q4 q5 hd hR hn hsize hst hW hdg hf
    (fun H1 locs1 h1 h2 h3 => va_forget (fun q hq => by rw [hB]; exact (h2.2.2 q hq).1) (kk H1 (hP.kept h1 h3) ⟨h2.1, h2.2.1, fun _ h => by cases h⟩))
theorem m_goodSW {y : MethodName} {cw : Cond} {index : Nat} (q1 : Cond.methodLink own index y ∈ TBL) (q2 : Cond.static y ∈ TBL) (q4 : Cond.initialized y.cls ∈ TBL) (q5 : cw ∈ TBL) : GoodIn (c1 :: TBL) (va_wsS own index y (cw :: TBL)) := by
  intro w hw
  have h : w ∈ TBL := by
    rcases List.mem_append.mp (show w ∈ [Cond.methodLink own index y, .static y, .initialized y.cls] ++ (cw :: TBL) from hw) with h | h
    · simp only [List.mem_cons, List.not_mem_nil, or_false] at h
      rcases h with rfl | rfl | rfl <;> assumption
    · rcases List.mem_cons.mp h with rfl | h
      · exact q5
      · exact h
  exact ⟨List.mem_cons_of_mem _ h, good_of_word (tb_good h)⟩
theorem w_cS {y : MethodName} {bytes : ByteArray} {maxL n index fr lo mc ms : Nat} {ret : Option FieldType} {hh : List (Nat × Nat × Nat × Nat)} {k : Int32} {μ' : Mm} {x' : Int64} {As st0 : List Value} (K : KK p m c cc nL s args c1 own G B) (hD : ND s) (hA : ArrOfT s cL .long) (hB : s.heap.size = B) (hP : OM G B cL μ x H) (hS : va_S (AA B) s.heap H [])
    (hM : LM l y (.codeWith y bytes maxL ret hh) fr lo mc ms G B cL As μ x k μ' x')
    (q1 : Cond.methodLink own index y ∈ TBL) (q2 : Cond.static y ∈ TBL) (q4 : Cond.initialized y.cls ∈ TBL) (q5 : Cond.codeWith y bytes maxL ret hh ∈ TBL)
    (hd : y.cls ≠ "java/lang/invoke/MethodHandle" ∧ y.cls ≠ "java/lang/invoke/VarHandle" ∧ (parseMethodDescriptor y.desc).map (fun d => d.parameters.length) = some n) (hR : fr + 1 ≤ R.frames ∧ 8 + (maxL + 11) + lo ≤ R.locals)
    (hn : As.length = n) (hsize : ls.size = nL) (hst : st0 = As.reverse ++ rest) (hW : (rest.map fun v => v.category).sum ≤ 8) (hdg : decode cc pc = .ok (.invokestatic index, 3)) (hf : cells + mc ≤ R.cells ∧ slots + ms ≤ R.slots)
    (kk : ∀ H1 : Heap, OM G B cL μ' x' H1 → va_S (AA B) s.heap H1 [] → W p l e R s m args below meth c H1 [] (cells + mc) (slots + ms) Q (F0 m (pc + 3) ls (.int k :: rest))) : W p l e R s m args below meth c H [] cells slots Q (F0 m pc ls st0) := by
  have hpre : PreS s H (va_Pc As (PL G B cL μ x)) As :=
    ⟨fun a U g mk q => ⟨q.1, q.2.1, va_K.moved (u := U) (U := U.calling g mk a) (Vm.Alike.refl U.vm) q.2.2.1, ⟨q.2.2.2.1.1.calling, q.2.2.2.1.2.same rfl⟩, arrOfT_moved (Vm.Alike.refl U.vm) q.2.2.2.2⟩,
      fun U hU hW => ⟨rfl, by rw [hU]; exact hP, va_K.moved hW.alike K.2.1, ⟨by rw [hU]; exact K.2.2.go hS hW, hD.warm hW⟩, arrOfT_moved hW.alike hA⟩⟩
  have hr : va_Run p l e R s m args below meth c H [] cells slots mc ms (F0 m pc ls st0) rest (QL G B cL k μ' x' As.toArray) (AB B) := vx_runSW (As := As) (rest := rest) (g := F0 m pc ls st0) K.1 hM (vx_cwSW n K.1.2.2.2.2 (m_goodSW q1 q2 q4 q5) rfl rfl rfl hd hR) hpre rfl hn hsize hst (lv_room hW) hdg hf
  intro T hT X
  obtain ⟨v', st₀, t, T', L, h0, X', hL, e1, e2, ⟨hv, hb, hz, hk⟩, st⟩ := hr T hT X
  cases hv
  rw [h0] at hz hk
  have kk' := va_forget (locs := [] ++ L) (fun q hq => by rw [hB]; exact hL q (by simpa using hq)) (kk T'.heap (by rw [e1]; exact hb) ⟨Nat.le_trans hS.1 (by rw [e1]; exact hz), fun q h1 h2 => by rw [e1, hk q (Nat.lt_of_lt_of_le h1 hS.1) (fun z => by have : B ≤ q := z; omega)]; exact hS.2.1 q h1 h2, fun _ h => by cases h⟩)
  obtain ⟨t2, a1, b1⟩ := kk' T' rfl X'
  exact ⟨t2, st t2 a1, b1⟩
/-- the number that the law's row holds -/
theorem w_lald (K : KK p m c cc nL s args c1 own G B) (hA : ArrOfT s cL .long) (hP : OM G B cL μ x H) (hdg : decode cc pc = .ok (.laload, 1))
    (kk : W p l e R s m args below meth c H [] cells slots Q (F0 m (pc + 1) ls (.long x :: rest))) : W p l e R s m args below meth c H [] cells slots Q (F0 m pc ls (.int 0 :: .ref (B + 265) :: rest)) :=
  W.lald (v := .long x) K.1.1 K.1.2.1 hP.2 (hA 1 (fun _ => .long x)) (fun q => by cases q) (by show ¬ ((0 : Int32) < 0 ∨ (arrV _ _ _).slots.size ≤ _); rw [arrV_size]; show ¬ ((0 : Int32) < 0 ∨ 1 ≤ (0 : Int32).toNatClampNeg); decide) (by show (arrV _ _ _).slots[_]? = _; rw [arrV_read _ _ (by show (0 : Int32).toNatClampNeg < 1; decide)]) rfl rfl hdg kk
end WROW
theorem cmp_rfl (x : Int64) : lg_cmp x x = 0 := by
  unfold lg_cmp
  rw [if_neg (by exact Int64.lt_irrefl), if_pos rfl]
end
