noncomputable section
/-! the script's cell -/
abbrev PCel (G : GG) (B b L : Nat) (xs : Nat → Int32) (μ : Mm) (U : State) : Prop := PM G B μ U ∧ b < B ∧ va_X b L xs U U.heap
abbrev CCel (l : Launch) (G : GG) (B b L : Nat) (xs : Nat → Int32) (μ : Mm) (i : Int32) : Prop :=
  Met l yL_cell ((.code yL_cell cL_cell 2 (Option.some FieldType.int)) :: TBL) ({ frames := 0, cells := 0, slots := 0, locals := 0 } : Room) (va_Pc [.ref b, .int i] (PCel G B b L xs μ)) (QM G B (some (.int (LV_cell L xs i))) μ) 0 0 (AA B)
set_option maxHeartbeats 4000000 in
theorem ML_cell (l : Launch) (G : GG) (B b L : Nat) (xs : Nat → Int32) (μ : Mm) (i : Int32) (hi : ¬ i < 0) (hL : L < 2 ^ 31) : CCel l G B b L xs μ i := by
  refine Met.ofW (cc := cL_cell) (maxL := 2) (ret := Option.some FieldType.int) (by decide) rfl ?_
  intro p e s m args below meth c s₁ Bd hml hv
  obtain ⟨rfl, ⟨hP, hK, hN⟩, hbB, hX⟩ := hv
  have hts := atoms_spec (ws := ((.code yL_cell cL_cell 2 (Option.some FieldType.int)) :: TBL)) Bd.pre
  have hown : s.vm.findClass yL_cell.cls = some m.cls := findClass_of_methodNamed Bd.named
  have hl := lv_entry ([.ref b, .int i]) (n := 2) (Nat.le_of_ble_eq_true rfl)
  rw [lg_entry_eq]
  generalize (lg_sl ([.ref b, .int i]) ++ List.replicate (2 - (lg_sl ([.ref b, .int i])).length) Slot.unset).toArray = ls at hl ⊢
  have K : KK p m c cL_cell 2 s ([.ref b, .int i] : List Value).toArray (.code yL_cell cL_cell 2 (Option.some FieldType.int)) yL_cell.cls G B := ⟨⟨Bd.exec, Bd.bytes, hml, hown, hts⟩, hK, hN⟩
  have hr := Bd.returns
  have hlocks := Bd.notSynchronized
  have hS : va_S (AA B) s.heap s.heap [] := va_S.rf
  have hl : lv_has ls 2 [(0, .ref b), (1, .int i)] := hl
  have hbl : b < s.heap.size := by
    obtain ⟨scr, h1, -⟩ := hX
    exact (Array.getElem?_eq_some_iff.mp h1).1
  have hbA : ¬ AA B b := fun z => by have h9 : B ≤ b := z; omega
  refine lv_iload_n K.1.1 K.1.2.1 dL_cell_0 rfl (lv_at hl 1 rfl) ?_
  refine lv_aload_n K.1.1 K.1.2.1 dL_cell_1 rfl (lv_at hl 0 rfl) ?_
  refine va_slen K.1.1 K.1.2.1 hX hbl hbA hS dL_cell_2 ?_
  refine lv_icmp_ge (tgt := 12) K.1.1 K.1.2.1 dL_cell_3 (by decide) (fun c3 => ?_) (fun c3 => ?_)
  · refine lv_ldc (own := RL) (v := 763049417) K.1.1 K.1.2.1 K.1.2.2.2.1 (K.w q_579) dL_cell_12 ?_
    refine lv_iload_n K.1.1 K.1.2.1 dL_cell_14 rfl (lv_at hl 1 rfl) ?_
    refine lv_iconst (v := 3) K.1.1 K.1.2.1 dL_cell_15 (by decide) ?_
    refine lv_iadd K.1.1 K.1.2.1 dL_cell_16 ?_
    refine lv_imul K.1.1 K.1.2.1 dL_cell_17 ?_
    exact m_iret K hr hlocks hP hS dL_cell_18 (by unfold LV_cell; rw [if_pos (show nI L ≤ i from c3)]) rfl
  · refine lv_aload_n K.1.1 K.1.2.1 dL_cell_6 rfl (lv_at hl 0 rfl) ?_
    refine lv_iload_n K.1.1 K.1.2.1 dL_cell_7 rfl (lv_at hl 1 rfl) ?_
    have hin : vp_in i L := by
      obtain ⟨j, hj, rfl⟩ := nI_of hi
      exact vp_in_nI (Nat.lt_of_not_le fun z => c3 (show nI L ≤ nI j from nI_le z hj)) hL
    refine va_sld K.1.1 K.1.2.1 hX hbl hbA hS hin dL_cell_8 ?_
    refine lv_goto (tgt := 18) K.1.1 K.1.2.1 dL_cell_9 (by decide) ?_
    exact m_iret K hr hlocks hP hS dL_cell_18 (by unfold LV_cell; rw [if_neg (show ¬ nI L ≤ i from c3)]; rfl) rfl
section CROW
variable {p : Program} {l : Launch} {e : Env} {R : Room} {s : State} {m : MethodId} {args : Array Value} {below : List Frame} {meth : Method} {c : Code} {H : Heap} {locs : List Loc} {cells slots : Nat} {Q : State → Prop}
variable {cc : ByteArray} {pc : Nat} {ls : Array Slot} {rest : List Value} {G : GG} {B nL : Nat} {μ : Mm} {own : String} {c1 : Cond}
theorem w_cell {b L index : Nat} {xs : Nat → Int32} {i : Int32} {st0 : List Value} (K : KK p m c cc nL s args c1 RL G B) (hP : MP G B μ H) (hS : va_S (AA B) s.heap H locs) (hX : va_X b L xs s s.heap) (hbl : b < s.heap.size) (hbB : b < B)
    (hM : CCel l G B b L xs μ i)
    (q1 : Cond.methodLink RL index yL_cell ∈ TBL) (q2 : Cond.static yL_cell ∈ TBL) (q4 : Cond.initialized RL ∈ TBL) (q5 : Cond.code yL_cell cL_cell 2 (Option.some FieldType.int) ∈ TBL)
    (hd : yL_cell.cls = RL ∧ yL_cell.cls ≠ "java/lang/invoke/MethodHandle" ∧ yL_cell.cls ≠ "java/lang/invoke/VarHandle" ∧ (parseMethodDescriptor yL_cell.desc).map (fun d => d.parameters.length) = some 2) (hR : 0 + 1 ≤ R.frames ∧ 8 + (2 + 11) + 0 ≤ R.locals)
    (hsize : ls.size = nL) (hst : st0 = .int i :: .ref b :: rest) (hW : (rest.map fun v => v.category).sum ≤ 8) (hdg : decode cc pc = .ok (.invokestatic index, 3)) (hf : cells ≤ R.cells ∧ slots ≤ R.slots)
    (kk : ∀ (H1 : Heap) (locs1 : List Loc), MP G B μ H1 → va_S (AA B) s.heap H1 locs1 → W p l e R s m args below meth c H1 locs1 cells slots Q (F0 m (pc + 3) ls (.int (LV_cell L xs i) :: rest))) : W p l e R s m args below meth c H locs cells slots Q (F0 m pc ls st0) := by
  have hbA : ¬ AA B b := fun z => by have h9 : B ≤ b := z; omega
  obtain ⟨hbl2, hpre⟩ := m_pre hP hS K.2 ([.ref b, .int i])
  have hp : PreS s H (va_Pc [.ref b, .int i] (PCel G B b L xs μ)) [.ref b, .int i] :=
    ⟨fun a U g mk q => ⟨q.1, (hbl2 a U g mk ⟨q.1, q.2.1⟩).2, q.2.2.1, va_X.moved (u := U) (U := U.calling g mk a) (Vm.Alike.refl U.vm) q.2.2.2⟩,
      fun U hU hW => ⟨rfl, (hpre U hU hW).2, hbB, by rw [hU]; exact (va_X.moved hW.alike hX).kept (hS.2.1 b hbl hbA)⟩⟩
  exact m_back (va_runS (As := [.ref b, .int i]) (rest := rest) K.1 hM (cwS 2 K.1.2.2.2.2 (m_goodS q1 q2 q4 q5) rfl rfl rfl hd hR) hp rfl rfl hsize hst (lv_room hW) hdg hf) hS kk
end CROW
end
