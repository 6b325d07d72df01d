/-! THE CLAIM OUT OF ONE WALK OF THE LAW'S BODY. Your part is whole_start (and what it stands on); all else here is the same for every law, but numbers. -/
def R_law : String := "ShadedBooksLaw"
def lw_P (b : Addr) (xs : List Int32) (args : Array Value) (s : State) : Prop := args = #[.ref b] ∧ s.IntsAt b xs ∧ xs.length ≤ 2048 ∧ (Jvm.Cond.and given_1 narrow_1).before args s = true
def lw_Q (_ : Array Value) (s : State) (o : Outcome) (t : State) : Prop := o = .returned (some (.int 1)) ∧ Framed s o t [] 601024 7293034
def lw_Z (below : List Frame) (a : Array Value) (s : State) : State → Prop := fun t => ∃ o, t.status = .running ∧ Ended t below o ∧ lw_Q a s o t
/-- the law's own end, with 1 on the stack, nothing written that was there before, its room as the claim has it -/
theorem lw_ret {p : Program} {l : Launch} {e : Env} {s : State} {m : MethodId} {below : List Frame} {meth : Method} {c : Code} {b : Nat} (hx : p.tables.exec = Jvm.exec) (hb : c.code = code) (hr : meth.sig.returnType = ret) (hlocks : meth.locks = false) {pc : Nat} {H : Heap} {ls : Array Slot} (hdg : decode code pc = .ok (.ireturn, 1)) : W p l e room_1 s m #[Value.ref b] below meth c H [] 601024 7293034 (lw_Z below #[Value.ref b] s) (F0 m pc ls [.int 1]) := by
  intro T hT X
  obtain ⟨fs, hret, hrun, hended, hW, hframe⟩ := X.leave (v := some (.int 1)) (hlocks := hlocks) (fun h => by rw [hr] at h; cases h)
  have hmeth' : T.vm.method? m = some meth := X.method'
  refine ⟨T.setFrames fs, ?_, .returned (some (.int 1)), hrun, hended, rfl, ⟨_, rfl⟩, hW, hframe⟩
  jvm_step X.here [X.here.top, hx, hb, hdg, hmeth', hr, ret, narrow_b1]
  (try refine ⟨rfl, ?_⟩); (try refine ⟨rfl, ?_⟩)
  first | (intro acts; rw [hret _ acts rfl rfl rfl]) | rw [hret _ _ rfl rfl rfl]
  exact Steps.refl _
/-- what holds at the law's entry: the machine, the code, the tables' words (any of lw_tbl by 'hts w (by decide +kernel)'), the script of L ints xs at the cell b, what the Statement gives of the start (any of its parts by flat_of_before) -/
def lw_At (p : Program) (s : State) (m : MethodId) (meth : Method) (c : Code) (b L : Nat) (xs : Nat → Int32) : Prop :=
  p.tables.exec = Jvm.exec ∧ c.code = code ∧ meth.sig.returnType = ret ∧ c.maxLocals = 7 ∧ s.vm.findClass R_law = some m.cls ∧ (∀ w ∈ lw_tbl, w.before #[Value.ref b] s = true) ∧ va_X b L xs s s.heap ∧ b < s.heap.size ∧ meth.locks = false ∧ (Jvm.Cond.and given_1 narrow_1).before #[Value.ref b] s = true

theorem sw_out25 {x : Int32} (h : ∀ j : Nat, j < 25 → ¬ x = nI j) : x.toInt < 0 ∨ 24 < x.toInt := by
  by_cases h0 : x < 0
  · left
    exact Int32.lt_iff_toInt_lt.mp h0
  · obtain ⟨j, hj, rfl⟩ := nI_of h0
    right
    rw [nI_toInt hj]
    have : ¬ j < 25 := fun hlt => h j hlt rfl
    omega
theorem lawL4 {L k : Nat} (hL : L ≤ 2048) (hk : k ≤ 2048) : (nI L - 4 < nI k) ↔ L < k + 4 := by
  have h0 : (0 : Int32) ≤ nI k := Int32.not_lt.mp (nI_pos (by omega))
  match L, hL with
  | 0, _ => exact ⟨fun _ => by omega, fun _ => Int32.lt_of_lt_of_le (by decide) h0⟩
  | 1, _ => exact ⟨fun _ => by omega, fun _ => Int32.lt_of_lt_of_le (by decide) h0⟩
  | 2, _ => exact ⟨fun _ => by omega, fun _ => Int32.lt_of_lt_of_le (by decide) h0⟩
  | 3, _ => exact ⟨fun _ => by omega, fun _ => Int32.lt_of_lt_of_le (by decide) h0⟩
  | L + 4, h =>
    rw [show nI (L + 4) - 4 = nI (L + 1 + 1 + 1 + 1) - 1 - 1 - 1 - 1 by rw [Int32.sub_sub, Int32.sub_sub, Int32.sub_sub]; rfl, nI_pred, nI_pred, nI_pred, nI_pred]
    exact ⟨fun hlt => by have := nI_lt_of (x := k) (y := L) (by omega) (by omega) hlt; omega, fun hlt => nI_lt (by omega) (by omega)⟩
set_option maxHeartbeats 4000000 in
set_option maxRecDepth 100000 in
theorem law_loop {p : Program} {l : Launch} {e : Env} {s : State} {m : MethodId} {below : List Frame} {meth : Method} {c : Code} {G : GG} {B b L : Nat} {cL : ClassId} {c1 : Cond} {xs : Nat → Int32} (I : Nat → Mm → Prop) (hm : ∀ k μ, I k μ → I (k + 1) μ) (hL : L ≤ 2048) (K : KK p m c cL_law 7 s #[Value.ref b] c1 RL G B) (hr : meth.sig.returnType = ret) (hlocks : meth.locks = false) (hD : ND s) (hA : ArrOfT s cL .long) (hB : s.heap.size = B) (hX : va_X b L xs s s.heap) (hbl : b < s.heap.size)
    (op0 : ∀ (k : Nat) (μ : Mm) (x : Int64) (p0 : Int32) (p1 : Int32), k < 512 → I k μ → OPC_addTrader l G B cL (I (k + 1)) μ x p0 p1) (op1 : ∀ (k : Nat) (μ : Mm) (x : Int64) (p0 : Int32) (p1 : Int32), k < 512 → I k μ → OPC_setValue l G B cL (I (k + 1)) μ x p0 p1) (op2 : ∀ (k : Nat) (μ : Mm) (x : Int64) (p0 : Int32) (p1 : Int32) (p2 : Int32), k < 512 → I k μ → OPC_setShade l G B cL (I (k + 1)) μ x p0 p1 p2) (op3 : ∀ (k : Nat) (μ : Mm) (x : Int64) (p0 : Int32) (p1 : Int32), k < 512 → I k μ → OPC_set l G B cL (I (k + 1)) μ x p0 p1) (op4 : ∀ (k : Nat) (μ : Mm) (x : Int64) (p0 : Int32) (p1 : Int32), k < 512 → I k μ → OPC_bid l G B cL (I (k + 1)) μ x p0 p1) (op5 : ∀ (k : Nat) (μ : Mm) (x : Int64) (p0 : Int32) (p1 : Int32) (p2 : Int32), k < 512 → I k μ → OPC_order l G B cL (I (k + 1)) μ x p0 p1 p2) (op6 : ∀ (k : Nat) (μ : Mm) (x : Int64) (p0 : Int32), k < 512 → I k μ → OPC_cancel l G B cL (I (k + 1)) μ x p0) (op7 : ∀ (k : Nat) (μ : Mm) (x : Int64), k < 512 → I k μ → OPC_clear l G B cL (I (k + 1)) μ x) (op8 : ∀ (k : Nat) (μ : Mm) (x : Int64) (p0 : Int32) (p1 : Int32), k < 512 → I k μ → OPC_trader l G B cL (I (k + 1)) μ x p0 p1) (op9 : ∀ (k : Nat) (μ : Mm) (x : Int64) (p0 : Int32) (p1 : Int32), k < 512 → I k μ → OPC_orderOf l G B cL (I (k + 1)) μ x p0 p1) (op10 : ∀ (k : Nat) (μ : Mm) (x : Int64) (p0 : Int32) (p1 : Int32), k < 512 → I k μ → OPC_trade l G B cL (I (k + 1)) μ x p0 p1) (op11 : ∀ (k : Nat) (μ : Mm) (x : Int64) (p0 : Int32) (p1 : Int32), k < 512 → I k μ → OPC_at l G B cL (I (k + 1)) μ x p0 p1) (op12 : ∀ (k : Nat) (μ : Mm) (x : Int64) (p0 : Int32), k < 512 → I k μ → OPC_now l G B cL (I (k + 1)) μ x p0) (op13 : ∀ (k : Nat) (μ : Mm) (x : Int64) (p0 : Int32), k < 512 → I k μ → OPC_whole l G B cL (I (k + 1)) μ x p0) (op14 : ∀ (k : Nat) (μ : Mm) (x : Int64) (p0 : Int32), k < 512 → I k μ → OPC_filled l G B cL (I (k + 1)) μ x p0) (op15 : ∀ (k : Nat) (μ : Mm) (x : Int64) (p0 : Int32), k < 512 → I k μ → OPC_reason l G B cL (I (k + 1)) μ x p0) (op16 : ∀ (k : Nat) (μ : Mm) (x : Int64) (p0 : Int32) (p1 : Int32), k < 512 → I k μ → OPC_gainWith l G B cL (I (k + 1)) μ x p0 p1) (op17 : ∀ (k : Nat) (μ : Mm) (x : Int64) (p0 : Int32), k < 512 → I k μ → OPC_bestShade l G B cL (I (k + 1)) μ x p0) (op18 : ∀ (k : Nat) (μ : Mm) (x : Int64) (p0 : Int32), k < 512 → I k μ → OPC_bestSplit l G B cL (I (k + 1)) μ x p0) (op19 : ∀ (k : Nat) (μ : Mm) (x : Int64) (p0 : Int32), k < 512 → I k μ → OPC_goneIn l G B cL (I (k + 1)) μ x p0) (op20 : ∀ (k : Nat) (μ : Mm) (x : Int64) (p0 : Int32), k < 512 → I k μ → OPC_type l G B cL (I (k + 1)) μ x p0) (op21 : ∀ (k : Nat) (μ : Mm), k < 512 → I k μ → OPC_clearCommands l G B (I (k + 1)) μ) (op22 : ∀ (k : Nat) (μ : Mm), k < 512 → I k μ → OPC_runCommands l G B (I (k + 1)) μ) (op23 : ∀ (k : Nat) (μ : Mm) (x : Int64), k < 512 → I k μ → OPC_undo l G B cL (I (k + 1)) μ x) (op24 : ∀ (k : Nat) (μ : Mm), k < 512 → I k μ → OPC_digest l G B (I (k + 1)) μ) : ∀ (n k : Nat) (H : Heap) (ls : Array Slot) (μ : Mm) (x : Int64), k + n = L / 4 → I k μ → OM G B cL μ x H → va_S (AA B) s.heap H [] → lv_has ls 7 [(1, .ref (B + 0)), (2, .ref (B + 259)), (3, .ref (B + 265)), (0, .ref b), (4, .int (nI (4 * k)))] →
      W p l e room_1 s m #[Value.ref b] below meth c H [] (266 + k) (4238 + 6 * k) (lw_Z below #[Value.ref b] s) (F0 m 23 ls []) := by
  intro n
  induction n with
  | zero =>
    intro k H ls μ x hk hI hP hS hl
    refine lv_iload K.1.1 K.1.2.1 dL_law_23 (lv_at hl 4 rfl) ?_
    refine lv_aload_n K.1.1 K.1.2.1 dL_law_25 rfl (lv_at hl 3 rfl) ?_
    refine va_slen K.1.1 K.1.2.1 hX hbl (fun z => by have h9 : B ≤ b := z.1; omega) hS dL_law_26 ?_
    refine lv_iconst (v := 4) K.1.1 K.1.2.1 dL_law_27 (by decide) ?_
    refine lv_isub K.1.1 K.1.2.1 dL_law_28 ?_
    refine lv_icmp_gt (tgt := 1562) K.1.1 K.1.2.1 dL_law_29 (by decide) (fun c9 => ?_) (fun c9 => absurd ((lawL4 (L := L) (k := 4 * k) hL (by omega)).mpr (by omega)) c9)
    refine lv_iconst (v := 1) K.1.1 K.1.2.1 dL_law_1562 (by decide) ?_
    refine W.widen (k := 601024) (n := 7293034) (by omega) (by omega) ?_
    exact lw_ret K.1.1 K.1.2.1 hr hlocks dL_law_1563
  | succ n ih =>
    intro k H ls μ x hk hI hP hS hl
    refine lv_iload K.1.1 K.1.2.1 dL_law_23 (lv_at hl 4 rfl) ?_
    refine lv_aload_n K.1.1 K.1.2.1 dL_law_25 rfl (lv_at hl 3 rfl) ?_
    refine va_slen K.1.1 K.1.2.1 hX hbl (fun z => by have h9 : B ≤ b := z.1; omega) hS dL_law_26 ?_
    refine lv_iconst (v := 4) K.1.1 K.1.2.1 dL_law_27 (by decide) ?_
    refine lv_isub K.1.1 K.1.2.1 dL_law_28 ?_
    refine lv_icmp_gt (tgt := 1562) K.1.1 K.1.2.1 dL_law_29 (by decide) (fun c9 => absurd ((lawL4 (L := L) (k := 4 * k) hL (by omega)).mp c9) (by omega)) (fun c9 => ?_)
    refine lv_aload_n K.1.1 K.1.2.1 dL_law_32 rfl (lv_at hl 3 rfl) ?_
    refine lv_iload K.1.1 K.1.2.1 dL_law_33 (lv_at hl 4 rfl) ?_
    refine va_sld K.1.1 K.1.2.1 hX hbl (fun z => by have h9 : B ≤ b := z.1; omega) hS (vp_in_nI (by omega) (by omega)) dL_law_35 ?_
    refine lv_bipush (v := 31) K.1.1 K.1.2.1 dL_law_36 (by decide) ?_
    refine lv_iand K.1.1 K.1.2.1 dL_law_38 ?_
    refine lv_topi (fun v ev => ?_)
    have hr1 : vp_in (nI (4 * k) + 1) L := (by rw [nI_1]; exact vp_in_nI (by omega) (by omega))
    have hr2 : vp_in (nI (4 * k) + 2) L := (by rw [show nI (4 * k) + 2 = nI (4 * k + 2) from nI_add _ 2]; exact vp_in_nI (by omega) (by omega))
    have hr3 : vp_in (nI (4 * k) + 3) L := (by rw [show nI (4 * k) + 3 = nI (4 * k + 3) from nI_add _ 3]; exact vp_in_nI (by omega) (by omega))
    have kk : ∀ (H1 : Heap) (ls1 : Array Slot) (μ1 : Mm) (x1 : Int64), I (k + 1) μ1 → OM G B cL μ1 x1 H1 → va_S (AA B) s.heap H1 [] → lv_has ls1 7 [(1, .ref (B + 0)), (2, .ref (B + 259)), (3, .ref (B + 265)), (0, .ref b), (4, .int (nI (4 * k)))] → W p l e room_1 s m #[Value.ref b] below meth c H1 [] (266 + k + 1) (4238 + 6 * k + 6) (lw_Z below #[Value.ref b] s) (F0 m 1556 ls1 []) := by
      intro H1 ls1 μ1 x1 hI1 hP1 hS1 hl1
      refine lv_iinc (v := nI (4 * (k + 1))) (lv' := [(4, .int (nI (4 * (k + 1)))), (1, .ref (B + 0)), (2, .ref (B + 259)), (3, .ref (B + 265)), (0, .ref b)]) K.1.1 K.1.2.1 dL_law_1556 hl1 (k := 4) rfl (by rw [show 4 * (k + 1) = 4 * k + 4 by omega, ← nI_add]; rfl) (by decide) rfl (fun ls2 hl2 => ?_)
      refine lv_goto (tgt := 23) K.1.1 K.1.2.1 dL_law_1559 (by decide) ?_
      have h9 := ih (k + 1) H1 ls2 μ1 x1 (by omega) hI1 hP1 hS1 (lv_sub hl2 [1, 2, 3, 4, 0] rfl)
      rw [show 4238 + 6 * (k + 1) = 4238 + 6 * k + 6 by omega, show 266 + (k + 1) = 266 + k + 1 by omega] at h9
      exact h9
    have hk5 : k < 512 := by omega
    have hc : 266 + k + 1 ≤ 601024 ∧ 4238 + 6 * k + 6 ≤ 7293034 := ⟨by omega, by omega⟩
    by_cases w_0 : v = 0
    · refine lv_tableIn (off := 113) (tgt := 152) K.1.1 K.1.2.1 dL_law_39 (by rw [w_0]; decide) (by rw [w_0]; decide) (by rw [w_0]; rfl) (by decide) ?_
      exact law_addTrader (I (k + 1)) K hD hA hB hX hbl hP hS hl hr1 hr2 (op0 k μ x _ _ hk5 hI) hc kk
    by_cases w_1 : v = 1
    · refine lv_tableIn (off := 181) (tgt := 220) K.1.1 K.1.2.1 dL_law_39 (by rw [w_1]; decide) (by rw [w_1]; decide) (by rw [w_1]; rfl) (by decide) ?_
      exact law_setValue (I (k + 1)) K hD hA hB hX hbl hP hS hl hr1 hr2 (op1 k μ x _ _ hk5 hI) hc kk
    by_cases w_2 : v = 2
    · refine lv_tableIn (off := 249) (tgt := 288) K.1.1 K.1.2.1 dL_law_39 (by rw [w_2]; decide) (by rw [w_2]; decide) (by rw [w_2]; rfl) (by decide) ?_
      exact law_setShade (I (k + 1)) K hD hA hB hX hbl hP hS hl hr1 hr2 hr3 (op2 k μ x _ _ _ hk5 hI) hc kk
    by_cases w_3 : v = 3
    · refine lv_tableIn (off := 329) (tgt := 368) K.1.1 K.1.2.1 dL_law_39 (by rw [w_3]; decide) (by rw [w_3]; decide) (by rw [w_3]; rfl) (by decide) ?_
      exact law_set (I (k + 1)) K hD hA hB hX hbl hP hS hl hr1 hr2 (op3 k μ x _ _ hk5 hI) hc kk
    by_cases w_4 : v = 4
    · refine lv_tableIn (off := 397) (tgt := 436) K.1.1 K.1.2.1 dL_law_39 (by rw [w_4]; decide) (by rw [w_4]; decide) (by rw [w_4]; rfl) (by decide) ?_
      exact law_bid (I (k + 1)) K hD hA hB hX hbl hP hS hl hr1 hr2 (op4 k μ x _ _ hk5 hI) hc kk
    by_cases w_5 : v = 5
    · refine lv_tableIn (off := 465) (tgt := 504) K.1.1 K.1.2.1 dL_law_39 (by rw [w_5]; decide) (by rw [w_5]; decide) (by rw [w_5]; rfl) (by decide) ?_
      exact law_order (I (k + 1)) K hD hA hB hX hbl hP hS hl hr1 hr2 hr3 (op5 k μ x _ _ _ hk5 hI) hc kk
    by_cases w_6 : v = 6
    · refine lv_tableIn (off := 545) (tgt := 584) K.1.1 K.1.2.1 dL_law_39 (by rw [w_6]; decide) (by rw [w_6]; decide) (by rw [w_6]; rfl) (by decide) ?_
      exact law_cancel (I (k + 1)) K hD hA hB hX hbl hP hS hl hr1 (op6 k μ x _ hk5 hI) hc kk
    by_cases w_7 : v = 7
    · refine lv_tableIn (off := 601) (tgt := 640) K.1.1 K.1.2.1 dL_law_39 (by rw [w_7]; decide) (by rw [w_7]; decide) (by rw [w_7]; rfl) (by decide) ?_
      exact law_clear (I (k + 1)) K hD hA hB hX hbl hP hS hl (op7 k μ x hk5 hI) hc kk
    by_cases w_8 : v = 8
    · refine lv_tableIn (off := 645) (tgt := 684) K.1.1 K.1.2.1 dL_law_39 (by rw [w_8]; decide) (by rw [w_8]; decide) (by rw [w_8]; rfl) (by decide) ?_
      exact law_trader (I (k + 1)) K hD hA hB hX hbl hP hS hl hr1 hr2 (op8 k μ x _ _ hk5 hI) hc kk
    by_cases w_9 : v = 9
    · refine lv_tableIn (off := 713) (tgt := 752) K.1.1 K.1.2.1 dL_law_39 (by rw [w_9]; decide) (by rw [w_9]; decide) (by rw [w_9]; rfl) (by decide) ?_
      exact law_orderOf (I (k + 1)) K hD hA hB hX hbl hP hS hl hr1 hr2 (op9 k μ x _ _ hk5 hI) hc kk
    by_cases w_10 : v = 10
    · refine lv_tableIn (off := 781) (tgt := 820) K.1.1 K.1.2.1 dL_law_39 (by rw [w_10]; decide) (by rw [w_10]; decide) (by rw [w_10]; rfl) (by decide) ?_
      exact law_trade (I (k + 1)) K hD hA hB hX hbl hP hS hl hr1 hr2 (op10 k μ x _ _ hk5 hI) hc kk
    by_cases w_11 : v = 11
    · refine lv_tableIn (off := 849) (tgt := 888) K.1.1 K.1.2.1 dL_law_39 (by rw [w_11]; decide) (by rw [w_11]; decide) (by rw [w_11]; rfl) (by decide) ?_
      exact law_at (I (k + 1)) K hD hA hB hX hbl hP hS hl hr1 hr2 (op11 k μ x _ _ hk5 hI) hc kk
    by_cases w_12 : v = 12
    · refine lv_tableIn (off := 917) (tgt := 956) K.1.1 K.1.2.1 dL_law_39 (by rw [w_12]; decide) (by rw [w_12]; decide) (by rw [w_12]; rfl) (by decide) ?_
      exact law_now (I (k + 1)) K hD hA hB hX hbl hP hS hl hr1 (op12 k μ x _ hk5 hI) hc kk
    by_cases w_13 : v = 13
    · refine lv_tableIn (off := 973) (tgt := 1012) K.1.1 K.1.2.1 dL_law_39 (by rw [w_13]; decide) (by rw [w_13]; decide) (by rw [w_13]; rfl) (by decide) ?_
      exact law_whole (I (k + 1)) K hD hA hB hX hbl hP hS hl hr1 (op13 k μ x _ hk5 hI) hc kk
    by_cases w_14 : v = 14
    · refine lv_tableIn (off := 1029) (tgt := 1068) K.1.1 K.1.2.1 dL_law_39 (by rw [w_14]; decide) (by rw [w_14]; decide) (by rw [w_14]; rfl) (by decide) ?_
      exact law_filled (I (k + 1)) K hD hA hB hX hbl hP hS hl hr1 (op14 k μ x _ hk5 hI) hc kk
    by_cases w_15 : v = 15
    · refine lv_tableIn (off := 1085) (tgt := 1124) K.1.1 K.1.2.1 dL_law_39 (by rw [w_15]; decide) (by rw [w_15]; decide) (by rw [w_15]; rfl) (by decide) ?_
      exact law_reason (I (k + 1)) K hD hA hB hX hbl hP hS hl hr1 (op15 k μ x _ hk5 hI) hc kk
    by_cases w_16 : v = 16
    · refine lv_tableIn (off := 1141) (tgt := 1180) K.1.1 K.1.2.1 dL_law_39 (by rw [w_16]; decide) (by rw [w_16]; decide) (by rw [w_16]; rfl) (by decide) ?_
      exact law_gainWith (I (k + 1)) K hD hA hB hX hbl hP hS hl hr1 hr2 (op16 k μ x _ _ hk5 hI) hc kk
    by_cases w_17 : v = 17
    · refine lv_tableIn (off := 1209) (tgt := 1248) K.1.1 K.1.2.1 dL_law_39 (by rw [w_17]; decide) (by rw [w_17]; decide) (by rw [w_17]; rfl) (by decide) ?_
      exact law_bestShade (I (k + 1)) K hD hA hB hX hbl hP hS hl hr1 (op17 k μ x _ hk5 hI) hc kk
    by_cases w_18 : v = 18
    · refine lv_tableIn (off := 1265) (tgt := 1304) K.1.1 K.1.2.1 dL_law_39 (by rw [w_18]; decide) (by rw [w_18]; decide) (by rw [w_18]; rfl) (by decide) ?_
      exact law_bestSplit (I (k + 1)) K hD hA hB hX hbl hP hS hl hr1 (op18 k μ x _ hk5 hI) hc kk
    by_cases w_19 : v = 19
    · refine lv_tableIn (off := 1321) (tgt := 1360) K.1.1 K.1.2.1 dL_law_39 (by rw [w_19]; decide) (by rw [w_19]; decide) (by rw [w_19]; rfl) (by decide) ?_
      exact law_goneIn (I (k + 1)) K hD hA hB hX hbl hP hS hl hr1 (op19 k μ x _ hk5 hI) hc kk
    by_cases w_20 : v = 20
    · refine lv_tableIn (off := 1377) (tgt := 1416) K.1.1 K.1.2.1 dL_law_39 (by rw [w_20]; decide) (by rw [w_20]; decide) (by rw [w_20]; rfl) (by decide) ?_
      exact law_type (I (k + 1)) K hD hA hB hX hbl hP hS hl hr1 (op20 k μ x _ hk5 hI) hc kk
    by_cases w_21 : v = 21
    · refine lv_tableIn (off := 1433) (tgt := 1472) K.1.1 K.1.2.1 dL_law_39 (by rw [w_21]; decide) (by rw [w_21]; decide) (by rw [w_21]; rfl) (by decide) ?_
      exact law_clearCommands (I (k + 1)) K hD hA hB hX hbl hP hS hl (op21 k μ hk5 hI) hc kk
    by_cases w_22 : v = 22
    · refine lv_tableIn (off := 1446) (tgt := 1485) K.1.1 K.1.2.1 dL_law_39 (by rw [w_22]; decide) (by rw [w_22]; decide) (by rw [w_22]; rfl) (by decide) ?_
      exact law_runCommands (I (k + 1)) K hD hA hB hX hbl hP hS hl (op22 k μ hk5 hI) hc kk
    by_cases w_23 : v = 23
    · refine lv_tableIn (off := 1459) (tgt := 1498) K.1.1 K.1.2.1 dL_law_39 (by rw [w_23]; decide) (by rw [w_23]; decide) (by rw [w_23]; rfl) (by decide) ?_
      exact law_undo (I (k + 1)) K hD hA hB hX hbl hP hS hl (op23 k μ x hk5 hI) hc kk
    by_cases w_24 : v = 24
    · refine lv_tableIn (off := 1503) (tgt := 1542) K.1.1 K.1.2.1 dL_law_39 (by rw [w_24]; decide) (by rw [w_24]; decide) (by rw [w_24]; rfl) (by decide) ?_
      exact law_digest (I (k + 1)) K hD hA hB hX hbl hP hS hl (op24 k μ hk5 hI) hc kk
    refine lv_tableOut (tgt := 1556) K.1.1 K.1.2.1 dL_law_39 (sw_out25 (fun j hj => ?_)) (by decide) ?_
    · match j, hj with
      | 0, _ => exact w_0
      | 1, _ => exact w_1
      | 2, _ => exact w_2
      | 3, _ => exact w_3
      | 4, _ => exact w_4
      | 5, _ => exact w_5
      | 6, _ => exact w_6
      | 7, _ => exact w_7
      | 8, _ => exact w_8
      | 9, _ => exact w_9
      | 10, _ => exact w_10
      | 11, _ => exact w_11
      | 12, _ => exact w_12
      | 13, _ => exact w_13
      | 14, _ => exact w_14
      | 15, _ => exact w_15
      | 16, _ => exact w_16
      | 17, _ => exact w_17
      | 18, _ => exact w_18
      | 19, _ => exact w_19
      | 20, _ => exact w_20
      | 21, _ => exact w_21
      | 22, _ => exact w_22
      | 23, _ => exact w_23
      | 24, _ => exact w_24
      | j + 25, h => exact absurd h (by omega)
    · exact W.widen (k := 266 + k + 1) (n := 4238 + 6 * k + 6) (by omega) (by omega) (kk H ls μ x (hm k μ hI) hP hS hl)

