/-! THE CLAIM OUT OF ONE WALK OF THE LAW'S BODY. Your part is whole_start (and what it stands on); all else here is the same for every law, but numbers. -/
def R_law : String := "ShadedBooksLaw"
def lw_P (b : Addr) (xs : List Int32) (args : Array Value) (s : State) : Prop := args = #[.ref b] ∧ s.IntsAt b xs ∧ xs.length ≤ 260 ∧ (Jvm.Cond.and given_1 narrow_1).before args s = true
def lw_Q (_ : Array Value) (s : State) (o : Outcome) (t : State) : Prop := o = .returned (some (.int 1)) ∧ Framed s o t [] 600130 7301079
def lw_Z (below : List Frame) (a : Array Value) (s : State) : State → Prop := fun t => ∃ o, t.status = .running ∧ Ended t below o ∧ lw_Q a s o t
/-- the law's own end, with 1 on the stack, nothing written that was there before, its room as the claim has it -/
theorem lw_ret {p : Program} {l : Launch} {e : Env} {s : State} {m : MethodId} {below : List Frame} {meth : Method} {c : Code} {b : Nat} (hx : p.tables.exec = Jvm.exec) (hb : c.code = code) (hr : meth.sig.returnType = ret) (hlocks : meth.locks = false) {pc : Nat} {H : Heap} {ls : Array Slot} (hdg : decode code pc = .ok (.ireturn, 1)) : W p l e room_1 s m #[Value.ref b] below meth c H [] 600130 7301079 (lw_Z below #[Value.ref b] s) (F0 m pc ls [.int 1]) := by
  intro T hT X
  obtain ⟨fs, hret, hrun, hended, hW, hframe⟩ := X.leave (v := some (.int 1)) (hlocks := hlocks) (fun h => by rw [hr] at h; cases h)
  have hmeth' : T.vm.method? m = some meth := X.method'
  refine ⟨T.setFrames fs, ?_, .returned (some (.int 1)), hrun, hended, rfl, ⟨_, rfl⟩, hW, hframe⟩
  jvm_step X.here [X.here.top, hx, hb, hdg, hmeth', hr, ret, narrow_b1]
  (try refine ⟨rfl, ?_⟩); (try refine ⟨rfl, ?_⟩)
  first | (intro acts; rw [hret _ acts rfl rfl rfl]) | rw [hret _ _ rfl rfl rfl]
  exact Steps.refl _
/-- what holds at the law's entry: the machine, the code, the tables' words (any of lw_tbl by 'hts w (by decide +kernel)'), the script of L ints xs at the cell b, what the Statement gives of the start (any of its parts by flat_of_before) -/
def lw_At (p : Program) (s : State) (m : MethodId) (meth : Method) (c : Code) (b L : Nat) (xs : Nat → Int32) : Prop :=
  p.tables.exec = Jvm.exec ∧ c.code = code ∧ meth.sig.returnType = ret ∧ c.maxLocals = 16 ∧ s.vm.findClass R_law = some m.cls ∧ (∀ w ∈ lw_tbl, w.before #[Value.ref b] s = true) ∧ va_X b L xs s s.heap ∧ b < s.heap.size ∧ meth.locks = false ∧ (Jvm.Cond.and given_1 narrow_1).before #[Value.ref b] s = true

set_option maxHeartbeats 4000000 in
set_option maxRecDepth 100000 in
theorem law_loop {p : Program} {l : Launch} {e : Env} {s : State} {m : MethodId} {below : List Frame} {meth : Method} {c : Code} {G : GG} {B b L T : Nat} {c1 : Cond} {xs : Nat → Int32} (I : Nat → Int32 → Mm → Prop) (K : KK p m c cL_law 16 s #[Value.ref b] c1 RL G B) (hD : ND s) (hfl : l.stackTraces = false) (hr : meth.sig.returnType = ret) (hlocks : meth.locks = false) (hB : s.heap.size = B) (hX : va_X b L xs s s.heap) (hbl : b < s.heap.size) (hL : L ≤ 260) (hT : T ≤ 36)
    (HT : ∀ (k : Nat) (C : Int32) (μ : Mm), k < 36 → I k C μ → ∀ x a b w bb : Int32, w = (if k < 3 then 0 else x &&& 15) → bb = (if k < 2 then nI k else b) → TURNP l G B I k C μ x a b w bb) :
    ∀ (n k : Nat) (C : Int32) (H : Heap) (locs : List Loc) (ls : Array Slot) (μ : Mm), k + n = T → I k C μ → MP G B μ H → va_S (AA B) s.heap H locs → lv_has ls 16 [(4, .int (nI k)), (3, .int C), (2, .int (nI T)), (1, .ref (B + 0)), (0, .ref b)] →
      W p l e room_1 s m #[Value.ref b] below meth c H locs (259 + 300 * k) (2448 + 1800 * k) (lw_Z below #[Value.ref b] s) (F0 m 32 ls []) := by
  have hbB : b < B := by omega
  intro n
  induction n with
  | zero =>
    intro k C H locs ls μ hk hI hP hS hl
    refine lv_iload K.1.1 K.1.2.1 dL_law_32 (lv_at hl 0 rfl) ?_
    refine lv_iload_n K.1.1 K.1.2.1 dL_law_34 rfl (lv_at hl 2 rfl) ?_
    refine lv_icmp_ge (tgt := 319) K.1.1 K.1.2.1 dL_law_35 (by decide) (fun c9 => ?_) (fun c9 => absurd (nI_le (a := T) (b := k) (by omega) (by omega)) c9)
    refine lv_iconst (v := 1) K.1.1 K.1.2.1 dL_law_319 (by decide) ?_
    refine W.widen (k := 600130) (n := 7301079) (by omega) (by omega) ?_
    refine va_forget (fun q hq => by rw [hB]; exact hS.2.2 q hq) ?_
    exact lw_ret K.1.1 K.1.2.1 hr hlocks dL_law_320
  | succ n ih =>
    intro k C H locs ls μ hk hI hP hS hl
    refine lv_iload K.1.1 K.1.2.1 dL_law_32 (lv_at hl 0 rfl) ?_
    refine lv_iload_n K.1.1 K.1.2.1 dL_law_34 rfl (lv_at hl 2 rfl) ?_
    refine lv_icmp_ge (tgt := 319) K.1.1 K.1.2.1 dL_law_35 (by decide) (fun c9 => absurd c9 (nI_ge (a := k) (b := T) (by omega) (by omega))) (fun c9 => ?_)
    have hk36 : k < 36 := by omega
    obtain ⟨x, hx⟩ : ∃ x, x = LV_cell L xs (nI (3 * k)) := ⟨_, rfl⟩
    obtain ⟨a, ha⟩ : ∃ x, x = LV_cell L xs (nI (3 * k + 1)) := ⟨_, rfl⟩
    obtain ⟨b7, hb7⟩ : ∃ x, x = LV_cell L xs (nI (3 * k + 2)) := ⟨_, rfl⟩
    obtain ⟨w, hw⟩ : ∃ w : Int32, w = (if k < 3 then 0 else x &&& 15) := ⟨_, rfl⟩
    obtain ⟨bb, hbb⟩ : ∃ w : Int32, w = (if k < 2 then nI k else b7) := ⟨_, rfl⟩
    obtain ⟨vb, μ1, dg, μ2, got, μ3, hV, hG, hTo, hor⟩ := HT k C μ hk36 hI x a b7 w bb hw hbb
    refine law_38 (T := nI T) K hD hfl hP hS hl hX hbl hbB hL hk36 hx ha hb7 hw hbb hV hG hTo ⟨by omega, by omega⟩ (fun H locs ls hP hS hl => ?_)
    rcases hor with ⟨hna, μ4, μ5, hV4, hG5, hF, hI5⟩ | ⟨hg, hact, μ4, C2, hC2, hUn, hpost⟩
    · refine law_139n (L := L) (xs := xs) K hD hfl hP hS hl hna hV4 hG5 ⟨by omega, by omega⟩ (fun H locs ls hP hS hl => ?_)
      refine law_282 (L := L) (xs := xs) K hD hfl hP hS hl hF ⟨by omega, by omega⟩ (fun H locs ls hP hS hl => ?_)
      refine W.widen (k := 259 + 300 * (k + 1)) (n := 2448 + 1800 * (k + 1)) (by omega) (by omega) ?_
      exact ih (k + 1) C H locs ls μ5 (by omega) hI5 hP hS hl
    · have tail : ∀ ν : Mm, ν = μ3 ∨ ν = μ4 → ∀ (H : Heap) (locs : List Loc) (ls : Array Slot), MP G B ν H → va_S (AA B) s.heap H locs → lv_has ls 16 [(4, .int (nI k)), (3, .int C2), (2, .int (nI T)), (1, .ref (B + 0)), (0, .ref b), (8, .int w), (13, .int (X_whole μ2 10)), (14, .int (X_whole μ2 1))] → W p l e room_1 s m #[Value.ref b] below meth c H locs (259 + 300 * k + 40 + 1 + 200) (2448 + 1800 * k + 240 + 6 + 1200) (lw_Z below #[Value.ref b] s) (F0 m 231 ls []) := by
        intro ν hν H locs ls hP hS hl
        obtain ⟨hE, hO, hF, hI5⟩ := hpost ν hν
        refine law_231 (L := L) (xs := xs) K hD hfl hP hS hl hE hO ⟨by omega, by omega⟩ (fun H locs ls hP hS hl => ?_)
        refine law_282 (L := L) (xs := xs) K hD hfl hP hS hl hF ⟨by omega, by omega⟩ (fun H locs ls hP hS hl => ?_)
        refine W.widen (k := 259 + 300 * (k + 1)) (n := 2448 + 1800 * (k + 1)) (by omega) (by omega) ?_
        exact ih (k + 1) C2 H locs ls ν (by omega) hI5 hP hS hl
      refine law_139a (L := L) (xs := xs) K hD hfl hP hS hl hg hact ⟨by omega, by omega⟩ (fun H locs ls hP hS hl => ?_)
      exact law_178 (L := L) (xs := xs) K hD hfl hP hS hl hk36 hbb hC2 hUn ⟨by omega, by omega⟩ (fun H locs ls hP hS hl => tail μ3 (Or.inl rfl) H locs ls hP hS hl) (fun H locs ls hP hS hl => tail μ4 (Or.inr rfl) H locs ls hP hS hl)

