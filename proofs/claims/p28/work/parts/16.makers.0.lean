noncomputable section
/-! the making: the cells stand one behind another from B on -/
def pl (B : Nat) (L : List va_E) : va_W := L.mapIdx (fun k e => (B + k, e))
theorem pl_get (B : Nat) (L : List va_E) (k : Nat) : (pl B L)[k]? = (L[k]?).map (fun e => (B + k, e)) := by simp [pl]
theorem pl_len (B : Nat) (L : List va_E) : (pl B L).length = L.length := by simp [pl]
theorem pl_at {B : Nat} {L : List va_E} {k : Nat} {q : Nat × va_E} (h : (pl B L)[k]? = some q) : k < L.length ∧ L[k]? = some q.2 ∧ q.1 = B + k := by
  rw [pl_get] at h
  obtain ⟨e, h1, rfl⟩ := Option.map_eq_some_iff.mp h
  exact ⟨(List.getElem?_eq_some_iff.mp h1).1, h1, rfl⟩
theorem pl_set (B : Nat) (L : List va_E) (j : Nat) (e : va_E) : (pl B L).set j (B + j, e) = pl B (L.set j e) := by
  apply List.ext_getElem?
  intro i
  rw [pl_get]
  by_cases hi : i = j
  · subst hi
    by_cases hl : i < L.length
    · rw [List.getElem?_set_self (by rw [pl_len]; exact hl), List.getElem?_set_self hl]; rfl
    · rw [List.getElem?_eq_none (by rw [List.length_set, pl_len]; omega), List.getElem?_eq_none (by rw [List.length_set]; omega)]; rfl
  · rw [List.getElem?_set_ne (Ne.symm hi), List.getElem?_set_ne (Ne.symm hi), pl_get]
def AB (B : Nat) : Nat → Prop := fun q => B ≤ q
theorem plD (B : Nat) (L : List va_E) : va_D (AB B) (pl B L) := by
  refine ⟨fun i j p q hi hj hpq => ?_, fun k q hk => ?_⟩
  · obtain ⟨-, -, h1⟩ := pl_at hi
    obtain ⟨-, -, h2⟩ := pl_at hj
    omega
  · obtain ⟨-, -, h1⟩ := pl_at hk
    show B ≤ q.1
    omega
def HB (G : GG) (B : Nat) (L : List va_E) (H : Heap) : Prop := va_P G.1 vwCl (pl B L) H ∧ H.size = B + L.length
theorem HB.push {G : GG} {B : Nat} {L : List va_E} {H H1 : Heap} {e : va_E} (h : HB G B L H) (z1 : H1.size = B + L.length + 1) (o1 : ∀ q, q < B + L.length → H1[q]? = H[q]?) (he : va_at G.1 vwCl (B + L.length, e) H1) : HB G B (L ++ [e]) H1 := by
  refine ⟨fun k q hk => ?_, by rw [z1, List.length_append]; rfl⟩
  obtain ⟨h1, h2, h3⟩ := pl_at hk
  rw [List.length_append] at h1
  by_cases hl : k < L.length
  · rw [List.getElem?_append_left hl] at h2
    have hq : (pl B L)[k]? = some q := by rw [pl_get, h2]; show some (B + k, q.2) = some q; rw [← h3]
    exact (h.1 k q hq).kept (o1 q.1 (by omega))
  · rw [List.getElem?_append_right (by omega)] at h2
    have hk0 : k = L.length := by have := (List.getElem?_eq_some_iff.mp h2).1; simp at this; omega
    subst hk0
    rw [Nat.sub_self] at h2
    cases h2
    obtain ⟨q1, q2⟩ := q
    subst h3
    exact he
theorem HB.put {G : GG} {B : Nat} {L : List va_E} {H H1 : Heap} {j : Nat} {e0 e : va_E} (h : HB G B L H) (hj : L[j]? = some e0) (z1 : H1.size = H.size) (oq : ∀ q, q ≠ B + j → H1[q]? = H[q]?) (he : va_at G.1 vwCl (B + j, e) H1) : HB G B (L.set j e) H1 := by
  refine ⟨?_, by rw [z1, h.2, List.length_set]⟩
  rw [← pl_set]
  exact h.1.set (plD B L) (by rw [pl_get, hj]; rfl) he oq
/-- what the tables say of the makers that isn't a good word -/
def NZ (U : State) : Prop :=
  (va_Nw (.methodLinkNest RX10 9 yX1_init RX10) U ∧ va_Nw (.methodLinkNest RX1 11 yX6_init RX10) U ∧ va_Nw (.methodLinkNest RX1 20 yX4_init RX10) U ∧ va_Nw (.methodLinkNest RX1 27 yX7_init RX10) U ∧
    va_Nw (.methodLinkNest RX10 21 yX2_init RX10) U ∧ va_Nw (.methodLinkNest RX8 17 yX1_init RX10) U ∧ va_Nw (.methodLinkNest RX10 35 yX3_init RX10) U) ∧ va_AO "ShadedBooks$Auction" U
theorem NZ.warm {s U : State} (hW : s.WarmedH U.vm) (h : NZ s) : NZ U := by
  obtain ⟨⟨a1, a2, a3, a4, a5, a6, a7⟩, b⟩ := h
  exact ⟨⟨va_Nw.warmM hW a1, va_Nw.warmM hW a2, va_Nw.warmM hW a3, va_Nw.warmM hW a4, va_Nw.warmM hW a5, va_Nw.warmM hW a6, va_Nw.warmM hW a7⟩, va_AO.moved hW.alike b⟩
theorem NZ.same {s U : State} (hv : U.vm = s.vm) (h : NZ s) : NZ U := by
  obtain ⟨⟨a1, a2, a3, a4, a5, a6, a7⟩, b⟩ := h
  have hA : s.vm.Alike U.vm := by rw [hv]; exact Vm.Alike.refl s.vm
  exact ⟨⟨va_Nw.same rfl hv.symm a1, va_Nw.same rfl hv.symm a2, va_Nw.same rfl hv.symm a3, va_Nw.same rfl hv.symm a4, va_Nw.same rfl hv.symm a5, va_Nw.same rfl hv.symm a6, va_Nw.same rfl hv.symm a7⟩, va_AO.moved hA b⟩
abbrev KZ (p : Program) (m : MethodId) (c : Code) (cc : ByteArray) (nL : Nat) (s : State) (args : Array Value) (c1 : Cond) (own : String) (G : GG) : Prop := CallFix p m c cc nL s args (c1 :: TBL) own ∧ va_K G.1 vwCl (tyL G) s ∧ NZ s
def QN (G : GG) (B : Nat) (L : List va_E) : Array Value → State → Outcome → State → Prop := fun _ st oc t => oc = .returned none ∧ HB G B L t.heap ∧ va_F (AB B) st t
def PN (G : GG) (B : Nat) (L : List va_E) (U : State) : Prop := HB G B L U.heap ∧ va_K G.1 vwCl (tyL G) U ∧ NZ U
/-- a maker's contract: before it the new object is the last of the cells, behind it stand its own -/
abbrev NC (l : Launch) (y : MethodName) (cw : Cond) (fr lo mc ms : Nat) (G : GG) (B : Nat) (av : List Value) (L L' : List va_E) : Prop :=
  Met l y (cw :: TBL) ({ frames := fr, cells := mc, slots := ms, locals := lo } : Room) (va_Pc av (PN G B L)) (QN G B L') mc ms (AB B)
abbrev NF (below : List Frame) (G : GG) (B : Nat) (L : List va_E) (a : Array Value) (s : State) (mc ms : Nat) : State → Prop := MQ below (QN G B L) a s mc ms (AB B)
theorem NC.of {l : Launch} {G : GG} {B : Nat} {y : MethodName} {bytes : ByteArray} {maxL : Nat} {ret : Option FieldType} {fr lo mc ms : Nat} {av : List Value} {L L' : List va_E} (hy : plainName y.cls = true) (hi : y.name = "<init>") (hlen : (lg_sl av).length ≤ maxL)
    (body : ∀ (p : Program) (e : Env) (s : State) (m : MethodId) (below : List Frame) (meth : Method) (c : Code) (ls : Array Slot), KZ p m c bytes maxL s av.toArray (.code y bytes maxL ret) y.cls G → meth.sig.returnType = ret → meth.locks = false → meth.name = "<init>" → HB G B L s.heap → lv_has ls maxL (lv_args 0 av) →
      W p l e ({ frames := fr, cells := mc, slots := ms, locals := lo } : Room) s m av.toArray below meth c s.heap [] 0 0 (NF below G B L' av.toArray s mc ms) (F0 m 0 ls [])) : NC l y (.code y bytes maxL ret) fr lo mc ms G B av L L' := by
  refine Met.ofW (cc := bytes) (maxL := maxL) (ret := ret) hy rfl ?_
  intro p e s m args below meth c s₁ Bd hml hv
  obtain ⟨rfl, hP, hK, hN⟩ := hv
  have hts := atoms_spec (ws := (.code y bytes maxL ret :: TBL)) Bd.pre
  have hown : s.vm.findClass y.cls = some m.cls := findClass_of_methodNamed Bd.named
  have hin : meth.name = "<init>" := by rw [← hi]; exact (name_of_methodNamed Bd.named Bd.method).1
  have hl := lv_entry av (n := maxL) hlen
  rw [lg_entry_eq]
  generalize (lg_sl av ++ List.replicate (maxL - (lg_sl av).length) Slot.unset).toArray = ls at hl ⊢
  exact body p e s m below meth c ls ⟨⟨Bd.exec, Bd.bytes, hml, hown, hts⟩, hK, hN⟩ Bd.returns Bd.notSynchronized hin hP hl
section KROW
variable {p : Program} {l : Launch} {e : Env} {R : Room} {s : State} {m : MethodId} {args : Array Value} {below : List Frame} {meth : Method} {c : Code} {H : Heap} {locs : List Loc} {cells slots : Nat} {Q : State → Prop}
variable {cc : ByteArray} {pc : Nat} {ls : Array Slot} {rest : List Value} {G : GG} {B nL : Nat} {L : List va_E} {own : String} {c1 : Cond}
theorem KZ.w (K : KZ p m c cc nL s args c1 own G) {w : Cond} (h : w ∈ TBL) : w.before args s = true := K.1.2.2.2.2 w (List.mem_cons_of_mem _ h)
theorem k_ret (K : KZ p m c cc nL s args c1 own G) (hr : meth.sig.returnType = none) (hlocks : meth.locks = false) {L' : List va_E} (hH : HB G B L H) (hS : va_S (AB B) s.heap H locs) (hL : L = L') (hdg : decode cc pc = .ok (.return_, 1)) : W p l e R s m args below meth c H locs cells slots (NF below G B L' args s cells slots) (F0 m pc ls []) := by
  subst hL
  exact W.vret K.1.1 K.1.2.1 hr (fun t ht _ => ⟨rfl, by rw [ht]; exact hH, hS.F ht⟩) hS.2.2 hdg
theorem k_obj (K : KZ p m c cc nL s args c1 own G) {a : Nat} {index : Nat} (q1 : Cond.methodLink own index ⟨"java/lang/Object", "<init>", "()V"⟩ ∈ TBL) (hl : ls.size = nL) (hR : 1 ≤ R.frames ∧ (rest.map fun v => v.category).sum + 12 ≤ R.locals) (hdg : decode cc pc = .ok (.invokespecial index, 3))
    (kk : W p l e R s m args below meth c H locs cells slots Q (F0 m (pc + 3) ls rest)) : W p l e R s m args below meth c H locs cells slots Q (F0 m pc ls (.ref a :: rest)) := by
  refine W.objInit K.1.1 K.1.2.1 K.1.2.2.2.1 (K.w q1) (K.w q_37) (K.w q_38) rfl (hl.trans K.1.2.2.1.symm) rfl hdg hR.1 (by show 2 * 0 + _ + 12 ≤ _; omega) ?_
  exact W.eq (g2 := F0 m (pc + 3) ls rest) rfl kk
theorem k_new (K : KZ p m c cc nL s args c1 own G) (hH : HB G B L H) (hS : va_S (AB B) s.heap H locs) {C : String} {T : u_T} {N ci index n : Nat} (hn : L.length = n) (hin : ∀ w ∈ u_ws C T N, w ∈ TBL) (ty : Nat → FieldType) (hty : ∀ k, k < N → parseFieldDescriptor (T k).2.2.1 = some (ty k))
    (hcl : Cond.classLink own index C ∈ TBL) (hinst : Cond.instantiable C N ∈ TBL) (hini : Cond.initialized C ∈ TBL) (hc : vwCl[ci]? = some (C, T, N)) {fs : List Value} (hfs : ∀ j, j < N → defaultValue (ty j) = vp_V fs j) (hcells : cells + 1 ≤ R.cells) (hslots : slots + N ≤ R.slots) (hdg : decode cc pc = .ok (.new index, 3))
    (kk : ∀ H1 : Heap, HB G B (L ++ [.inr (ci, fs)]) H1 → va_S (AB B) s.heap H1 locs → W p l e R s m args below meth c H1 locs (cells + 1) (slots + N) Q (F0 m (pc + 3) ls (.ref (B + n) :: rest))) : W p l e R s m args below meth c H locs cells slots Q (F0 m pc ls rest) := by
  subst hn
  have hKn := K.2.1.1 ci _ hc
  refine W.newcK K.1.1 K.1.2.1 K.1.2.2.2.1 (K.w hcl) (K.w hinst) (K.w hini) rfl hdg hcells hslots hKn.2.1 hH.2 fun H1 kC hkC e1 z1 o1 => ?_
  exact kk H1 (hH.push z1 o1 ⟨_, hc, (u_born (ws := c1 :: TBL) ty K.1.2.2.2.2 (fun w h => List.mem_cons_of_mem _ (hin w h)) hKn hkC e1 hty).to hfs⟩)
    ⟨Nat.le_trans hS.1 (by have := hH.2; omega), fun x h1 h2 => (o1 x (by have := hH.2; have := hS.1; omega)).trans (hS.2.1 x h1 h2), hS.2.2⟩
theorem k_newa (K : KZ p m c cc nL s args c1 own G) (hH : HB G B L H) (hS : va_S (AB B) s.heap H locs) {n N : Nat} {x : Int32} (hn : L.length = n) (hx : ¬ x < 0) (hN : x.toNatClampNeg = N) (hb : N ≤ 2000) (hcells : cells + 1 ≤ R.cells) (hslots : slots + N ≤ R.slots) (hdg : decode cc pc = .ok (.newarray .int, 2))
    (kk : ∀ H1 : Heap, HB G B (L ++ [.inl (G.2.1, N, .inl (fun _ => 0))]) H1 → va_S (AB B) s.heap H1 locs → W p l e R s m args below meth c H1 locs (cells + 1) (slots + N) Q (F0 m (pc + 2) ls (.ref (B + n) :: rest))) : W p l e R s m args below meth c H locs cells slots Q (F0 m pc ls (.int x :: rest)) := by
  subst hn
  refine va_newaK (atype := .int) K.1.1 K.1.2.1 (K.w q_61) rfl hdg rfl hx hN (by show N * 4 ≤ _; omega) hcells hslots hH.2 fun H1 cA e1 z1 o1 hAr hNm => ?_
  have hcA : cA = G.2.1 := Option.some.inj (hNm.symm.trans (K.2.1.2 0 (G.2.1, .int) rfl).2)
  subst hcA
  refine kk H1 (hH.push z1 o1 ?_) ⟨Nat.le_trans hS.1 (by have := hH.2; omega), fun x h1 h2 => (o1 x (by have := hH.2; have := hS.1; omega)).trans (hS.2.1 x h1 h2), hS.2.2⟩
  show H1[B + L.length]? = some (vp_cell _ _)
  rw [e1]
  rfl
theorem k_newq (K : KZ p m c cc nL s args c1 own G) (hH : HB G B L H) (hS : va_S (AB B) s.heap H locs) {n N index : Nat} {x : Int32} (hn : L.length = n) (hcl : Cond.classLink own index "ShadedBooks$Auction" ∈ TBL) (hx : ¬ x < 0) (hN : x.toNatClampNeg = N) (hb : N ≤ 2000) (hcells : cells + 1 ≤ R.cells) (hslots : slots + N ≤ R.slots) (hdg : decode cc pc = .ok (.anewarray index, 3))
    (kk : ∀ H1 : Heap, HB G B (L ++ [.inl (G.2.2.1, N, .inr (.inr (.inr (.inr (fun _ => none)))))]) H1 → va_S (AB B) s.heap H1 locs → W p l e R s m args below meth c H1 locs (cells + 1) (slots + N) Q (F0 m (pc + 3) ls (.ref (B + n) :: rest))) : W p l e R s m args below meth c H locs cells slots Q (F0 m pc ls (.int x :: rest)) := by
  subst hn
  subst hN
  refine W.anew K.1.1 K.1.2.1 K.1.2.2.2.1 (K.w hcl) (va_AO.use K.2.2.2) rfl hdg rfl hx (by omega) hcells hslots fun cA kA comp f1 f2 f3 f4 => ?_
  have hcA : cA = G.2.2.1 := by
    obtain ⟨k1, c1', g1, g2, g3, g4⟩ := (K.2.1.2 1 (G.2.2.1, .object "ShadedBooks$Auction") rfl).2
    exact Option.some.inj (f1.symm.trans g4)
  subst hcA
  generalize hH1 : H.push ({ cls := G.2.2.1, slots := Array.replicate x.toNatClampNeg .null, vm := .none } : Cell) = H1
  have z1 : H1.size = B + L.length + 1 := by rw [← hH1, Array.size_push, hH.2]
  have e1 : H1[H.size]? = some (arrV G.2.2.1 x.toNatClampNeg (fun _ => .null)) := by rw [← hH1, Array.getElem?_push_size, ← arrV_new]
  have o1 : ∀ q : Nat, q < B + L.length → H1[q]? = H[q]? := fun q hq => by rw [← hH1, Array.getElem?_push, if_neg (by have := hH.2; omega)]
  rw [hH.2] at e1
  have kk' := kk H1 (hH.push z1 o1 (by show H1[B + L.length]? = some (vp_cell _ _); rw [e1]; rfl)) ⟨Nat.le_trans hS.1 (by have := hH.2; omega), fun x h1 h2 => (o1 x (by have := hH.2; have := hS.1; omega)).trans (hS.2.1 x h1 h2), hS.2.2⟩
  rw [← hH.2] at kk'
  exact kk'
/-- a field of the object at the place j -/
theorem k_putF (K : KZ p m c cc nL s args c1 own G) (hi : meth.name = "<init>") (hH : HB G B L H) (hS : va_S (AB B) s.heap H locs) {C : String} {T : u_T} {N ci index j : Nat} {fs : List Value} (hin : ∀ w ∈ u_ws C T N, w ∈ TBL) (ty0 : Nat → FieldType) (hty : ∀ k, k < N → parseFieldDescriptor (T k).2.2.1 = some (ty0 k)) (hnm : ∀ a, a < N → ∀ b, b < N → a ≠ b → (T a).2.1 ≠ (T b).2.1)
    (he : L[j]? = some (.inr (ci, fs))) (hc : vwCl[ci]? = some (C, T, N)) (k : Nat) (hk : k < N) (hlink : Cond.fieldLink own index (T k).1 (T k).2.1 (T k).2.2.1 ∈ TBL) (hfin : (T k).2.2.2 = true) (hdecl : (T k).1 = own) {ty : FieldType} {v : Value} (hd : parseFieldDescriptor (T k).2.2.1 = some ty) (hn : narrow ty v = v) (hfit : fits ty v = true) (hl : k < fs.length) (hdg : decode cc pc = .ok (.putfield index, 3))
    (kk : ∀ (H1 : Heap) (locs1 : List Loc), HB G B (L.set j (.inr (ci, fs.set k v))) H1 → va_S (AB B) s.heap H1 locs1 → W p l e R s m args below meth c H1 locs1 cells slots Q (F0 m (pc + 3) ls rest)) : W p l e R s m args below meth c H locs cells slots Q (F0 m pc ls (v :: .ref (B + j) :: rest)) := by
  have hts := K.1.2.2.2.2
  have hin' : ∀ w ∈ u_ws C T N, w ∈ (c1 :: TBL) := fun w h => List.mem_cons_of_mem _ (hin w h)
  have hown := K.1.2.2.2.1
  have hK := K.2.1
  have hap := va_apart (own := own) hts hin' ty0 hty hnm hK hc
  have heq : (pl B L)[j]? = some (B + j, .inr (ci, fs)) := by rw [pl_get, he]; rfl
  obtain ⟨r, h1, cell, q1, q2, q3, q4⟩ := hH.1 j _ heq
  have hr : r = (C, T, N) := Option.some.inj (h1.symm.trans hc)
  subst hr
  obtain ⟨hSl, hfc, kC, hkC, hkind⟩ := hK.1 ci _ hc
  obtain ⟨cf, kf, fi, f, hi', hsl⟩ := hSl k hk
  have hlay := hts _ (hin' _ (u_in_lay hk))
  unfold u_lay at hlay
  rw [if_pos hfin] at hlay
  have hst := (u_facts hfc hkC (u_lays hts hin' hk) hi').1
  have hcf : m.cls = cf := by
    obtain ⟨_, _, c', _, _, _, -, -, hf', -, -, -, hown2, -⟩ := Cond.laysFinal_spec hlay
    have e1 : c' = cf := by have := hi'.symm.trans hf'; simp at this; exact this.1.symm
    rw [hdecl] at hown2
    rw [← e1]; exact Option.some.inj (hown.symm.trans hown2)
  have h6 := u_fits hfc hkC hkind (Or.inr hlay) hi' hd hn hfit
  refine W.putFinK K.1.1 K.1.2.1 hown (K.w hlink) hi' hst hcf hi (by rw [q2]; exact h6) q1 q3 (by rw [hsl]; exact k2_hasslot (q4 k hk)) rfl rfl hdg fun H' e1 e2 e3 => ?_
  rw [hsl] at e1 ⊢
  exact kk H' _ (hH.put he e2 e3 ⟨_, hc, t_OB.to (V := updV (vp_V fs) k v) ⟨_, e1, q2, q3, t_set q4 hap hk v⟩ (fun j _ => vp_updV_set hl v j)⟩) (hS.put e2 e3 (Nat.le_add_right _ _))
theorem k_put (K : KZ p m c cc nL s args c1 own G) (hH : HB G B L H) (hS : va_S (AB B) s.heap H locs) {C : String} {T : u_T} {N ci index j : Nat} {fs : List Value} (hin : ∀ w ∈ u_ws C T N, w ∈ TBL) (ty0 : Nat → FieldType) (hty : ∀ k, k < N → parseFieldDescriptor (T k).2.2.1 = some (ty0 k)) (hnm : ∀ a, a < N → ∀ b, b < N → a ≠ b → (T a).2.1 ≠ (T b).2.1)
    (he : L[j]? = some (.inr (ci, fs))) (hc : vwCl[ci]? = some (C, T, N)) (k : Nat) (hk : k < N) (hlink : Cond.fieldLink own index (T k).1 (T k).2.1 (T k).2.2.1 ∈ TBL) (hfin : (T k).2.2.2 = false) {ty : FieldType} {v : Value} (hd : parseFieldDescriptor (T k).2.2.1 = some ty) (hn : narrow ty v = v) (hfit : fits ty v = true) (hl : k < fs.length) (hdg : decode cc pc = .ok (.putfield index, 3))
    (kk : ∀ (H1 : Heap) (locs1 : List Loc), HB G B (L.set j (.inr (ci, fs.set k v))) H1 → va_S (AB B) s.heap H1 locs1 → W p l e R s m args below meth c H1 locs1 cells slots Q (F0 m (pc + 3) ls rest)) : W p l e R s m args below meth c H locs cells slots Q (F0 m pc ls (v :: .ref (B + j) :: rest)) := by
  have hts := K.1.2.2.2.2
  have hin' : ∀ w ∈ u_ws C T N, w ∈ (c1 :: TBL) := fun w h => List.mem_cons_of_mem _ (hin w h)
  have hown := K.1.2.2.2.1
  have hK := K.2.1
  have hap := va_apart (own := own) hts hin' ty0 hty hnm hK hc
  have heq : (pl B L)[j]? = some (B + j, .inr (ci, fs)) := by rw [pl_get, he]; rfl
  obtain ⟨r, h1, cell, q1, q2, q3, q4⟩ := hH.1 j _ heq
  have hr : r = (C, T, N) := Option.some.inj (h1.symm.trans hc)
  subst hr
  obtain ⟨hSl, hfc, kC, hkC, hkind⟩ := hK.1 ci _ hc
  obtain ⟨cf, kf, fi, f, hi', hsl⟩ := hSl k hk
  have hlay := hts _ (hin' _ (u_in_lay hk))
  unfold u_lay at hlay
  rw [if_neg (by rw [hfin]; decide)] at hlay
  have hst := (u_facts hfc hkC (u_lays hts hin' hk) hi').1
  have h6 := u_store hfc hkC hkind hlay hi' hd hn hfit
  refine W.putK K.1.1 K.1.2.1 (f := f) ⟨hown, K.w hlink, ⟨_, _, _, hi'⟩, hst⟩ (by rw [q2]; exact h6) q1 q3 (by rw [hsl]; exact k2_hasslot (q4 k hk)) rfl rfl hdg fun H' e1 e2 e3 => ?_
  rw [hsl] at e1 ⊢
  exact kk H' _ (hH.put he e2 e3 ⟨_, hc, t_OB.to (V := updV (vp_V fs) k v) ⟨_, e1, q2, q3, t_set q4 hap hk v⟩ (fun j _ => vp_updV_set hl v j)⟩) (hS.put e2 e3 (Nat.le_add_right _ _))
theorem k_get (K : KZ p m c cc nL s args c1 own G) (hH : HB G B L H) {C : String} {T : u_T} {N ci index j : Nat} {fs : List Value} {v : Value} (hin : ∀ w ∈ u_ws C T N, w ∈ TBL) (he : L[j]? = some (.inr (ci, fs))) (hc : vwCl[ci]? = some (C, T, N)) (k : Nat) (hk : k < N) (hlink : Cond.fieldLink own index (T k).1 (T k).2.1 (T k).2.2.1 ∈ TBL) (hv : fs[k]? = some v) (hdg : decode cc pc = .ok (.getfield index, 3))
    (kk : W p l e R s m args below meth c H locs cells slots Q (F0 m (pc + 3) ls (v :: rest))) : W p l e R s m args below meth c H locs cells slots Q (F0 m pc ls (.ref (B + j) :: rest)) :=
  va_get K.1.1 K.1.2.1 (own := own) (ref := (T k).1) (Ts := c1 :: TBL) K.1.2.2.2.2 (fun w h => List.mem_cons_of_mem _ (hin w h)) K.1.2.2.2.1 K.2.1 hH.1 j (by rw [pl_get, he]; rfl) hc k hk (K.w hlink) (fun _ h => h) hv hdg kk
theorem k_iast (K : KZ p m c cc nL s args c1 own G) (hH : HB G B L H) (hS : va_S (AB B) s.heap H locs) {j n : Nat} {f : Nat → Int32} (he : L[j]? = some (.inl (G.2.1, n, .inl f))) {i x : Int32} (hin : vp_in i n) (hdg : decode cc pc = .ok (.iastore, 1))
    (kk : ∀ (H1 : Heap) (locs1 : List Loc), HB G B (L.set j (.inl (G.2.1, n, .inl (upd f i.toNatClampNeg x)))) H1 → va_S (AB B) s.heap H1 locs1 → W p l e R s m args below meth c H1 locs1 cells slots Q (F0 m (pc + 1) ls rest)) : W p l e R s m args below meth c H locs cells slots Q (F0 m pc ls (.int x :: .int i :: .ref (B + j) :: rest)) := by
  have heq : (pl B L)[j]? = some (B + j, .inl (G.2.1, n, .inl f)) := by rw [pl_get, he]; rfl
  refine W.iast K.1.1 K.1.2.1 (hH.1 j _ heq) ((K.2.1.2 0 _ rfl).1 n (fun j => .int (f j))) (fun q => by cases q) (by show ¬ (i < 0 ∨ (arrV _ _ _).slots.size ≤ _); rw [arrV_size]; exact hin) rfl rfl hdg fun H1 e z oq => ?_
  refine kk H1 _ (hH.put he z oq ?_) (hS.put z oq (Nat.le_add_right _ _))
  show H1[B + j]? = some (vp_cell _ _)
  rw [e]
  rw [vp_cell_i, vp_cell_i, arrV_store]
  congr 2
  funext q
  by_cases hq : q = i.toNatClampNeg
  · subst hq
    simp [updV, upd]
  · simp [updV, upd, hq]
theorem k_astq (K : KZ p m c cc nL s args c1 own G) (hH : HB G B L H) (hS : va_S (AB B) s.heap H locs) {j jv n : Nat} {vs : List Value} {f : Nat → Option Nat} (he : L[j]? = some (.inl (G.2.2.1, n, .inr (.inr (.inr (.inr f)))))) (hv : L[jv]? = some (.inr (0, vs))) {i : Int32} (hin : vp_in i n) (hdg : decode cc pc = .ok (.aastore, 1))
    (kk : ∀ (H1 : Heap) (locs1 : List Loc), HB G B (L.set j (.inl (G.2.2.1, n, .inr (.inr (.inr (.inr (va_up f i.toNatClampNeg (some (B + jv)))))))))  H1 → va_S (AB B) s.heap H1 locs1 → W p l e R s m args below meth c H1 locs1 cells slots Q (F0 m (pc + 1) ls rest)) : W p l e R s m args below meth c H locs cells slots Q (F0 m pc ls (.ref (B + jv) :: .int i :: .ref (B + j) :: rest)) := by
  have heq : (pl B L)[j]? = some (B + j, .inl (G.2.2.1, n, .inr (.inr (.inr (.inr f))))) := by rw [pl_get, he]; rfl
  have heV : (pl B L)[jv]? = some (B + jv, .inr (0, vs)) := by rw [pl_get, hv]; rfl
  have hlt : i.toNatClampNeg < n := Nat.not_le.mp fun q => hin (Or.inr q)
  have h0 : ¬ i < 0 := fun q => hin (Or.inl q)
  have hc : vwCl[0]? = some (RX1, TX1, 11) := rfl
  obtain ⟨r', hr', cellV, g1, g2, g3, -⟩ := hH.1 jv _ heV
  have hcls := (K.2.1.1 0 _ hc).2
  obtain ⟨kA, comp, k1, k2, k3, -⟩ := (K.2.1.2 1 (G.2.2.1, .object "ShadedBooks$Auction") rfl).2
  have hcomp : comp = G.1.1 0 := Option.some.inj (k3.symm.trans hcls.1)
  subst hcomp
  obtain ⟨kC, hkC, -⟩ := hcls.2
  refine W.aast K.1.1 K.1.2.1 (hH.1 j _ heq) (fun q h => by cases h) (fun h => by cases h) k1 k2 rfl hkC ⟨h0, by show _ < (arrV _ _ _).slots.size; rw [arrV_size]; exact hlt⟩ g1 (fun q h => by rw [g3] at h; cases h) (by rw [g2]; exact hkC) (by rw [g2]; exact va_assign hcls) rfl rfl hdg fun H1 e z oq => ?_
  refine kk H1 _ (hH.put he z oq ?_) (hS.put z oq (Nat.le_add_right _ _))
  show H1[B + j]? = some (vp_cell _ _)
  rw [e]
  rw [vp_cell_q, vp_cell_q, arrV_store]
  congr 2
  funext q
  by_cases hq : q = i.toNatClampNeg
  · subst hq
    simp [updV, va_up, va_rf]
  · simp [updV, va_up, hq]
theorem k_alen (K : KZ p m c cc nL s args c1 own G) (hH : HB G B L H) {j n : Nat} {f : Nat → Option Nat} (he : L[j]? = some (.inl (G.2.2.1, n, .inr (.inr (.inr (.inr f)))))) (hdg : decode cc pc = .ok (.arraylength, 1))
    (kk : W p l e R s m args below meth c H locs cells slots Q (F0 m (pc + 1) ls (.int (nI n) :: rest))) : W p l e R s m args below meth c H locs cells slots Q (F0 m pc ls (.ref (B + j) :: rest)) := by
  have heq : (pl B L)[j]? = some (B + j, .inl (G.2.2.1, n, .inr (.inr (.inr (.inr f))))) := by rw [pl_get, he]; rfl
  exact va_alen K.1.1 K.1.2.1 K.2.1 hH.1 j 1 heq (ty := .object "ShadedBooks$Auction") rfl (v := nI n) rfl hdg kk
theorem k_pre {L0 : List va_E} (hH : HB G B L0 H) (hK : va_K G.1 vwCl (tyL G) s ∧ NZ s) (av : List Value) : PreS s H (va_Pc av (PN G B L0)) av :=
  ⟨fun a U g mk q => ⟨q.1, q.2.1, va_K.moved (u := U) (U := U.calling g mk a) (Vm.Alike.refl U.vm) q.2.2.1, q.2.2.2.same rfl⟩, fun U hU hW => ⟨rfl, by rw [hU]; exact hH, va_K.moved hW.alike hK.1, hK.2.warm hW⟩⟩
theorem k_back {L' : List va_E} {mc ms : Nat} {st0 : List Value} {a : Array Value} (hr : va_Run p l e R s m args below meth c H locs cells slots mc ms (F0 m pc ls st0) rest (QN G B L' a) (AB B)) (hS : va_S (AB B) s.heap H locs)
    (kk : ∀ (H1 : Heap) (locs1 : List Loc), HB G B L' H1 → va_S (AB B) s.heap H1 locs1 → W p l e R s m args below meth c H1 locs1 (cells + mc) (slots + ms) Q (F0 m (pc + 3) ls rest)) : W p l e R s m args below meth c H locs cells slots Q (F0 m pc ls st0) := by
  intro T hT X
  obtain ⟨v', st₀, t, T', Lc, h0, X', hL, e1, e2, ⟨hv, hb, hz, hk⟩, st⟩ := hr T hT X
  cases hv
  rw [h0] at hz hk
  obtain ⟨t2, a1, b1⟩ := kk T'.heap (locs ++ Lc) (by rw [e1]; exact hb)
    ⟨Nat.le_trans hS.1 (by rw [e1]; exact hz), fun q h1 h2 => by rw [e1, hk q (Nat.lt_of_lt_of_le h1 hS.1) h2]; exact hS.2.1 q h1 h2, fun q hq => by
      rcases List.mem_append.mp hq with h | h
      · exact hS.2.2 q h
      · exact hL q h⟩ T' rfl X'
  exact ⟨t2, st t2 a1, b1⟩
theorem k_cI {y : MethodName} {bytes : ByteArray} {maxL n index fr lo mc ms b : Nat} {L' : List va_E} {As st0 : List Value} (K : KZ p m c cc nL s args c1 own G) (hH : HB G B L H) (hS : va_S (AB B) s.heap H locs)
    (hM : NC l y (.code y bytes maxL none) fr lo mc ms G B (.ref b :: As) L L')
    (q1 : Cond.methodLink own index y ∈ TBL) (q2 : Cond.instanceMethod y ∈ TBL) (q4 : Cond.initialized y.cls ∈ TBL) (q5 : Cond.code y bytes maxL none ∈ TBL) (hi : y.name = "<init>")
    (hd : y.cls ≠ "java/lang/invoke/MethodHandle" ∧ y.cls ≠ "java/lang/invoke/VarHandle" ∧ (parseMethodDescriptor y.desc).map (fun d => d.parameters.length) = some n) (hR : fr + 1 ≤ R.frames ∧ 8 + (maxL + 11) + lo ≤ R.locals)
    (hn : As.length = n) (hsize : ls.size = nL) (hst : st0 = As.reverse ++ .ref b :: rest) (hW : (rest.map fun v => v.category).sum ≤ 8) (hdg : decode cc pc = .ok (.invokespecial index, 3)) (hf : cells + mc ≤ R.cells ∧ slots + ms ≤ R.slots)
    (kk : ∀ (H1 : Heap) (locs1 : List Loc), HB G B L' H1 → va_S (AB B) s.heap H1 locs1 → W p l e R s m args below meth c H1 locs1 (cells + mc) (slots + ms) Q (F0 m (pc + 3) ls rest)) : W p l e R s m args below meth c H locs cells slots Q (F0 m pc ls st0) :=
  k_back (va_runI (As := As) (rest := rest) K.1 hM (cwI n K.1.2.2.2.2 (m_goodT q5) rfl rfl rfl (K.w q4) (K.w q1) (K.w q2) hi hd hR) (k_pre hH K.2 (.ref b :: As)) rfl hn hsize hst (lv_room hW) hdg hf) hS kk
theorem k_cIN {y : MethodName} {host : String} {bytes : ByteArray} {maxL n index fr lo mc ms b : Nat} {L' : List va_E} {As st0 : List Value} (K : KZ p m c cc nL s args c1 own G) (hH : HB G B L H) (hS : va_S (AB B) s.heap H locs)
    (hM : NC l y (.code y bytes maxL none) fr lo mc ms G B (.ref b :: As) L L')
    (q1 : va_Nw (.methodLinkNest own index y host) s) (q2 : Cond.instanceMethod y ∈ TBL) (q4 : Cond.initialized y.cls ∈ TBL) (q5 : Cond.code y bytes maxL none ∈ TBL) (hi : y.name = "<init>")
    (hd : y.cls ≠ "java/lang/invoke/MethodHandle" ∧ y.cls ≠ "java/lang/invoke/VarHandle" ∧ (parseMethodDescriptor y.desc).map (fun d => d.parameters.length) = some n) (hR : fr + 1 ≤ R.frames ∧ 8 + (maxL + 11) + lo ≤ R.locals)
    (hn : As.length = n) (hsize : ls.size = nL) (hst : st0 = As.reverse ++ .ref b :: rest) (hW : (rest.map fun v => v.category).sum ≤ 8) (hdg : decode cc pc = .ok (.invokespecial index, 3)) (hf : cells + mc ≤ R.cells ∧ slots + ms ≤ R.slots)
    (kk : ∀ (H1 : Heap) (locs1 : List Loc), HB G B L' H1 → va_S (AB B) s.heap H1 locs1 → W p l e R s m args below meth c H1 locs1 (cells + mc) (slots + ms) Q (F0 m (pc + 3) ls rest)) : W p l e R s m args below meth c H locs cells slots Q (F0 m pc ls st0) :=
  k_back (va_runIN (As := As) (rest := rest) K.1 hM ⟨va_cnB n K.1.2.2.2.2 (m_goodT q5) rfl rfl rfl q1 (K.w q4) hd hR, hi, K.w q2⟩ (k_pre hH K.2 (.ref b :: As)) rfl hn hsize hst (lv_room hW) hdg hf) hS kk
end KROW
theorem setE (L R : List va_E) (e e' : va_E) (n : Nat) (h : L.length = n) : (L ++ e :: R).set n e' = L ++ e' :: R := by
  subst h
  rw [List.set_append_right _ _ (Nat.le_refl _), Nat.sub_self]
  rfl
theorem getE (L R : List va_E) (e : va_E) (n : Nat) (h : L.length = n) : (L ++ e :: R)[n]? = some e := by
  subst h
  rw [List.getElem?_append_right (Nat.le_refl _), Nat.sub_self]
  rfl
theorem appE (L R E : List va_E) (e : va_E) : (L ++ e :: R) ++ E = L ++ e :: (R ++ E) := by rw [List.append_assoc]; rfl
theorem lenE (L R : List va_E) (e : va_E) {n k : Nat} (h : L.length = n) (hk : R.length + 1 = k) : (L ++ e :: R).length = n + k := by rw [List.length_append, h, ← hk]; rfl
theorem getX (L X : List va_E) (t i : Nat) {e : va_E} (h : L.length = t) (hx : X[i]? = some e) : (L ++ X)[t + i]? = some e := by
  subst h
  rw [List.getElem?_append_right (Nat.le_add_right _ _), Nat.add_sub_cancel_left]
  exact hx
theorem setX (L X : List va_E) (t i : Nat) (e : va_E) (h : L.length = t) : (L ++ X).set (t + i) e = L ++ X.set i e := by
  subst h
  rw [List.set_append_right _ _ (Nat.le_add_right _ _), Nat.add_sub_cancel_left]
end
