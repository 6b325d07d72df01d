/-! what the start knows -/
theorem lt_mem {w : Cond} (i : Nat) (h : lw_tbl[i]? = some w) : w ∈ lw_tbl := List.mem_of_getElem? h
theorem stNo (s : State) : ∀ a : Nat, a < s.heap.size → ¬ AA s.heap.size a := fun a h z => by have h9 : s.heap.size ≤ a := z; omega
set_option maxHeartbeats 4000000 in
set_option maxRecDepth 100000 in
theorem st_ref {s : State} {b : Nat} (hts : ∀ w ∈ lw_tbl, w.before #[Value.ref b] s = true) (hgv : (Jvm.Cond.and given_1 narrow_1).before #[Value.ref b] s = true) : ∃ a1 a2 a3 : Nat, vk_R RX10 246 "there is no such trader or order" a1 s ∧ vk_R RX10 253 "a number is out of its range" a2 s ∧ vk_R RX10 258 "this cannot be done now" a3 s := by
  have hs := flat_of_before _ hgv
  obtain ⟨a1, -, -, -, q1, -⟩ := Cond.exactly_spec (args := #[Value.ref b]) (first := s) (o := none) (s := s) (idx := []) (t := .string "ShadedBooks" 246) (cls := "java/lang/String") (hs _ (by decide +kernel))
  obtain ⟨a2, -, -, -, q2, -⟩ := Cond.exactly_spec (args := #[Value.ref b]) (first := s) (o := none) (s := s) (idx := []) (t := .string "ShadedBooks" 253) (cls := "java/lang/String") (hs _ (by decide +kernel))
  obtain ⟨a3, -, -, -, q3, -⟩ := Cond.exactly_spec (args := #[Value.ref b]) (first := s) (o := none) (s := s) (idx := []) (t := .string "ShadedBooks" 258) (cls := "java/lang/String") (hs _ (by decide +kernel))
  exact ⟨a1, a2, a3, vk_R.of (A := #[Value.ref b]) (hts _ (lt_mem 376 (by decide +kernel))) q1, vk_R.of (A := #[Value.ref b]) (hts _ (lt_mem 412 (by decide +kernel))) q2, vk_R.of (A := #[Value.ref b]) (hts _ (lt_mem 428 (by decide +kernel))) q3⟩
set_option maxHeartbeats 4000000 in
set_option maxRecDepth 100000 in
theorem st_NW {s : State} {b : Nat} (hts : ∀ w ∈ lw_tbl, w.before #[Value.ref b] s = true) (hgv : (Jvm.Cond.and given_1 narrow_1).before #[Value.ref b] s = true) (dg : va_G) (cI cQ : ClassId) : ∃ ad : Nat → Nat, NW (dg, cI, cQ, ad) s.heap.size s s.heap := by
  have hs := flat_of_before _ hgv
  obtain ⟨a1, a2, a3, r1, r2, r3⟩ := st_ref hts hgv
  refine ⟨fun i => if i = 24 then a1 else if i = 25 then a2 else a3, ⟨va_Nw.of rfl (hts _ (lt_mem 645 (by decide +kernel))), ⟨va_Nw.of rfl (hts _ (lt_mem 337 (by decide +kernel))), va_Nw.of rfl (hts _ (lt_mem 405 (by decide +kernel))), va_Nw.of rfl (hts _ (lt_mem 421 (by decide +kernel)))⟩, ⟨va_Nc.of (args := #[Value.ref b]) (hs _ (by decide +kernel)), va_Nc.of (args := #[Value.ref b]) (hs _ (by decide +kernel)), va_Nc.of (args := #[Value.ref b]) (hs _ (by decide +kernel)), va_Nc.of (args := #[Value.ref b]) (hs _ (by decide +kernel)), va_Nc.of (args := #[Value.ref b]) (hs _ (by decide +kernel)), va_Nc.of (args := #[Value.ref b]) (hs _ (by decide +kernel))⟩, r1, r2, r3⟩, ?_, ?_⟩
  · exact vx_Zqof (hts _ (lt_mem 362 (by decide +kernel))) (hts _ (lt_mem 24 (by decide +kernel))) (hs _ (by decide +kernel)) (stNo s)
  · exact vx_Zqof (hts _ (lt_mem 364 (by decide +kernel))) (hts _ (lt_mem 24 (by decide +kernel))) (hs _ (by decide +kernel)) (stNo s)
theorem st_ND {s : State} {args : Array Value} (hts : ∀ w ∈ lw_tbl, w.before args s = true) : ND s := ⟨va_Nw.of rfl (hts _ (lt_mem 339 (by decide +kernel))), va_Nw.of rfl (hts _ (lt_mem 341 (by decide +kernel))), va_Nw.of rfl (hts _ (lt_mem 343 (by decide +kernel)))⟩
theorem st_NZ {s : State} {args : Array Value} (hts : ∀ w ∈ lw_tbl, w.before args s = true) : NZ s := ⟨⟨va_Nw.of rfl (hts _ (lt_mem 41 (by decide +kernel))), va_Nw.of rfl (hts _ (lt_mem 47 (by decide +kernel))), va_Nw.of rfl (hts _ (lt_mem 100 (by decide +kernel))), va_Nw.of rfl (hts _ (lt_mem 141 (by decide +kernel))), va_Nw.of rfl (hts _ (lt_mem 211 (by decide +kernel))), va_Nw.of rfl (hts _ (lt_mem 269 (by decide +kernel))), va_Nw.of rfl (hts _ (lt_mem 283 (by decide +kernel)))⟩, va_AO.of (hts _ (lt_mem 268 (by decide +kernel)))⟩
noncomputable section
/-- the memory that the makers leave -/
def mu0 : Mm := fun k i =>
  if k = 1 ∨ k = 41 ∨ k = 94 ∨ k = 134 ∨ k = 174 ∨ k = 214 then (if i = 3 then 5 else if i = 4 then 3 else if i = 9 then -10000 else 0)
  else if k = 254 then (if i = 1 then -1 else if i = 5 then -1 else 0)
  else 0
def ce1 (G : GG) (B k : Nat) : va_E :=
  if k = 93 then .inl (G.2.2.1, 4, .inr (.inr (.inr (.inr (va_up (va_up (va_up (va_up (fun _ => none) 0 (some (B + 94))) 1 (some (B + 134))) 2 (some (B + 174))) 3 (some (B + 214)))))))
  else ce G B k (mu0 k)
set_option maxHeartbeats 4000000 in
set_option maxRecDepth 100000 in
theorem made_eq (G : GG) (B : Nat) : booksE G B 0 = (List.range 259).map (ce1 G B) := by rfl
theorem arrV_congr {cI : ClassId} {N : Nat} {f g : Nat → Value} (h : ∀ i, i < N → f i = g i) : arrV cI N f = arrV cI N g := by
  have e : (fun j : Fin N => f j.val) = fun j : Fin N => g j.val := funext fun j => h _ j.2
  unfold arrV
  rw [e]
theorem made_MP {G : GG} {B : Nat} {H : Heap} (h : HB G B (booksE G B 0) H) : MP G B mu0 H := by
  intro k q hk
  obtain ⟨hk2, rfl⟩ := mL_of hk
  have hL : (booksE G B 0)[k]? = some (ce1 G B k) := by
    rw [made_eq]
    simp [hk2]
  have h1 := h.1 k (B + k, ce1 G B k) (by rw [pl_get, hL]; rfl)
  by_cases h93 : k = 93
  · subst h93
    show H[B + 93]? = some (vp_cell G.2.2.1 (4, .inr (.inr (.inr (.inr (fun i => some (B + (94 + 40 * i))))))))
    have h1 : H[B + 93]? = some (vp_cell G.2.2.1 (4, .inr (.inr (.inr (.inr (va_up (va_up (va_up (va_up (fun _ => none) 0 (some (B + 94))) 1 (some (B + 134))) 2 (some (B + 174))) 3 (some (B + 214)))))))) := h1
    rw [h1, vp_cell_q, vp_cell_q]
    refine congrArg some (arrV_congr fun i hi => ?_)
    rcases (show i = 0 ∨ i = 1 ∨ i = 2 ∨ i = 3 by omega) with rfl | rfl | rfl | rfl <;> rfl
  · unfold ce1 at h1
    rw [if_neg h93] at h1
    exact h1
set_option maxHeartbeats 4000000 in
set_option maxRecDepth 100000 in
theorem st_K {s : State} {args : Array Value} (hts : ∀ w ∈ lw_tbl, w.before args s = true) : ∃ (dg : va_G) (cI cQ : ClassId), ∀ ad : Nat → Nat, va_K dg vwCl (tyL (dg, cI, cQ, ad)) s := by
  have h0 : ∀ w ∈ TBL, w.before args s = true := fun w h => hts w (List.mem_filter.mp h).1
  obtain ⟨c0, i0, k0⟩ := u_known (C := RX1) (T := TX1) (N := 11) h0 tuX1 (h0 _ q_40)
  obtain ⟨c1, i1, k1⟩ := u_known (C := RX2) (T := TX2) (N := 12) h0 tuX2 (h0 _ q_210)
  obtain ⟨c2, i2, k2⟩ := u_known (C := RX3) (T := TX3) (N := 6) h0 tuX3 (h0 _ q_282)
  obtain ⟨c3, i3, k3⟩ := u_known (C := RX4) (T := TX4) (N := 7) h0 tuX4 (h0 _ q_99)
  obtain ⟨c4, i4, k4⟩ := u_known (C := RX5) (T := TX5) (N := 1) h0 tuX5 (h0 _ q_52)
  obtain ⟨c5, i5, k5⟩ := u_known (C := RX6) (T := TX6) (N := 8) h0 tuX6 (h0 _ q_46)
  obtain ⟨c6, i6, k6⟩ := u_known (C := RX7) (T := TX7) (N := 6) h0 tuX7 (h0 _ q_140)
  obtain ⟨c7, i7, k7⟩ := u_known (C := RX8) (T := TX8) (N := 3) h0 tuX8 (h0 _ q_262)
  obtain ⟨c8, i8, k8⟩ := u_known (C := RX10) (T := TX10) (N := 5) h0 tuX10 (h0 _ q_32)
  obtain ⟨cI, kI, cpI, a1, a2, a3⟩ := Cond.arrayClass_spec (h0 _ q_61)
  obtain ⟨cpQ, cQ, kQ, b1, b2, b3, b4, b5⟩ := Cond.arrayOver_spec (n := "ShadedBooks$Auction") (hts _ (lt_mem 268 (by decide +kernel)))
  refine ⟨(fun c => [c0, c1, c2, c3, c4, c5, c6, c7, c8].getD c c0, fun c => [i0, i1, i2, i3, i4, i5, i6, i7, i8].getD c i0), cI, cQ, fun ad => ⟨fun c q hc => ?_, fun k q hk => ?_⟩⟩
  · have hc2 : c < 9 := (List.getElem?_eq_some_iff.mp hc).1
    rcases (show c = 0 ∨ c = 1 ∨ c = 2 ∨ c = 3 ∨ c = 4 ∨ c = 5 ∨ c = 6 ∨ c = 7 ∨ c = 8 by omega) with rfl | rfl | rfl | rfl | rfl | rfl | rfl | rfl | rfl <;> (cases hc; assumption)
  · have hk2 : k < 2 := (List.getElem?_eq_some_iff.mp hk).1
    rcases (show k = 0 ∨ k = 1 by omega) with rfl | rfl
    · cases hk
      exact ⟨fun n z => ⟨fun k h => (by cases h), kI, a2, cpI, a3⟩, a1⟩
    · cases hk
      exact ⟨fun n z => ⟨fun k h => (by cases h), kQ, b3, cpQ, b4⟩, kQ, cpQ, b3, b4, b1, b5⟩
end
