noncomputable section
/-! what the start knows -/
def wNm : List String := ["BUYER", "SELLER", "SHADE", "BID", "ORDER", "CANCEL", "SET", "CLEAR"]
def wFl : List (String × String × String × List Int32) := [("java/lang/Enum", "ordinal", "I", [0, 1, 2, 3, 4, 5, 6, 7]), ("ShadedBooks$Word", "numbers", "I", [1, 1, 3, 2, 3, 1, 2, 0])]
def wKx : List Nat := [79, 85, 88, 91, 94, 97, 100, 103]
theorem lt_mem {w : Cond} (i : Nat) (h : lw_tbl[i]? = some w) : w ∈ lw_tbl := List.mem_of_getElem? h
theorem stNo (s : State) : ∀ a : Nat, a < s.heap.size → ¬ AA s.heap.size a := fun a h z => by have h9 : s.heap.size ≤ a := z.1; omega
end
set_option maxHeartbeats 4000000 in
set_option maxRecDepth 100000 in
theorem st_enum {s : State} {b : Nat} (hts : ∀ w ∈ lw_tbl, w.before #[Value.ref b] s = true) (hgv : (Jvm.Cond.and given_1 narrow_1).before #[Value.ref b] s = true) : ∃ ad : Nat → Nat, va_En "ShadedBooks$Word" "LShadedBooks$Word;" wNm wFl ad (AA s.heap.size) s s.heap ∧ ∀ i, i < wNm.length → (Term.static "ShadedBooks$Word" (wNm.getD i "") "LShadedBooks$Word;").eval #[Value.ref b] s none [] s = some (.ref (ad i)) := by
  have hs := flat_of_before _ hgv
  refine va_Enof2 (fun i hi => ?_) (hts _ (lt_mem 100 (by decide +kernel))) (fun i hi => ?_) (fun q hq i hi => ?_) (fun i j hi hj hij => ?_) (stNo s)
  · have hi : i < 8 := hi
    rcases (show i = 0 ∨ i = 1 ∨ i = 2 ∨ i = 3 ∨ i = 4 ∨ i = 5 ∨ i = 6 ∨ i = 7 by omega) with rfl | rfl | rfl | rfl | rfl | rfl | rfl | rfl
    · exact hts _ (lt_mem 1556 (by decide +kernel))
    · exact hts _ (lt_mem 1557 (by decide +kernel))
    · exact hts _ (lt_mem 1558 (by decide +kernel))
    · exact hts _ (lt_mem 1559 (by decide +kernel))
    · exact hts _ (lt_mem 1560 (by decide +kernel))
    · exact hts _ (lt_mem 1561 (by decide +kernel))
    · exact hts _ (lt_mem 1562 (by decide +kernel))
    · exact hts _ (lt_mem 1563 (by decide +kernel))
  · have hi : i < 8 := hi
    rcases (show i = 0 ∨ i = 1 ∨ i = 2 ∨ i = 3 ∨ i = 4 ∨ i = 5 ∨ i = 6 ∨ i = 7 by omega) with rfl | rfl | rfl | rfl | rfl | rfl | rfl | rfl <;> exact hs _ (by decide +kernel)
  · have hi : i < 8 := hi
    simp only [wFl, List.mem_cons, List.not_mem_nil, or_false] at hq
    rcases hq with rfl | rfl <;> rcases (show i = 0 ∨ i = 1 ∨ i = 2 ∨ i = 3 ∨ i = 4 ∨ i = 5 ∨ i = 6 ∨ i = 7 by omega) with rfl | rfl | rfl | rfl | rfl | rfl | rfl | rfl <;> exact hs _ (by decide +kernel)
  · have hi : i < 8 := hi
    have hj : j < 8 := hj
    rcases Nat.lt_or_gt_of_ne hij with h | h
    · left
      rcases (show i = 0 ∨ i = 1 ∨ i = 2 ∨ i = 3 ∨ i = 4 ∨ i = 5 ∨ i = 6 ∨ i = 7 by omega) with rfl | rfl | rfl | rfl | rfl | rfl | rfl | rfl <;> rcases (show j = 0 ∨ j = 1 ∨ j = 2 ∨ j = 3 ∨ j = 4 ∨ j = 5 ∨ j = 6 ∨ j = 7 by omega) with rfl | rfl | rfl | rfl | rfl | rfl | rfl | rfl <;> first | (exfalso; omega) | exact hs _ (by decide +kernel)
    · right
      rcases (show i = 0 ∨ i = 1 ∨ i = 2 ∨ i = 3 ∨ i = 4 ∨ i = 5 ∨ i = 6 ∨ i = 7 by omega) with rfl | rfl | rfl | rfl | rfl | rfl | rfl | rfl <;> rcases (show j = 0 ∨ j = 1 ∨ j = 2 ∨ j = 3 ∨ j = 4 ∨ j = 5 ∨ j = 6 ∨ j = 7 by omega) with rfl | rfl | rfl | rfl | rfl | rfl | rfl | rfl <;> first | (exfalso; omega) | exact hs _ (by decide +kernel)
set_option maxHeartbeats 4000000 in
set_option maxRecDepth 100000 in
theorem st_text {s : State} {b : Nat} (hts : ∀ w ∈ lw_tbl, w.before #[Value.ref b] s = true) (hgv : (Jvm.Cond.and given_1 narrow_1).before #[Value.ref b] s = true) : ∃ adK adV : Nat → Nat, vk_S 8 wdL wdB adK adV (AA s.heap.size) s s.heap ∧ ∀ i : Nat, i < 8 → (Term.string "ShadedBooks$Word" (wKx.getD i 0)).eval #[Value.ref b] s none [] s = some (.ref (adK i)) := by
  have hs := flat_of_before _ hgv
  refine vk_Sof (tm := fun i => Term.string "ShadedBooks$Word" (wKx.getD i 0)) (fun i hi => ?_) (fun i hi => ?_) (fun i hi => ?_) (fun i hi => ?_) (fun i hi => ?_) (fun i hi j hj => ?_) (fun i j hi hj hij => ?_) (stNo s)
  · rcases (show i = 0 ∨ i = 1 ∨ i = 2 ∨ i = 3 ∨ i = 4 ∨ i = 5 ∨ i = 6 ∨ i = 7 by omega) with rfl | rfl | rfl | rfl | rfl | rfl | rfl | rfl <;> decide
  · rcases (show i = 0 ∨ i = 1 ∨ i = 2 ∨ i = 3 ∨ i = 4 ∨ i = 5 ∨ i = 6 ∨ i = 7 by omega) with rfl | rfl | rfl | rfl | rfl | rfl | rfl | rfl <;> exact hs _ (by decide +kernel)
  · rcases (show i = 0 ∨ i = 1 ∨ i = 2 ∨ i = 3 ∨ i = 4 ∨ i = 5 ∨ i = 6 ∨ i = 7 by omega) with rfl | rfl | rfl | rfl | rfl | rfl | rfl | rfl <;> exact hs _ (by decide +kernel)
  · rcases (show i = 0 ∨ i = 1 ∨ i = 2 ∨ i = 3 ∨ i = 4 ∨ i = 5 ∨ i = 6 ∨ i = 7 by omega) with rfl | rfl | rfl | rfl | rfl | rfl | rfl | rfl <;> exact hs _ (by decide +kernel)
  · rcases (show i = 0 ∨ i = 1 ∨ i = 2 ∨ i = 3 ∨ i = 4 ∨ i = 5 ∨ i = 6 ∨ i = 7 by omega) with rfl | rfl | rfl | rfl | rfl | rfl | rfl | rfl <;> exact hs _ (by decide +kernel)
  · rcases (show i = 0 ∨ i = 1 ∨ i = 2 ∨ i = 3 ∨ i = 4 ∨ i = 5 ∨ i = 6 ∨ i = 7 by omega) with rfl | rfl | rfl | rfl | rfl | rfl | rfl | rfl
    · have hj : j < 5 := hj
      rcases (show j = 0 ∨ j = 1 ∨ j = 2 ∨ j = 3 ∨ j = 4 by omega) with rfl | rfl | rfl | rfl | rfl <;> exact hs _ (by decide +kernel)
    · have hj : j < 6 := hj
      rcases (show j = 0 ∨ j = 1 ∨ j = 2 ∨ j = 3 ∨ j = 4 ∨ j = 5 by omega) with rfl | rfl | rfl | rfl | rfl | rfl <;> exact hs _ (by decide +kernel)
    · have hj : j < 5 := hj
      rcases (show j = 0 ∨ j = 1 ∨ j = 2 ∨ j = 3 ∨ j = 4 by omega) with rfl | rfl | rfl | rfl | rfl <;> exact hs _ (by decide +kernel)
    · have hj : j < 3 := hj
      rcases (show j = 0 ∨ j = 1 ∨ j = 2 by omega) with rfl | rfl | rfl <;> exact hs _ (by decide +kernel)
    · have hj : j < 5 := hj
      rcases (show j = 0 ∨ j = 1 ∨ j = 2 ∨ j = 3 ∨ j = 4 by omega) with rfl | rfl | rfl | rfl | rfl <;> exact hs _ (by decide +kernel)
    · have hj : j < 6 := hj
      rcases (show j = 0 ∨ j = 1 ∨ j = 2 ∨ j = 3 ∨ j = 4 ∨ j = 5 by omega) with rfl | rfl | rfl | rfl | rfl | rfl <;> exact hs _ (by decide +kernel)
    · have hj : j < 3 := hj
      rcases (show j = 0 ∨ j = 1 ∨ j = 2 by omega) with rfl | rfl | rfl <;> exact hs _ (by decide +kernel)
    · have hj : j < 5 := hj
      rcases (show j = 0 ∨ j = 1 ∨ j = 2 ∨ j = 3 ∨ j = 4 by omega) with rfl | rfl | rfl | rfl | rfl <;> exact hs _ (by decide +kernel)
  · rcases Nat.lt_or_gt_of_ne hij with h | h
    · left
      rcases (show i = 0 ∨ i = 1 ∨ i = 2 ∨ i = 3 ∨ i = 4 ∨ i = 5 ∨ i = 6 ∨ i = 7 by omega) with rfl | rfl | rfl | rfl | rfl | rfl | rfl | rfl <;> rcases (show j = 0 ∨ j = 1 ∨ j = 2 ∨ j = 3 ∨ j = 4 ∨ j = 5 ∨ j = 6 ∨ j = 7 by omega) with rfl | rfl | rfl | rfl | rfl | rfl | rfl | rfl <;> first | (exfalso; omega) | exact hs _ (by decide +kernel)
    · right
      rcases (show i = 0 ∨ i = 1 ∨ i = 2 ∨ i = 3 ∨ i = 4 ∨ i = 5 ∨ i = 6 ∨ i = 7 by omega) with rfl | rfl | rfl | rfl | rfl | rfl | rfl | rfl <;> rcases (show j = 0 ∨ j = 1 ∨ j = 2 ∨ j = 3 ∨ j = 4 ∨ j = 5 ∨ j = 6 ∨ j = 7 by omega) with rfl | rfl | rfl | rfl | rfl | rfl | rfl | rfl <;> first | (exfalso; omega) | exact hs _ (by decide +kernel)
set_option maxHeartbeats 4000000 in
set_option maxRecDepth 100000 in
theorem st_all {s : State} {b : Nat} (hts : ∀ w ∈ lw_tbl, w.before #[Value.ref b] s = true) (hgv : (Jvm.Cond.and given_1 narrow_1).before #[Value.ref b] s = true) {ad : Nat → Nat} (hev : ∀ i, i < wNm.length → (Term.static "ShadedBooks$Word" (wNm.getD i "") "LShadedBooks$Word;").eval #[Value.ref b] s none [] s = some (.ref (ad i))) :
    ∃ t0 : Nat, va_Z RX9 "ALL" "[LShadedBooks$Word;" (.ref t0) (AA s.heap.size) s s.heap ∧ va_T (.object RX9) t0 8 (fun j => .ref (ad j)) (AA s.heap.size) s s.heap := by
  have hs := flat_of_before _ hgv
  have hel : ∀ j : Nat, j < 8 → (Term.elem (.static "ShadedBooks$Word" "ALL" "[LShadedBooks$Word;") (.int (Int32.ofNat j))).eval #[Value.ref b] s none [] s = some (.ref (ad j)) := by
    intro j hj
    rcases (show j = 0 ∨ j = 1 ∨ j = 2 ∨ j = 3 ∨ j = 4 ∨ j = 5 ∨ j = 6 ∨ j = 7 by omega) with rfl | rfl | rfl | rfl | rfl | rfl | rfl | rfl
    · exact va_eqv (u := .static "ShadedBooks$Word" "BUYER" "LShadedBooks$Word;") (hs _ (by decide +kernel)) (hev 0 (by decide))
    · exact va_eqv (u := .static "ShadedBooks$Word" "SELLER" "LShadedBooks$Word;") (hs _ (by decide +kernel)) (hev 1 (by decide))
    · exact va_eqv (u := .static "ShadedBooks$Word" "SHADE" "LShadedBooks$Word;") (hs _ (by decide +kernel)) (hev 2 (by decide))
    · exact va_eqv (u := .static "ShadedBooks$Word" "BID" "LShadedBooks$Word;") (hs _ (by decide +kernel)) (hev 3 (by decide))
    · exact va_eqv (u := .static "ShadedBooks$Word" "ORDER" "LShadedBooks$Word;") (hs _ (by decide +kernel)) (hev 4 (by decide))
    · exact va_eqv (u := .static "ShadedBooks$Word" "CANCEL" "LShadedBooks$Word;") (hs _ (by decide +kernel)) (hev 5 (by decide))
    · exact va_eqv (u := .static "ShadedBooks$Word" "SET" "LShadedBooks$Word;") (hs _ (by decide +kernel)) (hev 6 (by decide))
    · exact va_eqv (u := .static "ShadedBooks$Word" "CLEAR" "LShadedBooks$Word;") (hs _ (by decide +kernel)) (hev 7 (by decide))
  obtain ⟨t, ht, hT⟩ := va_Tof (args := #[Value.ref b]) (s := s) (tm := .static "ShadedBooks$Word" "ALL" "[LShadedBooks$Word;") (ty := .object RX9) (N := 8) (f := fun j => .ref (ad j)) (A := AA s.heap.size) (by decide) (hs _ (by decide +kernel)) (va_eqt (hs _ (by decide +kernel))) hel (stNo s)
  exact ⟨t, va_Zref (hts _ (lt_mem 450 (by decide +kernel))) (hts _ (lt_mem 100 (by decide +kernel))) ht (stNo s), hT⟩
set_option maxHeartbeats 4000000 in
set_option maxRecDepth 100000 in
theorem st_sw {s : State} {b : Nat} (hts : ∀ w ∈ lw_tbl, w.before #[Value.ref b] s = true) (hgv : (Jvm.Cond.and given_1 narrow_1).before #[Value.ref b] s = true) :
    ∃ t1 : Nat, va_Z RX0 "$SwitchMap$ShadedBooks$Word" "[I" (.ref t1) (AA s.heap.size) s s.heap ∧ va_T .int t1 8 (fun j => .int (smN.getD j 0)) (AA s.heap.size) s s.heap := by
  have hs := flat_of_before _ hgv
  have hel : ∀ j : Nat, j < 8 → (Term.elem (.static "ShadedBooks$1" "$SwitchMap$ShadedBooks$Word" "[I") (.int (Int32.ofNat j))).eval #[Value.ref b] s none [] s = some (.int (smN.getD j 0)) := by
    intro j hj
    rcases (show j = 0 ∨ j = 1 ∨ j = 2 ∨ j = 3 ∨ j = 4 ∨ j = 5 ∨ j = 6 ∨ j = 7 by omega) with rfl | rfl | rfl | rfl | rfl | rfl | rfl | rfl <;> exact va_eqt (hs _ (by decide +kernel))
  obtain ⟨t, ht, hT⟩ := va_Tof (args := #[Value.ref b]) (s := s) (tm := .static "ShadedBooks$1" "$SwitchMap$ShadedBooks$Word" "[I") (ty := .int) (N := 8) (f := fun j => .int (smN.getD j 0)) (A := AA s.heap.size) (by decide) (hs _ (by decide +kernel)) (va_eqt (hs _ (by decide +kernel))) hel (stNo s)
  exact ⟨t, va_Zref (hts _ (lt_mem 559 (by decide +kernel))) (hts _ (lt_mem 105 (by decide +kernel))) ht (stNo s), hT⟩
set_option maxHeartbeats 4000000 in
set_option maxRecDepth 100000 in
theorem st_letters {s : State} {b : Nat} (hts : ∀ w ∈ lw_tbl, w.before #[Value.ref b] s = true) (hgv : (Jvm.Cond.and given_1 narrow_1).before #[Value.ref b] s = true) {ad adK : Nat → Nat} (hev : ∀ i, i < wNm.length → (Term.static "ShadedBooks$Word" (wNm.getD i "") "LShadedBooks$Word;").eval #[Value.ref b] s none [] s = some (.ref (ad i)))
    (hek : ∀ i : Nat, i < 8 → (Term.string "ShadedBooks$Word" (wKx.getD i 0)).eval #[Value.ref b] s none [] s = some (.ref (adK i))) : ∀ i : Nat, i < 8 → va_OF RX9 "letters" "Ljava/lang/String;" (.ref (adK i)) (ad i) (AA s.heap.size) s s.heap := by
  have hs := flat_of_before _ hgv
  refine va_Efof (E := "ShadedBooks$Word") (d0 := "LShadedBooks$Word;") (nm := wNm) (tm := fun i => .string "ShadedBooks$Word" (wKx.getD i 0)) (v := fun i => .ref (adK i)) hev (fun i hi => ?_) hek (stNo s)
  rcases (show i = 0 ∨ i = 1 ∨ i = 2 ∨ i = 3 ∨ i = 4 ∨ i = 5 ∨ i = 6 ∨ i = 7 by omega) with rfl | rfl | rfl | rfl | rfl | rfl | rfl | rfl <;> exact hs _ (by decide +kernel)
set_option maxHeartbeats 4000000 in
set_option maxRecDepth 100000 in
theorem st_ref {s : State} {b : Nat} (hts : ∀ w ∈ lw_tbl, w.before #[Value.ref b] s = true) (hgv : (Jvm.Cond.and given_1 narrow_1).before #[Value.ref b] s = true) : ∃ a1 a2 a3 : Nat, vk_R RX10 246 "there is no such trader or order" a1 s ∧ vk_R RX10 253 "a number is out of its range" a2 s ∧ vk_R RX10 258 "this cannot be done now" a3 s := by
  have hs := flat_of_before _ hgv
  obtain ⟨a1, -, -, -, q1, -⟩ := Cond.exactly_spec (args := #[Value.ref b]) (first := s) (o := none) (s := s) (idx := []) (t := .string "ShadedBooks" 246) (cls := "java/lang/String") (hs _ (by decide +kernel))
  obtain ⟨a2, -, -, -, q2, -⟩ := Cond.exactly_spec (args := #[Value.ref b]) (first := s) (o := none) (s := s) (idx := []) (t := .string "ShadedBooks" 253) (cls := "java/lang/String") (hs _ (by decide +kernel))
  obtain ⟨a3, -, -, -, q3, -⟩ := Cond.exactly_spec (args := #[Value.ref b]) (first := s) (o := none) (s := s) (idx := []) (t := .string "ShadedBooks" 258) (cls := "java/lang/String") (hs _ (by decide +kernel))
  exact ⟨a1, a2, a3, vk_R.of (A := #[Value.ref b]) (hts _ (lt_mem 875 (by decide +kernel))) q1, vk_R.of (A := #[Value.ref b]) (hts _ (lt_mem 911 (by decide +kernel))) q2, vk_R.of (A := #[Value.ref b]) (hts _ (lt_mem 927 (by decide +kernel))) q3⟩
set_option maxHeartbeats 4000000 in
set_option maxRecDepth 100000 in
/-- the words' addresses: the constants, their texts, the texts' bytes, the three messages -/
def adG (ad adK adV : Nat → Nat) (a1 a2 a3 : Nat) (i : Nat) : Nat := if i < 8 then ad i else if i < 16 then adK (i - 8) else if i < 24 then adV (i - 16) else if i = 24 then a1 else if i = 25 then a2 else a3
set_option maxHeartbeats 4000000 in
set_option maxRecDepth 100000 in
theorem st_NW {s : State} {b : Nat} (hts : ∀ w ∈ lw_tbl, w.before #[Value.ref b] s = true) (hgv : (Jvm.Cond.and given_1 narrow_1).before #[Value.ref b] s = true) (dg : va_G) (cI cQ : ClassId) : ∃ ad : Nat → Nat, NW (dg, cI, cQ, ad) s.heap.size s s.heap := by
  have hs := flat_of_before _ hgv
  obtain ⟨ad, hE, hev⟩ := st_enum hts hgv
  obtain ⟨adK, adV, hT, hek⟩ := st_text hts hgv
  obtain ⟨a1, a2, a3, r1, r2, r3⟩ := st_ref hts hgv
  refine ⟨adG ad adK adV a1 a2 a3, ⟨va_Nw.of rfl (hts _ (lt_mem 443 (by decide +kernel))), va_Nw.of rfl (hts _ (lt_mem 570 (by decide +kernel))), va_Nw.of rfl (hts _ (lt_mem 1554 (by decide +kernel))), ⟨va_Nw.of rfl (hts _ (lt_mem 836 (by decide +kernel))), va_Nw.of rfl (hts _ (lt_mem 904 (by decide +kernel))), va_Nw.of rfl (hts _ (lt_mem 920 (by decide +kernel)))⟩, ⟨va_Nc.of (args := #[Value.ref b]) (hs _ (by decide +kernel)), va_Nc.of (args := #[Value.ref b]) (hs _ (by decide +kernel)), va_Nc.of (args := #[Value.ref b]) (hs _ (by decide +kernel)), va_Nc.of (args := #[Value.ref b]) (hs _ (by decide +kernel)), va_Nc.of (args := #[Value.ref b]) (hs _ (by decide +kernel)), va_Nc.of (args := #[Value.ref b]) (hs _ (by decide +kernel))⟩, r1, r2, r3⟩, ?_⟩
  have e1 : ∀ i : Nat, i < 8 → adG ad adK adV a1 a2 a3 i = ad i := fun i hi => if_pos hi
  have e2 : ∀ i : Nat, i < 8 → adG ad adK adV a1 a2 a3 (8 + i) = adK i := fun i hi => by
    unfold adG
    rw [if_neg (by omega), if_pos (by omega), Nat.add_sub_cancel_left]
  have e3 : ∀ i : Nat, i < 8 → adG ad adK adV a1 a2 a3 (16 + i) = adV i := fun i hi => by
    unfold adG
    rw [if_neg (by omega), if_neg (by omega), if_pos (by omega), Nat.add_sub_cancel_left]
  refine ⟨?_, st_sw hts hgv, fun i hi => ?_, fun i j hi hj h => ?_, ⟨⟨fun i hi => ?_, fun i j hi hj h => ?_⟩, fun i hi => ?_⟩, ?_, ?_, ?_, ?_⟩
  · obtain ⟨t0, z1, z2⟩ := st_all hts hgv hev
    refine ⟨t0, z1, ?_⟩
    obtain ⟨cell, h1, h2, h3, h4, h5, h6, h7⟩ := z2
    exact ⟨cell, h1, h2, h3, h4, h5, fun j hj => by show _ = some (Value.ref (adG ad adK adV a1 a2 a3 j)); rw [e1 j hj]; exact h6 j hj, h7⟩
  · show va_O RX9 (adG ad adK adV a1 a2 a3 i) _ _ _ ∧ va_OF RX9 "numbers" "I" _ (adG ad adK adV a1 a2 a3 i) _ _ _ ∧ va_OF "java/lang/Enum" "ordinal" "I" _ (adG ad adK adV a1 a2 a3 i) _ _ _
    rw [e1 i hi]
    have q := hE.1 i hi
    refine ⟨q.2.1, ?_, ?_⟩
    · exact q.2.2 ("ShadedBooks$Word", "numbers", "I", [1, 1, 3, 2, 3, 1, 2, 0]) (by simp [wFl])
    · have q2 := q.2.2 ("java/lang/Enum", "ordinal", "I", [0, 1, 2, 3, 4, 5, 6, 7]) (by simp [wFl])
      have e : ([0, 1, 2, 3, 4, 5, 6, 7] : List Int32).getD i 0 = nI i := by rcases (show i = 0 ∨ i = 1 ∨ i = 2 ∨ i = 3 ∨ i = 4 ∨ i = 5 ∨ i = 6 ∨ i = 7 by omega) with rfl | rfl | rfl | rfl | rfl | rfl | rfl | rfl <;> rfl
      rw [← e]
      exact q2
  · have h : adG ad adK adV a1 a2 a3 i = adG ad adK adV a1 a2 a3 j := h
    rw [e1 i hi, e1 j hj] at h
    exact hE.2 i j hi hj h
  · have q := hT.1 i hi
    show va_O "java/lang/String" (adG ad adK adV a1 a2 a3 (8 + i)) _ _ _ ∧ va_OF "java/lang/String" "coder" "B" _ (adG ad adK adV a1 a2 a3 (8 + i)) _ _ _ ∧ va_OF "java/lang/String" "value" "[B" (.ref (adG ad adK adV a1 a2 a3 (16 + i))) (adG ad adK adV a1 a2 a3 (8 + i)) _ _ _ ∧ va_T .byte (adG ad adK adV a1 a2 a3 (16 + i)) _ _ _ _ _
    rw [e2 i hi, e3 i hi]
    exact q
  · have h : adG ad adK adV a1 a2 a3 (8 + i) = adG ad adK adV a1 a2 a3 (8 + j) := h
    rw [e2 i hi, e2 j hj] at h
    exact hT.2 i j hi hj h
  · show va_OF RX9 "letters" "Ljava/lang/String;" (.ref (adG ad adK adV a1 a2 a3 (8 + i))) (adG ad adK adV a1 a2 a3 i) _ _ _
    rw [e1 i hi, e2 i hi]
    exact st_letters hts hgv hev hek i hi
  · exact va_Zof (hts _ (lt_mem 465 (by decide +kernel))) (hts _ (lt_mem 101 (by decide +kernel))) (va_eqi (hs _ (by decide +kernel))) (stNo s)
  · exact va_Zqof (hts _ (lt_mem 482 (by decide +kernel))) (hts _ (lt_mem 103 (by decide +kernel))) (hs _ (by decide +kernel)) (stNo s)
  · exact vx_Zqof (hts _ (lt_mem 861 (by decide +kernel))) (hts _ (lt_mem 92 (by decide +kernel))) (hs _ (by decide +kernel)) (stNo s)
  · exact vx_Zqof (hts _ (lt_mem 863 (by decide +kernel))) (hts _ (lt_mem 92 (by decide +kernel))) (hs _ (by decide +kernel)) (stNo s)
theorem st_ND {s : State} {args : Array Value} (hts : ∀ w ∈ lw_tbl, w.before args s = true) : ND s := ⟨va_Nw.of rfl (hts _ (lt_mem 838 (by decide +kernel))), va_Nw.of rfl (hts _ (lt_mem 840 (by decide +kernel))), va_Nw.of rfl (hts _ (lt_mem 842 (by decide +kernel)))⟩
theorem st_NZ {s : State} {args : Array Value} (hts : ∀ w ∈ lw_tbl, w.before args s = true) : NZ s := ⟨⟨va_Nw.of rfl (hts _ (lt_mem 116 (by decide +kernel))), va_Nw.of rfl (hts _ (lt_mem 122 (by decide +kernel))), va_Nw.of rfl (hts _ (lt_mem 175 (by decide +kernel))), va_Nw.of rfl (hts _ (lt_mem 217 (by decide +kernel))), va_Nw.of rfl (hts _ (lt_mem 287 (by decide +kernel))), va_Nw.of rfl (hts _ (lt_mem 345 (by decide +kernel))), va_Nw.of rfl (hts _ (lt_mem 359 (by decide +kernel)))⟩, va_AO.of (hts _ (lt_mem 344 (by decide +kernel)))⟩
