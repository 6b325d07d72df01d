noncomputable section
/-! books that are the same for the clearing -/
def OA (f f' : Nat → Int32) : Prop := f' 0 = f 0 ∧ f' 1 = f 1 ∧ (∀ i, 67 ≤ i → i < 167 → f' i = f i) ∧ ∀ t : Nat, t < 8 → f' (11 + 7 * t) = f (11 + 7 * t) ∧ f' (12 + 7 * t) = f (12 + 7 * t)
theorem OA.rf (f : Nat → Int32) : OA f f := ⟨rfl, rfl, fun i _ _ => rfl, fun t _ => ⟨rfl, rfl⟩⟩
theorem OA.tr {f g h : Nat → Int32} (h1 : OA f g) (h2 : OA g h) : OA f h := ⟨h2.1.trans h1.1, h2.2.1.trans h1.2.1, fun i a b => (h2.2.2.1 i a b).trans (h1.2.2.1 i a b), fun t ht => ⟨(h2.2.2.2 t ht).1.trans (h1.2.2.2 t ht).1, (h2.2.2.2 t ht).2.trans (h1.2.2.2 t ht).2⟩⟩
theorem nT_lt {N R k : Nat} {f : Nat → Int32} (g : RNG N R f) (hk : k < cn (f 1)) : nT f k < cn (f 0) := (g.2.2.2.2.2.2.1 k hk).2.1
theorem OA.n {f f' : Nat → Int32} {N R k : Nat} (h : OA f f') (g : RNG N R f) (hk : k < cn (f 1)) : nT f' k = nT f k ∧ nP f' k = nP f k ∧ nU f' k = nU f k ∧ nS f' k = nS f k ∧ nV f' k = nV f k ∧ nW f' k = nW f k := by
  have hc := g.c0
  have ht := nT_lt g hk
  have e1 : nT f' k = nT f k := by unfold nT; rw [h.2.2.1 _ (by omega) (by omega)]
  have e2 : nP f' k = nP f k := by unfold nP; rw [h.2.2.1 _ (by omega) (by omega)]
  have e3 : nU f' k = nU f k := by unfold nU; rw [h.2.2.1 _ (by omega) (by omega)]
  have e4 : nS f' k = nS f k := by unfold nS; rw [e1, (h.2.2.2 _ (by omega)).1]
  have e5 : nV f' k = nV f k := by unfold nV; rw [e1, (h.2.2.2 _ (by omega)).2]
  exact ⟨e1, e2, e3, e4, e5, by unfold nW; rw [e4, e2]⟩
theorem OA_fN {f f' : Nat → Int32} {N R V k : Nat} (h : OA f f') (g : RNG N R f) (hk : k < cn (f 1)) : fN f' V k = fN f V k := by
  obtain ⟨-, -, e3, e4, -, e6⟩ := h.n g hk
  have ha : aN f' k = aN f k := by
    unfold aN
    rw [h.2.1]
    refine sN_congr fun j hj => ?_
    obtain ⟨-, -, d3, d4, -, d6⟩ := h.n g hj
    rw [d3, d4, d6, e4, e6]
  unfold fN
  rw [ha, e3]
theorem OA_dD {f f' : Nat → Int32} {N R p : Nat} (h : OA f f') (g : RNG N R f) : dD f' p = dD f p ∧ dY f' p = dY f p := by
  refine ⟨?_, ?_⟩
  · unfold dD
    rw [h.2.1]
    refine sN_congr fun j hj => ?_
    obtain ⟨-, d2, d3, d4, -, -⟩ := h.n g hj
    rw [d2, d3, d4]
  · unfold dY
    rw [h.2.1]
    refine sN_congr fun j hj => ?_
    obtain ⟨-, d2, d3, d4, -, -⟩ := h.n g hj
    rw [d2, d3, d4]
theorem OA_QI {f f' : Nat → Int32} {N R sd L : Nat} {qf : Nat → Nat} (h : OA f f') (g : RNG N R f) (hq : QI (cn (f 1)) (nS f) (nW f) sd qf L) : QI (cn (f' 1)) (nS f') (nW f') sd qf L := by
  rw [h.2.1]
  refine ⟨fun i hi => ⟨(hq.1 i hi).1, ?_⟩, fun i j hij hj => ?_, fun x hx e => hq.2.2 x hx ?_⟩
  · rw [(h.n g (hq.1 i hi).1).2.2.2.1]; exact (hq.1 i hi).2
  · rw [(h.n g (hq.1 i (by omega)).1).2.2.2.2.2, (h.n g (hq.1 j hj).1).2.2.2.2.2]
    exact hq.2.1 i j hij hj
  · rw [← (h.n g hx).2.2.2.1]; exact e
/-- a memory of the reference whose search found what it finds in f -/
def SM (f : Nat → Int32) (κ : Mm) : Prop := OA f (κ 260) ∧ κ 259 7 = nI (VN f) ∧ κ 259 6 = prI (gsR f 120) (f 3)
theorem SM_finds {ν : Mm} {N R : Nat} (g : RNG N R (ν 260)) : SM (ν 260) (M_finds ν) := by
  obtain ⟨f7, f4, f5, f6, fo⟩ := finds_at g
  refine ⟨?_, f7, f6⟩
  rw [M_finds_260]
  exact OA.rf _
theorem fill_SM {f : Nat → Int32} {κ : Mm} {N R N' R' k : Nat} (g : RNG N R f) (g' : RNG N' R' (κ 260)) (h : SM f κ) (hk : k < cn (f 1)) : M_fillOf κ (nI k) = nI (fN f (VN f) k) := by
  have hv := VN_at (ν := fun _ => f) (N := N) (R := R) (sp := f 3) g g.2.2.1
  try dsimp only at hv
  obtain ⟨v1, v2, v3⟩ := hv
  obtain ⟨h1, h2, h3⟩ := h
  rw [fill_of g' v1 h2 (fun hV => by
    obtain ⟨p, q1, q2, q3, q4, q5⟩ := v3 hV
    refine ⟨p, q1, q2, h3.trans q3, ?_, ?_⟩
    · rw [(OA_dD h1 g).1]; exact q4
    · rw [(OA_dD h1 g).2]; exact q5) (by rw [h1.2.1]; exact hk), OA_fN h1 g hk]
theorem xG_SM {f : Nat → Int32} {κ : Mm} {N R N' R' k : Nat} (g : RNG N R f) (g' : RNG N' R' (κ 260)) (h : SM f κ) (hk : k < cn (f 1)) : xG κ k = nI (fN f (VN f) k) * (if nI (VN f) = 0 then 0 else if nS f k = 0 then nI (nV f k) - prI (gsR f 120) (f 3) else prI (gsR f 120) (f 3) - nI (nV f k)) := by
  have hk' : k < cn (κ 260 1) := by rw [h.1.2.1]; exact hk
  obtain ⟨s1, s2⟩ := of_S g' hk'
  obtain ⟨w1, -⟩ := of_V g' hk'
  obtain ⟨-, -, -, e4, e5, -⟩ := h.1.n g hk
  rw [e4] at s1 s2
  rw [e5] at w1
  unfold xG M_gainOf
  rw [fill_SM g g' h hk, h.2.1, h.2.2, s1, w1]
  by_cases c : nS f k = 0
  · rw [c, if_pos (show nI 0 = (0 : Int32) from rfl), if_pos (show (0 : Nat) = 0 from rfl)]
  · rw [if_neg (nI_n0 c (by omega)), if_neg c]
theorem surplus_SM {ν κ : Mm} {N R N' R' : Nat} (g : RNG N R (ν 260)) (g' : RNG N' R' (κ 260)) (h : SM (ν 260) κ) : M_surplusNow κ = M_surplusNow (M_finds ν) := by
  have gf : RNG N R (M_finds ν 260) := by rw [M_finds_260]; exact g
  rw [surplus_of g', surplus_of gf, M_finds_260, h.1.2.1]
  exact sumI_congr fun k hk => by rw [xG_SM g g' h hk, xG_SM g gf (SM_finds g) hk]
theorem gains_SM {ν κ : Mm} {N R N' R' t : Nat} (g : RNG N R (ν 260)) (g' : RNG N' R' (κ 260)) (h : SM (ν 260) κ) (ht : t < cn (ν 260 0)) : M_gainsOf κ (nI t) = gF (ν 260) t (prI (gsR (ν 260) 120) (ν 260 3)) := by
  have hc := g.c0
  have gf : RNG N R (M_finds ν 260) := by rw [M_finds_260]; exact g
  rw [← gainM g ht, gains_of g' (by omega), gains_of gf (by omega), M_finds_260, h.1.2.1]
  exact sumI_congr fun k hk => by rw [xG_SM g g' h hk, xG_SM g gf (SM_finds g) hk, (h.1.n g hk).1]
theorem taken_SM {f : Nat → Int32} {κ : Mm} {N R N' R' t : Nat} (g : RNG N R f) (g' : RNG N' R' (κ 260)) (h : SM f κ) (ht : t < 2 ^ 31) : M_takenOf κ (nI t) = nI (sN (fun k => if nT f k = t then fN f (VN f) k else 0) (cn (f 1))) := by
  have hc := g.c0
  unfold M_takenOf
  rw [h.1.2.1, ← sumI_nI]
  refine sumI_congr fun k hk => ?_
  obtain ⟨t1, t2⟩ := of_T g' (k := k) (by rw [h.1.2.1]; exact hk)
  rw [(h.1.n g hk).1] at t1
  have := nT_lt g hk
  rw [t1, fill_SM g g' h hk]
  by_cases c : nT f k = t
  · rw [c, if_pos rfl, if_pos rfl]
  · rw [if_neg (fun z => c ((nI_inj (by omega) ht).mp z)), if_neg c]
    rfl
/-- the order at a place of its side -/
theorem place_of {κ : Mm} {N R k : Nat} (g : RNG N R (κ 260)) (hk : k < cn (κ 260 1)) : M_placeOf κ (nI k) = nI (sN (fun j => if nS (κ 260) j = nS (κ 260) k ∧ nW (κ 260) j < nW (κ 260) k then 1 else 0) (cn (κ 260 1))) := by
  unfold M_placeOf
  rw [← sumI_nI]
  refine sumI_congr fun j hj => ?_
  have q := (ah_M g hj hk).trans (AH_iff g hj hk)
  by_cases c : M_isAhead κ (nI j) (nI k) = 0
  · rw [if_pos c, if_neg (fun z => q.mpr z c)]; rfl
  · rw [if_neg c, if_pos (q.mp c)]; rfl
theorem place_q {κ : Mm} {N R sd L i : Nat} {qf : Nat → Nat} (g : RNG N R (κ 260)) (hq : QI (cn (κ 260 1)) (nS (κ 260)) (nW (κ 260)) sd qf L) (hi : i < L) : M_placeOf κ (nI (qf i)) = nI i := by
  rw [place_of g (hq.1 i hi).1, (hq.1 i hi).2, ← hq.sum (fun _ => 1) hi, sN_k, Nat.one_mul]
theorem orderAt_q {κ : Mm} {N R sd L i : Nat} {qf : Nat → Nat} (g : RNG N R (κ 260)) (hq : QI (cn (κ 260 1)) (nS (κ 260)) (nW (κ 260)) sd qf L) (hi : i < L) (hsd : sd ≤ 1) : M_orderAt κ (nI sd) (nI i) = nI (qf i) := by
  have hc := g.c0
  have hL := hq.len
  unfold M_orderAt
  refine fst0_some (hq.1 i hi).1 (fun j hj => ?_) ?_
  · have hjn : j < cn (κ 260 1) := by have := (hq.1 i hi).1; omega
    apply decide_eq_false
    rintro ⟨z1, z2⟩
    rw [(of_S g hjn).1, nI_inj (by have := (of_S g hjn).2; omega) (by omega)] at z1
    obtain ⟨x, hx, ex⟩ := hq.2.2 j hjn z1
    rw [← ex, place_q g hq hx, nI_inj (by omega) (by omega)] at z2
    rw [z2] at ex
    omega
  · apply decide_eq_true
    refine ⟨?_, place_q g hq hi⟩
    rw [(of_S g (hq.1 i hi).1).1, (hq.1 i hi).2]
/-! one trade more -/
theorem adds_row (κ : Mm) {i j c : Nat} (u : Int32) (hi : i < 20) (hj : j < 20) (hc : c < 20) (h9 : κ 260 9 = nI c) (x : Nat) : M_adds κ (nI i) (nI j) u 260 x = if x = 9 then nI (c + 1) else if x = 167 + 5 * c then κ 260 (67 + 5 * i) else if x = 168 + 5 * c then κ 260 (67 + 5 * j) else if x = 169 + 5 * c then u else if x = 170 + 5 * c then κ 260 (68 + 5 * i) else if x = 171 + 5 * c then κ 260 (68 + 5 * j) else κ 260 x := by
  have ix : (167 : Int32) + 5 * κ 260 9 = nI (167 + 5 * c) := by rw [h9, show (167 : Int32) = nI 167 from rfl, show (5 : Int32) = nI 5 from rfl, nI_mul, nI_add]
  have i1 : (167 : Int32) + 5 * κ 260 9 + 1 = nI (168 + 5 * c) := by rw [ix, nI_1, show 167 + 5 * c + 1 = 168 + 5 * c by omega]
  have i2 : (167 : Int32) + 5 * κ 260 9 + 2 = nI (169 + 5 * c) := by rw [ix, show (2 : Int32) = nI 2 from rfl, nI_add, show 167 + 5 * c + 2 = 169 + 5 * c by omega]
  have i3 : (167 : Int32) + 5 * κ 260 9 + 3 = nI (170 + 5 * c) := by rw [ix, show (3 : Int32) = nI 3 from rfl, nI_add, show 167 + 5 * c + 3 = 170 + 5 * c by omega]
  have i4 : (167 : Int32) + 5 * κ 260 9 + 4 = nI (171 + 5 * c) := by rw [ix, show (4 : Int32) = nI 4 from rfl, nI_add, show 167 + 5 * c + 4 = 171 + 5 * c by omega]
  have o0 : ∀ (ν : Mm) k, k < 20 → M_o ν (nI k) 0 = ν 260 (67 + 5 * k) := fun ν k hk => by rw [show (0 : Int32) = nI 0 from rfl, M_o_nI hk (by decide)]; rfl
  have o1 : ∀ (ν : Mm) k, k < 20 → M_o ν (nI k) 1 = ν 260 (68 + 5 * k) := fun ν k hk => by rw [show (1 : Int32) = nI 1 from rfl, M_o_nI hk (by decide), show 67 + 5 * k + 1 = 68 + 5 * k by omega]
  have e : M_adds κ (nI i) (nI j) u = up2 (up2 (up2 (up2 (up2 (up2 κ 260 (167 + 5 * c) (κ 260 (67 + 5 * i))) 260 (168 + 5 * c) (κ 260 (67 + 5 * j))) 260 (169 + 5 * c) u) 260 (170 + 5 * c) (κ 260 (68 + 5 * i))) 260 (171 + 5 * c) (κ 260 (68 + 5 * j))) 260 9 (nI (c + 1)) := by
    unfold M_adds
    try dsimp only
    rw [i1, i2, i3, i4, ix, cn_nI (by omega), cn_nI (by omega), cn_nI (by omega), cn_nI (by omega), cn_nI (by omega), o0 _ _ hi, o0 _ _ hj, o1 _ _ hi, o1 _ _ hj]
    have z1 : up2 κ 260 (167 + 5 * c) (κ 260 (67 + 5 * i)) 260 (67 + 5 * j) = κ 260 (67 + 5 * j) := up2_n (by omega)
    rw [z1]
    have z2 : up2 (up2 (up2 κ 260 (167 + 5 * c) (κ 260 (67 + 5 * i))) 260 (168 + 5 * c) (κ 260 (67 + 5 * j))) 260 (169 + 5 * c) u 260 (68 + 5 * i) = κ 260 (68 + 5 * i) := by
      rw [up2_n (by omega), up2_n (by omega), up2_n (by omega)]
    rw [z2]
    have z3 : up2 (up2 (up2 (up2 κ 260 (167 + 5 * c) (κ 260 (67 + 5 * i))) 260 (168 + 5 * c) (κ 260 (67 + 5 * j))) 260 (169 + 5 * c) u) 260 (170 + 5 * c) (κ 260 (68 + 5 * i)) 260 (68 + 5 * j) = κ 260 (68 + 5 * j) := by
      rw [up2_n (by omega), up2_n (by omega), up2_n (by omega), up2_n (by omega)]
    rw [z3]
    have z4 : up2 (up2 (up2 (up2 (up2 κ 260 (167 + 5 * c) (κ 260 (67 + 5 * i))) 260 (168 + 5 * c) (κ 260 (67 + 5 * j))) 260 (169 + 5 * c) u) 260 (170 + 5 * c) (κ 260 (68 + 5 * i))) 260 (171 + 5 * c) (κ 260 (68 + 5 * j)) 260 9 = nI c := by
      rw [up2_n (by omega), up2_n (by omega), up2_n (by omega), up2_n (by omega), up2_n (by omega), h9]
    rw [z4, nI_1]
  rw [e]
  by_cases c9 : x = 9
  · rw [if_pos c9]; exact up2_y ⟨rfl, c9⟩
  · rw [if_neg c9, up2_n (fun z => c9 z.2)]
    by_cases c4 : x = 171 + 5 * c
    · rw [up2_y ⟨rfl, c4⟩, if_neg (by omega), if_neg (by omega), if_neg (by omega), if_neg (by omega), if_pos c4]
    · rw [up2_n (fun z => c4 z.2), if_neg (c := x = 171 + 5 * c) c4]
      by_cases c3 : x = 170 + 5 * c
      · rw [up2_y ⟨rfl, c3⟩, if_neg (by omega), if_neg (by omega), if_neg (by omega), if_pos c3]
      · rw [up2_n (fun z => c3 z.2), if_neg (c := x = 170 + 5 * c) c3]
        by_cases c2 : x = 169 + 5 * c
        · rw [up2_y ⟨rfl, c2⟩, if_neg (by omega), if_neg (by omega), if_pos c2]
        · rw [up2_n (fun z => c2 z.2), if_neg (c := x = 169 + 5 * c) c2]
          by_cases c1 : x = 168 + 5 * c
          · rw [up2_y ⟨rfl, c1⟩, if_neg (by omega), if_pos c1]
          · rw [up2_n (fun z => c1 z.2), if_neg (c := x = 168 + 5 * c) c1]
            by_cases c0 : x = 167 + 5 * c
            · rw [up2_y ⟨rfl, c0⟩, if_pos c0]
            · rw [up2_n (fun z => c0 z.2), if_neg c0]
theorem adds_p {κ : Mm} {b s u : Int32} {p : Nat} (hp : p ≠ 260) : M_adds κ b s u p = κ p := by
  unfold M_adds
  try dsimp only
  rw [up2_k _ _ hp, up2_k _ _ hp, up2_k _ _ hp, up2_k _ _ hp, up2_k _ _ hp, up2_k _ _ hp]
theorem append_at (μ : Mm) {a i j c : Nat} (u : Int32) (hi : i < 20) (hj : j < 20) (hc : c < 20) (h9 : μ (a + 29) 0 = nI c) : S_append μ (a + 29) (a + 16) (nI i) (nI j) u = up2 (up2 (up2 (up2 (up2 (up2 μ (a + 31) c (μ (a + 18) i)) (a + 33) c (μ (a + 18) j)) (a + 35) c u) (a + 37) c (μ (a + 20) i)) (a + 39) c (μ (a + 20) j)) (a + 29) 0 (nI (c + 1)) := by
  have e0 : ∀ (κ : Mm) (k i : Nat) (v : Int32), k ≠ a + 29 → up2 κ k i v (a + 29) = κ (a + 29) := fun κ k i v hk => up2_k _ _ (Ne.symm hk)
  have e1 : ∀ (κ : Mm) (k i : Nat) (v : Int32), k ≠ a + 18 → up2 κ k i v (a + 18) = κ (a + 18) := fun κ k i v hk => up2_k _ _ (Ne.symm hk)
  have e2 : ∀ (κ : Mm) (k i : Nat) (v : Int32), k ≠ a + 20 → up2 κ k i v (a + 20) = κ (a + 20) := fun κ k i v hk => up2_k _ _ (Ne.symm hk)
  have n1 : ∀ (κ : Mm) x, x < 20 → R_get κ (a + 16 + 1) 20 (nI x) = κ (a + 18) x := fun κ x hx => R_get_nI hx (by decide)
  have n3 : ∀ (κ : Mm) x, x < 20 → R_get κ (a + 16 + 3) 20 (nI x) = κ (a + 20) x := fun κ x hx => R_get_nI hx (by decide)
  have p1 : ∀ (κ : Mm) (v : Int32), R_put κ (a + 29 + 1) 20 (nI c) v = up2 κ (a + 31) c v := fun κ v => R_put_nI hc (by decide)
  have p3 : ∀ (κ : Mm) (v : Int32), R_put κ (a + 29 + 3) 20 (nI c) v = up2 κ (a + 33) c v := fun κ v => R_put_nI hc (by decide)
  have p5 : ∀ (κ : Mm) (v : Int32), R_put κ (a + 29 + 5) 20 (nI c) v = up2 κ (a + 35) c v := fun κ v => R_put_nI hc (by decide)
  have p7 : ∀ (κ : Mm) (v : Int32), R_put κ (a + 29 + 7) 20 (nI c) v = up2 κ (a + 37) c v := fun κ v => R_put_nI hc (by decide)
  have p9 : ∀ (κ : Mm) (v : Int32), R_put κ (a + 29 + 9) 20 (nI c) v = up2 κ (a + 39) c v := fun κ v => R_put_nI hc (by decide)
  unfold S_append
  try dsimp only
  rw [h9, n1 _ _ hi, p1]
  rw [e0 _ _ _ _ (by omega), h9, n1 _ _ hj, e1 _ _ _ _ (by omega), p3]
  rw [e0 _ _ _ _ (by omega), e0 _ _ _ _ (by omega), h9, p5]
  rw [e0 _ _ _ _ (by omega), e0 _ _ _ _ (by omega), e0 _ _ _ _ (by omega), h9, n3 _ _ hi, e2 _ _ _ _ (by omega), e2 _ _ _ _ (by omega), e2 _ _ _ _ (by omega), p7]
  rw [e0 _ _ _ _ (by omega), e0 _ _ _ _ (by omega), e0 _ _ _ _ (by omega), e0 _ _ _ _ (by omega), h9, n3 _ _ hj, e2 _ _ _ _ (by omega), e2 _ _ _ _ (by omega), e2 _ _ _ _ (by omega), e2 _ _ _ _ (by omega), p9]
  rw [e0 _ _ _ _ (by omega), e0 _ _ _ _ (by omega), e0 _ _ _ _ (by omega), e0 _ _ _ _ (by omega), e0 _ _ _ _ (by omega), h9, nI_1]
theorem wr_adds {μ κ : Mm} {a i j c N R : Nat} {u : Int32} (h : REL μ a (κ 260)) (g : RNG N R (κ 260)) (hi : i < cn (κ 260 1)) (hj : j < cn (κ 260 1)) (hc : c < 20) (h9 : κ 260 9 = nI c) :
    REL (S_append μ (a + 29) (a + 16) (nI i) (nI j) u) a (M_adds κ (nI i) (nI j) u 260) ∧ RNG N R (M_adds κ (nI i) (nI j) u 260) := by
  have hcc := g.c0
  have hr := adds_row κ u (i := i) (j := j) (by omega) (by omega) hc h9
  have hA := append_at μ (a := a) (i := i) (j := j) u (by omega) (by omega) hc (h.1.2.2.2.2.2.2.2.2.2.1.trans h9)
  have qi := h.2.2.1 i hi
  have qj := h.2.2.1 j hj
  obtain ⟨r, hre⟩ : ∃ r, r = M_adds κ (nI i) (nI j) u 260 := ⟨_, rfl⟩
  rw [← hre] at hr ⊢
  have e : ∀ x, x ≠ 9 → ¬ (167 + 5 * c ≤ x ∧ x < 172 + 5 * c) → r x = κ 260 x := fun x q1 q2 => by rw [hr, if_neg q1, if_neg (by omega), if_neg (by omega), if_neg (by omega), if_neg (by omega), if_neg (by omega)]
  have r9 : r 9 = nI (c + 1) := by rw [hr, if_pos rfl]
  have c9 : cn (r 9) = c + 1 := by rw [r9, cn_nI (by omega)]
  have cn9 : cn (κ 260 9) = c := by rw [h9, cn_nI (by omega)]
  have q0 : r (167 + 5 * c) = κ 260 (67 + 5 * i) := by rw [hr, if_neg (by omega), if_pos rfl]
  have q1 : r (168 + 5 * c) = κ 260 (67 + 5 * j) := by rw [hr, if_neg (by omega), if_neg (by omega), if_pos rfl]
  have q2 : r (169 + 5 * c) = u := by rw [hr, if_neg (by omega), if_neg (by omega), if_neg (by omega), if_pos rfl]
  have q3 : r (170 + 5 * c) = κ 260 (68 + 5 * i) := by rw [hr, if_neg (by omega), if_neg (by omega), if_neg (by omega), if_neg (by omega), if_pos rfl]
  have q4 : r (171 + 5 * c) = κ 260 (68 + 5 * j) := by rw [hr, if_neg (by omega), if_neg (by omega), if_neg (by omega), if_neg (by omega), if_neg (by omega), if_pos rfl]
  obtain ⟨h1, h2, h3, h4⟩ := h
  obtain ⟨ν, hν⟩ : ∃ m, m = S_append μ (a + 29) (a + 16) (nI i) (nI j) u := ⟨_, rfl⟩
  rw [← hν] at hA ⊢
  have m : ∀ q x, ¬ ((q = a + 31 ∨ q = a + 33 ∨ q = a + 35 ∨ q = a + 37 ∨ q = a + 39) ∧ x = c) → ¬ (q = a + 29 ∧ x = 0) → ν q x = μ q x := fun q x z1 z2 => by
    rw [hA, up2_n z2, up2_n (by omega), up2_n (by omega), up2_n (by omega), up2_n (by omega), up2_n (by omega)]
  constructor
  · refine ⟨⟨?_, ?_, ?_, ?_, ?_, ?_, ?_, ?_, ?_, ?_, ?_⟩, fun t ht w hw => ?_, fun k hk => ?_, fun x hx w hw => ?_⟩
    · rw [m _ _ (by omega) (by omega), e 0 (by omega) (by omega)]; exact h1.1
    · rw [m _ _ (by omega) (by omega), e 1 (by omega) (by omega)]; exact h1.2.1
    · rw [m _ _ (by omega) (by omega), e 2 (by omega) (by omega)]; exact h1.2.2.1
    · rw [m _ _ (by omega) (by omega), e 3 (by omega) (by omega)]; exact h1.2.2.2.1
    · rw [m _ _ (by omega) (by omega), e 4 (by omega) (by omega)]; exact h1.2.2.2.2.1
    · rw [m _ _ (by omega) (by omega), e 5 (by omega) (by omega)]; exact h1.2.2.2.2.2.1
    · rw [m _ _ (by omega) (by omega), e 6 (by omega) (by omega)]; exact h1.2.2.2.2.2.2.1
    · rw [m _ _ (by omega) (by omega), e 7 (by omega) (by omega)]; exact h1.2.2.2.2.2.2.2.1
    · rw [m _ _ (by omega) (by omega), e 8 (by omega) (by omega)]; exact h1.2.2.2.2.2.2.2.2.1
    · rw [hA, up2_y ⟨rfl, rfl⟩, r9]
    · rw [m _ _ (by omega) (by omega), e 10 (by omega) (by omega)]; exact h1.2.2.2.2.2.2.2.2.2.2
    · rw [e 0 (by omega) (by omega)] at ht
      rw [m _ _ (by omega) (by omega), e _ (by omega) (by omega)]
      exact h2 t ht w hw
    · rw [e 1 (by omega) (by omega)] at hk
      have hwk := (g.2.2.2.2.2.2.1 k hk).2.1
      rw [m _ _ (by omega) (by omega), m _ _ (by omega) (by omega), m _ _ (by omega) (by omega), m _ _ (by omega) (by omega), m _ _ (by omega) (by omega), m _ _ (by omega) (by omega)]
      rw [e (67 + 5 * k) (by omega) (by omega), e (68 + 5 * k) (by omega) (by omega), e (69 + 5 * k) (by omega) (by omega), e (70 + 5 * k) (by omega) (by omega), e (71 + 5 * k) (by omega) (by omega), e (11 + 7 * cn (κ 260 (68 + 5 * k))) (by omega) (by omega)]
      exact h3 k hk
    · rw [c9] at hx
      by_cases cx : x = c
      · subst cx
        rcases (show w = 0 ∨ w = 1 ∨ w = 2 ∨ w = 3 ∨ w = 4 by omega) with rfl | rfl | rfl | rfl | rfl
        · show ν (a + 31) x = r (167 + 5 * x)
          rw [q0, hA, up2_n (by omega), up2_n (by omega), up2_n (by omega), up2_n (by omega), up2_n (by omega), up2_y ⟨rfl, rfl⟩]; exact qi.1
        · rw [show 167 + 5 * x + 1 = 168 + 5 * x by omega, q1, hA, up2_n (by omega), up2_n (by omega), up2_n (by omega), up2_n (by omega), up2_y ⟨rfl, rfl⟩]; exact qj.1
        · rw [show 167 + 5 * x + 2 = 169 + 5 * x by omega, q2, hA, up2_n (by omega), up2_n (by omega), up2_n (by omega), up2_y ⟨rfl, rfl⟩]
        · rw [show 167 + 5 * x + 3 = 170 + 5 * x by omega, q3, hA, up2_n (by omega), up2_n (by omega), up2_y ⟨rfl, rfl⟩]; exact qi.2.1
        · rw [show 167 + 5 * x + 4 = 171 + 5 * x by omega, q4, hA, up2_n (by omega), up2_y ⟨rfl, rfl⟩]; exact qj.2.1
      · rw [m _ _ (by omega) (by omega), e _ (by omega) (by omega)]
        exact h4 x (by omega) w hw
  · obtain ⟨g1, g2, g3, g4, g5, g6, g7, g8⟩ := g
    refine ⟨⟨?_, ?_, ?_, fun k hk => ?_⟩, ?_, ?_, ?_, ?_, fun t ht => ?_, fun k hk => ?_, fun x k hx hk => ?_⟩
    · rw [e 0 (by omega) (by omega)]; exact g1.1
    · rw [e 1 (by omega) (by omega)]; exact g1.2.1
    · rw [r9]; exact vp_in_nI (by omega) (by decide)
    · rw [e _ (by omega) (by omega)]; exact g1.2.2.2 k hk
    · rw [e 2 (by omega) (by omega)]; exact g2
    · rw [e 3 (by omega) (by omega)]; exact g3
    · rw [e 4 (by omega) (by omega)]; exact g4
    · rw [e 5 (by omega) (by omega)]; exact g5
    · rw [e 0 (by omega) (by omega)] at ht
      rw [e _ (by omega) (by omega), e _ (by omega) (by omega), e _ (by omega) (by omega), e _ (by omega) (by omega)]; exact g6 t ht
    · rw [e 1 (by omega) (by omega)] at hk
      rw [e (67 + 5 * k) (by omega) (by omega), e (68 + 5 * k) (by omega) (by omega), e (69 + 5 * k) (by omega) (by omega), e (70 + 5 * k) (by omega) (by omega), e (71 + 5 * k) (by omega) (by omega), e 5 (by omega) (by omega), e 0 (by omega) (by omega), e 2 (by omega) (by omega)]
      exact g7 k hk
    · rw [e 1 (by omega) (by omega)] at hk
      rw [e _ (by omega) (by omega), e _ (by omega) (by omega)]; exact g8 x k hx hk
end
