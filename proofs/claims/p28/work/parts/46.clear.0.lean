noncomputable section
theorem rg_2 {f : Nat → Int32} {N R : Nat} (g : RNG N R f) (hR : R < 2 ^ 30) : RNG N (R + 1) (ch f 2 (f 2 + 1)) := by
  obtain ⟨g1, ⟨r, hr, er⟩, g3, g4, g5, g6, g7, g8⟩ := g
  have e : ∀ j, j ≠ 2 → ch f 2 (f 2 + 1) j = f j := fun j hj => ch_n hj
  have y : ch f 2 (f 2 + 1) 2 = nI (r + 1) := by rw [ch_y, er, nI_1]
  have c2 : cn (f 2) = r := by rw [er, cn_nI (by omega)]
  refine ⟨⟨?_, ?_, ?_, fun k hk => ?_⟩, ⟨r + 1, by omega, y⟩, ?_, ?_, ?_, fun t ht => ?_, fun k hk => ?_, fun j k hj hk => ?_⟩
  · rw [e 0 (by omega)]; exact g1.1
  · rw [e 1 (by omega)]; exact g1.2.1
  · rw [e 9 (by omega)]; exact g1.2.2.1
  · rw [e _ (by omega)]; exact g1.2.2.2 k hk
  · rw [e 3 (by omega)]; exact g3
  · rw [e 4 (by omega)]; exact g4
  · rw [e 5 (by omega)]; exact g5
  · rw [e 0 (by omega)] at ht
    rw [e _ (by omega), e _ (by omega), e _ (by omega), e _ (by omega)]; exact g6 t ht
  · rw [e 1 (by omega)] at hk
    rw [e (67 + 5 * k) (by omega), e (68 + 5 * k) (by omega), e (69 + 5 * k) (by omega), e (70 + 5 * k) (by omega), e (71 + 5 * k) (by omega), e 5 (by omega), e 0 (by omega), y, cn_nI (by omega)]
    obtain ⟨q1, q2, q3, q4, s, hs, es⟩ := g7 k hk
    exact ⟨q1, q2, q3, q4, s, by omega, es⟩
  · rw [e 1 (by omega)] at hk
    rw [e _ (by omega), e _ (by omega)]; exact g8 j k hj hk
theorem rmr_at (n m : Nat) (f : Nat → Int32) (i : Nat) : rmr n m f i = if i = 1 then nI (n - 1) else if 67 + 5 * m ≤ i ∧ i < 62 + 5 * n then f (i + 5) else f i := rfl
theorem exp_iff {s l q : Nat} (hs : s < 2 ^ 29) (hl : l < 2 ^ 29) (hq : q < 2 ^ 29) : nI s ≤ nI q - nI l ↔ nI s + nI l ≤ nI q := by
  rw [nI_add, nI_le_iff (by omega) (by omega), Int32.le_iff_toInt_le, sub_pos (by omega) (by omega), nI_toInt (by omega)]
  omega
/-- the expired ones are taken out on both sides -/
theorem EX_at {a N R q l : Nat} {e0 : Int32} (ha : a + 40 ≤ 81) (hR2 : R < 2 ^ 29) : ∀ c (μ κ : Mm), c ≤ cn (κ 260 1) → REL μ a (ch (κ 260) 10 e0) → RNG N R (κ 260) → κ 260 2 = nI q → κ 260 4 = nI l → q ≤ R → l < 10 →
    REL (O_ruL (a + 16) (nI q - nI l) c μ) a (ch (EX c κ 260) 10 e0) ∧ RNG N R (EX c κ 260) ∧ EX c κ 260 10 + EX c κ 260 1 = κ 260 10 + κ 260 1 ∧ (∀ p, p < a + 16 ∨ a + 29 ≤ p → O_ruL (a + 16) (nI q - nI l) c μ p = μ p) ∧ (∀ p, p ≠ 260 → EX c κ p = κ p)
  | 0, μ, κ, _, h, g, _, _, _, _ => ⟨h, g, rfl, fun p _ => rfl, fun p _ => rfl⟩
  | c + 1, μ, κ, hc, h, g, h2, h4, hq, hl => by
    have hcc := g.c0
    obtain ⟨n, hn2, e1⟩ : ∃ n, n ≤ 20 ∧ κ 260 1 = nI n := ⟨_, hcc.2.1, (vp_of2 g.1.2.1 (by decide)).1⟩
    have hcn : cn (κ 260 1) = n := by rw [e1, cn_nI (by omega)]
    obtain ⟨-, -, -, -, s, hs, es⟩ := g.2.2.2.2.2.2.1 c (by omega)
    have hs2 : s ≤ q := by rw [h2, cn_nI (by omega)] at hs; exact hs
    have hm : M_o κ (nI c) 4 = nI s := by
      rw [show (4 : Int32) = nI 4 from rfl, M_o_nI (by omega) (by decide), show 67 + 5 * c + 4 = 71 + 5 * c by omega]
      exact es
    have h1n : ch (κ 260) 10 e0 1 = nI n := by rw [ch_n (by decide)]; exact e1
    have hcl : R_get μ (a + 16 + 11) 20 (nI c) = nI s := by
      rw [R_get_nI (by omega) (by decide)]
      refine (h.2.2.1 c (by rw [h1n, cn_nI (by omega)]; omega)).2.2.2.2.1.trans ?_
      rw [ch_n (by omega)]; exact es
    have eO : O_ruL (a + 16) (nI q - nI l) (c + 1) μ = O_ruL (a + 16) (nI q - nI l) c (if nI s ≤ nI q - nI l then O_removeAt μ (a + 16) (nI c) else μ) := by
      rw [← hcl]
      rfl
    have eE : EX (c + 1) κ = EX c (if nI s + nI l ≤ nI q then EX_rem c κ else κ) := by
      rw [← hm, ← h4, ← h2]
      rfl
    rw [eO, eE]
    by_cases cv : nI s + nI l ≤ nI q
    · rw [if_pos cv, if_pos ((exp_iff (by omega) (by omega) (by omega)).mpr cv)]
      have erow : EX_rem c κ 260 = ch (rmr n c (κ 260)) 10 (κ 260 10 + 1) := by
        unfold EX_rem
        rw [up2_ch]
        have hr : M_removes κ (nI c) 260 = rmr n c (κ 260) := funext fun i => by
          rw [removes_row κ hn2 (by omega) e1 i]
          rfl
        rw [hr]
        congr 1
        rw [rmr_at, if_neg (by omega), if_neg (by omega)]
      have hr1 : EX_rem c κ 260 1 = nI (n - 1) := by rw [erow, ch_n (by decide)]; exact if_pos rfl
      have hr10 : EX_rem c κ 260 10 = κ 260 10 + 1 := by rw [erow, ch_y]
      have hlo : ∀ i, i < 67 → i ≠ 1 → i ≠ 10 → EX_rem c κ 260 i = κ 260 i := fun i i1 i2 i3 => by
        rw [erow, ch_n i3]
        unfold rmr
        rw [if_neg i2, if_neg (by omega)]
      have eE0 : ch (EX_rem c κ 260) 10 e0 = rmr n c (ch (κ 260) 10 e0) := by
        rw [erow]
        funext i
        by_cases c10 : i = 10
        · subst c10
          rw [ch_y, rmr_at, if_neg (by omega), if_neg (by omega), ch_y]
        · rw [ch_n c10, ch_n c10, rmr_at, rmr_at]
          split
          · rfl
          · split
            · rw [ch_n (by omega)]
            · rw [ch_n c10]
      have hW : RWk (ch (κ 260) 10 e0) := by
        have w := g.W
        refine ⟨by rw [ch_n (by decide)]; exact w.1, by rw [ch_n (by decide)]; exact w.2.1, by rw [ch_n (by decide)]; exact w.2.2.1, fun k hk => ?_⟩
        rw [ch_n (by decide)] at hk
        rw [ch_n (by omega), ch_n (by decide)]
        exact w.2.2.2 k hk
      have hRr := rem_R h hW h1n hn2 (by omega : c < n)
      rw [← eE0] at hRr
      have hG : RNG N R (EX_rem c κ 260) := by
        rw [erow]
        exact rg_h (rem_G g e1 hn2 (by omega : c < n)) (by omega) (fun z => absurd z (by decide)) (fun z => absurd z (by decide))
      have I := EX_at ha hR2 c (O_removeAt μ (a + 16) (nI c)) (EX_rem c κ) (by rw [hr1, cn_nI (by omega)]; omega) hRr hG (by rw [hlo 2 (by decide) (by decide) (by decide)]; exact h2) (by rw [hlo 4 (by decide) (by decide) (by decide)]; exact h4) hq hl
      refine ⟨I.1, I.2.1, ?_, fun p hp => (I.2.2.2.1 p hp).trans (remAt_out (by omega)), fun p hp => (I.2.2.2.2 p hp).trans ?_⟩
      · rw [I.2.2.1, hr10, hr1, e1]
        obtain ⟨n, rfl⟩ : ∃ z, n = z + 1 := ⟨n - 1, by omega⟩
        rw [Nat.add_sub_cancel, ← nI_1, Int32.add_assoc, Int32.add_comm 1 (nI n)]
      · show up2 (M_removes κ (nI c)) 260 10 _ p = _
        rw [up2_k _ _ hp, removes_ne hp]
    · rw [if_neg cv, if_neg (fun z => cv ((exp_iff (by omega) (by omega) (by omega)).mp z))]
      exact EX_at ha hR2 c μ κ (by omega) h g h2 h4 hq hl
/-- a round's end on both sides -/
theorem clears_at {μ ν : Mm} {a N R : Nat} (h : REL μ a (ν 260)) (g : RNG N R (ν 260)) (ha : a + 40 ≤ 81) (hR2 : R < 2 ^ 28) :
    REL (A_endM μ a) a ((M_clears ν).1 260) ∧ RNG N (R + 1) ((M_clears ν).1 260) ∧ A_end μ a = (M_clears ν).2 ∧ M_clok ν ∧ (∀ p, p < a ∨ (a + 40 ≤ p ∧ p < 81) ∨ 91 < p → A_endM μ a p = μ p) ∧ (∀ p, p ≠ 259 → p ≠ 260 → p ≠ 264 → (M_clears ν).1 p = ν p) ∧ ∀ i, (M_clears ν).1 259 i = M_finds ν 259 i := by
  have hc := g.c0
  have hok := (cl1_at h g ha).2
  obtain ⟨b1, b2, b3, -⟩ := E_all h g ha 0 (Nat.zero_le _)
  have n0c : cn (M_cl1 ν 260 0) = cn (ν 260 0) := congrArg cn b3.1.1
  have n0a : cn (A_end1 μ a (a + 1) 0) = cn (ν 260 0) := congrArg cn ((rd_n0 b1).trans b3.1.1)
  have hE := E_all h g ha (cn (ν 260 0)) (Nat.le_refl _)
  obtain ⟨μE, hμE⟩ : ∃ m, m = A_end2 μ a (cn (ν 260 0)) := ⟨_, rfl⟩
  obtain ⟨κE, hκE⟩ : ∃ m, m = M_cl2 ν (cn (ν 260 0)) := ⟨_, rfl⟩
  rw [← hμE, ← hκE] at hE
  obtain ⟨d1, d2, d3, d4, d5, d6, d7, d8, d9⟩ := hE
  have nE : cn (κE 260 1) = cn (ν 260 1) := congrArg cn d3.1.2.1
  have eclE : M_clE ν = κE := by unfold M_clE; rw [n0c, hκE]
  -- units less what was taken
  obtain ⟨f1, f2⟩ := F_all (F := fN (ν 260) (VN (ν 260))) d1 d2.W ha (fun k hk => d9 k (by rw [← nE]; exact hk)) (cn (κE 260 1)) (Nat.le_refl _)
  obtain ⟨μ3, hμ3⟩ : ∃ m, m = itr (F_step a) μE (cn (κE 260 1)) := ⟨_, rfl⟩
  rw [← hμ3] at f1 f2
  obtain ⟨κf, hκf⟩ : ∃ m, m = M_fillK κE (cn (κE 260 1)) := ⟨_, rfl⟩
  have kf0 : κf 260 = κE 260 := by rw [hκf]; funext i; unfold M_fillK; rw [if_neg (by omega)]
  have kfp : ∀ p, p ≠ 264 → κf p = κE p := fun p hp => by rw [hκf]; funext i; unfold M_fillK; rw [if_neg (fun z => hp z.1)]
  have M := EM_at (F := fN (ν 260) (VN (ν 260))) ha (cn (κE 260 1)) μ3 κf (by rw [kf0]; exact Nat.le_refl _) (by rw [kf0]; exact f1) (by rw [kf0]; exact d2) (fun k hk => by
    have hk2 : k < cn (ν 260 1) := by rw [← nE]; exact hk
    refine ⟨?_, ?_⟩
    · rw [hκf]
      unfold M_fillK
      rw [if_pos ⟨rfl, hk⟩]
      exact fill_SM g d2 d3 hk2
    · rw [kf0, (d3.1.n g hk2).2.2.1]
      exact fN_le _ _ _)
  obtain ⟨m1, m2, m3, m4⟩ := M
  have eMe : M_empties κE = EM (cn (κE 260 1)) κf := by unfold M_empties; rw [hκf]
  have n3 : cn (μ3 (a + 16) 0) = cn (κE 260 1) := by
    have := f1.1.2.1
    rw [sb_n fun k hk => by omega] at this
    rw [this]
  have eOe : O_removeEmpty μ3 (a + 16) = O_reL (a + 16) (cn (κE 260 1)) μ3 := by unfold O_removeEmpty; rw [n3]
  rw [← eOe] at m1 m3
  rw [← eMe] at m1 m2 m4
  -- the round counted
  obtain ⟨μ4, hμ4⟩ : ∃ m, m = up2 (O_removeEmpty μ3 (a + 16)) a 5 (O_removeEmpty μ3 (a + 16) a 5 + 1) := ⟨_, rfl⟩
  have e4 : A_end4 μ a = μ4 := by
    unfold A_end4
    dsimp only
    rw [n0a, ← hμE]
    unfold A_end3
    rw [n0a, ← hμE, show μE (a + 16) 0 = κE 260 1 from rd_n1 d1, ← hμ3, hμ4]
  obtain ⟨κ4, hκ4⟩ : ∃ m, m = M_cl3 ν := ⟨_, rfl⟩
  have ek4 : κ4 = up2 (M_empties κE) 260 2 (M_empties κE 260 2 + 1) := by rw [hκ4]; unfold M_cl3; rw [eclE]
  have row4 : κ4 260 = ch (M_empties κE 260) 2 (M_empties κE 260 2 + 1) := by rw [ek4, up2_ch]
  have r4 : REL μ4 a (κ4 260) := by
    rw [hμ4, row4, show O_removeEmpty μ3 (a + 16) a 5 = M_empties κE 260 2 from m1.1.2.2.1]
    exact wr_h m1 (by unfold HD; omega)
  have g4 : RNG N (R + 1) (κ4 260) := by rw [row4]; exact rg_2 m2 (by omega)
  -- the expired ones
  obtain ⟨q, hq, eq⟩ := g4.2.1
  obtain ⟨l, hl, el⟩ := vp_nI g4.2.2.2.1.1 (by decide)
  have X := EX_at (a := a) (N := N) (R := R + 1) (q := q) (l := l) (e0 := κ4 260 10) ha (by omega) (cn (κ4 260 1)) μ4 κ4 (Nat.le_refl _) (by rw [ch_self rfl]; exact r4) g4 eq el hq hl
  obtain ⟨x1, x2, x3, x4, x5⟩ := X
  obtain ⟨κ5, hκ5⟩ : ∃ m, m = EX (cn (κ4 260 1)) κ4 := ⟨_, rfl⟩
  obtain ⟨μ5, hμ5⟩ : ∃ m, m = O_ruM μ4 (a + 16) (μ4 a 5 - μ4 a 4) := ⟨_, rfl⟩
  have e5 : μ5 = O_ruL (a + 16) (nI q - nI l) (cn (κ4 260 1)) μ4 := by
    rw [hμ5]
    unfold O_ruM
    rw [rd_n1 r4, show μ4 a 5 = nI q from r4.1.2.2.1.trans eq, show μ4 a 4 = nI l from r4.1.2.2.2.2.1.trans el]
  rw [← e5, ← hκ5] at x1
  rw [← hκ5] at x2 x3 x5
  rw [← e5] at x4
  have efin : A_endM μ a = up2 μ5 a 10 (μ4 a 10 + (μ4 (a + 16) 0 - μ5 (a + 16) 0)) := by
    rw [A_endM_eq]
    unfold A_endM0 O_removeUpTo
    dsimp only
    rw [e4, ← hμ5]
  have eM : (M_clears ν).1 = κ5 := by
    unfold M_clears
    rw [← hκ4, hκ5]
  have x51 : μ5 (a + 16) 0 = κ5 260 1 := by
    have := x1.1.2.1
    rw [ch_n (by decide)] at this
    exact this
  have v10 : μ4 a 10 + (μ4 (a + 16) 0 - μ5 (a + 16) 0) = κ5 260 10 := by
    rw [show μ4 a 10 = κ4 260 10 from r4.1.2.2.2.2.2.2.2.2.2.2, rd_n1 r4, x51, Int32.sub_eq_add_neg, ← Int32.add_assoc, ← x3, ← Int32.sub_eq_add_neg, Int32.add_sub_cancel]
  have rel5 : REL (A_endM μ a) a (κ5 260) := by
    rw [efin, v10]
    have := wr_h (v := κ5 260 10) x1 (i := 10) (ci := 10) (by unfold HD; omega)
    have e : ch (ch (κ5 260) 10 (κ4 260 10)) 10 (κ5 260 10) = κ5 260 := by
      funext i
      unfold ch
      split
      · rename_i z; rw [z]
      · rfl
    rw [e] at this
    exact this
  have out : ∀ p, p ≠ a → p < a + 16 ∨ a + 29 ≤ p → A_endM μ a p = μ4 p := fun p p1 p2 => by rw [efin, up2_k _ _ p1, x4 p p2]
  have out4 : ∀ p, p < a ∨ a + 40 ≤ p → μ4 p = μE p := fun p hp => by rw [hμ4, up2_k _ _ (by omega), m3 p hp, f2 p (by omega)]
  rw [eM]
  refine ⟨rel5, x2, ?_, hok, fun p hp => ?_, fun p p1 p2 p3 => ?_, fun i => ?_⟩
  · show A_endM μ a 81 3 = M_clE ν 259 7
    rw [out 81 (by omega) (by omega), out4 81 (by omega), d8, eclE, d3.2.1]
  · rw [out p (by omega) (by omega), out4 p (by omega), d4 p hp]
  · rw [x5 p p2, ek4, up2_k _ _ p2, m4 p p2, kfp p p3, d5 p p1 p2]
  · rw [x5 259 (by decide), ek4, up2_k _ _ (by decide), m4 259 (by decide), kfp 259 (by decide), d6 i]
theorem RNG.lo {N R r : Nat} {f : Nat → Int32} (g : RNG N R f) (h : f 2 = nI r) : RNG N r f := ⟨g.1, ⟨r, Nat.le_refl _, h⟩, g.2.2⟩
end
