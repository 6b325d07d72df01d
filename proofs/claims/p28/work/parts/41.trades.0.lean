noncomputable section
/-! the trades on both sides -/
theorem PF_step {o t n b s x y p q Lb Ls : Nat} {μ : Mm} (h8 : μ 81 8 = nI Lb) (h9 : μ 81 9 = nI Ls) (hb : b < Lb) (hs : s < Ls) (hL : Lb < 1000) (hL2 : Ls < 1000) (hp : R_get μ 82 20 (R_get μ 84 20 (nI b)) - nI x = nI p) (hq : R_get μ 82 20 (R_get μ 86 20 (nI s)) - nI y = nI q) (p1 : p < 1000) (q1 : q < 1000) :
    PF o t (n + 1) μ (nI b) (nI s) (nI x) (nI y) = PF o t n (if 0 < min p q then S_append μ t o (R_get μ 84 20 (nI b)) (R_get μ 86 20 (nI s)) (nI (min p q)) else μ) (nI (if p ≤ q then b + 1 else b)) (nI (if q ≤ p then s + 1 else s)) (nI (if p ≤ q then 0 else x + min p q)) (nI (if q ≤ p then 0 else y + min p q)) := by
  have e : PF o t (n + 1) μ (nI b) (nI s) (nI x) (nI y) = PF o t n (if 0 < mnI (nI p) (nI q) then S_append μ t o (R_get μ 84 20 (nI b)) (R_get μ 86 20 (nI s)) (mnI (nI p) (nI q)) else μ) (if nI p ≤ nI q then nI b + 1 else nI b) (if nI q ≤ nI p then nI s + 1 else nI s) (if nI p ≤ nI q then 0 else nI x + mnI (nI p) (nI q)) (if nI q ≤ nI p then 0 else nI y + mnI (nI p) (nI q)) := by
    rw [← hp, ← hq]
    show (if nI b < μ 81 8 then _ else _) = _
    rw [h8, if_pos ((nI_lt_iff (by omega) (by omega)).mpr hb)]
    show (if nI s < μ 81 9 then _ else _) = _
    rw [h9, if_pos ((nI_lt_iff (by omega) (by omega)).mpr hs)]
  rw [e, mnI_nI (by omega) (by omega)]
  have c0 : (if (0 : Int32) < nI (min p q) then S_append μ t o (R_get μ 84 20 (nI b)) (R_get μ 86 20 (nI s)) (nI (min p q)) else μ) = if 0 < min p q then S_append μ t o (R_get μ 84 20 (nI b)) (R_get μ 86 20 (nI s)) (nI (min p q)) else μ := by
    by_cases c : 0 < min p q
    · rw [if_pos c, if_pos (show (0 : Int32) < nI (min p q) from (nI_lt_iff (a := 0) (by omega) (by omega)).mpr c)]
    · rw [if_neg c, if_neg (show ¬ (0 : Int32) < nI (min p q) from fun z => c ((nI_lt_iff (a := 0) (by omega) (by omega)).mp z))]
  have c1 : (if nI p ≤ nI q then nI b + 1 else nI b) = nI (if p ≤ q then b + 1 else b) := by
    by_cases c : p ≤ q
    · rw [if_pos ((nI_le_iff (by omega) (by omega)).mpr c), if_pos c, nI_1]
    · rw [if_neg (fun z => c ((nI_le_iff (by omega) (by omega)).mp z)), if_neg c]
  have c2 : (if nI q ≤ nI p then nI s + 1 else nI s) = nI (if q ≤ p then s + 1 else s) := by
    by_cases c : q ≤ p
    · rw [if_pos ((nI_le_iff (by omega) (by omega)).mpr c), if_pos c, nI_1]
    · rw [if_neg (fun z => c ((nI_le_iff (by omega) (by omega)).mp z)), if_neg c]
  have c3 : (if nI p ≤ nI q then (0 : Int32) else nI x + nI (min p q)) = nI (if p ≤ q then 0 else x + min p q) := by
    by_cases c : p ≤ q
    · rw [if_pos ((nI_le_iff (by omega) (by omega)).mpr c), if_pos c]; rfl
    · rw [if_neg (fun z => c ((nI_le_iff (by omega) (by omega)).mp z)), if_neg c, nI_add]
  have c4 : (if nI q ≤ nI p then (0 : Int32) else nI y + nI (min p q)) = nI (if q ≤ p then 0 else y + min p q) := by
    by_cases c : q ≤ p
    · rw [if_pos ((nI_le_iff (by omega) (by omega)).mpr c), if_pos c]; rfl
    · rw [if_neg (fun z => c ((nI_le_iff (by omega) (by omega)).mp z)), if_neg c, nI_add]
  rw [c0, c1, c2, c3, c4]
theorem PF_stop {o t n b s Lb Ls : Nat} {μ : Mm} {x y : Int32} (h8 : μ 81 8 = nI Lb) (h9 : μ 81 9 = nI Ls) (hL : Lb < 1000) (hL2 : Ls < 1000) (hb : b < 1000) (hs : s < 1000) (h : ¬ (b < Lb ∧ s < Ls)) : PF o t n μ (nI b) (nI s) x y = μ := by
  cases n with
  | zero => rfl
  | succ n =>
    show (if nI b < μ 81 8 then _ else _) = _
    rw [h8]
    by_cases c : b < Lb
    · rw [if_pos ((nI_lt_iff (by omega) (by omega)).mpr c)]
      show (if nI s < μ 81 9 then _ else _) = _
      rw [h9, if_neg (fun z => h ⟨c, (nI_lt_iff (by omega) (by omega)).mp z⟩)]
    · rw [if_neg (fun z => c ((nI_lt_iff (by omega) (by omega)).mp z))]
theorem TR_step {κ : Mm} {n l b s x y p q i j : Nat} (hl : 0 < l) (hl2 : l < 1000) (hm : min p q ≤ l) (hp : TR_mb κ (nI b) (nI x) = nI p) (hq : TR_ms κ (nI s) (nI y) = nI q) (hi : M_orderAt κ 0 (nI b) = nI i) (hj : M_orderAt κ 1 (nI s) = nI j) (p1 : p < 1000) (q1 : q < 1000) :
    TR (n + 1) κ (nI l) (nI b) (nI s) (nI x) (nI y) = TR n (M_adds κ (nI i) (nI j) (nI (min p q))) (nI (l - min p q)) (nI (if p ≤ q then b + 1 else b)) (nI (if q ≤ p then s + 1 else s)) (nI (if p ≤ q then 0 else x + min p q)) (nI (if q ≤ p then 0 else y + min p q)) ∧
    (vp_in (κ 260 9) 20 → TRok n (M_adds κ (nI i) (nI j) (nI (min p q))) (nI (l - min p q)) (nI (if p ≤ q then b + 1 else b)) (nI (if q ≤ p then s + 1 else s)) (nI (if p ≤ q then 0 else x + min p q)) (nI (if q ≤ p then 0 else y + min p q)) → TRok (n + 1) κ (nI l) (nI b) (nI s) (nI x) (nI y)) := by
  have hu : TR_u κ (nI b) (nI s) (nI x) (nI y) = nI (min p q) := by
    unfold TR_u
    rw [hp, hq, lsI_nI (by omega) (by omega)]
  have hl0 : (0 : Int32) < nI l := (nI_lt_iff (a := 0) (by omega) (by omega)).mpr hl
  have eb : nI (min p q) = nI p ↔ p ≤ q := by rw [nI_inj (by omega) (by omega)]; omega
  have es : nI (min p q) = nI q ↔ q ≤ p := by rw [nI_inj (by omega) (by omega)]; omega
  have c1 : nI b + (if nI (min p q) = nI p then 1 else 0) = nI (if p ≤ q then b + 1 else b) := by
    by_cases c : p ≤ q
    · rw [if_pos (eb.mpr c), if_pos c, nI_1]
    · rw [if_neg (fun z => c (eb.mp z)), if_neg c, Int32.add_zero]
  have c2 : nI s + (if nI (min p q) = nI q then 1 else 0) = nI (if q ≤ p then s + 1 else s) := by
    by_cases c : q ≤ p
    · rw [if_pos (es.mpr c), if_pos c, nI_1]
    · rw [if_neg (fun z => c (es.mp z)), if_neg c, Int32.add_zero]
  have c3 : (if nI (min p q) = nI p then (0 : Int32) else nI x + nI (min p q)) = nI (if p ≤ q then 0 else x + min p q) := by
    by_cases c : p ≤ q
    · rw [if_pos (eb.mpr c), if_pos c]; rfl
    · rw [if_neg (fun z => c (eb.mp z)), if_neg c, nI_add]
  have c4 : (if nI (min p q) = nI q then (0 : Int32) else nI y + nI (min p q)) = nI (if q ≤ p then 0 else y + min p q) := by
    by_cases c : q ≤ p
    · rw [if_pos (es.mpr c), if_pos c]; rfl
    · rw [if_neg (fun z => c (es.mp z)), if_neg c, nI_add]
  rw [← c1, ← c2, ← c3, ← c4, ← nI_subN hm, ← hi, ← hj, ← hp, ← hq]
  have hu2 := hu
  rw [hp, hq, ← hu2]
  constructor
  · show (if 0 < nI l then _ else _) = _
    rw [if_pos hl0, hp, hq]
  · intro h9 hk _
    refine ⟨h9, ?_⟩
    rw [hp, hq]
    exact hk
theorem trades_at {f : Nat → Int32} {a N R N' R' V Lb Ls : Nat} {qb qs : Nat → Nat} (ha : a + 40 ≤ 81) (gf : RNG N R f) (hV : V = VN f) (hV2 : V ≤ 180) (hb : QI (cn (f 1)) (nS f) (nW f) 0 qb Lb) (hs : QI (cn (f 1)) (nS f) (nW f) 1 qs Ls)
    (hF : sN (fun i => fN f V (qb i)) Lb = V) (hG : sN (fun i => fN f V (qs i)) Ls = V) (hF0 : ∀ i, i < Lb → sN (fun i => fN f V (qb i)) i < V → 0 < fN f V (qb i)) (hG0 : ∀ i, i < Ls → sN (fun i => fN f V (qs i)) i < V → 0 < fN f V (qs i)) (hLL : Lb + Ls ≤ 20) :
    ∀ n n' b s x y c l (μ κ : Mm), REL μ a (κ 260) → RNG N' R' (κ 260) → SM f κ → κ 260 9 = nI c → c ≤ b + s → b ≤ Lb → s ≤ Ls → (Lb - b) + (Ls - s) ≤ n → (Lb - b) + (Ls - s) ≤ n' →
      sN (fun i => fN f V (qb i)) b + x + l = V → sN (fun i => fN f V (qs i)) s + y + l = V → (x = 0 ∨ (b < Lb ∧ x < fN f V (qb b))) → (y = 0 ∨ (s < Ls ∧ y < fN f V (qs s))) →
      μ 81 8 = nI Lb → μ 81 9 = nI Ls → (∀ i, i < Lb → μ 85 i = nI (qb i)) → (∀ i, i < Ls → μ 87 i = nI (qs i)) → (∀ k, k < cn (f 1) → μ 83 k = nI (fN f V k)) →
      REL (PF (a + 16) (a + 29) n μ (nI b) (nI s) (nI x) (nI y)) a (TR n' κ (nI l) (nI b) (nI s) (nI x) (nI y) 260) ∧ RNG N' R' (TR n' κ (nI l) (nI b) (nI s) (nI x) (nI y) 260) ∧ SM f (TR n' κ (nI l) (nI b) (nI s) (nI x) (nI y)) ∧ TRok n' κ (nI l) (nI b) (nI s) (nI x) (nI y) ∧
      (∀ p, p ≠ 260 → TR n' κ (nI l) (nI b) (nI s) (nI x) (nI y) p = κ p) ∧ (∀ p, p < a ∨ a + 40 ≤ p → PF (a + 16) (a + 29) n μ (nI b) (nI s) (nI x) (nI y) p = μ p) := by
  intro n
  induction n with
  | zero =>
    intro n' b s x y c l μ κ hR hN hS h9 hc hbL hsL hn hn' e1 e2 ex ey m8 m9 m85 m87 m83
    have hbe : b = Lb := by omega
    have hx : x = 0 := by
      rcases ex with z | z
      · exact z
      · omega
    have hl : l = 0 := by rw [hbe, hF] at e1; omega
    subst hl
    have hT : TR n' κ (nI 0) (nI b) (nI s) (nI x) (nI y) = κ := by cases n' <;> rfl
    have hO : TRok n' κ (nI 0) (nI b) (nI s) (nI x) (nI y) := by
      cases n' with
      | zero => exact (by decide : ¬ (0 : Int32) < nI 0)
      | succ n' => exact fun z => absurd z (by decide)
    rw [hT]
    exact ⟨hR, hN, hS, hO, fun _ _ => rfl, fun _ _ => rfl⟩
  | succ n ih =>
    intro n' b s x y c l μ κ hR hN hS h9 hc hbL hsL hn hn' e1 e2 ex ey m8 m9 m85 m87 m83
    have hcc := gf.c0
    by_cases cL : b < Lb ∧ s < Ls
    · obtain ⟨cb, cs⟩ := cL
      have Fb9 : fN f V (qb b) ≤ 9 := Nat.le_trans (Nat.min_le_right _ _) (nU_le gf (hb.1 b cb).1)
      have Fs9 : fN f V (qs s) ≤ 9 := Nat.le_trans (Nat.min_le_right _ _) (nU_le gf (hs.1 s cs).1)
      have hxF : x ≤ fN f V (qb b) := by omega
      have hyG : y ≤ fN f V (qs s) := by omega
      have tF : sN (fun i => fN f V (qb i)) b + fN f V (qb b) ≤ V := by
        have := sN_mono (g := fun i => fN f V (qb i)) (a := b + 1) (b := Lb) cb
        rw [hF] at this
        exact this
      have tG : sN (fun i => fN f V (qs i)) s + fN f V (qs s) ≤ V := by
        have := sN_mono (g := fun i => fN f V (qs i)) (a := s + 1) (b := Ls) cs
        rw [hG] at this
        exact this
      have sF : sN (fun i => fN f V (qb i)) (b + 1) = sN (fun i => fN f V (qb i)) b + fN f V (qb b) := rfl
      have sG : sN (fun i => fN f V (qs i)) (s + 1) = sN (fun i => fN f V (qs i)) s + fN f V (qs s) := rfl
      have r84 : R_get μ 84 20 (nI b) = nI (qb b) := by rw [R_get_nI (by omega) (by decide)]; exact m85 b cb
      have r86 : R_get μ 86 20 (nI s) = nI (qs s) := by rw [R_get_nI (by omega) (by decide)]; exact m87 s cs
      have qb20 := (hb.1 b cb).1
      have qs20 := (hs.1 s cs).1
      obtain ⟨p, hpe⟩ : ∃ p, p = fN f V (qb b) - x := ⟨_, rfl⟩
      obtain ⟨q, hqe⟩ : ∃ q, q = fN f V (qs s) - y := ⟨_, rfl⟩
      have hp : R_get μ 82 20 (R_get μ 84 20 (nI b)) - nI x = nI p := by rw [r84, R_get_nI (by omega) (by decide), m83 _ qb20, nI_subN hxF, hpe]
      have hq : R_get μ 82 20 (R_get μ 86 20 (nI s)) - nI y = nI q := by rw [r86, R_get_nI (by omega) (by decide), m83 _ qs20, nI_subN hyG, hqe]
      rw [PF_step m8 m9 cb cs (by omega) (by omega) hp hq (by omega) (by omega), r84, r86]
      have bn : (if p ≤ q then b + 1 else b) ≤ Lb := by split <;> omega
      have sn : (if q ≤ p then s + 1 else s) ≤ Ls := by split <;> omega
      have dn : b + s + 1 ≤ (if p ≤ q then b + 1 else b) + (if q ≤ p then s + 1 else s) := by split <;> split <;> omega
      have up1 : b ≤ (if p ≤ q then b + 1 else b) := by split <;> omega
      have up2' : s ≤ (if q ≤ p then s + 1 else s) := by split <;> omega
      by_cases l0 : l = 0
      · subst l0
        have hp0 : p = 0 := by omega
        have hq0 : q = 0 := by omega
        have hx0 : x = 0 := by
          rcases ex with z | z
          · exact z
          · omega
        have hy0 : y = 0 := by
          rcases ey with z | z
          · exact z
          · omega
        have hT : TR n' κ (nI 0) (nI b) (nI s) (nI x) (nI y) = κ := by cases n' <;> rfl
        have hO : TRok n' κ (nI 0) (nI b) (nI s) (nI x) (nI y) := by
          cases n' with
          | zero => exact (by decide : ¬ (0 : Int32) < nI 0)
          | succ n' => exact fun z => absurd z (by decide)
        rw [if_neg (show ¬ 0 < min p q by omega)]
        have hT2 : TR n' κ (nI 0) (nI (if p ≤ q then b + 1 else b)) (nI (if q ≤ p then s + 1 else s)) (nI (if p ≤ q then 0 else x + min p q)) (nI (if q ≤ p then 0 else y + min p q)) = κ := by cases n' <;> rfl
        have I := ih n' (if p ≤ q then b + 1 else b) (if q ≤ p then s + 1 else s) (if p ≤ q then 0 else x + min p q) (if q ≤ p then 0 else y + min p q) c 0 μ κ hR hN hS h9 (by omega) bn sn (by omega) (by omega)
          (by rw [if_pos (by omega), if_pos (by omega), sF]; omega) (by rw [if_pos (by omega), if_pos (by omega), sG]; omega) (Or.inl (if_pos (by omega))) (Or.inl (if_pos (by omega))) m8 m9 m85 m87 m83
        rw [hT2] at I
        rw [hT]
        exact ⟨I.1, I.2.1, I.2.2.1, hO, I.2.2.2.2.1, I.2.2.2.2.2⟩
      · have Fp : 0 < fN f V (qb b) := hF0 b cb (by omega)
        have Gp : 0 < fN f V (qs s) := hG0 s cs (by omega)
        have pp : 0 < p := by omega
        have qp : 0 < q := by omega
        obtain ⟨n', rfl⟩ : ∃ z, n' = z + 1 := ⟨n' - 1, by omega⟩
        have oa : OA f (κ 260) := hS.1
        have Qb := OA_QI oa gf hb
        have Qs := OA_QI oa gf hs
        have o0 : M_orderAt κ 0 (nI b) = nI (qb b) := orderAt_q hN Qb cb (by decide)
        have o1 : M_orderAt κ 1 (nI s) = nI (qs s) := orderAt_q hN Qs cs (by decide)
        have hp' : TR_mb κ (nI b) (nI x) = nI p := by
          unfold TR_mb
          rw [o0, fill_SM gf hN hS qb20, ← hV, nI_subN hxF, hpe]
        have hq' : TR_ms κ (nI s) (nI y) = nI q := by
          unfold TR_ms
          rw [o1, fill_SM gf hN hS qs20, ← hV, nI_subN hyG, hqe]
        obtain ⟨T1, T2⟩ := TR_step (n := n') (l := l) (by omega) (by omega) (by omega) hp' hq' o0 o1 (by omega) (by omega)
        rw [if_pos (show 0 < min p q by omega), T1]
        have hc20 : c < 20 := by omega
        have wa := wr_adds (u := nI (min p q)) hR hN (i := qb b) (j := qs s) (by rw [oa.2.1]; exact qb20) (by rw [oa.2.1]; exact qs20) hc20 h9
        have row := adds_row κ (nI (min p q)) (i := qb b) (j := qs s) (by omega) (by omega) hc20 h9
        have hS' : SM f (M_adds κ (nI (qb b)) (nI (qs s)) (nI (min p q))) := by
          refine ⟨oa.tr ⟨?_, ?_, fun z z1 z2 => ?_, fun t ht => ⟨?_, ?_⟩⟩, ?_, ?_⟩
          · rw [row, if_neg (by omega), if_neg (by omega), if_neg (by omega), if_neg (by omega), if_neg (by omega), if_neg (by omega)]
          · rw [row, if_neg (by omega), if_neg (by omega), if_neg (by omega), if_neg (by omega), if_neg (by omega), if_neg (by omega)]
          · rw [row, if_neg (by omega), if_neg (by omega), if_neg (by omega), if_neg (by omega), if_neg (by omega), if_neg (by omega)]
          · rw [row, if_neg (by omega), if_neg (by omega), if_neg (by omega), if_neg (by omega), if_neg (by omega), if_neg (by omega)]
          · rw [row, if_neg (by omega), if_neg (by omega), if_neg (by omega), if_neg (by omega), if_neg (by omega), if_neg (by omega)]
          · rw [adds_p (by decide)]; exact hS.2.1
          · rw [adds_p (by decide)]; exact hS.2.2
        have hap := append_at μ (a := a) (i := qb b) (j := qs s) (nI (min p q)) (by omega) (by omega) hc20 (hR.1.2.2.2.2.2.2.2.2.2.1.trans h9)
        have hout : ∀ z, z < a ∨ a + 40 ≤ z → S_append μ (a + 29) (a + 16) (nI (qb b)) (nI (qs s)) (nI (min p q)) z = μ z := fun z hz => by
          rw [hap, up2_k _ _ (by omega), up2_k _ _ (by omega), up2_k _ _ (by omega), up2_k _ _ (by omega), up2_k _ _ (by omega), up2_k _ _ (by omega)]
        have I := ih n' (if p ≤ q then b + 1 else b) (if q ≤ p then s + 1 else s) (if p ≤ q then 0 else x + min p q) (if q ≤ p then 0 else y + min p q) (c + 1) (l - min p q) (S_append μ (a + 29) (a + 16) (nI (qb b)) (nI (qs s)) (nI (min p q))) (M_adds κ (nI (qb b)) (nI (qs s)) (nI (min p q))) wa.1 wa.2 hS'
          (by rw [row, if_pos rfl]) (by omega) bn sn (by omega) (by omega)
          (by by_cases z : p ≤ q
              · rw [if_pos z, if_pos z, sF]; omega
              · rw [if_neg z, if_neg z]; omega)
          (by by_cases z : q ≤ p
              · rw [if_pos z, if_pos z, sG]; omega
              · rw [if_neg z, if_neg z]; omega)
          (by by_cases z : p ≤ q
              · exact Or.inl (if_pos z)
              · rw [if_neg z, if_neg z]; exact Or.inr ⟨cb, by omega⟩)
          (by by_cases z : q ≤ p
              · exact Or.inl (if_pos z)
              · rw [if_neg z, if_neg z]; exact Or.inr ⟨cs, by omega⟩)
          (by rw [hout 81 (by omega)]; exact m8) (by rw [hout 81 (by omega)]; exact m9) (fun i hi => by rw [hout 85 (by omega)]; exact m85 i hi) (fun i hi => by rw [hout 87 (by omega)]; exact m87 i hi) (fun k hk => by rw [hout 83 (by omega)]; exact m83 k hk)
        refine ⟨I.1, I.2.1, I.2.2.1, T2 (by rw [h9]; exact vp_in_nI hc20 (by decide)) I.2.2.2.1, fun z hz => (I.2.2.2.2.1 z hz).trans (adds_p hz), fun z hz => (I.2.2.2.2.2 z hz).trans (hout z hz)⟩
    · rw [PF_stop m8 m9 (by omega) (by omega) (by omega) (by omega) cL]
      have hl : l = 0 := by
        by_cases z : b < Lb
        · have hse : s = Ls := by omega
          have hy : y = 0 := by
            rcases ey with w | w
            · exact w
            · omega
          rw [hse, hG] at e2
          omega
        · have hbe : b = Lb := by omega
          have hx : x = 0 := by
            rcases ex with w | w
            · exact w
            · omega
          rw [hbe, hF] at e1
          omega
      subst hl
      have hT : TR n' κ (nI 0) (nI b) (nI s) (nI x) (nI y) = κ := by cases n' <;> rfl
      have hO : TRok n' κ (nI 0) (nI b) (nI s) (nI x) (nI y) := by
        cases n' with
        | zero => exact (by decide : ¬ (0 : Int32) < nI 0)
        | succ n' => exact fun z => absurd z (by decide)
      rw [hT]
      exact ⟨hR, hN, hS, hO, fun _ _ => rfl, fun _ _ => rfl⟩
end
