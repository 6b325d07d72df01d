noncomputable section
/-! the auction at a: traders a+1, orders a+16, trades a+29; split 3, life 4, round 5, placed 6, traded 7, surplus 8, lastPrice 9, expired 10 -/
def wI (x a b : Int32) : Int32 := if x < a then 0 else if b < x then 0 else 1
def A_faultOfJoin (μ : Mm) (a : Nat) (sd v : Int32) : Int32 := if wI sd 0 1 = 0 then 2 else if wI v 1 99 = 0 then 2 else if μ (a + 1) 0 < 8 then 0 else 3
def A_faultOfValue (μ : Mm) (a : Nat) (t v : Int32) : Int32 := if T_has μ (a + 1) t = 0 then 1 else if wI v 1 99 = 0 then 2 else 0
def A_faultOfShade (μ : Mm) (a : Nat) (t k v : Int32) : Int32 := if T_has μ (a + 1) t = 0 then 1 else if wI k 0 3 = 0 then 2 else if wI v 0 50 = 0 then 2 else 0
def A_faultOfSetting (w v : Int32) : Int32 := if w = 0 then (if wI v 0 10 = 0 then 2 else 0) else if w = 1 then (if wI v 1 9 = 0 then 2 else 0) else 2
def A_faultOfOrder (μ : Mm) (a : Nat) (t pr u : Int32) : Int32 := if T_has μ (a + 1) t = 0 then 1 else if wI pr 1 120 = 0 then 2 else if wI u 1 9 = 0 then 2 else if O_full μ (a + 16) = 0 then 0 else 3
def A_faultOfRound (μ : Mm) (a : Nat) : Int32 := if μ a 5 < 9999 then 0 else 3
def A_change (μ : Mm) (a : Nat) (w : Int32) : Int32 := if w = 0 then μ a 3 else μ a 4
def A_changeM (μ : Mm) (a : Nat) (w v : Int32) : Mm := if w = 0 then up2 μ a 3 v else up2 μ a 4 v
def A_placeM (μ : Mm) (a : Nat) (t pr u : Int32) : Mm :=
  let μ1 := O_append μ (a + 16) (μ a 6) t (R_get μ (a + 1 + 1) 8 t) pr u (μ a 5)
  up2 μ1 a 6 (μ1 a 6 + 1)
def A_place (μ : Mm) (a : Nat) (t pr u : Int32) : Int32 := A_placeM μ a t pr u a 6 - 1
def E_step (a : Nat) (k : Nat) (μ : Mm) : Mm :=
  let tk := C_takenOf μ (a + 16) (nI k)
  let μ1 := T_book μ (a + 1) (nI k) tk (μ 81 2)
  T_learn μ1 (a + 1) (nI k) (O_unitsOf μ1 (a + 16) (nI k)) tk
def F_step (a : Nat) (k : Nat) (μ : Mm) : Mm := R_add μ (a + 16 + 9) 20 (nI k) (-(R_get μ 82 20 (nI k)))
def A_end1 (μ : Mm) (a : Nat) : Mm :=
  let μ1 := C_settle μ a
  let μ2 := C_pairOff μ1 (a + 16) (a + 29)
  let μ3 := up2 μ2 a 9 (μ2 81 2)
  let μ4 := up2 μ3 a 7 (μ3 a 7 + μ3 81 3)
  up2 μ4 a 8 (μ4 a 8 + μ4 81 4)
def A_end2 (μ : Mm) (a : Nat) (k : Nat) : Mm := itr (E_step a) (A_end1 μ a) k
def A_end3 (μ : Mm) (a : Nat) (k : Nat) : Mm := itr (F_step a) (A_end2 μ a (cn (A_end1 μ a (a + 1) 0))) k
def A_end4 (μ : Mm) (a : Nat) : Mm :=
  let μ1 := O_removeEmpty (A_end3 μ a (cn (A_end2 μ a (cn (A_end1 μ a (a + 1) 0)) (a + 16) 0))) (a + 16)
  up2 μ1 a 5 (μ1 a 5 + 1)
def A_endM0 (μ : Mm) (a : Nat) : Mm :=
  let μ1 := A_end4 μ a
  let μ2 := O_ruM μ1 (a + 16) (μ1 a 5 - μ1 a 4)
  up2 μ2 a 10 (μ1 a 10 + O_removeUpTo μ1 (a + 16) (μ1 a 5 - μ1 a 4))
def A_endM (μ : Mm) (a : Nat) : Mm := opq (A_endM0 μ a)
theorem A_endM_eq (μ : Mm) (a : Nat) : A_endM μ a = A_endM0 μ a := opq_eq _
def A_end (μ : Mm) (a : Nat) : Int32 := A_endM μ a 81 3
def A_traderValue (μ : Mm) (a : Nat) (t w : Int32) : Int32 :=
  if w = 0 then R_get μ (a + 1 + 1) 8 t else if w = 1 then R_get μ (a + 1 + 3) 8 t else if w = 2 then R_get μ (a + 1 + 5) 8 t else if w = 3 then R_get μ (a + 1 + 7) 8 t
  else if w = 4 then T_bidOf μ (a + 1) t else if w = 5 then O_countOf μ (a + 16) t else if w = 6 then O_unitsOf μ (a + 16) t else if w = 7 then R_get μ (a + 1 + 9) 8 t
  else if w = 8 then R_get μ (a + 1 + 11) 8 t else R_get μ (a + 1 + 13) 8 t
def A_wholeValue (μ : Mm) (a : Nat) (w : Int32) : Int32 :=
  if w = 0 then μ (a + 1) 0 else if w = 1 then μ (a + 16) 0 else if w = 2 then μ a 5 else if w = 3 then μ a 3 else if w = 4 then μ a 4 else if w = 5 then μ a 6
  else if w = 6 then μ a 7 else if w = 7 then μ a 8 else if w = 8 then μ a 9 else if w = 9 then μ (a + 29) 0 else μ a 10
def A_copy (μ : Mm) (a b : Nat) : Mm :=
  let μ1 := S_copy (O_copy (T_copy μ (a + 1) (b + 1)) (a + 16) (b + 16)) (a + 29) (b + 29)
  let μ2 := up2 μ1 a 3 (μ1 b 3)
  let μ3 := up2 μ2 a 4 (μ2 b 4)
  let μ4 := up2 μ3 a 5 (μ3 b 5)
  let μ5 := up2 μ4 a 6 (μ4 b 6)
  let μ6 := up2 μ5 a 7 (μ5 b 7)
  let μ7 := up2 μ6 a 8 (μ6 b 8)
  let μ8 := up2 μ7 a 9 (μ7 b 9)
  up2 μ8 a 10 (μ8 b 10)
/-! the undo stack at 92: count 0, oldest 1; four auctions from 94 on, 40 apart -/
def rmI (x y : Int32) : Int32 := x - x / y * y
def fmI (x y : Int32) : Int32 := if 0 ≤ x ^^^ y then rmI x y else if rmI x y = 0 then rmI x y else rmI x y + y
def U_place (μ : Mm) (h : Int32) : Int32 := fmI (μ 92 1 + h) 4
def U_at (μ : Mm) (h : Int32) : Nat := 94 + 40 * cn (U_place μ h)
def U_drop (μ : Mm) : Mm :=
  if μ 92 0 = 4 then
    let μ1 := up2 μ 92 1 (fmI (μ 92 1 + 1) 4)
    up2 μ1 92 0 (μ1 92 0 - 1)
  else μ
def U_push (μ : Mm) (b : Nat) : Mm :=
  let μ1 := U_drop μ
  let μ2 := A_copy μ1 (U_at μ1 (μ1 92 0)) b
  up2 μ2 92 0 (μ2 92 0 + 1)
def U_pop (μ : Mm) (b : Nat) : Mm :=
  if μ 92 0 = 0 then μ
  else
    let μ1 := up2 μ 92 0 (μ 92 0 - 1)
    A_copy μ1 b (U_at μ1 (μ1 92 0))
theorem xor4_neg (x : Int32) : x ^^^ 4 < 0 ↔ x < 0 := by
  have h : (x ^^^ 4).toBitVec.msb = x.toBitVec.msb := by
    rw [Int32.toBitVec_xor, BitVec.msb_xor]
    show (x.toBitVec.msb ^^ false) = x.toBitVec.msb
    simp
  rw [BitVec.msb_eq_toInt, BitVec.msb_eq_toInt] at h
  have h2 := decide_eq_decide.mp h
  rw [Int32.lt_iff_toInt_lt, Int32.lt_iff_toInt_lt]
  exact h2
theorem rm4 (x : Int32) : (rmI x 4).toInt = x.toInt.tmod 4 := by
  have b1 := x.toInt_lt
  have b2 := x.le_toInt
  have h2 := Int.tmod_lt_of_pos x.toInt (show (0 : Int) < 4 by decide)
  have h3 : -4 < x.toInt.tmod 4 := by
    have := Int.tmod_lt_of_pos (-x.toInt) (show (0 : Int) < 4 by decide)
    rw [Int.neg_tmod] at this
    omega
  have hd := Int.tmod_def x.toInt 4
  have hs : (0 ≤ x.toInt → 0 ≤ x.toInt.tmod 4) ∧ (x.toInt ≤ 0 → x.toInt.tmod 4 ≤ 0) := by
    refine ⟨fun h => Int.tmod_nonneg 4 h, fun h => ?_⟩
    have := Int.tmod_nonneg 4 (show 0 ≤ -x.toInt by omega)
    rw [Int.neg_tmod] at this
    omega
  obtain ⟨hs1, hs2⟩ := hs
  generalize hq : x.toInt.tdiv 4 = q at hd
  generalize hm : x.toInt.tmod 4 = r at h2 h3 hd hs1 hs2 ⊢
  have e1 : (x / 4).toInt = q := by
    rw [Int32.toInt_div]
    show (x.toInt.tdiv 4).bmod (2 ^ 32) = q
    rw [hq]
    exact Int.bmod_eq_of_le (by omega) (by omega)
  have e2 : (x / 4 * 4).toInt = q * 4 := by
    rw [Int32.toInt_mul, e1]
    show (q * 4).bmod (2 ^ 32) = q * 4
    exact Int.bmod_eq_of_le (by omega) (by omega)
  unfold rmI
  rw [Int32.toInt_sub, e2]
  rw [Int.bmod_eq_of_le (by omega) (by omega)]
  omega
theorem fm4_int (x : Int32) : 0 ≤ (fmI x 4).toInt ∧ (fmI x 4).toInt < 4 := by
  have h1 := rm4 x
  have h2 := Int.tmod_lt_of_pos x.toInt (show (0 : Int) < 4 by decide)
  have h3 : -4 < x.toInt.tmod 4 := by
    have := Int.tmod_lt_of_pos (-x.toInt) (show (0 : Int) < 4 by decide)
    rw [Int.neg_tmod] at this
    omega
  unfold fmI
  split
  · rename_i c
    have hx : 0 ≤ x.toInt := by
      have : ¬ x < 0 := fun h => Int32.not_lt.mpr c ((xor4_neg x).mpr h)
      have := Int32.not_lt.mp this
      exact Int32.le_iff_toInt_le.mp this
    have := Int.tmod_nonneg 4 hx
    rw [h1]
    omega
  · rename_i c
    have hx : x.toInt < 0 := by
      have := (xor4_neg x).mp (Int32.not_le.mp c)
      exact Int32.lt_iff_toInt_lt.mp this
    have h4 : x.toInt.tmod 4 ≤ 0 := by
      have := Int.tmod_nonneg 4 (show 0 ≤ -x.toInt by omega)
      rw [Int.neg_tmod] at this
      omega
    split
    · rename_i c0
      rw [c0]
      decide
    · rename_i c0
      have h5 : (rmI x 4).toInt ≠ 0 := fun h => c0 (Int32.toInt_inj.mp (h.trans rfl))
      have h6 : (rmI x 4 + 4).toInt = (rmI x 4).toInt + 4 := by
        rw [Int32.toInt_add]
        show ((rmI x 4).toInt + 4).bmod (2 ^ 32) = _
        rw [h1]
        exact Int.bmod_eq_of_le (by omega) (by omega)
      rw [h6, h1]
      rw [h1] at h5
      omega
theorem fm4_in (x : Int32) : vp_in (fmI x 4) 4 := vp_in_iff.mpr (fm4_int x)
theorem fm4_cn (x : Int32) : cn (fmI x 4) < 4 := by
  have := fm4_int x
  unfold cn
  rw [Int32.toNatClampNeg]
  omega
theorem isA_p (x : Int32) : isA (94 + 40 * cn (fmI x 4)) := by
  have h := fm4_cn x
  generalize cn (fmI x 4) = j at h
  match j, h with
  | 0, _ => exact isA_94
  | 1, _ => exact isA_134
  | 2, _ => exact isA_174
  | 3, _ => exact isA_214
  | n + 4, h => exact absurd h (by omega)
/-! what a clearing leaves as it was -/
theorem g_key {M : Mm} {x : Nat → Int32} {k' : Nat} (h : k' ≠ 81) {a b d : Int32} {v : Int32} (h1 : M k' = x) : (if a = b then if 0 < d then up2 M 81 1 v else M else M) k' = x := by
  split
  · split
    · rw [up2_k _ _ h, h1]
    · exact h1
  · exact h1
theorem G_ne {s0 : Mm × Int32 × Int32} {k' : Nat} (h : k' ≠ 81) (k : Nat) : (itr G_step s0 k).1 k' = s0.1 k' := by
  refine itr_inv (fun _ (s : Mm × Int32 × Int32) => s.1 k' = s0.1 k') rfl (fun k s hs => ?_) k
  show (G_step k s).1 k' = s0.1 k'
  have h1 : (if s.1 81 3 < mnI (s.2.1 - R_get s.1 88 121 (nI (k + 1) - 1)) (s.2.2 + R_get s.1 90 121 (nI (k + 1))) then up2 (up2 s.1 81 3 (mnI (s.2.1 - R_get s.1 88 121 (nI (k + 1) - 1)) (s.2.2 + R_get s.1 90 121 (nI (k + 1))))) 81 0 (nI (k + 1)) else s.1) k' = s0.1 k' := by
    split
    · rw [up2_k _ _ h, up2_k _ _ h, hs]
    · exact hs
  exact g_key h h1
theorem C_findRange_ne {μ : Mm} {o k' : Nat} (h0 : k' ≠ 81) (h1 : k' ≠ 89) (h2 : k' ≠ 91) : C_findRange μ o k' = μ k' := by
  unfold C_findRange C_rangeS
  rw [G_ne h0]
  show (up2 (up2 (up2 (C_tally μ o).1 81 3 0) 81 0 (-10000)) 81 1 (-10000)) k' = _
  rw [up2_k _ _ h0, up2_k _ _ h0, up2_k _ _ h0]
  exact P_ne h1 h2 _
theorem C_take_ne {μ : Mm} {q nq o k' : Nat} {len : Int32} (h : k' ≠ 83) : C_take μ q nq len o k' = μ k' := by
  unfold C_take
  refine itr_inv (fun _ (s : Mm × Int32) => s.1 k' = μ k') rfl (fun k s hs => ?_) _
  show (R_put s.1 82 20 _ _) k' = μ k'
  rw [R_put_ne _ h, hs]
theorem C_settle_ne {μ : Mm} {o k' : Nat} (h0 : k' ≠ 81) (h1 : k' ≠ 83) (h2 : k' ≠ 85) (h3 : k' ≠ 87) (h4 : k' ≠ 89) (h5 : k' ≠ 91) : C_settle μ o k' = μ k' := by
  rw [C_settle_eq]
  unfold C_settle0
  try dsimp only
  rw [up2_k _ _ h0, C_take_ne h1, C_take_ne h1, up2_k _ _ h0, C_findRange_ne h0 h4 h5, up2_k _ _ h0]
  unfold C_queueUp
  rw [Q_ne h3, up2_k _ _ h0, Q_ne h2]
theorem PF_ne {o t k' : Nat} (h0 : k' ≠ t) (h1 : k' ≠ t + 2) (h2 : k' ≠ t + 4) (h3 : k' ≠ t + 6) (h4 : k' ≠ t + 8) (h5 : k' ≠ t + 10) : ∀ (n : Nat) (μ : Mm) (b s x y : Int32), PF o t n μ b s x y k' = μ k'
  | 0, μ, _, _, _, _ => rfl
  | n + 1, μ, b, s, x, y => by
    unfold PF
    split
    · split
      · try dsimp only
        rw [PF_ne h0 h1 h2 h3 h4 h5 n]
        split
        · exact S_append_ne _ h0 h1 h2 h3 h4 h5
        · rfl
      · rfl
    · rfl
theorem C_pairOff_ne {μ : Mm} {o t k' : Nat} (h0 : k' ≠ t) (h1 : k' ≠ t + 2) (h2 : k' ≠ t + 4) (h3 : k' ≠ t + 6) (h4 : k' ≠ t + 8) (h5 : k' ≠ t + 10) : C_pairOff μ o t k' = μ k' := by
  unfold C_pairOff
  rw [PF_ne h0 h1 h2 h3 h4 h5, up2_k _ _ h0]
theorem A_end1_ne {μ : Mm} {a k' : Nat} (h0 : k' ≠ 81) (h1 : k' ≠ 83) (h2 : k' ≠ 85) (h3 : k' ≠ 87) (h4 : k' ≠ 89) (h5 : k' ≠ 91) (h6 : k' ≠ a) (h7 : k' ≠ a + 29) (h8 : k' ≠ a + 31) (h9 : k' ≠ a + 33) (h10 : k' ≠ a + 35) (h11 : k' ≠ a + 37) (h12 : k' ≠ a + 39) : A_end1 μ a k' = μ k' := by
  unfold A_end1
  try dsimp only
  rw [up2_k _ _ h6, up2_k _ _ h6, up2_k _ _ h6, C_pairOff_ne h7 h8 h9 h10 h11 h12, C_settle_ne h0 h1 h2 h3 h4 h5]
theorem T_learn_ne {μ : Mm} {o k' : Nat} {t x y : Int32} (h : k' ≠ o + 8) : T_learn μ o t x y k' = μ k' := by
  unfold T_learn
  split
  · split
    · rfl
    · split
      · exact R_put_ne _ h
      · split
        · exact R_put_ne _ h
        · rfl
  · rfl
theorem T_book_ne {μ : Mm} {o k' : Nat} {t u pr : Int32} (h1 : k' ≠ o + 10) (h2 : k' ≠ o + 12) (h3 : k' ≠ o + 14) : T_book μ o t u pr k' = μ k' := by
  unfold T_book
  try dsimp only
  rw [R_add_ne _ h3, R_add_ne _ h2, R_add_ne _ h1]
theorem E_ne {μ : Mm} {a k' : Nat} (h1 : k' ≠ a + 9) (h2 : k' ≠ a + 11) (h3 : k' ≠ a + 13) (h4 : k' ≠ a + 15) (k : Nat) : itr (E_step a) μ k k' = μ k' := by
  refine itr_inv (fun _ (s : Mm) => s k' = μ k') rfl (fun k s hs => ?_) k
  show (E_step a k s) k' = μ k'
  unfold E_step
  try dsimp only
  rw [T_learn_ne h1, T_book_ne h2 h3 h4, hs]
theorem F_ne {μ : Mm} {a k' : Nat} (h : k' ≠ a + 26) (k : Nat) : itr (F_step a) μ k k' = μ k' := by
  refine itr_inv (fun _ (s : Mm) => s k' = μ k') rfl (fun k s hs => ?_) k
  show (F_step a k s) k' = μ k'
  unfold F_step
  rw [R_add_ne _ h, hs]
theorem A_end3_cnt {μ : Mm} {a : Nat} (ho : isO (a + 16)) (k : Nat) : A_end3 μ a k (a + 16) 0 = μ (a + 16) 0 := by
  have q : ∀ b : Nat, sh b ≠ sh (a + 16) → a + 16 ≠ b := fun b h e => h (by rw [e])
  unfold A_end3 A_end2
  rw [F_ne (by omega), E_ne (by omega) (by omega) (by omega) (by omega), A_end1_ne _ _ _ _ _ _ (by omega) (by omega) (by omega) (by omega) (by omega) (by omega) (by omega)]
  · exact ne_2 ho.2.1 sh_81 (by decide)
  · exact ne_1 ho.2.1 isR_82.2.2.1
  · exact ne_1 ho.2.1 isR_84.2.2.1
  · exact ne_1 ho.2.1 isR_86.2.2.1
  · exact ne_1 ho.2.1 isR_88.2.2.1
  · exact ne_1 ho.2.1 isR_90.2.2.1
theorem pred_nn {x i : Int32} (h1 : ¬ i < 0) (h2 : i < x) : ¬ x - 1 < 0 := by
  obtain ⟨j, hj, rfl⟩ := nI_of h1
  have hx : ¬ x < 0 := fun h => by
    have h3 := Int32.lt_iff_toInt_lt.mp h
    have h4 := Int32.lt_iff_toInt_lt.mp h2
    rw [nI_toInt hj] at h4
    have : (0 : Int32).toInt = 0 := rfl
    omega
  obtain ⟨n, hn, rfl⟩ := nI_of hx
  have := nI_lt_of hn hj h2
  rw [show n = n - 1 + 1 by omega, nI_pred]
  exact nI_pos (by omega)
theorem O_removeAt_nn {μ : Mm} {o : Nat} {i : Int32} (h : ¬ μ o 0 < 0) : ¬ (O_removeAt μ o i) o 0 < 0 := by
  unfold O_removeAt
  split
  · exact h
  · rename_i c
    split
    · rename_i c2
      rw [up2_s, show O_remRows μ o (cn i) o = μ o from ?_]
      · exact pred_nn c c2
      · unfold O_remRows
        rw [R_rem_ne _ (by omega), R_rem_ne _ (by omega), R_rem_ne _ (by omega), R_rem_ne _ (by omega), R_rem_ne _ (by omega), R_rem_ne _ (by omega)]
    · exact h
theorem O_reL_nn {o : Nat} : ∀ (n : Nat) (μ : Mm), ¬ μ o 0 < 0 → ¬ (O_reL o n μ) o 0 < 0
  | 0, μ, h => h
  | n + 1, μ, h => by
    unfold O_reL
    refine O_reL_nn n _ ?_
    split
    · exact O_removeAt_nn h
    · exact h
theorem A_end4_nn {μ : Mm} {a : Nat} (ho : isO (a + 16)) (h : ¬ μ (a + 16) 0 < 0) : ¬ A_end4 μ a (a + 16) 0 < 0 := by
  unfold A_end4 O_removeEmpty
  try dsimp only
  rw [up2_k _ _ (by omega)]
  exact O_reL_nn _ _ (by rw [A_end3_cnt ho]; exact h)
theorem m_topr {p : Program} {l : Launch} {e : Env} {R : Room} {s : State} {m : MethodId} {args : Array Value} {below : List Frame} {meth : Method} {c : Code} {H : Heap} {locs : List Loc} {cells slots : Nat} {Q : State → Prop} {pc : Nat} {ls : Array Slot} {rest : List Value} {B x : Nat} (k : ∀ y : Nat, y = x → W p l e R s m args below meth c H locs cells slots Q (F0 m pc ls (.ref (B + y) :: rest))) : W p l e R s m args below meth c H locs cells slots Q (F0 m pc ls (.ref (B + x) :: rest)) := k x rfl
theorem fm4_nn (x : Int32) : ¬ fmI x 4 < 0 := fun h => by
  have h1 := Int32.lt_iff_toInt_lt.mp h
  have h2 := fm4_int x
  have : (0 : Int32).toInt = 0 := rfl
  omega
theorem fm4_lt (x : Int32) : ¬ nI 4 ≤ fmI x 4 := fun h => by
  have h1 := Int32.le_iff_toInt_le.mp h
  have h2 := fm4_int x
  have : (nI 4).toInt = 4 := rfl
  omega
theorem m_cSX {p : Program} {l : Launch} {e : Env} {R : Room} {s : State} {m : MethodId} {args : Array Value} {below : List Frame} {meth : Method} {c : Code} {H : Heap} {locs : List Loc} {cells slots : Nat} {Q : State → Prop}
    {cc : ByteArray} {pc : Nat} {ls : Array Slot} {rest : List Value} {G : GG} {B nL : Nat} {μ : Mm} {own : String} {c1 : Cond} {y : MethodName} {bytes : ByteArray} {maxL n index fr lo : Nat} {ret : Option FieldType} {v : Option Value} {μ' : Mm} {As st0 : List Value} (K : KK p m c cc nL s args c1 own G B) (hP : MP G B μ H) (hS : va_S (AA B) s.heap H locs)
    (hM : CM l y (.code y bytes maxL ret) fr lo G B As μ v μ')
    (q1 : Cond.methodLink own index y ∈ TBL) (q2 : Cond.static y ∈ TBL) (q4 : Cond.initialized y.cls ∈ TBL) (q5 : Cond.code y bytes maxL ret ∈ TBL)
    (hd : y.cls ≠ "java/lang/invoke/MethodHandle" ∧ y.cls ≠ "java/lang/invoke/VarHandle" ∧ (parseMethodDescriptor y.desc).map (fun d => d.parameters.length) = some n) (hR : fr + 1 ≤ R.frames ∧ 8 + (maxL + 11) + lo ≤ R.locals)
    (hn : As.length = n) (hsize : ls.size = nL) (hst : st0 = As.reverse ++ rest) (hW : (rest.map fun v => v.category).sum ≤ 8) (hdg : decode cc pc = .ok (.invokestatic index, 3)) (hf : cells ≤ R.cells ∧ slots ≤ R.slots)
    (kk : ∀ (H1 : Heap) (locs1 : List Loc), MP G B μ' H1 → va_S (AA B) s.heap H1 locs1 → W p l e R s m args below meth c H1 locs1 cells slots Q (F0 m (pc + 3) ls (v.toList ++ rest))) : W p l e R s m args below meth c H locs cells slots Q (F0 m pc ls st0) := by
  obtain ⟨hbl, hpre⟩ := m_pre hP hS K.2 As
  have hG : GoodIn (c1 :: TBL) (va_wsS own index y (.code y bytes maxL ret :: TBL)) := by
    intro w hw
    have h : w ∈ TBL := by
      rcases List.mem_append.mp (show w ∈ [Cond.methodLink own index y, .static y, .initialized y.cls] ++ (.code y bytes maxL ret :: TBL) from hw) with h | h
      · simp only [List.mem_cons, List.not_mem_nil, or_false] at h
        rcases h with rfl | rfl | rfl <;> assumption
      · rcases List.mem_cons.mp h with rfl | h
        · exact q5
        · exact h
    exact ⟨List.mem_cons_of_mem _ h, good_of_word (tb_good h)⟩
  exact m_back (va_runS (As := As) (rest := rest) K.1 hM (va_cwS n K.1.2.2.2.2 hG rfl rfl rfl hd hR) ⟨hbl, hpre⟩ rfl hn hsize hst (lv_room hW) hdg hf) hS kk
theorem ofWF {l : Launch} {y : MethodName} {ws ws' : List Cond} {rm : Room} {Pc : Array Value → State → Prop} {Qc : Array Value → State → Outcome → State → Prop} {mc ms : Nat} {free : Addr → Prop} {cc : ByteArray} {maxL : Nat} {ret : Option FieldType}
    (hy : plainFor y = true) (hw : ws = Cond.code y cc maxL ret :: ws')
    (body : ∀ p e s m args below meth c s₁, BodyLoose p l y (headSpec ws rm) cc maxL ret e s m args below meth c s₁ → c.maxLocals = maxL → Pc args s →
      W p l e (headSpec ws rm).room s m args below meth c s.heap [] 0 0 (MQ below Qc args s mc ms free) (entryFrame m args maxL)) : Met l y ws rm Pc Qc mc ms free := by
  refine MetFree.of_bodySF (code := cc) (maxLocals := maxL) (ret := ret) hy ?_ ?_
  · intro args s m h hn
    obtain ⟨meth, c, h1, h2, h3, h4, h5, h6, -, -⟩ := Cond.code_spec hn (atoms_spec (ws := ws) h _ (by rw [hw]; exact List.mem_cons_self))
    exact ⟨meth, c, h1, h2, h3, h4, h5, h6⟩
  · intro p e s m args below meth c s₁ B hml hP _
    have hh0 : s₁.heap = s.heap := by rw [B.state]; rfl
    obtain ⟨t, a1, o, b1, b2, b3⟩ := body p e s m args below meth c s₁ B hml hP s₁ hh0 (Stand.of_body B)
    exact ⟨t, o, a1, b1, b2, ⟨b3.1, b3.2⟩⟩
theorem CM.ofF {l : Launch} {G : GG} {B : Nat} {μ : Mm} {y : MethodName} {bytes : ByteArray} {maxL : Nat} {ret : Option FieldType} {fr lo : Nat} {av : List Value} {v : Option Value} {μ' : Mm} (hy : plainFor y = true) (hlen : (lg_sl av).length ≤ maxL)
    (body : ∀ (p : Program) (e : Env) (s : State) (m : MethodId) (below : List Frame) (meth : Method) (c : Code) (ls : Array Slot), KK p m c bytes maxL s av.toArray (.code y bytes maxL ret) y.cls G B → meth.sig.returnType = ret → meth.locks = false → MP G B μ s.heap → lv_has ls maxL (lv_args 0 av) →
      W p l e ({ frames := fr, cells := 0, slots := 0, locals := lo } : Room) s m av.toArray below meth c s.heap [] 0 0 (MF below G B v μ' av.toArray s) (F0 m 0 ls [])) : CM l y (.code y bytes maxL ret) fr lo G B av μ v μ' := by
  refine ofWF (cc := bytes) (maxL := maxL) (ret := ret) hy rfl ?_
  intro p e s m args below meth c s₁ Bd hml hv
  obtain ⟨rfl, hP, hK, hN⟩ := hv
  have hts := atoms_spec (ws := (.code y bytes maxL ret :: TBL)) Bd.pre
  have hown : s.vm.findClass y.cls = some m.cls := findClass_of_methodNamed Bd.named
  have hl := lv_entry av (n := maxL) hlen
  rw [lg_entry_eq]
  generalize (lg_sl av ++ List.replicate (maxL - (lg_sl av).length) Slot.unset).toArray = ls at hl ⊢
  exact body p e s m below meth c ls ⟨⟨Bd.exec, Bd.bytes, hml, hown, hts⟩, hK, hN⟩ Bd.returns Bd.notSynchronized hP hl
set_option maxHeartbeats 4000000 in
set_option maxRecDepth 100000 in
theorem MX10_isWithin (l : Launch) (G : GG) (B : Nat) (μ : Mm) (x : Int32) (lo : Int32) (hi : Int32) : CM l yX10_isWithin (.code yX10_isWithin cX10_isWithin 3 (Option.some FieldType.boolean)) 0 0 G B [.int x, .int lo, .int hi] μ (some (.int (wI x lo hi))) μ := by
  refine CM.of (by decide) (Nat.le_of_ble_eq_true rfl) ?_
  intro p e s m below meth c ls K hr hlocks hP hl
  have hS : va_S (AA B) s.heap s.heap [] := va_S.rf
  have hl : lv_has ls 3 [(0, .int x), (1, .int lo), (2, .int hi)] := hl
  refine lv_iload_n K.1.1 K.1.2.1 dX10_isWithin_0 rfl (lv_at hl 0 rfl) ?_
  refine lv_iload_n K.1.1 K.1.2.1 dX10_isWithin_1 rfl (lv_at hl 1 rfl) ?_
  refine lv_icmp_lt (tgt := 14) K.1.1 K.1.2.1 dX10_isWithin_2 (by decide) (fun c_2 => ?_) (fun c_2 => ?_)
  · refine lv_iconst (v := 0) K.1.1 K.1.2.1 dX10_isWithin_14 (by decide) ?_
    exact m_zret K hr hlocks hP hS dX10_isWithin_15 (by first | rfl | (skip; rfl)) (by skip; first | (simp only [wI, c_2, Int32.not_le.mpr c_2, if_true, if_false, ite_true, ite_false, reduceIte, not_true, not_false_iff]; done) | simp [wI, c_2, Int32.not_le.mpr c_2]) rfl
  · refine lv_iload_n K.1.1 K.1.2.1 dX10_isWithin_5 rfl (lv_at hl 0 rfl) ?_
    refine lv_iload_n K.1.1 K.1.2.1 dX10_isWithin_6 rfl (lv_at hl 2 rfl) ?_
    refine lv_icmp_gt (tgt := 14) K.1.1 K.1.2.1 dX10_isWithin_7 (by decide) (fun c_7 => ?_) (fun c_7 => ?_)
    · refine lv_iconst (v := 0) K.1.1 K.1.2.1 dX10_isWithin_14 (by decide) ?_
      exact m_zret K hr hlocks hP hS dX10_isWithin_15 (by first | rfl | (skip; rfl)) (by skip; first | (simp only [wI, c_2, Int32.not_lt.mp c_2, c_7, Int32.not_le.mpr c_7, if_true, if_false, ite_true, ite_false, reduceIte, not_true, not_false_iff]; done) | simp [wI, c_2, Int32.not_lt.mp c_2, c_7, Int32.not_le.mpr c_7]) rfl
    · refine lv_iconst (v := 1) K.1.1 K.1.2.1 dX10_isWithin_10 (by decide) ?_
      refine lv_goto (tgt := 15) K.1.1 K.1.2.1 dX10_isWithin_11 (by decide) ?_
      exact m_zret K hr hlocks hP hS dX10_isWithin_15 (by first | rfl | (skip; rfl)) (by skip; first | (simp only [wI, c_2, Int32.not_lt.mp c_2, c_7, Int32.not_lt.mp c_7, if_true, if_false, ite_true, ite_false, reduceIte, not_true, not_false_iff]; done) | simp [wI, c_2, Int32.not_lt.mp c_2, c_7, Int32.not_lt.mp c_7]) rfl

set_option maxHeartbeats 4000000 in
set_option maxRecDepth 100000 in
theorem MX1_faultOfJoin (l : Launch) (G : GG) (B : Nat) (μ : Mm) (o : Nat) (ho : isA o) (sd : Int32) (v : Int32) : CM l yX1_faultOfJoin (.code yX1_faultOfJoin cX1_faultOfJoin 3 (Option.some FieldType.int)) 1 22 G B [.ref (B + o), .int sd, .int v] μ (some (.int (A_faultOfJoin μ o sd v))) μ := by
  refine CM.of (by decide) (Nat.le_of_ble_eq_true rfl) ?_
  intro p e s m below meth c ls K hr hlocks hP hl
  have hS : va_S (AA B) s.heap s.heap [] := va_S.rf
  have hl : lv_has ls 3 [(0, .ref (B + o)), (1, .int sd), (2, .int v)] := hl
  refine lv_iload_n K.1.1 K.1.2.1 dX1_faultOfJoin_0 rfl (lv_at hl 1 rfl) ?_
  refine lv_iconst (v := 0) K.1.1 K.1.2.1 dX1_faultOfJoin_1 (by decide) ?_
  refine lv_iconst (v := 1) K.1.1 K.1.2.1 dX1_faultOfJoin_2 (by decide) ?_
  refine m_cSN (n := 3) (As := [.int sd, .int 0, .int 1]) (rest := []) K hP hS (MX10_isWithin l G B _ sd 0 1 ) K.2.2.1.1 q_330 q_15 q_331 hn_X10_isWithin ⟨Nat.le_of_ble_eq_true rfl, Nat.le_of_ble_eq_true rfl⟩ rfl hl.1 rfl (Nat.le_of_ble_eq_true rfl) dX1_faultOfJoin_3 ⟨Nat.zero_le _, Nat.zero_le _⟩ (fun H locs hP hS => ?_)
  refine lv_topi (fun r_1 er_1 => ?_)
  refine lv_if_eq (tgt := 19) K.1.1 K.1.2.1 dX1_faultOfJoin_6 (by decide) (fun c_6 => ?_) (fun c_6 => ?_)
  · refine lv_iconst (v := 2) K.1.1 K.1.2.1 dX1_faultOfJoin_19 (by decide) ?_
    exact m_iret K hr hlocks hP hS dX1_faultOfJoin_20 (by subst er_1; first | (simp only [A_faultOfJoin, c_6, if_true, if_false, ite_true, ite_false, reduceIte, not_true, not_false_iff]; done) | simp [A_faultOfJoin, c_6]) rfl
  · refine lv_iload_n K.1.1 K.1.2.1 dX1_faultOfJoin_9 rfl (lv_at hl 2 rfl) ?_
    refine lv_iconst (v := 1) K.1.1 K.1.2.1 dX1_faultOfJoin_10 (by decide) ?_
    refine lv_bipush (v := 99) K.1.1 K.1.2.1 dX1_faultOfJoin_11 (by decide) ?_
    refine m_cSN (n := 3) (As := [.int v, .int 1, .int 99]) (rest := []) K hP hS (MX10_isWithin l G B _ v 1 99 ) K.2.2.1.1 q_330 q_15 q_331 hn_X10_isWithin ⟨Nat.le_of_ble_eq_true rfl, Nat.le_of_ble_eq_true rfl⟩ rfl hl.1 rfl (Nat.le_of_ble_eq_true rfl) dX1_faultOfJoin_13 ⟨Nat.zero_le _, Nat.zero_le _⟩ (fun H locs hP hS => ?_)
    refine lv_topi (fun r_2 er_2 => ?_)
    refine lv_if_ne (tgt := 21) K.1.1 K.1.2.1 dX1_faultOfJoin_16 (by decide) (fun c_16 => ?_) (fun c_16 => ?_)
    · refine lv_aload_n K.1.1 K.1.2.1 dX1_faultOfJoin_21 rfl (lv_at hl 0 rfl) ?_
      refine m_getr K hP ho.1 ho.2.1 rfl tuX1 0 (by decide) rfl q_169 dX1_faultOfJoin_22 ?_
      refine m_geti K hP ho.2.2.1.1 ho.2.2.1.2.1 rfl tuX6 0 (by decide) rfl q_63 dX1_faultOfJoin_25 ?_
      refine lv_topi (fun g_3 eg_3 => ?_)
      refine lv_bipush (v := 8) K.1.1 K.1.2.1 dX1_faultOfJoin_28 (by decide) ?_
      refine lv_icmp_lt (tgt := 37) K.1.1 K.1.2.1 dX1_faultOfJoin_30 (by decide) (fun c_30 => ?_) (fun c_30 => ?_)
      · refine lv_iconst (v := 0) K.1.1 K.1.2.1 dX1_faultOfJoin_37 (by decide) ?_
        exact m_iret K hr hlocks hP hS dX1_faultOfJoin_38 (by subst er_1 er_2 eg_3; first | (simp only [A_faultOfJoin, c_6, c_16, c_30, Int32.not_le.mpr c_30, if_true, if_false, ite_true, ite_false, reduceIte, not_true, not_false_iff]; done) | simp [A_faultOfJoin, c_6, c_16, c_30, Int32.not_le.mpr c_30]) rfl
      · refine lv_iconst (v := 3) K.1.1 K.1.2.1 dX1_faultOfJoin_33 (by decide) ?_
        refine lv_goto (tgt := 38) K.1.1 K.1.2.1 dX1_faultOfJoin_34 (by decide) ?_
        exact m_iret K hr hlocks hP hS dX1_faultOfJoin_38 (by subst er_1 er_2 eg_3; first | (simp only [A_faultOfJoin, c_6, c_16, c_30, Int32.not_lt.mp c_30, if_true, if_false, ite_true, ite_false, reduceIte, not_true, not_false_iff]; done) | simp [A_faultOfJoin, c_6, c_16, c_30, Int32.not_lt.mp c_30]) rfl
    · refine lv_iconst (v := 2) K.1.1 K.1.2.1 dX1_faultOfJoin_19 (by decide) ?_
      exact m_iret K hr hlocks hP hS dX1_faultOfJoin_20 (by subst er_1 er_2; first | (simp only [A_faultOfJoin, c_6, c_16, if_true, if_false, ite_true, ite_false, reduceIte, not_true, not_false_iff]; done) | simp [A_faultOfJoin, c_6, c_16]) rfl

set_option maxHeartbeats 4000000 in
set_option maxRecDepth 100000 in
theorem MX1_faultOfValue (l : Launch) (G : GG) (B : Nat) (μ : Mm) (o : Nat) (ho : isA o) (t : Int32) (v : Int32) : CM l yX1_faultOfValue (.code yX1_faultOfValue cX1_faultOfValue 3 (Option.some FieldType.int)) 1 22 G B [.ref (B + o), .int t, .int v] μ (some (.int (A_faultOfValue μ o t v))) μ := by
  refine CM.of (by decide) (Nat.le_of_ble_eq_true rfl) ?_
  intro p e s m below meth c ls K hr hlocks hP hl
  have hS : va_S (AA B) s.heap s.heap [] := va_S.rf
  have hl : lv_has ls 3 [(0, .ref (B + o)), (1, .int t), (2, .int v)] := hl
  refine lv_aload_n K.1.1 K.1.2.1 dX1_faultOfValue_0 rfl (lv_at hl 0 rfl) ?_
  refine m_getr K hP ho.1 ho.2.1 rfl tuX1 0 (by decide) rfl q_169 dX1_faultOfValue_1 ?_
  refine lv_iload_n K.1.1 K.1.2.1 dX1_faultOfValue_4 rfl (lv_at hl 1 rfl) ?_
  refine m_cV (n := 1) (As := [.int t]) (rest := []) K hP hS (MX6_has l G B _ (o + 1) ho.2.2.1 t ) ho.2.2.1.1 ho.2.2.1.2.1 rfl q_697 q_598 q_599 q_17 q_600 hv_X6_has ⟨Nat.le_of_ble_eq_true rfl, Nat.le_of_ble_eq_true rfl⟩ rfl hl.1 rfl (Nat.le_of_ble_eq_true rfl) dX1_faultOfValue_5 ⟨Nat.zero_le _, Nat.zero_le _⟩ (fun H locs hP hS => ?_)
  refine lv_topi (fun r_1 er_1 => ?_)
  refine lv_if_ne (tgt := 13) K.1.1 K.1.2.1 dX1_faultOfValue_8 (by decide) (fun c_8 => ?_) (fun c_8 => ?_)
  · refine lv_iload_n K.1.1 K.1.2.1 dX1_faultOfValue_13 rfl (lv_at hl 2 rfl) ?_
    refine lv_iconst (v := 1) K.1.1 K.1.2.1 dX1_faultOfValue_14 (by decide) ?_
    refine lv_bipush (v := 99) K.1.1 K.1.2.1 dX1_faultOfValue_15 (by decide) ?_
    refine m_cSN (n := 3) (As := [.int v, .int 1, .int 99]) (rest := []) K hP hS (MX10_isWithin l G B _ v 1 99 ) K.2.2.1.1 q_330 q_15 q_331 hn_X10_isWithin ⟨Nat.le_of_ble_eq_true rfl, Nat.le_of_ble_eq_true rfl⟩ rfl hl.1 rfl (Nat.le_of_ble_eq_true rfl) dX1_faultOfValue_17 ⟨Nat.zero_le _, Nat.zero_le _⟩ (fun H locs hP hS => ?_)
    refine lv_topi (fun r_2 er_2 => ?_)
    refine lv_if_eq (tgt := 27) K.1.1 K.1.2.1 dX1_faultOfValue_20 (by decide) (fun c_20 => ?_) (fun c_20 => ?_)
    · refine lv_iconst (v := 2) K.1.1 K.1.2.1 dX1_faultOfValue_27 (by decide) ?_
      exact m_iret K hr hlocks hP hS dX1_faultOfValue_28 (by subst er_1 er_2; first | (simp only [A_faultOfValue, c_8, c_20, if_true, if_false, ite_true, ite_false, reduceIte, not_true, not_false_iff]; done) | simp [A_faultOfValue, c_8, c_20]) rfl
    · refine lv_iconst (v := 0) K.1.1 K.1.2.1 dX1_faultOfValue_23 (by decide) ?_
      refine lv_goto (tgt := 28) K.1.1 K.1.2.1 dX1_faultOfValue_24 (by decide) ?_
      exact m_iret K hr hlocks hP hS dX1_faultOfValue_28 (by subst er_1 er_2; first | (simp only [A_faultOfValue, c_8, c_20, if_true, if_false, ite_true, ite_false, reduceIte, not_true, not_false_iff]; done) | simp [A_faultOfValue, c_8, c_20]) rfl
  · refine lv_iconst (v := 1) K.1.1 K.1.2.1 dX1_faultOfValue_11 (by decide) ?_
    exact m_iret K hr hlocks hP hS dX1_faultOfValue_12 (by subst er_1; first | (simp only [A_faultOfValue, c_8, if_true, if_false, ite_true, ite_false, reduceIte, not_true, not_false_iff]; done) | simp [A_faultOfValue, c_8]) rfl

set_option maxHeartbeats 4000000 in
set_option maxRecDepth 100000 in
theorem MX1_faultOfShade (l : Launch) (G : GG) (B : Nat) (μ : Mm) (o : Nat) (ho : isA o) (t : Int32) (k : Int32) (v : Int32) : CM l yX1_faultOfShade (.code yX1_faultOfShade cX1_faultOfShade 4 (Option.some FieldType.int)) 1 22 G B [.ref (B + o), .int t, .int k, .int v] μ (some (.int (A_faultOfShade μ o t k v))) μ := by
  refine CM.of (by decide) (Nat.le_of_ble_eq_true rfl) ?_
  intro p e s m below meth c ls K hr hlocks hP hl
  have hS : va_S (AA B) s.heap s.heap [] := va_S.rf
  have hl : lv_has ls 4 [(0, .ref (B + o)), (1, .int t), (2, .int k), (3, .int v)] := hl
  refine lv_aload_n K.1.1 K.1.2.1 dX1_faultOfShade_0 rfl (lv_at hl 0 rfl) ?_
  refine m_getr K hP ho.1 ho.2.1 rfl tuX1 0 (by decide) rfl q_169 dX1_faultOfShade_1 ?_
  refine lv_iload_n K.1.1 K.1.2.1 dX1_faultOfShade_4 rfl (lv_at hl 1 rfl) ?_
  refine m_cV (n := 1) (As := [.int t]) (rest := []) K hP hS (MX6_has l G B _ (o + 1) ho.2.2.1 t ) ho.2.2.1.1 ho.2.2.1.2.1 rfl q_697 q_598 q_599 q_17 q_600 hv_X6_has ⟨Nat.le_of_ble_eq_true rfl, Nat.le_of_ble_eq_true rfl⟩ rfl hl.1 rfl (Nat.le_of_ble_eq_true rfl) dX1_faultOfShade_5 ⟨Nat.zero_le _, Nat.zero_le _⟩ (fun H locs hP hS => ?_)
  refine lv_topi (fun r_1 er_1 => ?_)
  refine lv_if_ne (tgt := 13) K.1.1 K.1.2.1 dX1_faultOfShade_8 (by decide) (fun c_8 => ?_) (fun c_8 => ?_)
  · refine lv_iload_n K.1.1 K.1.2.1 dX1_faultOfShade_13 rfl (lv_at hl 2 rfl) ?_
    refine lv_iconst (v := 0) K.1.1 K.1.2.1 dX1_faultOfShade_14 (by decide) ?_
    refine lv_iconst (v := 3) K.1.1 K.1.2.1 dX1_faultOfShade_15 (by decide) ?_
    refine m_cSN (n := 3) (As := [.int k, .int 0, .int 3]) (rest := []) K hP hS (MX10_isWithin l G B _ k 0 3 ) K.2.2.1.1 q_330 q_15 q_331 hn_X10_isWithin ⟨Nat.le_of_ble_eq_true rfl, Nat.le_of_ble_eq_true rfl⟩ rfl hl.1 rfl (Nat.le_of_ble_eq_true rfl) dX1_faultOfShade_16 ⟨Nat.zero_le _, Nat.zero_le _⟩ (fun H locs hP hS => ?_)
    refine lv_topi (fun r_2 er_2 => ?_)
    refine lv_if_eq (tgt := 36) K.1.1 K.1.2.1 dX1_faultOfShade_19 (by decide) (fun c_19 => ?_) (fun c_19 => ?_)
    · refine lv_iconst (v := 2) K.1.1 K.1.2.1 dX1_faultOfShade_36 (by decide) ?_
      exact m_iret K hr hlocks hP hS dX1_faultOfShade_37 (by subst er_1 er_2; first | (simp only [A_faultOfShade, c_8, c_19, if_true, if_false, ite_true, ite_false, reduceIte, not_true, not_false_iff]; done) | simp [A_faultOfShade, c_8, c_19]) rfl
    · refine lv_iload_n K.1.1 K.1.2.1 dX1_faultOfShade_22 rfl (lv_at hl 3 rfl) ?_
      refine lv_iconst (v := 0) K.1.1 K.1.2.1 dX1_faultOfShade_23 (by decide) ?_
      refine lv_bipush (v := 50) K.1.1 K.1.2.1 dX1_faultOfShade_24 (by decide) ?_
      refine m_cSN (n := 3) (As := [.int v, .int 0, .int 50]) (rest := []) K hP hS (MX10_isWithin l G B _ v 0 50 ) K.2.2.1.1 q_330 q_15 q_331 hn_X10_isWithin ⟨Nat.le_of_ble_eq_true rfl, Nat.le_of_ble_eq_true rfl⟩ rfl hl.1 rfl (Nat.le_of_ble_eq_true rfl) dX1_faultOfShade_26 ⟨Nat.zero_le _, Nat.zero_le _⟩ (fun H locs hP hS => ?_)
      refine lv_topi (fun r_3 er_3 => ?_)
      refine lv_if_eq (tgt := 36) K.1.1 K.1.2.1 dX1_faultOfShade_29 (by decide) (fun c_29 => ?_) (fun c_29 => ?_)
      · refine lv_iconst (v := 2) K.1.1 K.1.2.1 dX1_faultOfShade_36 (by decide) ?_
        exact m_iret K hr hlocks hP hS dX1_faultOfShade_37 (by subst er_1 er_2 er_3; first | (simp only [A_faultOfShade, c_8, c_19, c_29, if_true, if_false, ite_true, ite_false, reduceIte, not_true, not_false_iff]; done) | simp [A_faultOfShade, c_8, c_19, c_29]) rfl
      · refine lv_iconst (v := 0) K.1.1 K.1.2.1 dX1_faultOfShade_32 (by decide) ?_
        refine lv_goto (tgt := 37) K.1.1 K.1.2.1 dX1_faultOfShade_33 (by decide) ?_
        exact m_iret K hr hlocks hP hS dX1_faultOfShade_37 (by subst er_1 er_2 er_3; first | (simp only [A_faultOfShade, c_8, c_19, c_29, if_true, if_false, ite_true, ite_false, reduceIte, not_true, not_false_iff]; done) | simp [A_faultOfShade, c_8, c_19, c_29]) rfl
  · refine lv_iconst (v := 1) K.1.1 K.1.2.1 dX1_faultOfShade_11 (by decide) ?_
    exact m_iret K hr hlocks hP hS dX1_faultOfShade_12 (by subst er_1; first | (simp only [A_faultOfShade, c_8, if_true, if_false, ite_true, ite_false, reduceIte, not_true, not_false_iff]; done) | simp [A_faultOfShade, c_8]) rfl

set_option maxHeartbeats 4000000 in
set_option maxRecDepth 100000 in
theorem MX1_faultOfSetting (l : Launch) (G : GG) (B : Nat) (μ : Mm) (o : Nat) (ho : isA o) (w : Int32) (v : Int32) : CM l yX1_faultOfSetting (.code yX1_faultOfSetting cX1_faultOfSetting 3 (Option.some FieldType.int)) 1 22 G B [.ref (B + o), .int w, .int v] μ (some (.int (A_faultOfSetting w v))) μ := by
  refine CM.of (by decide) (Nat.le_of_ble_eq_true rfl) ?_
  intro p e s m below meth c ls K hr hlocks hP hl
  have hS : va_S (AA B) s.heap s.heap [] := va_S.rf
  have hl : lv_has ls 3 [(0, .ref (B + o)), (1, .int w), (2, .int v)] := hl
  refine lv_iload_n K.1.1 K.1.2.1 dX1_faultOfSetting_0 rfl (lv_at hl 1 rfl) ?_
  refine lv_if_ne (tgt := 20) K.1.1 K.1.2.1 dX1_faultOfSetting_1 (by decide) (fun c_1 => ?_) (fun c_1 => ?_)
  · refine lv_iload_n K.1.1 K.1.2.1 dX1_faultOfSetting_20 rfl (lv_at hl 1 rfl) ?_
    refine lv_iconst (v := 1) K.1.1 K.1.2.1 dX1_faultOfSetting_21 (by decide) ?_
    refine lv_icmp_ne (tgt := 39) K.1.1 K.1.2.1 dX1_faultOfSetting_22 (by decide) (fun c_22 => ?_) (fun c_22 => ?_)
    · refine lv_iconst (v := 2) K.1.1 K.1.2.1 dX1_faultOfSetting_39 (by decide) ?_
      exact m_iret K hr hlocks hP hS dX1_faultOfSetting_40 (by skip; first | (simp only [A_faultOfSetting, c_1, c_22, if_true, if_false, ite_true, ite_false, reduceIte, not_true, not_false_iff]; done) | simp [A_faultOfSetting, c_1, c_22]) rfl
    · refine lv_iload_n K.1.1 K.1.2.1 dX1_faultOfSetting_25 rfl (lv_at hl 2 rfl) ?_
      refine lv_iconst (v := 1) K.1.1 K.1.2.1 dX1_faultOfSetting_26 (by decide) ?_
      refine lv_bipush (v := 9) K.1.1 K.1.2.1 dX1_faultOfSetting_27 (by decide) ?_
      refine m_cSN (n := 3) (As := [.int v, .int 1, .int 9]) (rest := []) K hP hS (MX10_isWithin l G B _ v 1 9 ) K.2.2.1.1 q_330 q_15 q_331 hn_X10_isWithin ⟨Nat.le_of_ble_eq_true rfl, Nat.le_of_ble_eq_true rfl⟩ rfl hl.1 rfl (Nat.le_of_ble_eq_true rfl) dX1_faultOfSetting_29 ⟨Nat.zero_le _, Nat.zero_le _⟩ (fun H locs hP hS => ?_)
      refine lv_topi (fun r_1 er_1 => ?_)
      refine lv_if_eq (tgt := 39) K.1.1 K.1.2.1 dX1_faultOfSetting_32 (by decide) (fun c_32 => ?_) (fun c_32 => ?_)
      · refine lv_iconst (v := 2) K.1.1 K.1.2.1 dX1_faultOfSetting_39 (by decide) ?_
        exact m_iret K hr hlocks hP hS dX1_faultOfSetting_40 (by subst er_1; first | (simp only [A_faultOfSetting, c_1, c_22, c_32, if_true, if_false, ite_true, ite_false, reduceIte, not_true, not_false_iff]; done) | simp [A_faultOfSetting, c_1, c_22, c_32]) rfl
      · refine lv_iconst (v := 0) K.1.1 K.1.2.1 dX1_faultOfSetting_35 (by decide) ?_
        refine lv_goto (tgt := 40) K.1.1 K.1.2.1 dX1_faultOfSetting_36 (by decide) ?_
        exact m_iret K hr hlocks hP hS dX1_faultOfSetting_40 (by subst er_1; first | (simp only [A_faultOfSetting, c_1, c_22, c_32, if_true, if_false, ite_true, ite_false, reduceIte, not_true, not_false_iff]; done) | simp [A_faultOfSetting, c_1, c_22, c_32]) rfl
  · refine lv_iload_n K.1.1 K.1.2.1 dX1_faultOfSetting_4 rfl (lv_at hl 2 rfl) ?_
    refine lv_iconst (v := 0) K.1.1 K.1.2.1 dX1_faultOfSetting_5 (by decide) ?_
    refine lv_bipush (v := 10) K.1.1 K.1.2.1 dX1_faultOfSetting_6 (by decide) ?_
    refine m_cSN (n := 3) (As := [.int v, .int 0, .int 10]) (rest := []) K hP hS (MX10_isWithin l G B _ v 0 10 ) K.2.2.1.1 q_330 q_15 q_331 hn_X10_isWithin ⟨Nat.le_of_ble_eq_true rfl, Nat.le_of_ble_eq_true rfl⟩ rfl hl.1 rfl (Nat.le_of_ble_eq_true rfl) dX1_faultOfSetting_8 ⟨Nat.zero_le _, Nat.zero_le _⟩ (fun H locs hP hS => ?_)
    refine lv_topi (fun r_2 er_2 => ?_)
    refine lv_if_eq (tgt := 18) K.1.1 K.1.2.1 dX1_faultOfSetting_11 (by decide) (fun c_11 => ?_) (fun c_11 => ?_)
    · refine lv_iconst (v := 2) K.1.1 K.1.2.1 dX1_faultOfSetting_18 (by decide) ?_
      exact m_iret K hr hlocks hP hS dX1_faultOfSetting_19 (by subst er_2; first | (simp only [A_faultOfSetting, c_1, c_11, if_true, if_false, ite_true, ite_false, reduceIte, not_true, not_false_iff]; done) | simp [A_faultOfSetting, c_1, c_11]) rfl
    · refine lv_iconst (v := 0) K.1.1 K.1.2.1 dX1_faultOfSetting_14 (by decide) ?_
      refine lv_goto (tgt := 19) K.1.1 K.1.2.1 dX1_faultOfSetting_15 (by decide) ?_
      exact m_iret K hr hlocks hP hS dX1_faultOfSetting_19 (by subst er_2; first | (simp only [A_faultOfSetting, c_1, c_11, if_true, if_false, ite_true, ite_false, reduceIte, not_true, not_false_iff]; done) | simp [A_faultOfSetting, c_1, c_11]) rfl

set_option maxHeartbeats 4000000 in
set_option maxRecDepth 100000 in
theorem MX1_faultOfOrder (l : Launch) (G : GG) (B : Nat) (μ : Mm) (o : Nat) (ho : isA o) (t : Int32) (pr : Int32) (u : Int32) : CM l yX1_faultOfOrder (.code yX1_faultOfOrder cX1_faultOfOrder 4 (Option.some FieldType.int)) 1 22 G B [.ref (B + o), .int t, .int pr, .int u] μ (some (.int (A_faultOfOrder μ o t pr u))) μ := by
  refine CM.of (by decide) (Nat.le_of_ble_eq_true rfl) ?_
  intro p e s m below meth c ls K hr hlocks hP hl
  have hS : va_S (AA B) s.heap s.heap [] := va_S.rf
  have hl : lv_has ls 4 [(0, .ref (B + o)), (1, .int t), (2, .int pr), (3, .int u)] := hl
  refine lv_aload_n K.1.1 K.1.2.1 dX1_faultOfOrder_0 rfl (lv_at hl 0 rfl) ?_
  refine m_getr K hP ho.1 ho.2.1 rfl tuX1 0 (by decide) rfl q_169 dX1_faultOfOrder_1 ?_
  refine lv_iload_n K.1.1 K.1.2.1 dX1_faultOfOrder_4 rfl (lv_at hl 1 rfl) ?_
  refine m_cV (n := 1) (As := [.int t]) (rest := []) K hP hS (MX6_has l G B _ (o + 1) ho.2.2.1 t ) ho.2.2.1.1 ho.2.2.1.2.1 rfl q_697 q_598 q_599 q_17 q_600 hv_X6_has ⟨Nat.le_of_ble_eq_true rfl, Nat.le_of_ble_eq_true rfl⟩ rfl hl.1 rfl (Nat.le_of_ble_eq_true rfl) dX1_faultOfOrder_5 ⟨Nat.zero_le _, Nat.zero_le _⟩ (fun H locs hP hS => ?_)
  refine lv_topi (fun r_1 er_1 => ?_)
  refine lv_if_ne (tgt := 13) K.1.1 K.1.2.1 dX1_faultOfOrder_8 (by decide) (fun c_8 => ?_) (fun c_8 => ?_)
  · refine lv_iload_n K.1.1 K.1.2.1 dX1_faultOfOrder_13 rfl (lv_at hl 2 rfl) ?_
    refine lv_iconst (v := 1) K.1.1 K.1.2.1 dX1_faultOfOrder_14 (by decide) ?_
    refine lv_bipush (v := 120) K.1.1 K.1.2.1 dX1_faultOfOrder_15 (by decide) ?_
    refine m_cSN (n := 3) (As := [.int pr, .int 1, .int 120]) (rest := []) K hP hS (MX10_isWithin l G B _ pr 1 120 ) K.2.2.1.1 q_330 q_15 q_331 hn_X10_isWithin ⟨Nat.le_of_ble_eq_true rfl, Nat.le_of_ble_eq_true rfl⟩ rfl hl.1 rfl (Nat.le_of_ble_eq_true rfl) dX1_faultOfOrder_17 ⟨Nat.zero_le _, Nat.zero_le _⟩ (fun H locs hP hS => ?_)
    refine lv_topi (fun r_2 er_2 => ?_)
    refine lv_if_eq (tgt := 33) K.1.1 K.1.2.1 dX1_faultOfOrder_20 (by decide) (fun c_20 => ?_) (fun c_20 => ?_)
    · refine lv_iconst (v := 2) K.1.1 K.1.2.1 dX1_faultOfOrder_33 (by decide) ?_
      exact m_iret K hr hlocks hP hS dX1_faultOfOrder_34 (by subst er_1 er_2; first | (simp only [A_faultOfOrder, c_8, c_20, if_true, if_false, ite_true, ite_false, reduceIte, not_true, not_false_iff]; done) | simp [A_faultOfOrder, c_8, c_20]) rfl
    · refine lv_iload_n K.1.1 K.1.2.1 dX1_faultOfOrder_23 rfl (lv_at hl 3 rfl) ?_
      refine lv_iconst (v := 1) K.1.1 K.1.2.1 dX1_faultOfOrder_24 (by decide) ?_
      refine lv_bipush (v := 9) K.1.1 K.1.2.1 dX1_faultOfOrder_25 (by decide) ?_
      refine m_cSN (n := 3) (As := [.int u, .int 1, .int 9]) (rest := []) K hP hS (MX10_isWithin l G B _ u 1 9 ) K.2.2.1.1 q_330 q_15 q_331 hn_X10_isWithin ⟨Nat.le_of_ble_eq_true rfl, Nat.le_of_ble_eq_true rfl⟩ rfl hl.1 rfl (Nat.le_of_ble_eq_true rfl) dX1_faultOfOrder_27 ⟨Nat.zero_le _, Nat.zero_le _⟩ (fun H locs hP hS => ?_)
      refine lv_topi (fun r_3 er_3 => ?_)
      refine lv_if_ne (tgt := 35) K.1.1 K.1.2.1 dX1_faultOfOrder_30 (by decide) (fun c_30 => ?_) (fun c_30 => ?_)
      · refine lv_aload_n K.1.1 K.1.2.1 dX1_faultOfOrder_35 rfl (lv_at hl 0 rfl) ?_
        refine m_getr K hP ho.1 ho.2.1 rfl tuX1 1 (by decide) rfl q_172 dX1_faultOfOrder_36 ?_
        refine m_cV (n := 0) (As := []) (rest := []) K hP hS (MX4_isFull l G B _ (o + 16) ho.2.2.2.1 ) ho.2.2.2.1.1 ho.2.2.2.1.2.1 rfl q_733 q_734 q_735 q_19 q_736 hv_X4_isFull ⟨Nat.le_of_ble_eq_true rfl, Nat.le_of_ble_eq_true rfl⟩ rfl hl.1 rfl (Nat.le_of_ble_eq_true rfl) dX1_faultOfOrder_39 ⟨Nat.zero_le _, Nat.zero_le _⟩ (fun H locs hP hS => ?_)
        refine lv_topi (fun r_4 er_4 => ?_)
        refine lv_if_eq (tgt := 49) K.1.1 K.1.2.1 dX1_faultOfOrder_42 (by decide) (fun c_42 => ?_) (fun c_42 => ?_)
        · refine lv_iconst (v := 0) K.1.1 K.1.2.1 dX1_faultOfOrder_49 (by decide) ?_
          exact m_iret K hr hlocks hP hS dX1_faultOfOrder_50 (by subst er_1 er_2 er_3 er_4; first | (simp only [A_faultOfOrder, c_8, c_20, c_30, c_42, if_true, if_false, ite_true, ite_false, reduceIte, not_true, not_false_iff]; done) | simp [A_faultOfOrder, c_8, c_20, c_30, c_42]) rfl
        · refine lv_iconst (v := 3) K.1.1 K.1.2.1 dX1_faultOfOrder_45 (by decide) ?_
          refine lv_goto (tgt := 50) K.1.1 K.1.2.1 dX1_faultOfOrder_46 (by decide) ?_
          exact m_iret K hr hlocks hP hS dX1_faultOfOrder_50 (by subst er_1 er_2 er_3 er_4; first | (simp only [A_faultOfOrder, c_8, c_20, c_30, c_42, if_true, if_false, ite_true, ite_false, reduceIte, not_true, not_false_iff]; done) | simp [A_faultOfOrder, c_8, c_20, c_30, c_42]) rfl
      · refine lv_iconst (v := 2) K.1.1 K.1.2.1 dX1_faultOfOrder_33 (by decide) ?_
        exact m_iret K hr hlocks hP hS dX1_faultOfOrder_34 (by subst er_1 er_2 er_3; first | (simp only [A_faultOfOrder, c_8, c_20, c_30, if_true, if_false, ite_true, ite_false, reduceIte, not_true, not_false_iff]; done) | simp [A_faultOfOrder, c_8, c_20, c_30]) rfl
  · refine lv_iconst (v := 1) K.1.1 K.1.2.1 dX1_faultOfOrder_11 (by decide) ?_
    exact m_iret K hr hlocks hP hS dX1_faultOfOrder_12 (by subst er_1; first | (simp only [A_faultOfOrder, c_8, if_true, if_false, ite_true, ite_false, reduceIte, not_true, not_false_iff]; done) | simp [A_faultOfOrder, c_8]) rfl

set_option maxHeartbeats 4000000 in
set_option maxRecDepth 100000 in
theorem MX1_faultOfBid (l : Launch) (G : GG) (B : Nat) (μ : Mm) (o : Nat) (ho : isA o) (t : Int32) (u : Int32) : CM l yX1_faultOfBid (.code yX1_faultOfBid cX1_faultOfBid 3 (Option.some FieldType.int)) 2 45 G B [.ref (B + o), .int t, .int u] μ (some (.int (A_faultOfOrder μ o t 1 u))) μ := by
  refine CM.of (by decide) (Nat.le_of_ble_eq_true rfl) ?_
  intro p e s m below meth c ls K hr hlocks hP hl
  have hS : va_S (AA B) s.heap s.heap [] := va_S.rf
  have hl : lv_has ls 3 [(0, .ref (B + o)), (1, .int t), (2, .int u)] := hl
  refine lv_aload_n K.1.1 K.1.2.1 dX1_faultOfBid_0 rfl (lv_at hl 0 rfl) ?_
  refine lv_iload_n K.1.1 K.1.2.1 dX1_faultOfBid_1 rfl (lv_at hl 1 rfl) ?_
  refine lv_iconst (v := 1) K.1.1 K.1.2.1 dX1_faultOfBid_2 (by decide) ?_
  refine lv_iload_n K.1.1 K.1.2.1 dX1_faultOfBid_3 rfl (lv_at hl 2 rfl) ?_
  refine m_cV (n := 3) (As := [.int t, .int 1, .int u]) (rest := []) K hP hS (MX1_faultOfOrder l G B _ o ho t 1 u ) ho.1 ho.2.1 rfl q_729 q_730 q_731 q_16 q_732 hv_X1_faultOfOrder ⟨Nat.le_of_ble_eq_true rfl, Nat.le_of_ble_eq_true rfl⟩ rfl hl.1 rfl (Nat.le_of_ble_eq_true rfl) dX1_faultOfBid_4 ⟨Nat.zero_le _, Nat.zero_le _⟩ (fun H locs hP hS => ?_)
  refine lv_topi (fun r_1 er_1 => ?_)
  exact m_iret K hr hlocks hP hS dX1_faultOfBid_7 (by subst er_1; rfl) rfl

set_option maxHeartbeats 4000000 in
set_option maxRecDepth 100000 in
theorem MX1_faultOfRound (l : Launch) (G : GG) (B : Nat) (μ : Mm) (o : Nat) (ho : isA o) : CM l yX1_faultOfRound (.code yX1_faultOfRound cX1_faultOfRound 1 (Option.some FieldType.int)) 0 0 G B [.ref (B + o)] μ (some (.int (A_faultOfRound μ o))) μ := by
  refine CM.of (by decide) (Nat.le_of_ble_eq_true rfl) ?_
  intro p e s m below meth c ls K hr hlocks hP hl
  have hS : va_S (AA B) s.heap s.heap [] := va_S.rf
  have hl : lv_has ls 1 [(0, .ref (B + o))] := hl
  refine lv_aload_n K.1.1 K.1.2.1 dX1_faultOfRound_0 rfl (lv_at hl 0 rfl) ?_
  refine m_geti K hP ho.1 ho.2.1 rfl tuX1 5 (by decide) rfl q_180 dX1_faultOfRound_1 ?_
  refine lv_topi (fun g_1 eg_1 => ?_)
  refine lv_sipush (v := 9999) K.1.1 K.1.2.1 dX1_faultOfRound_4 (by decide) ?_
  refine lv_icmp_lt (tgt := 14) K.1.1 K.1.2.1 dX1_faultOfRound_7 (by decide) (fun c_7 => ?_) (fun c_7 => ?_)
  · refine lv_iconst (v := 0) K.1.1 K.1.2.1 dX1_faultOfRound_14 (by decide) ?_
    exact m_iret K hr hlocks hP hS dX1_faultOfRound_15 (by subst eg_1; first | (simp only [A_faultOfRound, c_7, Int32.not_le.mpr c_7, if_true, if_false, ite_true, ite_false, reduceIte, not_true, not_false_iff]; done) | simp [A_faultOfRound, c_7, Int32.not_le.mpr c_7]) rfl
  · refine lv_iconst (v := 3) K.1.1 K.1.2.1 dX1_faultOfRound_10 (by decide) ?_
    refine lv_goto (tgt := 15) K.1.1 K.1.2.1 dX1_faultOfRound_11 (by decide) ?_
    exact m_iret K hr hlocks hP hS dX1_faultOfRound_15 (by subst eg_1; first | (simp only [A_faultOfRound, c_7, Int32.not_lt.mp c_7, if_true, if_false, ite_true, ite_false, reduceIte, not_true, not_false_iff]; done) | simp [A_faultOfRound, c_7, Int32.not_lt.mp c_7]) rfl

set_option maxHeartbeats 4000000 in
set_option maxRecDepth 100000 in
theorem MX1_change (l : Launch) (G : GG) (B : Nat) (μ : Mm) (o : Nat) (ho : isA o) (w : Int32) (v : Int32) : CM l yX1_change (.code yX1_change cX1_change 4 (Option.some FieldType.int)) 0 0 G B [.ref (B + o), .int w, .int v] μ (some (.int (A_change μ o w))) (A_changeM μ o w v) := by
  refine CM.of (by decide) (Nat.le_of_ble_eq_true rfl) ?_
  intro p e s m below meth c ls K hr hlocks hP hl
  have hS : va_S (AA B) s.heap s.heap [] := va_S.rf
  have hl : lv_has ls 4 [(0, .ref (B + o)), (1, .int w), (2, .int v)] := hl
  refine lv_iload_n K.1.1 K.1.2.1 dX1_change_0 rfl (lv_at hl 1 rfl) ?_
  refine lv_if_ne (tgt := 11) K.1.1 K.1.2.1 dX1_change_1 (by decide) (fun c_1 => ?_) (fun c_1 => ?_)
  · refine lv_aload_n K.1.1 K.1.2.1 dX1_change_11 rfl (lv_at hl 0 rfl) ?_
    refine m_geti K hP ho.1 ho.2.1 rfl tuX1 4 (by decide) rfl q_179 dX1_change_12 ?_
    refine lv_topi (fun g_1 eg_1 => ?_)
    refine lv_istore_n (lv' := [(3, .int g_1), (0, .ref (B + o)), (1, .int w), (2, .int v)]) K.1.1 K.1.2.1 dX1_change_15 rfl hl (by decide) rfl (fun ls hl => ?_)
    refine lv_iload_n K.1.1 K.1.2.1 dX1_change_16 rfl (lv_at hl 2 rfl) ?_
    refine lv_if_ne (tgt := 28) K.1.1 K.1.2.1 dX1_change_17 (by decide) (fun c_17 => ?_) (fun c_17 => ?_)
    · refine lv_aload_n K.1.1 K.1.2.1 dX1_change_28 rfl (lv_at hl 1 rfl) ?_
      refine lv_iload_n K.1.1 K.1.2.1 dX1_change_29 rfl (lv_at hl 3 rfl) ?_
      refine m_puti K hP hS ho.1 ho.2.1 rfl tuX1 tyX1 tyX1_ok nmX1 4 (by decide) rfl rfl (by decide +kernel) q_179 dX1_change_30 (fun H locs hP hS => ?_)
      refine lv_iload_n K.1.1 K.1.2.1 dX1_change_33 rfl (lv_at hl 0 rfl) ?_
      exact m_iret K hr hlocks hP hS dX1_change_34 (by subst eg_1; first | exact absurd c_17 c_1 | exact absurd c_1 c_17 | simp [A_change, A_changeM, c_1, c_17]) (by subst eg_1; first | exact absurd c_17 c_1 | exact absurd c_1 c_17 | simp [A_change, A_changeM, c_1, c_17])
    · refine lv_aload_n K.1.1 K.1.2.1 dX1_change_20 rfl (lv_at hl 1 rfl) ?_
      refine lv_iload_n K.1.1 K.1.2.1 dX1_change_21 rfl (lv_at hl 3 rfl) ?_
      refine m_puti K hP hS ho.1 ho.2.1 rfl tuX1 tyX1 tyX1_ok nmX1 3 (by decide) rfl rfl (by decide +kernel) q_177 dX1_change_22 (fun H locs hP hS => ?_)
      refine lv_goto (tgt := 33) K.1.1 K.1.2.1 dX1_change_25 (by decide) ?_
      refine lv_iload_n K.1.1 K.1.2.1 dX1_change_33 rfl (lv_at hl 0 rfl) ?_
      exact m_iret K hr hlocks hP hS dX1_change_34 (by subst eg_1; first | exact absurd c_17 c_1 | exact absurd c_1 c_17 | simp [A_change, A_changeM, c_1, c_17]) (by subst eg_1; first | exact absurd c_17 c_1 | exact absurd c_1 c_17 | simp [A_change, A_changeM, c_1, c_17])
  · refine lv_aload_n K.1.1 K.1.2.1 dX1_change_4 rfl (lv_at hl 0 rfl) ?_
    refine m_geti K hP ho.1 ho.2.1 rfl tuX1 3 (by decide) rfl q_177 dX1_change_5 ?_
    refine lv_topi (fun g_2 eg_2 => ?_)
    refine lv_goto (tgt := 15) K.1.1 K.1.2.1 dX1_change_8 (by decide) ?_
    refine lv_istore_n (lv' := [(3, .int g_2), (0, .ref (B + o)), (1, .int w), (2, .int v)]) K.1.1 K.1.2.1 dX1_change_15 rfl hl (by decide) rfl (fun ls hl => ?_)
    refine lv_iload_n K.1.1 K.1.2.1 dX1_change_16 rfl (lv_at hl 2 rfl) ?_
    refine lv_if_ne (tgt := 28) K.1.1 K.1.2.1 dX1_change_17 (by decide) (fun c_17 => ?_) (fun c_17 => ?_)
    · refine lv_aload_n K.1.1 K.1.2.1 dX1_change_28 rfl (lv_at hl 1 rfl) ?_
      refine lv_iload_n K.1.1 K.1.2.1 dX1_change_29 rfl (lv_at hl 3 rfl) ?_
      refine m_puti K hP hS ho.1 ho.2.1 rfl tuX1 tyX1 tyX1_ok nmX1 4 (by decide) rfl rfl (by decide +kernel) q_179 dX1_change_30 (fun H locs hP hS => ?_)
      refine lv_iload_n K.1.1 K.1.2.1 dX1_change_33 rfl (lv_at hl 0 rfl) ?_
      exact m_iret K hr hlocks hP hS dX1_change_34 (by subst eg_2; first | exact absurd c_17 c_1 | exact absurd c_1 c_17 | simp [A_change, A_changeM, c_1, c_17]) (by subst eg_2; first | exact absurd c_17 c_1 | exact absurd c_1 c_17 | simp [A_change, A_changeM, c_1, c_17])
    · refine lv_aload_n K.1.1 K.1.2.1 dX1_change_20 rfl (lv_at hl 1 rfl) ?_
      refine lv_iload_n K.1.1 K.1.2.1 dX1_change_21 rfl (lv_at hl 3 rfl) ?_
      refine m_puti K hP hS ho.1 ho.2.1 rfl tuX1 tyX1 tyX1_ok nmX1 3 (by decide) rfl rfl (by decide +kernel) q_177 dX1_change_22 (fun H locs hP hS => ?_)
      refine lv_goto (tgt := 33) K.1.1 K.1.2.1 dX1_change_25 (by decide) ?_
      refine lv_iload_n K.1.1 K.1.2.1 dX1_change_33 rfl (lv_at hl 0 rfl) ?_
      exact m_iret K hr hlocks hP hS dX1_change_34 (by subst eg_2; first | exact absurd c_17 c_1 | exact absurd c_1 c_17 | simp [A_change, A_changeM, c_1, c_17]) (by subst eg_2; first | exact absurd c_17 c_1 | exact absurd c_1 c_17 | simp [A_change, A_changeM, c_1, c_17])

set_option maxHeartbeats 4000000 in
set_option maxRecDepth 100000 in
theorem MX1_place (l : Launch) (G : GG) (B : Nat) (μ : Mm) (o : Nat) (ho : isA o) (t : Int32) (pr : Int32) (u : Int32) : CM l yX1_place (.code yX1_place cX1_place 4 (Option.some FieldType.int)) 2 48 G B [.ref (B + o), .int t, .int pr, .int u] μ (some (.int (A_place μ o t pr u))) (A_placeM μ o t pr u) := by
  refine CM.of (by decide) (Nat.le_of_ble_eq_true rfl) ?_
  intro p e s m below meth c ls K hr hlocks hP hl
  have hS : va_S (AA B) s.heap s.heap [] := va_S.rf
  have hl : lv_has ls 4 [(0, .ref (B + o)), (1, .int t), (2, .int pr), (3, .int u)] := hl
  refine lv_aload_n K.1.1 K.1.2.1 dX1_place_0 rfl (lv_at hl 0 rfl) ?_
  refine m_getr K hP ho.1 ho.2.1 rfl tuX1 1 (by decide) rfl q_172 dX1_place_1 ?_
  refine lv_aload_n K.1.1 K.1.2.1 dX1_place_4 rfl (lv_at hl 0 rfl) ?_
  refine m_geti K hP ho.1 ho.2.1 rfl tuX1 6 (by decide) rfl q_181 dX1_place_5 ?_
  refine lv_topi (fun g_1 eg_1 => ?_)
  refine lv_iload_n K.1.1 K.1.2.1 dX1_place_8 rfl (lv_at hl 1 rfl) ?_
  refine lv_aload_n K.1.1 K.1.2.1 dX1_place_9 rfl (lv_at hl 0 rfl) ?_
  refine m_getr K hP ho.1 ho.2.1 rfl tuX1 0 (by decide) rfl q_169 dX1_place_10 ?_
  refine m_getr K hP ho.2.2.1.1 ho.2.2.1.2.1 rfl tuX6 1 (by decide) rfl q_66 dX1_place_13 ?_
  refine lv_iload_n K.1.1 K.1.2.1 dX1_place_16 rfl (lv_at hl 1 rfl) ?_
  refine m_cV (n := 1) (As := [.int t]) (rest := [.int t, .int g_1, .ref (B + (o + 16))]) K hP hS (MX5_get l G B _ (o + 1 + 1) 8 ho.2.2.1.2.2.1 t ) (Nat.lt_of_succ_lt ho.2.2.1.2.2.1.1) ho.2.2.1.2.2.1.2.1 rfl q_527 q_460 q_461 q_18 q_462 hv_X5_get ⟨Nat.le_of_ble_eq_true rfl, Nat.le_of_ble_eq_true rfl⟩ rfl hl.1 rfl (Nat.le_of_ble_eq_true rfl) dX1_place_17 ⟨Nat.zero_le _, Nat.zero_le _⟩ (fun H locs hP hS => ?_)
  refine lv_topi (fun r_2 er_2 => ?_)
  refine lv_iload_n K.1.1 K.1.2.1 dX1_place_20 rfl (lv_at hl 2 rfl) ?_
  refine lv_iload_n K.1.1 K.1.2.1 dX1_place_21 rfl (lv_at hl 3 rfl) ?_
  refine lv_aload_n K.1.1 K.1.2.1 dX1_place_22 rfl (lv_at hl 0 rfl) ?_
  refine m_geti K hP ho.1 ho.2.1 rfl tuX1 5 (by decide) rfl q_180 dX1_place_23 ?_
  refine lv_topi (fun g_3 eg_3 => ?_)
  refine m_cV (n := 6) (As := [.int g_1, .int t, .int r_2, .int pr, .int u, .int g_3]) (rest := []) K hP hS (MX4_append l G B _ (o + 16) ho.2.2.2.1 g_1 t r_2 pr u g_3 ) ho.2.2.2.1.1 ho.2.2.2.1.2.1 rfl q_741 q_742 q_743 q_19 q_744 hv_X4_append ⟨Nat.le_of_ble_eq_true rfl, Nat.le_of_ble_eq_true rfl⟩ rfl hl.1 rfl (Nat.le_of_ble_eq_true rfl) dX1_place_26 ⟨Nat.zero_le _, Nat.zero_le _⟩ (fun H locs hP hS => ?_)
  refine W.eq (g2 := F0 m 29 ls []) rfl ?_
  refine lv_aload_n K.1.1 K.1.2.1 dX1_place_29 rfl (lv_at hl 0 rfl) ?_
  refine lv_dup K.1.1 K.1.2.1 dX1_place_30 rfl ?_
  refine m_geti K hP ho.1 ho.2.1 rfl tuX1 6 (by decide) rfl q_181 dX1_place_31 ?_
  refine lv_topi (fun g_4 eg_4 => ?_)
  refine lv_iconst (v := 1) K.1.1 K.1.2.1 dX1_place_34 (by decide) ?_
  refine lv_iadd K.1.1 K.1.2.1 dX1_place_35 ?_
  refine m_puti K hP hS ho.1 ho.2.1 rfl tuX1 tyX1 tyX1_ok nmX1 6 (by decide) rfl rfl (by decide +kernel) q_181 dX1_place_36 (fun H locs hP hS => ?_)
  refine lv_aload_n K.1.1 K.1.2.1 dX1_place_39 rfl (lv_at hl 0 rfl) ?_
  refine m_geti K hP ho.1 ho.2.1 rfl tuX1 6 (by decide) rfl q_181 dX1_place_40 ?_
  refine lv_topi (fun g_5 eg_5 => ?_)
  refine lv_iconst (v := 1) K.1.1 K.1.2.1 dX1_place_43 (by decide) ?_
  refine lv_isub K.1.1 K.1.2.1 dX1_place_44 ?_
  exact m_iret K hr hlocks hP hS dX1_place_45 (by subst eg_1 er_2 eg_3 eg_4 eg_5; rfl) (by subst eg_1 er_2 eg_3 eg_4 eg_5; rfl)

set_option maxHeartbeats 4000000 in
set_option maxRecDepth 100000 in
theorem MX1_endRound (l : Launch) (G : GG) (B : Nat) (μ : Mm) (o : Nat) (ho : isA o) (hc : ¬ μ (o + 16) 0 < 0) : CM l yX1_endRound (.code yX1_endRound cX1_endRound 4 (Option.some FieldType.int)) 4 91 G B [.ref (B + o), .ref (B + 81)] μ (some (.int (A_end μ o))) (A_endM μ o) := by
  refine CM.of (by decide) (Nat.le_of_ble_eq_true rfl) ?_
  intro p e s m below meth c ls K hr hlocks hP hl
  have hS : va_S (AA B) s.heap s.heap [] := va_S.rf
  have hl : lv_has ls 4 [(0, .ref (B + o)), (1, .ref (B + 81))] := hl
  refine lv_aload_n K.1.1 K.1.2.1 dX1_endRound_0 rfl (lv_at hl 1 rfl) ?_
  refine lv_aload_n K.1.1 K.1.2.1 dX1_endRound_1 rfl (lv_at hl 0 rfl) ?_
  refine m_cV (n := 1) (As := [.ref (B + o)]) (rest := []) K hP hS (MX2_settle l G B _ o ho ) (by decide) sh_81 rfl q_779 q_453 q_454 q_21 q_455 hv_X2_settle ⟨Nat.le_of_ble_eq_true rfl, Nat.le_of_ble_eq_true rfl⟩ rfl hl.1 rfl (Nat.le_of_ble_eq_true rfl) dX1_endRound_2 ⟨Nat.zero_le _, Nat.zero_le _⟩ (fun H locs hP hS => ?_)
  refine W.eq (g2 := F0 m 5 ls []) rfl ?_
  refine lv_aload_n K.1.1 K.1.2.1 dX1_endRound_5 rfl (lv_at hl 1 rfl) ?_
  refine lv_aload_n K.1.1 K.1.2.1 dX1_endRound_6 rfl (lv_at hl 0 rfl) ?_
  refine m_getr K hP ho.1 ho.2.1 rfl tuX1 1 (by decide) rfl q_172 dX1_endRound_7 ?_
  refine lv_aload_n K.1.1 K.1.2.1 dX1_endRound_10 rfl (lv_at hl 0 rfl) ?_
  refine m_getr K hP ho.1 ho.2.1 rfl tuX1 2 (by decide) rfl q_175 dX1_endRound_11 ?_
  refine m_cV (n := 2) (As := [.ref (B + (o + 16)), .ref (B + (o + 29))]) (rest := []) K hP hS (MX2_pairOff l G B _ (o + 16) ho.2.2.2.1 (o + 29) ho.2.2.2.2 ) (by decide) sh_81 rfl q_780 q_781 q_782 q_21 q_783 hv_X2_pairOff ⟨Nat.le_of_ble_eq_true rfl, Nat.le_of_ble_eq_true rfl⟩ rfl hl.1 rfl (Nat.le_of_ble_eq_true rfl) dX1_endRound_14 ⟨Nat.zero_le _, Nat.zero_le _⟩ (fun H locs hP hS => ?_)
  refine W.eq (g2 := F0 m 17 ls []) rfl ?_
  refine lv_aload_n K.1.1 K.1.2.1 dX1_endRound_17 rfl (lv_at hl 0 rfl) ?_
  refine lv_aload_n K.1.1 K.1.2.1 dX1_endRound_18 rfl (lv_at hl 1 rfl) ?_
  refine m_geti K hP (by decide) sh_81 rfl tuX2 2 (by decide) rfl q_220 dX1_endRound_19 ?_
  refine lv_topi (fun g_1 eg_1 => ?_)
  refine m_puti K hP hS ho.1 ho.2.1 rfl tuX1 tyX1 tyX1_ok nmX1 9 (by decide) rfl rfl (by decide +kernel) q_184 dX1_endRound_22 (fun H locs hP hS => ?_)
  refine lv_aload_n K.1.1 K.1.2.1 dX1_endRound_25 rfl (lv_at hl 0 rfl) ?_
  refine lv_dup K.1.1 K.1.2.1 dX1_endRound_26 rfl ?_
  refine m_geti K hP ho.1 ho.2.1 rfl tuX1 7 (by decide) rfl q_182 dX1_endRound_27 ?_
  refine lv_topi (fun g_2 eg_2 => ?_)
  refine lv_aload_n K.1.1 K.1.2.1 dX1_endRound_30 rfl (lv_at hl 1 rfl) ?_
  refine m_geti K hP (by decide) sh_81 rfl tuX2 3 (by decide) rfl q_223 dX1_endRound_31 ?_
  refine lv_topi (fun g_3 eg_3 => ?_)
  refine lv_iadd K.1.1 K.1.2.1 dX1_endRound_34 ?_
  refine m_puti K hP hS ho.1 ho.2.1 rfl tuX1 tyX1 tyX1_ok nmX1 7 (by decide) rfl rfl (by decide +kernel) q_182 dX1_endRound_35 (fun H locs hP hS => ?_)
  refine lv_aload_n K.1.1 K.1.2.1 dX1_endRound_38 rfl (lv_at hl 0 rfl) ?_
  refine lv_dup K.1.1 K.1.2.1 dX1_endRound_39 rfl ?_
  refine m_geti K hP ho.1 ho.2.1 rfl tuX1 8 (by decide) rfl q_183 dX1_endRound_40 ?_
  refine lv_topi (fun g_4 eg_4 => ?_)
  refine lv_aload_n K.1.1 K.1.2.1 dX1_endRound_43 rfl (lv_at hl 1 rfl) ?_
  refine m_geti K hP (by decide) sh_81 rfl tuX2 4 (by decide) rfl q_226 dX1_endRound_44 ?_
  refine lv_topi (fun g_5 eg_5 => ?_)
  refine lv_iadd K.1.1 K.1.2.1 dX1_endRound_47 ?_
  refine m_puti K hP hS ho.1 ho.2.1 rfl tuX1 tyX1 tyX1_ok nmX1 8 (by decide) rfl rfl (by decide +kernel) q_183 dX1_endRound_48 (fun H locs hP hS => ?_)
  refine lv_iconst (v := 0) K.1.1 K.1.2.1 dX1_endRound_51 (by decide) ?_
  refine lv_istore_n (lv' := [(2, .int 0), (0, .ref (B + o)), (1, .ref (B + 81))]) K.1.1 K.1.2.1 dX1_endRound_52 rfl hl (by decide) rfl (fun ls hl => ?_)
  refine up_to (N := cn (A_end1 μ o (o + 1) 0)) (P := fun k : Nat => ∀ (v2_53 : Int32) (μ_53 : Mm) (H : Heap) (locs : List Loc) (ls : Array Slot), (v2_53 = nI k) → (μ_53 = A_end2 μ o k) → MP G B μ_53 H → va_S (AA B) s.heap H locs → lv_has ls 4 [(2, .int v2_53), (0, .ref (B + o)), (1, .ref (B + 81))] → W p l e ({ frames := 4, cells := 0, slots := 0, locals := 91 } : Room) s m ([.ref (B + o), .ref (B + 81)] : List Value).toArray below meth c H locs 0 0 (MF below G B (some (.int (A_end μ o))) (A_endM μ o) ([.ref (B + o), .ref (B + 81)] : List Value).toArray s) (F0 m 53 ls [])) ?_ ?_ _ _ _ _ _ (by first | rfl | (subst eg_1 eg_2 eg_3 eg_4 eg_5; rfl)) (by first | rfl | (subst eg_1 eg_2 eg_3 eg_4 eg_5; rfl)) hP hS (lv_sub hl [0, 1, 2] rfl)
  · intro v2_53 μ_53 H locs ls ev2_53 eμ_53 hP hS hl
    refine lv_iload_n K.1.1 K.1.2.1 dX1_endRound_53 rfl (lv_at hl 0 rfl) ?_
    refine lv_aload_n K.1.1 K.1.2.1 dX1_endRound_54 rfl (lv_at hl 1 rfl) ?_
    refine m_getr K hP ho.1 ho.2.1 rfl tuX1 0 (by decide) rfl q_169 dX1_endRound_55 ?_
    refine m_geti K hP ho.2.2.1.1 ho.2.2.1.2.1 rfl tuX6 0 (by decide) rfl q_63 dX1_endRound_58 ?_
    refine lv_topi (fun g_6 eg_6 => ?_)
    refine lv_icmp_ge (tgt := 110) K.1.1 K.1.2.1 dX1_endRound_61 (by decide) (fun c_61 => ?_) (fun c_61 => ?_)
    · refine lv_iconst (v := 0) K.1.1 K.1.2.1 dX1_endRound_110 (by decide) ?_
      refine lv_istore_n (lv' := [(2, .int 0), (0, .ref (B + o)), (1, .ref (B + 81))]) K.1.1 K.1.2.1 dX1_endRound_111 rfl hl (by decide) rfl (fun ls hl => ?_)
      refine up_to (N := cn (A_end2 μ o (cn (A_end1 μ o (o + 1) 0)) (o + 16) 0)) (P := fun k : Nat => ∀ (v2_112 : Int32) (μ_112 : Mm) (H : Heap) (locs : List Loc) (ls : Array Slot), (v2_112 = nI k) → (μ_112 = A_end3 μ o k) → MP G B μ_112 H → va_S (AA B) s.heap H locs → lv_has ls 4 [(2, .int v2_112), (0, .ref (B + o)), (1, .ref (B + 81))] → W p l e ({ frames := 4, cells := 0, slots := 0, locals := 91 } : Room) s m ([.ref (B + o), .ref (B + 81)] : List Value).toArray below meth c H locs 0 0 (MF below G B (some (.int (A_end μ o))) (A_endM μ o) ([.ref (B + o), .ref (B + 81)] : List Value).toArray s) (F0 m 112 ls [])) ?_ ?_ _ _ _ _ _ (by first | rfl | (subst eg_1 eg_2 eg_3 eg_4 eg_5 ev2_53 eμ_53 eg_6; rfl)) (by first | rfl | (subst eg_1 eg_2 eg_3 eg_4 eg_5 ev2_53 eμ_53 eg_6; rfl)) hP hS (lv_sub hl [0, 1, 2] rfl)
      · intro v2_112 μ_112 H locs ls ev2_112 eμ_112 hP hS hl
        refine lv_iload_n K.1.1 K.1.2.1 dX1_endRound_112 rfl (lv_at hl 0 rfl) ?_
        refine lv_aload_n K.1.1 K.1.2.1 dX1_endRound_113 rfl (lv_at hl 1 rfl) ?_
        refine m_getr K hP ho.1 ho.2.1 rfl tuX1 1 (by decide) rfl q_172 dX1_endRound_114 ?_
        refine m_geti K hP ho.2.2.2.1.1 ho.2.2.2.1.2.1 rfl tuX4 0 (by decide) rfl q_108 dX1_endRound_117 ?_
        refine lv_topi (fun g_7 eg_7 => ?_)
        refine lv_icmp_ge (tgt := 149) K.1.1 K.1.2.1 dX1_endRound_120 (by decide) (fun c_120 => ?_) (fun c_120 => ?_)
        · refine lv_aload_n K.1.1 K.1.2.1 dX1_endRound_149 rfl (lv_at hl 1 rfl) ?_
          refine m_getr K hP ho.1 ho.2.1 rfl tuX1 1 (by decide) rfl q_172 dX1_endRound_150 ?_
          refine m_cV (n := 0) (As := []) (rest := []) K hP hS (MX4_removeEmpty l G B _ (o + 16) ho.2.2.2.1 (by subst eg_1 eg_2 eg_3 eg_4 eg_5 ev2_53 eμ_53 eg_6 ev2_112 eμ_112 eg_7; rw [A_end3_cnt ho.2.2.2.1]; exact hc)) ho.2.2.2.1.1 ho.2.2.2.1.2.1 rfl q_807 q_808 q_809 q_19 q_810 hv_X4_removeEmpty ⟨Nat.le_of_ble_eq_true rfl, Nat.le_of_ble_eq_true rfl⟩ rfl hl.1 rfl (Nat.le_of_ble_eq_true rfl) dX1_endRound_153 ⟨Nat.zero_le _, Nat.zero_le _⟩ (fun H locs hP hS => ?_)
          refine W.eq (g2 := F0 m 156 ls []) rfl ?_
          refine lv_aload_n K.1.1 K.1.2.1 dX1_endRound_156 rfl (lv_at hl 1 rfl) ?_
          refine lv_dup K.1.1 K.1.2.1 dX1_endRound_157 rfl ?_
          refine m_geti K hP ho.1 ho.2.1 rfl tuX1 5 (by decide) rfl q_180 dX1_endRound_158 ?_
          refine lv_topi (fun g_8 eg_8 => ?_)
          refine lv_iconst (v := 1) K.1.1 K.1.2.1 dX1_endRound_161 (by decide) ?_
          refine lv_iadd K.1.1 K.1.2.1 dX1_endRound_162 ?_
          refine m_puti K hP hS ho.1 ho.2.1 rfl tuX1 tyX1 tyX1_ok nmX1 5 (by decide) rfl rfl (by decide +kernel) q_180 dX1_endRound_163 (fun H locs hP hS => ?_)
          refine lv_aload_n K.1.1 K.1.2.1 dX1_endRound_166 rfl (lv_at hl 1 rfl) ?_
          refine lv_dup K.1.1 K.1.2.1 dX1_endRound_167 rfl ?_
          refine m_geti K hP ho.1 ho.2.1 rfl tuX1 10 (by decide) rfl q_185 dX1_endRound_168 ?_
          refine lv_topi (fun g_9 eg_9 => ?_)
          refine lv_aload_n K.1.1 K.1.2.1 dX1_endRound_171 rfl (lv_at hl 1 rfl) ?_
          refine m_getr K hP ho.1 ho.2.1 rfl tuX1 1 (by decide) rfl q_172 dX1_endRound_172 ?_
          refine lv_aload_n K.1.1 K.1.2.1 dX1_endRound_175 rfl (lv_at hl 1 rfl) ?_
          refine m_geti K hP ho.1 ho.2.1 rfl tuX1 5 (by decide) rfl q_180 dX1_endRound_176 ?_
          refine lv_topi (fun g_10 eg_10 => ?_)
          refine lv_aload_n K.1.1 K.1.2.1 dX1_endRound_179 rfl (lv_at hl 1 rfl) ?_
          refine m_geti K hP ho.1 ho.2.1 rfl tuX1 4 (by decide) rfl q_179 dX1_endRound_180 ?_
          refine lv_topi (fun g_11 eg_11 => ?_)
          refine lv_isub K.1.1 K.1.2.1 dX1_endRound_183 ?_
          refine m_cV (n := 1) (As := [.int (g_10 - g_11)]) (rest := [.int g_9, .ref (B + o)]) K hP hS (MX4_removeUpTo l G B _ (o + 16) ho.2.2.2.1 (g_10 - g_11) (by subst eg_1 eg_2 eg_3 eg_4 eg_5 ev2_53 eμ_53 eg_6 ev2_112 eμ_112 eg_7 eg_8 eg_9 eg_10 eg_11; exact A_end4_nn ho.2.2.2.1 hc)) ho.2.2.2.1.1 ho.2.2.2.1.2.1 rfl q_811 q_812 q_813 q_19 q_814 hv_X4_removeUpTo ⟨Nat.le_of_ble_eq_true rfl, Nat.le_of_ble_eq_true rfl⟩ rfl hl.1 rfl (Nat.le_of_ble_eq_true rfl) dX1_endRound_184 ⟨Nat.zero_le _, Nat.zero_le _⟩ (fun H locs hP hS => ?_)
          refine lv_topi (fun r_12 er_12 => ?_)
          refine lv_iadd K.1.1 K.1.2.1 dX1_endRound_187 ?_
          refine m_puti K hP hS ho.1 ho.2.1 rfl tuX1 tyX1 tyX1_ok nmX1 10 (by decide) rfl rfl (by decide +kernel) q_185 dX1_endRound_188 (fun H locs hP hS => ?_)
          refine lv_aload_n K.1.1 K.1.2.1 dX1_endRound_191 rfl (lv_at hl 2 rfl) ?_
          refine m_geti K hP (by decide) sh_81 rfl tuX2 3 (by decide) rfl q_223 dX1_endRound_192 ?_
          refine lv_topi (fun g_13 eg_13 => ?_)
          exact m_iret K hr hlocks hP hS dX1_endRound_195 (by subst eg_1 eg_2 eg_3 eg_4 eg_5 ev2_53 eμ_53 eg_6 ev2_112 eμ_112 eg_7 eg_8 eg_9 eg_10 eg_11 er_12 eg_13; rw [A_end, A_endM_eq]; rfl) (by subst eg_1 eg_2 eg_3 eg_4 eg_5 ev2_53 eμ_53 eg_6 ev2_112 eμ_112 eg_7 eg_8 eg_9 eg_10 eg_11 er_12 eg_13; rw [A_endM_eq]; rfl)
        · exact absurd c_120 (not_not_intro (by subst eg_1 eg_2 eg_3 eg_4 eg_5 ev2_53 eμ_53 eg_6 ev2_112 eμ_112 eg_7; rw [A_end3, F_ne (by omega)]; exact cn_out _))
      · intro k hk ih_112 v2_112 μ_112 H locs ls ev2_112 eμ_112 hP hS hl
        refine lv_iload_n K.1.1 K.1.2.1 dX1_endRound_112 rfl (lv_at hl 0 rfl) ?_
        refine lv_aload_n K.1.1 K.1.2.1 dX1_endRound_113 rfl (lv_at hl 1 rfl) ?_
        refine m_getr K hP ho.1 ho.2.1 rfl tuX1 1 (by decide) rfl q_172 dX1_endRound_114 ?_
        refine m_geti K hP ho.2.2.2.1.1 ho.2.2.2.1.2.1 rfl tuX4 0 (by decide) rfl q_108 dX1_endRound_117 ?_
        refine lv_topi (fun g_14 eg_14 => ?_)
        refine lv_icmp_ge (tgt := 149) K.1.1 K.1.2.1 dX1_endRound_120 (by decide) (fun c_120 => ?_) (fun c_120 => ?_)
        · exact absurd c_120 (by subst eg_1 eg_2 eg_3 eg_4 eg_5 ev2_53 eμ_53 eg_6 ev2_112 eμ_112 eg_14; rw [A_end3, F_ne (by omega)]; exact cn_in hk)
        · refine lv_aload_n K.1.1 K.1.2.1 dX1_endRound_123 rfl (lv_at hl 1 rfl) ?_
          refine m_getr K hP ho.1 ho.2.1 rfl tuX1 1 (by decide) rfl q_172 dX1_endRound_124 ?_
          refine m_getr K hP ho.2.2.2.1.1 ho.2.2.2.1.2.1 rfl tuX4 5 (by decide) rfl q_122 dX1_endRound_127 ?_
          refine lv_iload_n K.1.1 K.1.2.1 dX1_endRound_130 rfl (lv_at hl 0 rfl) ?_
          refine lv_aload_n K.1.1 K.1.2.1 dX1_endRound_131 rfl (lv_at hl 2 rfl) ?_
          refine m_getr K hP (by decide) sh_81 rfl tuX2 5 (by decide) rfl q_228 dX1_endRound_132 ?_
          refine lv_iload_n K.1.1 K.1.2.1 dX1_endRound_135 rfl (lv_at hl 0 rfl) ?_
          refine m_cV (n := 1) (As := [.int v2_112]) (rest := [.int v2_112, .ref (B + (o + 16 + 9))]) K hP hS (MX5_get l G B _ 82 20 isR_82 v2_112 ) (Nat.lt_of_succ_lt isR_82.1) isR_82.2.1 rfl q_527 q_460 q_461 q_18 q_462 hv_X5_get ⟨Nat.le_of_ble_eq_true rfl, Nat.le_of_ble_eq_true rfl⟩ rfl hl.1 rfl (Nat.le_of_ble_eq_true rfl) dX1_endRound_136 ⟨Nat.zero_le _, Nat.zero_le _⟩ (fun H locs hP hS => ?_)
          refine lv_topi (fun r_15 er_15 => ?_)
          refine lv_ineg K.1.1 K.1.2.1 dX1_endRound_139 ?_
          refine m_cV (n := 2) (As := [.int v2_112, .int (-r_15)]) (rest := []) K hP hS (MX5_add l G B _ (o + 16 + 9) 20 ho.2.2.2.1.2.2.2.2.2.2.1 v2_112 (-r_15) ) (Nat.lt_of_succ_lt ho.2.2.2.1.2.2.2.2.2.2.1.1) ho.2.2.2.1.2.2.2.2.2.2.1.2.1 rfl q_806 q_485 q_486 q_18 q_487 hv_X5_add ⟨Nat.le_of_ble_eq_true rfl, Nat.le_of_ble_eq_true rfl⟩ rfl hl.1 rfl (Nat.le_of_ble_eq_true rfl) dX1_endRound_140 ⟨Nat.zero_le _, Nat.zero_le _⟩ (fun H locs hP hS => ?_)
          refine W.eq (g2 := F0 m 143 ls []) rfl ?_
          obtain ⟨x_16, ex_16⟩ : ∃ y : Int32, y = v2_112 + (1) := ⟨_, rfl⟩
          refine lv_iinc (v := x_16) (lv' := [(2, .int x_16), (0, .ref (B + o)), (1, .ref (B + 81))]) K.1.1 K.1.2.1 dX1_endRound_143 hl (k := 0) rfl (by rw [ex_16]; rfl) (by decide) rfl (fun ls hl => ?_)
          refine lv_goto (tgt := 112) K.1.1 K.1.2.1 dX1_endRound_146 (by decide) ?_
          exact ih_112 _ _ _ _ _ (by subst eg_1 eg_2 eg_3 eg_4 eg_5 ev2_53 eμ_53 eg_6 ev2_112 eμ_112 eg_14 er_15 ex_16; exact nI_1 _) (by subst eg_1 eg_2 eg_3 eg_4 eg_5 ev2_53 eμ_53 eg_6 ev2_112 eμ_112 eg_14 er_15 ex_16; rfl) hP hS (lv_sub hl [0, 1, 2] rfl)
    · exact absurd c_61 (not_not_intro (by subst eg_1 eg_2 eg_3 eg_4 eg_5 ev2_53 eμ_53 eg_6; rw [A_end2, E_ne (by omega) (by omega) (by omega) (by omega)]; exact cn_out _))
  · intro k hk ih_53 v2_53 μ_53 H locs ls ev2_53 eμ_53 hP hS hl
    refine lv_iload_n K.1.1 K.1.2.1 dX1_endRound_53 rfl (lv_at hl 0 rfl) ?_
    refine lv_aload_n K.1.1 K.1.2.1 dX1_endRound_54 rfl (lv_at hl 1 rfl) ?_
    refine m_getr K hP ho.1 ho.2.1 rfl tuX1 0 (by decide) rfl q_169 dX1_endRound_55 ?_
    refine m_geti K hP ho.2.2.1.1 ho.2.2.1.2.1 rfl tuX6 0 (by decide) rfl q_63 dX1_endRound_58 ?_
    refine lv_topi (fun g_17 eg_17 => ?_)
    refine lv_icmp_ge (tgt := 110) K.1.1 K.1.2.1 dX1_endRound_61 (by decide) (fun c_61 => ?_) (fun c_61 => ?_)
    · exact absurd c_61 (by subst eg_1 eg_2 eg_3 eg_4 eg_5 ev2_53 eμ_53 eg_17; rw [A_end2, E_ne (by omega) (by omega) (by omega) (by omega)]; exact cn_in hk)
    · refine lv_aload_n K.1.1 K.1.2.1 dX1_endRound_64 rfl (lv_at hl 2 rfl) ?_
      refine lv_aload_n K.1.1 K.1.2.1 dX1_endRound_65 rfl (lv_at hl 1 rfl) ?_
      refine m_getr K hP ho.1 ho.2.1 rfl tuX1 1 (by decide) rfl q_172 dX1_endRound_66 ?_
      refine lv_iload_n K.1.1 K.1.2.1 dX1_endRound_69 rfl (lv_at hl 0 rfl) ?_
      refine m_cV (n := 2) (As := [.ref (B + (o + 16)), .int v2_53]) (rest := []) K hP hS (MX2_takenOf l G B _ (o + 16) ho.2.2.2.1 v2_53 ) (by decide) sh_81 rfl q_789 q_790 q_791 q_21 q_792 hv_X2_takenOf ⟨Nat.le_of_ble_eq_true rfl, Nat.le_of_ble_eq_true rfl⟩ rfl hl.1 rfl (Nat.le_of_ble_eq_true rfl) dX1_endRound_70 ⟨Nat.zero_le _, Nat.zero_le _⟩ (fun H locs hP hS => ?_)
      refine lv_topi (fun r_18 er_18 => ?_)
      refine lv_istore_n (lv' := [(3, .int r_18), (2, .int v2_53), (0, .ref (B + o)), (1, .ref (B + 81))]) K.1.1 K.1.2.1 dX1_endRound_73 rfl hl (by decide) rfl (fun ls hl => ?_)
      refine lv_aload_n K.1.1 K.1.2.1 dX1_endRound_74 rfl (lv_at hl 2 rfl) ?_
      refine m_getr K hP ho.1 ho.2.1 rfl tuX1 0 (by decide) rfl q_169 dX1_endRound_75 ?_
      refine lv_iload_n K.1.1 K.1.2.1 dX1_endRound_78 rfl (lv_at hl 1 rfl) ?_
      refine lv_iload_n K.1.1 K.1.2.1 dX1_endRound_79 rfl (lv_at hl 0 rfl) ?_
      refine lv_aload_n K.1.1 K.1.2.1 dX1_endRound_80 rfl (lv_at hl 3 rfl) ?_
      refine m_geti K hP (by decide) sh_81 rfl tuX2 2 (by decide) rfl q_220 dX1_endRound_81 ?_
      refine lv_topi (fun g_19 eg_19 => ?_)
      refine m_cV (n := 3) (As := [.int v2_53, .int r_18, .int g_19]) (rest := []) K hP hS (MX6_book l G B _ (o + 1) ho.2.2.1 v2_53 r_18 g_19 ) ho.2.2.1.1 ho.2.2.1.2.1 rfl q_793 q_794 q_795 q_17 q_796 hv_X6_book ⟨Nat.le_of_ble_eq_true rfl, Nat.le_of_ble_eq_true rfl⟩ rfl hl.1 rfl (Nat.le_of_ble_eq_true rfl) dX1_endRound_84 ⟨Nat.zero_le _, Nat.zero_le _⟩ (fun H locs hP hS => ?_)
      refine W.eq (g2 := F0 m 87 ls []) rfl ?_
      refine lv_aload_n K.1.1 K.1.2.1 dX1_endRound_87 rfl (lv_at hl 2 rfl) ?_
      refine m_getr K hP ho.1 ho.2.1 rfl tuX1 0 (by decide) rfl q_169 dX1_endRound_88 ?_
      refine lv_iload_n K.1.1 K.1.2.1 dX1_endRound_91 rfl (lv_at hl 1 rfl) ?_
      refine lv_aload_n K.1.1 K.1.2.1 dX1_endRound_92 rfl (lv_at hl 2 rfl) ?_
      refine m_getr K hP ho.1 ho.2.1 rfl tuX1 1 (by decide) rfl q_172 dX1_endRound_93 ?_
      refine lv_iload_n K.1.1 K.1.2.1 dX1_endRound_96 rfl (lv_at hl 1 rfl) ?_
      refine m_cV (n := 1) (As := [.int v2_53]) (rest := [.int v2_53, .ref (B + (o + 1))]) K hP hS (MX4_unitsOf l G B _ (o + 16) ho.2.2.2.1 v2_53 ) ho.2.2.2.1.1 ho.2.2.2.1.2.1 rfl q_549 q_550 q_551 q_19 q_552 hv_X4_unitsOf ⟨Nat.le_of_ble_eq_true rfl, Nat.le_of_ble_eq_true rfl⟩ rfl hl.1 rfl (Nat.le_of_ble_eq_true rfl) dX1_endRound_97 ⟨Nat.zero_le _, Nat.zero_le _⟩ (fun H locs hP hS => ?_)
      refine lv_topi (fun r_20 er_20 => ?_)
      refine lv_iload_n K.1.1 K.1.2.1 dX1_endRound_100 rfl (lv_at hl 0 rfl) ?_
      refine m_cV (n := 3) (As := [.int v2_53, .int r_20, .int r_18]) (rest := []) K hP hS (MX6_learn l G B _ (o + 1) ho.2.2.1 v2_53 r_20 r_18 ) ho.2.2.1.1 ho.2.2.1.2.1 rfl q_802 q_803 q_804 q_17 q_805 hv_X6_learn ⟨Nat.le_of_ble_eq_true rfl, Nat.le_of_ble_eq_true rfl⟩ rfl hl.1 rfl (Nat.le_of_ble_eq_true rfl) dX1_endRound_101 ⟨Nat.zero_le _, Nat.zero_le _⟩ (fun H locs hP hS => ?_)
      refine W.eq (g2 := F0 m 104 ls []) rfl ?_
      obtain ⟨x_21, ex_21⟩ : ∃ y : Int32, y = v2_53 + (1) := ⟨_, rfl⟩
      refine lv_iinc (v := x_21) (lv' := [(2, .int x_21), (3, .int r_18), (0, .ref (B + o)), (1, .ref (B + 81))]) K.1.1 K.1.2.1 dX1_endRound_104 hl (k := 1) rfl (by rw [ex_21]; rfl) (by decide) rfl (fun ls hl => ?_)
      refine lv_goto (tgt := 53) K.1.1 K.1.2.1 dX1_endRound_107 (by decide) ?_
      exact ih_53 _ _ _ _ _ (by subst eg_1 eg_2 eg_3 eg_4 eg_5 ev2_53 eμ_53 eg_17 er_18 eg_19 er_20 ex_21; exact nI_1 _) (by subst eg_1 eg_2 eg_3 eg_4 eg_5 ev2_53 eμ_53 eg_17 er_18 eg_19 er_20 ex_21; rfl) hP hS (lv_sub hl [0, 2, 3] rfl)

set_option maxHeartbeats 4000000 in
set_option maxRecDepth 100000 in
theorem MX1_traderValue (l : Launch) (G : GG) (B : Nat) (μ : Mm) (o : Nat) (ho : isA o) (t : Int32) (w : Int32) : CM l yX1_traderValue (.code yX1_traderValue cX1_traderValue 3 (Option.some FieldType.int)) 3 64 G B [.ref (B + o), .int t, .int w] μ (some (.int (A_traderValue μ o t w))) μ := by
  refine CM.of (by decide) (Nat.le_of_ble_eq_true rfl) ?_
  intro p e s m below meth c ls K hr hlocks hP hl
  have hS : va_S (AA B) s.heap s.heap [] := va_S.rf
  have hl : lv_has ls 3 [(0, .ref (B + o)), (1, .int t), (2, .int w)] := hl
  refine lv_iload_n K.1.1 K.1.2.1 dX1_traderValue_0 rfl (lv_at hl 2 rfl) ?_
  by_cases w_1 : w = 0
  · refine lv_tableIn (off := 51) (tgt := 52) K.1.1 K.1.2.1 dX1_traderValue_1 (by rw [w_1]; decide) (by rw [w_1]; decide) (by rw [w_1]; rfl) (by decide) ?_
    refine lv_aload_n K.1.1 K.1.2.1 dX1_traderValue_52 rfl (lv_at hl 0 rfl) ?_
    refine m_getr K hP ho.1 ho.2.1 rfl tuX1 0 (by decide) rfl q_169 dX1_traderValue_53 ?_
    refine m_getr K hP ho.2.2.1.1 ho.2.2.1.2.1 rfl tuX6 1 (by decide) rfl q_66 dX1_traderValue_56 ?_
    refine lv_iload_n K.1.1 K.1.2.1 dX1_traderValue_59 rfl (lv_at hl 1 rfl) ?_
    refine m_cV (n := 1) (As := [.int t]) (rest := []) K hP hS (MX5_get l G B _ (o + 1 + 1) 8 ho.2.2.1.2.2.1 t ) (Nat.lt_of_succ_lt ho.2.2.1.2.2.1.1) ho.2.2.1.2.2.1.2.1 rfl q_527 q_460 q_461 q_18 q_462 hv_X5_get ⟨Nat.le_of_ble_eq_true rfl, Nat.le_of_ble_eq_true rfl⟩ rfl hl.1 rfl (Nat.le_of_ble_eq_true rfl) dX1_traderValue_60 ⟨Nat.zero_le _, Nat.zero_le _⟩ (fun H locs hP hS => ?_)
    refine lv_topi (fun r_2 er_2 => ?_)
    exact m_iret K hr hlocks hP hS dX1_traderValue_63 (by subst er_2; first | (simp only [A_traderValue, w_1, if_true, if_false, ite_true, ite_false, reduceIte, not_true, not_false_iff]; done) | simp [A_traderValue, w_1]) rfl
  by_cases w_3 : w = 1
  · refine lv_tableIn (off := 63) (tgt := 64) K.1.1 K.1.2.1 dX1_traderValue_1 (by rw [w_3]; decide) (by rw [w_3]; decide) (by rw [w_3]; rfl) (by decide) ?_
    refine lv_aload_n K.1.1 K.1.2.1 dX1_traderValue_64 rfl (lv_at hl 0 rfl) ?_
    refine m_getr K hP ho.1 ho.2.1 rfl tuX1 0 (by decide) rfl q_169 dX1_traderValue_65 ?_
    refine m_getr K hP ho.2.2.1.1 ho.2.2.1.2.1 rfl tuX6 2 (by decide) rfl q_69 dX1_traderValue_68 ?_
    refine lv_iload_n K.1.1 K.1.2.1 dX1_traderValue_71 rfl (lv_at hl 1 rfl) ?_
    refine m_cV (n := 1) (As := [.int t]) (rest := []) K hP hS (MX5_get l G B _ (o + 1 + 3) 8 ho.2.2.1.2.2.2.1 t ) (Nat.lt_of_succ_lt ho.2.2.1.2.2.2.1.1) ho.2.2.1.2.2.2.1.2.1 rfl q_527 q_460 q_461 q_18 q_462 hv_X5_get ⟨Nat.le_of_ble_eq_true rfl, Nat.le_of_ble_eq_true rfl⟩ rfl hl.1 rfl (Nat.le_of_ble_eq_true rfl) dX1_traderValue_72 ⟨Nat.zero_le _, Nat.zero_le _⟩ (fun H locs hP hS => ?_)
    refine lv_topi (fun r_4 er_4 => ?_)
    exact m_iret K hr hlocks hP hS dX1_traderValue_75 (by subst er_4; first | (simp only [A_traderValue, w_1, w_3, if_true, if_false, ite_true, ite_false, reduceIte, not_true, not_false_iff]; done) | simp [A_traderValue, w_1, w_3]) rfl
  by_cases w_5 : w = 2
  · refine lv_tableIn (off := 75) (tgt := 76) K.1.1 K.1.2.1 dX1_traderValue_1 (by rw [w_5]; decide) (by rw [w_5]; decide) (by rw [w_5]; rfl) (by decide) ?_
    refine lv_aload_n K.1.1 K.1.2.1 dX1_traderValue_76 rfl (lv_at hl 0 rfl) ?_
    refine m_getr K hP ho.1 ho.2.1 rfl tuX1 0 (by decide) rfl q_169 dX1_traderValue_77 ?_
    refine m_getr K hP ho.2.2.1.1 ho.2.2.1.2.1 rfl tuX6 3 (by decide) rfl q_72 dX1_traderValue_80 ?_
    refine lv_iload_n K.1.1 K.1.2.1 dX1_traderValue_83 rfl (lv_at hl 1 rfl) ?_
    refine m_cV (n := 1) (As := [.int t]) (rest := []) K hP hS (MX5_get l G B _ (o + 1 + 5) 8 ho.2.2.1.2.2.2.2.1 t ) (Nat.lt_of_succ_lt ho.2.2.1.2.2.2.2.1.1) ho.2.2.1.2.2.2.2.1.2.1 rfl q_527 q_460 q_461 q_18 q_462 hv_X5_get ⟨Nat.le_of_ble_eq_true rfl, Nat.le_of_ble_eq_true rfl⟩ rfl hl.1 rfl (Nat.le_of_ble_eq_true rfl) dX1_traderValue_84 ⟨Nat.zero_le _, Nat.zero_le _⟩ (fun H locs hP hS => ?_)
    refine lv_topi (fun r_6 er_6 => ?_)
    exact m_iret K hr hlocks hP hS dX1_traderValue_87 (by subst er_6; first | (simp only [A_traderValue, w_1, w_3, w_5, if_true, if_false, ite_true, ite_false, reduceIte, not_true, not_false_iff]; done) | simp [A_traderValue, w_1, w_3, w_5]) rfl
  by_cases w_7 : w = 3
  · refine lv_tableIn (off := 87) (tgt := 88) K.1.1 K.1.2.1 dX1_traderValue_1 (by rw [w_7]; decide) (by rw [w_7]; decide) (by rw [w_7]; rfl) (by decide) ?_
    refine lv_aload_n K.1.1 K.1.2.1 dX1_traderValue_88 rfl (lv_at hl 0 rfl) ?_
    refine m_getr K hP ho.1 ho.2.1 rfl tuX1 0 (by decide) rfl q_169 dX1_traderValue_89 ?_
    refine m_getr K hP ho.2.2.1.1 ho.2.2.1.2.1 rfl tuX6 4 (by decide) rfl q_74 dX1_traderValue_92 ?_
    refine lv_iload_n K.1.1 K.1.2.1 dX1_traderValue_95 rfl (lv_at hl 1 rfl) ?_
    refine m_cV (n := 1) (As := [.int t]) (rest := []) K hP hS (MX5_get l G B _ (o + 1 + 7) 8 ho.2.2.1.2.2.2.2.2.1 t ) (Nat.lt_of_succ_lt ho.2.2.1.2.2.2.2.2.1.1) ho.2.2.1.2.2.2.2.2.1.2.1 rfl q_527 q_460 q_461 q_18 q_462 hv_X5_get ⟨Nat.le_of_ble_eq_true rfl, Nat.le_of_ble_eq_true rfl⟩ rfl hl.1 rfl (Nat.le_of_ble_eq_true rfl) dX1_traderValue_96 ⟨Nat.zero_le _, Nat.zero_le _⟩ (fun H locs hP hS => ?_)
    refine lv_topi (fun r_8 er_8 => ?_)
    exact m_iret K hr hlocks hP hS dX1_traderValue_99 (by subst er_8; first | (simp only [A_traderValue, w_1, w_3, w_5, w_7, if_true, if_false, ite_true, ite_false, reduceIte, not_true, not_false_iff]; done) | simp [A_traderValue, w_1, w_3, w_5, w_7]) rfl
  by_cases w_9 : w = 4
  · refine lv_tableIn (off := 99) (tgt := 100) K.1.1 K.1.2.1 dX1_traderValue_1 (by rw [w_9]; decide) (by rw [w_9]; decide) (by rw [w_9]; rfl) (by decide) ?_
    refine lv_aload_n K.1.1 K.1.2.1 dX1_traderValue_100 rfl (lv_at hl 0 rfl) ?_
    refine m_getr K hP ho.1 ho.2.1 rfl tuX1 0 (by decide) rfl q_169 dX1_traderValue_101 ?_
    refine lv_iload_n K.1.1 K.1.2.1 dX1_traderValue_104 rfl (lv_at hl 1 rfl) ?_
    refine m_cV (n := 1) (As := [.int t]) (rest := []) K hP hS (MX6_bidOf l G B _ (o + 1) ho.2.2.1 t ) ho.2.2.1.1 ho.2.2.1.2.1 rfl q_528 q_529 q_530 q_17 q_531 hv_X6_bidOf ⟨Nat.le_of_ble_eq_true rfl, Nat.le_of_ble_eq_true rfl⟩ rfl hl.1 rfl (Nat.le_of_ble_eq_true rfl) dX1_traderValue_105 ⟨Nat.zero_le _, Nat.zero_le _⟩ (fun H locs hP hS => ?_)
    refine lv_topi (fun r_10 er_10 => ?_)
    exact m_iret K hr hlocks hP hS dX1_traderValue_108 (by subst er_10; first | (simp only [A_traderValue, w_1, w_3, w_5, w_7, w_9, if_true, if_false, ite_true, ite_false, reduceIte, not_true, not_false_iff]; done) | simp [A_traderValue, w_1, w_3, w_5, w_7, w_9]) rfl
  by_cases w_11 : w = 5
  · refine lv_tableIn (off := 108) (tgt := 109) K.1.1 K.1.2.1 dX1_traderValue_1 (by rw [w_11]; decide) (by rw [w_11]; decide) (by rw [w_11]; rfl) (by decide) ?_
    refine lv_aload_n K.1.1 K.1.2.1 dX1_traderValue_109 rfl (lv_at hl 0 rfl) ?_
    refine m_getr K hP ho.1 ho.2.1 rfl tuX1 1 (by decide) rfl q_172 dX1_traderValue_110 ?_
    refine lv_iload_n K.1.1 K.1.2.1 dX1_traderValue_113 rfl (lv_at hl 1 rfl) ?_
    refine m_cV (n := 1) (As := [.int t]) (rest := []) K hP hS (MX4_countOf l G B _ (o + 16) ho.2.2.2.1 t ) ho.2.2.2.1.1 ho.2.2.2.1.2.1 rfl q_545 q_546 q_547 q_19 q_548 hv_X4_countOf ⟨Nat.le_of_ble_eq_true rfl, Nat.le_of_ble_eq_true rfl⟩ rfl hl.1 rfl (Nat.le_of_ble_eq_true rfl) dX1_traderValue_114 ⟨Nat.zero_le _, Nat.zero_le _⟩ (fun H locs hP hS => ?_)
    refine lv_topi (fun r_12 er_12 => ?_)
    exact m_iret K hr hlocks hP hS dX1_traderValue_117 (by subst er_12; first | (simp only [A_traderValue, w_1, w_3, w_5, w_7, w_9, w_11, if_true, if_false, ite_true, ite_false, reduceIte, not_true, not_false_iff]; done) | simp [A_traderValue, w_1, w_3, w_5, w_7, w_9, w_11]) rfl
  by_cases w_13 : w = 6
  · refine lv_tableIn (off := 117) (tgt := 118) K.1.1 K.1.2.1 dX1_traderValue_1 (by rw [w_13]; decide) (by rw [w_13]; decide) (by rw [w_13]; rfl) (by decide) ?_
    refine lv_aload_n K.1.1 K.1.2.1 dX1_traderValue_118 rfl (lv_at hl 0 rfl) ?_
    refine m_getr K hP ho.1 ho.2.1 rfl tuX1 1 (by decide) rfl q_172 dX1_traderValue_119 ?_
    refine lv_iload_n K.1.1 K.1.2.1 dX1_traderValue_122 rfl (lv_at hl 1 rfl) ?_
    refine m_cV (n := 1) (As := [.int t]) (rest := []) K hP hS (MX4_unitsOf l G B _ (o + 16) ho.2.2.2.1 t ) ho.2.2.2.1.1 ho.2.2.2.1.2.1 rfl q_549 q_550 q_551 q_19 q_552 hv_X4_unitsOf ⟨Nat.le_of_ble_eq_true rfl, Nat.le_of_ble_eq_true rfl⟩ rfl hl.1 rfl (Nat.le_of_ble_eq_true rfl) dX1_traderValue_123 ⟨Nat.zero_le _, Nat.zero_le _⟩ (fun H locs hP hS => ?_)
    refine lv_topi (fun r_14 er_14 => ?_)
    exact m_iret K hr hlocks hP hS dX1_traderValue_126 (by subst er_14; first | (simp only [A_traderValue, w_1, w_3, w_5, w_7, w_9, w_11, w_13, if_true, if_false, ite_true, ite_false, reduceIte, not_true, not_false_iff]; done) | simp [A_traderValue, w_1, w_3, w_5, w_7, w_9, w_11, w_13]) rfl
  by_cases w_15 : w = 7
  · refine lv_tableIn (off := 126) (tgt := 127) K.1.1 K.1.2.1 dX1_traderValue_1 (by rw [w_15]; decide) (by rw [w_15]; decide) (by rw [w_15]; rfl) (by decide) ?_
    refine lv_aload_n K.1.1 K.1.2.1 dX1_traderValue_127 rfl (lv_at hl 0 rfl) ?_
    refine m_getr K hP ho.1 ho.2.1 rfl tuX1 0 (by decide) rfl q_169 dX1_traderValue_128 ?_
    refine m_getr K hP ho.2.2.1.1 ho.2.2.1.2.1 rfl tuX6 5 (by decide) rfl q_76 dX1_traderValue_131 ?_
    refine lv_iload_n K.1.1 K.1.2.1 dX1_traderValue_134 rfl (lv_at hl 1 rfl) ?_
    refine m_cV (n := 1) (As := [.int t]) (rest := []) K hP hS (MX5_get l G B _ (o + 1 + 9) 8 ho.2.2.1.2.2.2.2.2.2.1 t ) (Nat.lt_of_succ_lt ho.2.2.1.2.2.2.2.2.2.1.1) ho.2.2.1.2.2.2.2.2.2.1.2.1 rfl q_527 q_460 q_461 q_18 q_462 hv_X5_get ⟨Nat.le_of_ble_eq_true rfl, Nat.le_of_ble_eq_true rfl⟩ rfl hl.1 rfl (Nat.le_of_ble_eq_true rfl) dX1_traderValue_135 ⟨Nat.zero_le _, Nat.zero_le _⟩ (fun H locs hP hS => ?_)
    refine lv_topi (fun r_16 er_16 => ?_)
    exact m_iret K hr hlocks hP hS dX1_traderValue_138 (by subst er_16; first | (simp only [A_traderValue, w_1, w_3, w_5, w_7, w_9, w_11, w_13, w_15, if_true, if_false, ite_true, ite_false, reduceIte, not_true, not_false_iff]; done) | simp [A_traderValue, w_1, w_3, w_5, w_7, w_9, w_11, w_13, w_15]) rfl
  by_cases w_17 : w = 8
  · refine lv_tableIn (off := 138) (tgt := 139) K.1.1 K.1.2.1 dX1_traderValue_1 (by rw [w_17]; decide) (by rw [w_17]; decide) (by rw [w_17]; rfl) (by decide) ?_
    refine lv_aload_n K.1.1 K.1.2.1 dX1_traderValue_139 rfl (lv_at hl 0 rfl) ?_
    refine m_getr K hP ho.1 ho.2.1 rfl tuX1 0 (by decide) rfl q_169 dX1_traderValue_140 ?_
    refine m_getr K hP ho.2.2.1.1 ho.2.2.1.2.1 rfl tuX6 6 (by decide) rfl q_78 dX1_traderValue_143 ?_
    refine lv_iload_n K.1.1 K.1.2.1 dX1_traderValue_146 rfl (lv_at hl 1 rfl) ?_
    refine m_cV (n := 1) (As := [.int t]) (rest := []) K hP hS (MX5_get l G B _ (o + 1 + 11) 8 ho.2.2.1.2.2.2.2.2.2.2.1 t ) (Nat.lt_of_succ_lt ho.2.2.1.2.2.2.2.2.2.2.1.1) ho.2.2.1.2.2.2.2.2.2.2.1.2.1 rfl q_527 q_460 q_461 q_18 q_462 hv_X5_get ⟨Nat.le_of_ble_eq_true rfl, Nat.le_of_ble_eq_true rfl⟩ rfl hl.1 rfl (Nat.le_of_ble_eq_true rfl) dX1_traderValue_147 ⟨Nat.zero_le _, Nat.zero_le _⟩ (fun H locs hP hS => ?_)
    refine lv_topi (fun r_18 er_18 => ?_)
    exact m_iret K hr hlocks hP hS dX1_traderValue_150 (by subst er_18; first | (simp only [A_traderValue, w_1, w_3, w_5, w_7, w_9, w_11, w_13, w_15, w_17, if_true, if_false, ite_true, ite_false, reduceIte, not_true, not_false_iff]; done) | simp [A_traderValue, w_1, w_3, w_5, w_7, w_9, w_11, w_13, w_15, w_17]) rfl
  refine lv_tableOut (tgt := 151) K.1.1 K.1.2.1 dX1_traderValue_1 (sw_out_0_8 w_1 w_3 w_5 w_7 w_9 w_11 w_13 w_15 w_17) (by decide) ?_
  refine lv_aload_n K.1.1 K.1.2.1 dX1_traderValue_151 rfl (lv_at hl 0 rfl) ?_
  refine m_getr K hP ho.1 ho.2.1 rfl tuX1 0 (by decide) rfl q_169 dX1_traderValue_152 ?_
  refine m_getr K hP ho.2.2.1.1 ho.2.2.1.2.1 rfl tuX6 7 (by decide) rfl q_80 dX1_traderValue_155 ?_
  refine lv_iload_n K.1.1 K.1.2.1 dX1_traderValue_158 rfl (lv_at hl 1 rfl) ?_
  refine m_cV (n := 1) (As := [.int t]) (rest := []) K hP hS (MX5_get l G B _ (o + 1 + 13) 8 ho.2.2.1.2.2.2.2.2.2.2.2 t ) (Nat.lt_of_succ_lt ho.2.2.1.2.2.2.2.2.2.2.2.1) ho.2.2.1.2.2.2.2.2.2.2.2.2.1 rfl q_527 q_460 q_461 q_18 q_462 hv_X5_get ⟨Nat.le_of_ble_eq_true rfl, Nat.le_of_ble_eq_true rfl⟩ rfl hl.1 rfl (Nat.le_of_ble_eq_true rfl) dX1_traderValue_159 ⟨Nat.zero_le _, Nat.zero_le _⟩ (fun H locs hP hS => ?_)
  refine lv_topi (fun r_19 er_19 => ?_)
  exact m_iret K hr hlocks hP hS dX1_traderValue_162 (by subst er_19; first | (simp only [A_traderValue, w_1, w_3, w_5, w_7, w_9, w_11, w_13, w_15, w_17, if_true, if_false, ite_true, ite_false, reduceIte, not_true, not_false_iff]; done) | simp [A_traderValue, w_1, w_3, w_5, w_7, w_9, w_11, w_13, w_15, w_17]) rfl

set_option maxHeartbeats 4000000 in
set_option maxRecDepth 100000 in
theorem MX1_wholeValue (l : Launch) (G : GG) (B : Nat) (μ : Mm) (o : Nat) (ho : isA o) (w : Int32) : CM l yX1_wholeValue (.code yX1_wholeValue cX1_wholeValue 2 (Option.some FieldType.int)) 0 0 G B [.ref (B + o), .int w] μ (some (.int (A_wholeValue μ o w))) μ := by
  refine CM.of (by decide) (Nat.le_of_ble_eq_true rfl) ?_
  intro p e s m below meth c ls K hr hlocks hP hl
  have hS : va_S (AA B) s.heap s.heap [] := va_S.rf
  have hl : lv_has ls 2 [(0, .ref (B + o)), (1, .int w)] := hl
  refine lv_iload_n K.1.1 K.1.2.1 dX1_wholeValue_0 rfl (lv_at hl 1 rfl) ?_
  by_cases w_1 : w = 0
  · refine lv_tableIn (off := 55) (tgt := 56) K.1.1 K.1.2.1 dX1_wholeValue_1 (by rw [w_1]; decide) (by rw [w_1]; decide) (by rw [w_1]; rfl) (by decide) ?_
    refine lv_aload_n K.1.1 K.1.2.1 dX1_wholeValue_56 rfl (lv_at hl 0 rfl) ?_
    refine m_getr K hP ho.1 ho.2.1 rfl tuX1 0 (by decide) rfl q_169 dX1_wholeValue_57 ?_
    refine m_geti K hP ho.2.2.1.1 ho.2.2.1.2.1 rfl tuX6 0 (by decide) rfl q_63 dX1_wholeValue_60 ?_
    refine lv_topi (fun g_2 eg_2 => ?_)
    exact m_iret K hr hlocks hP hS dX1_wholeValue_63 (by subst eg_2; first | (simp only [A_wholeValue, w_1, if_true, if_false, ite_true, ite_false, reduceIte, not_true, not_false_iff]; done) | simp [A_wholeValue, w_1]) rfl
  by_cases w_3 : w = 1
  · refine lv_tableIn (off := 63) (tgt := 64) K.1.1 K.1.2.1 dX1_wholeValue_1 (by rw [w_3]; decide) (by rw [w_3]; decide) (by rw [w_3]; rfl) (by decide) ?_
    refine lv_aload_n K.1.1 K.1.2.1 dX1_wholeValue_64 rfl (lv_at hl 0 rfl) ?_
    refine m_getr K hP ho.1 ho.2.1 rfl tuX1 1 (by decide) rfl q_172 dX1_wholeValue_65 ?_
    refine m_geti K hP ho.2.2.2.1.1 ho.2.2.2.1.2.1 rfl tuX4 0 (by decide) rfl q_108 dX1_wholeValue_68 ?_
    refine lv_topi (fun g_4 eg_4 => ?_)
    exact m_iret K hr hlocks hP hS dX1_wholeValue_71 (by subst eg_4; first | (simp only [A_wholeValue, w_1, w_3, if_true, if_false, ite_true, ite_false, reduceIte, not_true, not_false_iff]; done) | simp [A_wholeValue, w_1, w_3]) rfl
  by_cases w_5 : w = 2
  · refine lv_tableIn (off := 71) (tgt := 72) K.1.1 K.1.2.1 dX1_wholeValue_1 (by rw [w_5]; decide) (by rw [w_5]; decide) (by rw [w_5]; rfl) (by decide) ?_
    refine lv_aload_n K.1.1 K.1.2.1 dX1_wholeValue_72 rfl (lv_at hl 0 rfl) ?_
    refine m_geti K hP ho.1 ho.2.1 rfl tuX1 5 (by decide) rfl q_180 dX1_wholeValue_73 ?_
    refine lv_topi (fun g_6 eg_6 => ?_)
    exact m_iret K hr hlocks hP hS dX1_wholeValue_76 (by subst eg_6; first | (simp only [A_wholeValue, w_1, w_3, w_5, if_true, if_false, ite_true, ite_false, reduceIte, not_true, not_false_iff]; done) | simp [A_wholeValue, w_1, w_3, w_5]) rfl
  by_cases w_7 : w = 3
  · refine lv_tableIn (off := 76) (tgt := 77) K.1.1 K.1.2.1 dX1_wholeValue_1 (by rw [w_7]; decide) (by rw [w_7]; decide) (by rw [w_7]; rfl) (by decide) ?_
    refine lv_aload_n K.1.1 K.1.2.1 dX1_wholeValue_77 rfl (lv_at hl 0 rfl) ?_
    refine m_geti K hP ho.1 ho.2.1 rfl tuX1 3 (by decide) rfl q_177 dX1_wholeValue_78 ?_
    refine lv_topi (fun g_8 eg_8 => ?_)
    exact m_iret K hr hlocks hP hS dX1_wholeValue_81 (by subst eg_8; first | (simp only [A_wholeValue, w_1, w_3, w_5, w_7, if_true, if_false, ite_true, ite_false, reduceIte, not_true, not_false_iff]; done) | simp [A_wholeValue, w_1, w_3, w_5, w_7]) rfl
  by_cases w_9 : w = 4
  · refine lv_tableIn (off := 81) (tgt := 82) K.1.1 K.1.2.1 dX1_wholeValue_1 (by rw [w_9]; decide) (by rw [w_9]; decide) (by rw [w_9]; rfl) (by decide) ?_
    refine lv_aload_n K.1.1 K.1.2.1 dX1_wholeValue_82 rfl (lv_at hl 0 rfl) ?_
    refine m_geti K hP ho.1 ho.2.1 rfl tuX1 4 (by decide) rfl q_179 dX1_wholeValue_83 ?_
    refine lv_topi (fun g_10 eg_10 => ?_)
    exact m_iret K hr hlocks hP hS dX1_wholeValue_86 (by subst eg_10; first | (simp only [A_wholeValue, w_1, w_3, w_5, w_7, w_9, if_true, if_false, ite_true, ite_false, reduceIte, not_true, not_false_iff]; done) | simp [A_wholeValue, w_1, w_3, w_5, w_7, w_9]) rfl
  by_cases w_11 : w = 5
  · refine lv_tableIn (off := 86) (tgt := 87) K.1.1 K.1.2.1 dX1_wholeValue_1 (by rw [w_11]; decide) (by rw [w_11]; decide) (by rw [w_11]; rfl) (by decide) ?_
    refine lv_aload_n K.1.1 K.1.2.1 dX1_wholeValue_87 rfl (lv_at hl 0 rfl) ?_
    refine m_geti K hP ho.1 ho.2.1 rfl tuX1 6 (by decide) rfl q_181 dX1_wholeValue_88 ?_
    refine lv_topi (fun g_12 eg_12 => ?_)
    exact m_iret K hr hlocks hP hS dX1_wholeValue_91 (by subst eg_12; first | (simp only [A_wholeValue, w_1, w_3, w_5, w_7, w_9, w_11, if_true, if_false, ite_true, ite_false, reduceIte, not_true, not_false_iff]; done) | simp [A_wholeValue, w_1, w_3, w_5, w_7, w_9, w_11]) rfl
  by_cases w_13 : w = 6
  · refine lv_tableIn (off := 91) (tgt := 92) K.1.1 K.1.2.1 dX1_wholeValue_1 (by rw [w_13]; decide) (by rw [w_13]; decide) (by rw [w_13]; rfl) (by decide) ?_
    refine lv_aload_n K.1.1 K.1.2.1 dX1_wholeValue_92 rfl (lv_at hl 0 rfl) ?_
    refine m_geti K hP ho.1 ho.2.1 rfl tuX1 7 (by decide) rfl q_182 dX1_wholeValue_93 ?_
    refine lv_topi (fun g_14 eg_14 => ?_)
    exact m_iret K hr hlocks hP hS dX1_wholeValue_96 (by subst eg_14; first | (simp only [A_wholeValue, w_1, w_3, w_5, w_7, w_9, w_11, w_13, if_true, if_false, ite_true, ite_false, reduceIte, not_true, not_false_iff]; done) | simp [A_wholeValue, w_1, w_3, w_5, w_7, w_9, w_11, w_13]) rfl
  by_cases w_15 : w = 7
  · refine lv_tableIn (off := 96) (tgt := 97) K.1.1 K.1.2.1 dX1_wholeValue_1 (by rw [w_15]; decide) (by rw [w_15]; decide) (by rw [w_15]; rfl) (by decide) ?_
    refine lv_aload_n K.1.1 K.1.2.1 dX1_wholeValue_97 rfl (lv_at hl 0 rfl) ?_
    refine m_geti K hP ho.1 ho.2.1 rfl tuX1 8 (by decide) rfl q_183 dX1_wholeValue_98 ?_
    refine lv_topi (fun g_16 eg_16 => ?_)
    exact m_iret K hr hlocks hP hS dX1_wholeValue_101 (by subst eg_16; first | (simp only [A_wholeValue, w_1, w_3, w_5, w_7, w_9, w_11, w_13, w_15, if_true, if_false, ite_true, ite_false, reduceIte, not_true, not_false_iff]; done) | simp [A_wholeValue, w_1, w_3, w_5, w_7, w_9, w_11, w_13, w_15]) rfl
  by_cases w_17 : w = 8
  · refine lv_tableIn (off := 101) (tgt := 102) K.1.1 K.1.2.1 dX1_wholeValue_1 (by rw [w_17]; decide) (by rw [w_17]; decide) (by rw [w_17]; rfl) (by decide) ?_
    refine lv_aload_n K.1.1 K.1.2.1 dX1_wholeValue_102 rfl (lv_at hl 0 rfl) ?_
    refine m_geti K hP ho.1 ho.2.1 rfl tuX1 9 (by decide) rfl q_184 dX1_wholeValue_103 ?_
    refine lv_topi (fun g_18 eg_18 => ?_)
    exact m_iret K hr hlocks hP hS dX1_wholeValue_106 (by subst eg_18; first | (simp only [A_wholeValue, w_1, w_3, w_5, w_7, w_9, w_11, w_13, w_15, w_17, if_true, if_false, ite_true, ite_false, reduceIte, not_true, not_false_iff]; done) | simp [A_wholeValue, w_1, w_3, w_5, w_7, w_9, w_11, w_13, w_15, w_17]) rfl
  by_cases w_19 : w = 9
  · refine lv_tableIn (off := 106) (tgt := 107) K.1.1 K.1.2.1 dX1_wholeValue_1 (by rw [w_19]; decide) (by rw [w_19]; decide) (by rw [w_19]; rfl) (by decide) ?_
    refine lv_aload_n K.1.1 K.1.2.1 dX1_wholeValue_107 rfl (lv_at hl 0 rfl) ?_
    refine m_getr K hP ho.1 ho.2.1 rfl tuX1 2 (by decide) rfl q_175 dX1_wholeValue_108 ?_
    refine m_geti K hP ho.2.2.2.2.1 ho.2.2.2.2.2.1 rfl tuX7 0 (by decide) rfl q_149 dX1_wholeValue_111 ?_
    refine lv_topi (fun g_20 eg_20 => ?_)
    exact m_iret K hr hlocks hP hS dX1_wholeValue_114 (by subst eg_20; first | (simp only [A_wholeValue, w_1, w_3, w_5, w_7, w_9, w_11, w_13, w_15, w_17, w_19, if_true, if_false, ite_true, ite_false, reduceIte, not_true, not_false_iff]; done) | simp [A_wholeValue, w_1, w_3, w_5, w_7, w_9, w_11, w_13, w_15, w_17, w_19]) rfl
  refine lv_tableOut (tgt := 115) K.1.1 K.1.2.1 dX1_wholeValue_1 (sw_out_0_9 w_1 w_3 w_5 w_7 w_9 w_11 w_13 w_15 w_17 w_19) (by decide) ?_
  refine lv_aload_n K.1.1 K.1.2.1 dX1_wholeValue_115 rfl (lv_at hl 0 rfl) ?_
  refine m_geti K hP ho.1 ho.2.1 rfl tuX1 10 (by decide) rfl q_185 dX1_wholeValue_116 ?_
  refine lv_topi (fun g_21 eg_21 => ?_)
  exact m_iret K hr hlocks hP hS dX1_wholeValue_119 (by subst eg_21; first | (simp only [A_wholeValue, w_1, w_3, w_5, w_7, w_9, w_11, w_13, w_15, w_17, w_19, if_true, if_false, ite_true, ite_false, reduceIte, not_true, not_false_iff]; done) | simp [A_wholeValue, w_1, w_3, w_5, w_7, w_9, w_11, w_13, w_15, w_17, w_19]) rfl

set_option maxHeartbeats 4000000 in
set_option maxRecDepth 100000 in
theorem MX1_copyFrom (l : Launch) (G : GG) (B : Nat) (μ : Mm) (o : Nat) (ho : isA o) (b : Nat) (hb : isA b) : CM l yX1_copyFrom (.code yX1_copyFrom cX1_copyFrom 2 Option.none) 3 64 G B [.ref (B + o), .ref (B + b)] μ none (A_copy μ o b) := by
  refine CM.of (by decide) (Nat.le_of_ble_eq_true rfl) ?_
  intro p e s m below meth c ls K hr hlocks hP hl
  have hS : va_S (AA B) s.heap s.heap [] := va_S.rf
  have hl : lv_has ls 2 [(0, .ref (B + o)), (1, .ref (B + b))] := hl
  refine lv_aload_n K.1.1 K.1.2.1 dX1_copyFrom_0 rfl (lv_at hl 0 rfl) ?_
  refine m_getr K hP ho.1 ho.2.1 rfl tuX1 0 (by decide) rfl q_169 dX1_copyFrom_1 ?_
  refine lv_aload_n K.1.1 K.1.2.1 dX1_copyFrom_4 rfl (lv_at hl 1 rfl) ?_
  refine m_getr K hP hb.1 hb.2.1 rfl tuX1 0 (by decide) rfl q_169 dX1_copyFrom_5 ?_
  refine m_cV (n := 1) (As := [.ref (B + (b + 1))]) (rest := []) K hP hS (MX6_copyFrom l G B _ (o + 1) ho.2.2.1 (b + 1) hb.2.2.1 ) ho.2.2.1.1 ho.2.2.1.2.1 rfl q_661 q_662 q_663 q_17 q_664 hv_X6_copyFrom ⟨Nat.le_of_ble_eq_true rfl, Nat.le_of_ble_eq_true rfl⟩ rfl hl.1 rfl (Nat.le_of_ble_eq_true rfl) dX1_copyFrom_8 ⟨Nat.zero_le _, Nat.zero_le _⟩ (fun H locs hP hS => ?_)
  refine W.eq (g2 := F0 m 11 ls []) rfl ?_
  refine lv_aload_n K.1.1 K.1.2.1 dX1_copyFrom_11 rfl (lv_at hl 0 rfl) ?_
  refine m_getr K hP ho.1 ho.2.1 rfl tuX1 1 (by decide) rfl q_172 dX1_copyFrom_12 ?_
  refine lv_aload_n K.1.1 K.1.2.1 dX1_copyFrom_15 rfl (lv_at hl 1 rfl) ?_
  refine m_getr K hP hb.1 hb.2.1 rfl tuX1 1 (by decide) rfl q_172 dX1_copyFrom_16 ?_
  refine m_cV (n := 1) (As := [.ref (B + (b + 16))]) (rest := []) K hP hS (MX4_copyFrom l G B _ (o + 16) ho.2.2.2.1 (b + 16) hb.2.2.2.1 ) ho.2.2.2.1.1 ho.2.2.2.1.2.1 rfl q_670 q_671 q_672 q_19 q_673 hv_X4_copyFrom ⟨Nat.le_of_ble_eq_true rfl, Nat.le_of_ble_eq_true rfl⟩ rfl hl.1 rfl (Nat.le_of_ble_eq_true rfl) dX1_copyFrom_19 ⟨Nat.zero_le _, Nat.zero_le _⟩ (fun H locs hP hS => ?_)
  refine W.eq (g2 := F0 m 22 ls []) rfl ?_
  refine lv_aload_n K.1.1 K.1.2.1 dX1_copyFrom_22 rfl (lv_at hl 0 rfl) ?_
  refine m_getr K hP ho.1 ho.2.1 rfl tuX1 2 (by decide) rfl q_175 dX1_copyFrom_23 ?_
  refine lv_aload_n K.1.1 K.1.2.1 dX1_copyFrom_26 rfl (lv_at hl 1 rfl) ?_
  refine m_getr K hP hb.1 hb.2.1 rfl tuX1 2 (by decide) rfl q_175 dX1_copyFrom_27 ?_
  refine m_cV (n := 1) (As := [.ref (B + (b + 29))]) (rest := []) K hP hS (MX7_copyFrom l G B _ (o + 29) ho.2.2.2.2 (b + 29) hb.2.2.2.2 ) ho.2.2.2.2.1 ho.2.2.2.2.2.1 rfl q_675 q_676 q_677 q_20 q_678 hv_X7_copyFrom ⟨Nat.le_of_ble_eq_true rfl, Nat.le_of_ble_eq_true rfl⟩ rfl hl.1 rfl (Nat.le_of_ble_eq_true rfl) dX1_copyFrom_30 ⟨Nat.zero_le _, Nat.zero_le _⟩ (fun H locs hP hS => ?_)
  refine W.eq (g2 := F0 m 33 ls []) rfl ?_
  refine lv_aload_n K.1.1 K.1.2.1 dX1_copyFrom_33 rfl (lv_at hl 0 rfl) ?_
  refine lv_aload_n K.1.1 K.1.2.1 dX1_copyFrom_34 rfl (lv_at hl 1 rfl) ?_
  refine m_geti K hP hb.1 hb.2.1 rfl tuX1 3 (by decide) rfl q_177 dX1_copyFrom_35 ?_
  refine lv_topi (fun g_1 eg_1 => ?_)
  refine m_puti K hP hS ho.1 ho.2.1 rfl tuX1 tyX1 tyX1_ok nmX1 3 (by decide) rfl rfl (by decide +kernel) q_177 dX1_copyFrom_38 (fun H locs hP hS => ?_)
  refine lv_aload_n K.1.1 K.1.2.1 dX1_copyFrom_41 rfl (lv_at hl 0 rfl) ?_
  refine lv_aload_n K.1.1 K.1.2.1 dX1_copyFrom_42 rfl (lv_at hl 1 rfl) ?_
  refine m_geti K hP hb.1 hb.2.1 rfl tuX1 4 (by decide) rfl q_179 dX1_copyFrom_43 ?_
  refine lv_topi (fun g_2 eg_2 => ?_)
  refine m_puti K hP hS ho.1 ho.2.1 rfl tuX1 tyX1 tyX1_ok nmX1 4 (by decide) rfl rfl (by decide +kernel) q_179 dX1_copyFrom_46 (fun H locs hP hS => ?_)
  refine lv_aload_n K.1.1 K.1.2.1 dX1_copyFrom_49 rfl (lv_at hl 0 rfl) ?_
  refine lv_aload_n K.1.1 K.1.2.1 dX1_copyFrom_50 rfl (lv_at hl 1 rfl) ?_
  refine m_geti K hP hb.1 hb.2.1 rfl tuX1 5 (by decide) rfl q_180 dX1_copyFrom_51 ?_
  refine lv_topi (fun g_3 eg_3 => ?_)
  refine m_puti K hP hS ho.1 ho.2.1 rfl tuX1 tyX1 tyX1_ok nmX1 5 (by decide) rfl rfl (by decide +kernel) q_180 dX1_copyFrom_54 (fun H locs hP hS => ?_)
  refine lv_aload_n K.1.1 K.1.2.1 dX1_copyFrom_57 rfl (lv_at hl 0 rfl) ?_
  refine lv_aload_n K.1.1 K.1.2.1 dX1_copyFrom_58 rfl (lv_at hl 1 rfl) ?_
  refine m_geti K hP hb.1 hb.2.1 rfl tuX1 6 (by decide) rfl q_181 dX1_copyFrom_59 ?_
  refine lv_topi (fun g_4 eg_4 => ?_)
  refine m_puti K hP hS ho.1 ho.2.1 rfl tuX1 tyX1 tyX1_ok nmX1 6 (by decide) rfl rfl (by decide +kernel) q_181 dX1_copyFrom_62 (fun H locs hP hS => ?_)
  refine lv_aload_n K.1.1 K.1.2.1 dX1_copyFrom_65 rfl (lv_at hl 0 rfl) ?_
  refine lv_aload_n K.1.1 K.1.2.1 dX1_copyFrom_66 rfl (lv_at hl 1 rfl) ?_
  refine m_geti K hP hb.1 hb.2.1 rfl tuX1 7 (by decide) rfl q_182 dX1_copyFrom_67 ?_
  refine lv_topi (fun g_5 eg_5 => ?_)
  refine m_puti K hP hS ho.1 ho.2.1 rfl tuX1 tyX1 tyX1_ok nmX1 7 (by decide) rfl rfl (by decide +kernel) q_182 dX1_copyFrom_70 (fun H locs hP hS => ?_)
  refine lv_aload_n K.1.1 K.1.2.1 dX1_copyFrom_73 rfl (lv_at hl 0 rfl) ?_
  refine lv_aload_n K.1.1 K.1.2.1 dX1_copyFrom_74 rfl (lv_at hl 1 rfl) ?_
  refine m_geti K hP hb.1 hb.2.1 rfl tuX1 8 (by decide) rfl q_183 dX1_copyFrom_75 ?_
  refine lv_topi (fun g_6 eg_6 => ?_)
  refine m_puti K hP hS ho.1 ho.2.1 rfl tuX1 tyX1 tyX1_ok nmX1 8 (by decide) rfl rfl (by decide +kernel) q_183 dX1_copyFrom_78 (fun H locs hP hS => ?_)
  refine lv_aload_n K.1.1 K.1.2.1 dX1_copyFrom_81 rfl (lv_at hl 0 rfl) ?_
  refine lv_aload_n K.1.1 K.1.2.1 dX1_copyFrom_82 rfl (lv_at hl 1 rfl) ?_
  refine m_geti K hP hb.1 hb.2.1 rfl tuX1 9 (by decide) rfl q_184 dX1_copyFrom_83 ?_
  refine lv_topi (fun g_7 eg_7 => ?_)
  refine m_puti K hP hS ho.1 ho.2.1 rfl tuX1 tyX1 tyX1_ok nmX1 9 (by decide) rfl rfl (by decide +kernel) q_184 dX1_copyFrom_86 (fun H locs hP hS => ?_)
  refine lv_aload_n K.1.1 K.1.2.1 dX1_copyFrom_89 rfl (lv_at hl 0 rfl) ?_
  refine lv_aload_n K.1.1 K.1.2.1 dX1_copyFrom_90 rfl (lv_at hl 1 rfl) ?_
  refine m_geti K hP hb.1 hb.2.1 rfl tuX1 10 (by decide) rfl q_185 dX1_copyFrom_91 ?_
  refine lv_topi (fun g_8 eg_8 => ?_)
  refine m_puti K hP hS ho.1 ho.2.1 rfl tuX1 tyX1 tyX1_ok nmX1 10 (by decide) rfl rfl (by decide +kernel) q_185 dX1_copyFrom_94 (fun H locs hP hS => ?_)
  exact m_vret K hr hlocks hP hS dX1_copyFrom_97 rfl (by subst eg_1 eg_2 eg_3 eg_4 eg_5 eg_6 eg_7 eg_8; rfl)

set_option maxHeartbeats 4000000 in
set_option maxRecDepth 100000 in
theorem MJ9_floorMod_7cf53 (l : Launch) (G : GG) (B : Nat) (μ : Mm) (x : Int32) (z : Int32) (hz : ¬ z = 0) : CM l yJ9_floorMod_7cf53 (.code yJ9_floorMod_7cf53 cJ9_floorMod_7cf53 3 (Option.some FieldType.int)) 0 0 G B [.int x, .int z] μ (some (.int (fmI x z))) μ := by
  refine CM.ofF (by decide +kernel) (Nat.le_of_ble_eq_true rfl) ?_
  intro p e s m below meth c ls K hr hlocks hP hl
  have hS : va_S (AA B) s.heap s.heap [] := va_S.rf
  have hl : lv_has ls 3 [(0, .int x), (1, .int z)] := hl
  refine lv_iload_n K.1.1 K.1.2.1 dJ9_floorMod_7cf53_0 rfl (lv_at hl 0 rfl) ?_
  refine lv_iload_n K.1.1 K.1.2.1 dJ9_floorMod_7cf53_1 rfl (lv_at hl 1 rfl) ?_
  refine lv_irem K.1.1 K.1.2.1 dJ9_floorMod_7cf53_2 hz ?_
  refine lv_topi (fun x_1 ex_1 => ?_)
  refine lv_istore_n (lv' := [(2, .int x_1), (0, .int x), (1, .int z)]) K.1.1 K.1.2.1 dJ9_floorMod_7cf53_3 rfl hl (by decide) rfl (fun ls hl => ?_)
  refine lv_iload_n K.1.1 K.1.2.1 dJ9_floorMod_7cf53_4 rfl (lv_at hl 1 rfl) ?_
  refine lv_iload_n K.1.1 K.1.2.1 dJ9_floorMod_7cf53_5 rfl (lv_at hl 2 rfl) ?_
  refine lv_ixor K.1.1 K.1.2.1 dJ9_floorMod_7cf53_6 ?_
  refine lv_if_ge (tgt := 18) K.1.1 K.1.2.1 dJ9_floorMod_7cf53_7 (by decide) (fun c_7 => ?_) (fun c_7 => ?_)
  · refine lv_iload_n K.1.1 K.1.2.1 dJ9_floorMod_7cf53_18 rfl (lv_at hl 0 rfl) ?_
    exact m_iret K hr hlocks hP hS dJ9_floorMod_7cf53_19 (by subst ex_1; first | (simp only [fmI, rmI, c_7, Int32.not_lt.mpr c_7, if_true, if_false, ite_true, ite_false, reduceIte, not_true, not_false_iff]; done) | simp [fmI, rmI, c_7, Int32.not_lt.mpr c_7]) rfl
  · refine lv_iload_n K.1.1 K.1.2.1 dJ9_floorMod_7cf53_10 rfl (lv_at hl 0 rfl) ?_
    refine lv_if_eq (tgt := 18) K.1.1 K.1.2.1 dJ9_floorMod_7cf53_11 (by decide) (fun c_11 => ?_) (fun c_11 => ?_)
    · refine lv_iload_n K.1.1 K.1.2.1 dJ9_floorMod_7cf53_18 rfl (lv_at hl 0 rfl) ?_
      exact m_iret K hr hlocks hP hS dJ9_floorMod_7cf53_19 (by subst ex_1; first | (simp only [fmI, rmI, c_7, Int32.not_le.mp c_7, c_11, if_true, if_false, ite_true, ite_false, reduceIte, not_true, not_false_iff]; done) | simp [fmI, rmI, c_7, Int32.not_le.mp c_7, c_11]) rfl
    · refine lv_iload_n K.1.1 K.1.2.1 dJ9_floorMod_7cf53_14 rfl (lv_at hl 0 rfl) ?_
      refine lv_iload_n K.1.1 K.1.2.1 dJ9_floorMod_7cf53_15 rfl (lv_at hl 2 rfl) ?_
      refine lv_iadd K.1.1 K.1.2.1 dJ9_floorMod_7cf53_16 ?_
      exact m_iret K hr hlocks hP hS dJ9_floorMod_7cf53_17 (by subst ex_1; first | (simp only [fmI, rmI, c_7, Int32.not_le.mp c_7, c_11, if_true, if_false, ite_true, ite_false, reduceIte, not_true, not_false_iff]; done) | simp [fmI, rmI, c_7, Int32.not_le.mp c_7, c_11]) rfl

set_option maxHeartbeats 4000000 in
set_option maxRecDepth 100000 in
theorem MX8_placeOf (l : Launch) (G : GG) (B : Nat) (μ : Mm) (h : Int32) : CM l yX8_placeOf (.code yX8_placeOf cX8_placeOf 3 (Option.some (FieldType.object RX1))) 1 22 G B [.ref (B + 92), .int h] μ (some (.ref (B + U_at μ h))) μ := by
  refine CM.of (by decide) (Nat.le_of_ble_eq_true rfl) ?_
  intro p e s m below meth c ls K hr hlocks hP hl
  have hS : va_S (AA B) s.heap s.heap [] := va_S.rf
  have hl : lv_has ls 3 [(0, .ref (B + 92)), (1, .int h)] := hl
  refine lv_aload_n K.1.1 K.1.2.1 dX8_placeOf_0 rfl (lv_at hl 0 rfl) ?_
  refine m_geti K hP (by decide) sh_92 rfl tuX8 1 (by decide) rfl q_272 dX8_placeOf_1 ?_
  refine lv_topi (fun g_1 eg_1 => ?_)
  refine lv_iload_n K.1.1 K.1.2.1 dX8_placeOf_4 rfl (lv_at hl 1 rfl) ?_
  refine lv_iadd K.1.1 K.1.2.1 dX8_placeOf_5 ?_
  refine lv_iconst (v := 4) K.1.1 K.1.2.1 dX8_placeOf_6 (by decide) ?_
  refine m_cSX (n := 2) (As := [.int (g_1 + h), .int 4]) (rest := []) K hP hS (MJ9_floorMod_7cf53 l G B _ (g_1 + h) 4 (by decide)) q_650 q_651 q_30 q_652 hv_J9_floorMod_7cf53.2 ⟨Nat.le_of_ble_eq_true rfl, Nat.le_of_ble_eq_true rfl⟩ rfl hl.1 rfl (Nat.le_of_ble_eq_true rfl) dX8_placeOf_7 ⟨Nat.zero_le _, Nat.zero_le _⟩ (fun H locs hP hS => ?_)
  refine lv_topi (fun r_2 er_2 => ?_)
  refine lv_istore_n (lv' := [(2, .int r_2), (0, .ref (B + 92)), (1, .int h)]) K.1.1 K.1.2.1 dX8_placeOf_10 rfl hl (by decide) rfl (fun ls hl => ?_)
  refine lv_iload_n K.1.1 K.1.2.1 dX8_placeOf_11 rfl (lv_at hl 0 rfl) ?_
  refine lv_if_lt (tgt := 33) K.1.1 K.1.2.1 dX8_placeOf_12 (by decide) (fun c_12 => ?_) (fun c_12 => ?_)
  · exact absurd c_12 (by subst eg_1 er_2; exact (fm4_nn _))
  · refine lv_iload_n K.1.1 K.1.2.1 dX8_placeOf_15 rfl (lv_at hl 0 rfl) ?_
    refine lv_aload_n K.1.1 K.1.2.1 dX8_placeOf_16 rfl (lv_at hl 1 rfl) ?_
    refine m_getr K hP (by decide) sh_92 rfl tuX8 2 (by decide) rfl q_273 dX8_placeOf_17 ?_
    refine m_qlen K hP dX8_placeOf_20 ?_
    refine lv_icmp_ge (tgt := 33) K.1.1 K.1.2.1 dX8_placeOf_21 (by decide) (fun c_21 => ?_) (fun c_21 => ?_)
    · exact absurd c_21 (by subst eg_1 er_2; exact fm4_lt _)
    · refine lv_aload_n K.1.1 K.1.2.1 dX8_placeOf_24 rfl (lv_at hl 1 rfl) ?_
      refine m_getr K hP (by decide) sh_92 rfl tuX8 2 (by decide) rfl q_273 dX8_placeOf_25 ?_
      refine lv_iload_n K.1.1 K.1.2.1 dX8_placeOf_28 rfl (lv_at hl 0 rfl) ?_
      refine m_aald K hP (by subst eg_1 er_2; exact fm4_in _) dX8_placeOf_29 ?_
      refine lv_goto (tgt := 34) K.1.1 K.1.2.1 dX8_placeOf_30 (by decide) ?_
      exact m_aret K hr hlocks hP hS (Or.inr ⟨_, rfl⟩) dX8_placeOf_34 (by subst eg_1 er_2; rfl) rfl

set_option maxHeartbeats 4000000 in
set_option maxRecDepth 100000 in
theorem MX8_push (l : Launch) (G : GG) (B : Nat) (μ : Mm) (b : Nat) (hb : isA b) : CM l yX8_push (.code yX8_push cX8_push 3 Option.none) 4 85 G B [.ref (B + 92), .ref (B + b)] μ none (U_push μ b) := by
  refine CM.of (by decide) (Nat.le_of_ble_eq_true rfl) ?_
  intro p e s m below meth c ls K hr hlocks hP hl
  have hS : va_S (AA B) s.heap s.heap [] := va_S.rf
  have hl : lv_has ls 3 [(0, .ref (B + 92)), (1, .ref (B + b))] := hl
  refine lv_aload_n K.1.1 K.1.2.1 dX8_push_0 rfl (lv_at hl 0 rfl) ?_
  refine m_geti K hP (by decide) sh_92 rfl tuX8 0 (by decide) rfl q_270 dX8_push_1 ?_
  refine lv_topi (fun g_1 eg_1 => ?_)
  refine lv_iconst (v := 4) K.1.1 K.1.2.1 dX8_push_4 (by decide) ?_
  refine lv_icmp_ne (tgt := 32) K.1.1 K.1.2.1 dX8_push_5 (by decide) (fun c_5 => ?_) (fun c_5 => ?_)
  · refine lv_aload_n K.1.1 K.1.2.1 dX8_push_32 rfl (lv_at hl 0 rfl) ?_
    refine lv_aload_n K.1.1 K.1.2.1 dX8_push_33 rfl (lv_at hl 0 rfl) ?_
    refine m_geti K hP (by decide) sh_92 rfl tuX8 0 (by decide) rfl q_270 dX8_push_34 ?_
    refine lv_topi (fun g_2 eg_2 => ?_)
    refine m_cV (n := 1) (As := [.int g_2]) (rest := []) K hP hS (MX8_placeOf l G B _ g_2 ) (by decide) sh_92 rfl q_653 q_655 q_13 q_22 q_656 hv_X8_placeOf ⟨Nat.le_of_ble_eq_true rfl, Nat.le_of_ble_eq_true rfl⟩ rfl hl.1 rfl (Nat.le_of_ble_eq_true rfl) dX8_push_37 ⟨Nat.zero_le _, Nat.zero_le _⟩ (fun H locs hP hS => ?_)
    refine m_topr (fun j_4 ej_4 => ?_)
    have hj_4 : isA j_4 := (by rw [ej_4]; exact isA_p _)
    refine lv_astore_n (lv' := [(2, .ref (B + j_4)), (0, .ref (B + 92)), (1, .ref (B + b))]) K.1.1 K.1.2.1 dX8_push_40 rfl hl (by decide) rfl (fun ls hl => ?_)
    refine lv_aload_n K.1.1 K.1.2.1 dX8_push_41 rfl (lv_at hl 0 rfl) ?_
    refine lv_ifnull K.1.1 K.1.2.1 dX8_push_42 ?_
    refine lv_aload_n K.1.1 K.1.2.1 dX8_push_45 rfl (lv_at hl 0 rfl) ?_
    refine lv_aload_n K.1.1 K.1.2.1 dX8_push_46 rfl (lv_at hl 2 rfl) ?_
    refine m_cV (n := 1) (As := [.ref (B + b)]) (rest := []) K hP hS (MX1_copyFrom l G B _ j_4 hj_4 b hb ) hj_4.1 hj_4.2.1 rfl q_657 q_658 q_659 q_16 q_660 hv_X1_copyFrom ⟨Nat.le_of_ble_eq_true rfl, Nat.le_of_ble_eq_true rfl⟩ rfl hl.1 rfl (Nat.le_of_ble_eq_true rfl) dX8_push_47 ⟨Nat.zero_le _, Nat.zero_le _⟩ (fun H locs hP hS => ?_)
    refine W.eq (g2 := F0 m 50 ls []) rfl ?_
    refine lv_aload_n K.1.1 K.1.2.1 dX8_push_50 rfl (lv_at hl 1 rfl) ?_
    refine lv_dup K.1.1 K.1.2.1 dX8_push_51 rfl ?_
    refine m_geti K hP (by decide) sh_92 rfl tuX8 0 (by decide) rfl q_270 dX8_push_52 ?_
    refine lv_topi (fun g_5 eg_5 => ?_)
    refine lv_iconst (v := 1) K.1.1 K.1.2.1 dX8_push_55 (by decide) ?_
    refine lv_iadd K.1.1 K.1.2.1 dX8_push_56 ?_
    refine m_puti K hP hS (by decide) sh_92 rfl tuX8 tyX8 tyX8_ok nmX8 0 (by decide) rfl rfl (by decide +kernel) q_270 dX8_push_57 (fun H locs hP hS => ?_)
    exact m_vret K hr hlocks hP hS dX8_push_60 rfl (by subst eg_1 eg_2 ej_4 eg_5; first | (simp only [U_push, U_drop, c_5, if_true, if_false]; done) | (rw [U_push, U_drop]; simp only [if_pos c_5]; rfl) | (rw [U_push, U_drop]; simp only [if_neg c_5]; rfl))
  · refine lv_aload_n K.1.1 K.1.2.1 dX8_push_8 rfl (lv_at hl 0 rfl) ?_
    refine lv_aload_n K.1.1 K.1.2.1 dX8_push_9 rfl (lv_at hl 0 rfl) ?_
    refine m_geti K hP (by decide) sh_92 rfl tuX8 1 (by decide) rfl q_272 dX8_push_10 ?_
    refine lv_topi (fun g_6 eg_6 => ?_)
    refine lv_iconst (v := 1) K.1.1 K.1.2.1 dX8_push_13 (by decide) ?_
    refine lv_iadd K.1.1 K.1.2.1 dX8_push_14 ?_
    refine lv_iconst (v := 4) K.1.1 K.1.2.1 dX8_push_15 (by decide) ?_
    refine m_cSX (n := 2) (As := [.int (g_6 + 1), .int 4]) (rest := [.ref (B + 92)]) K hP hS (MJ9_floorMod_7cf53 l G B _ (g_6 + 1) 4 (by decide)) q_650 q_651 q_30 q_652 hv_J9_floorMod_7cf53.2 ⟨Nat.le_of_ble_eq_true rfl, Nat.le_of_ble_eq_true rfl⟩ rfl hl.1 rfl (Nat.le_of_ble_eq_true rfl) dX8_push_16 ⟨Nat.zero_le _, Nat.zero_le _⟩ (fun H locs hP hS => ?_)
    refine lv_topi (fun r_7 er_7 => ?_)
    refine m_puti K hP hS (by decide) sh_92 rfl tuX8 tyX8 tyX8_ok nmX8 1 (by decide) rfl rfl (by decide +kernel) q_272 dX8_push_19 (fun H locs hP hS => ?_)
    refine lv_aload_n K.1.1 K.1.2.1 dX8_push_22 rfl (lv_at hl 0 rfl) ?_
    refine lv_dup K.1.1 K.1.2.1 dX8_push_23 rfl ?_
    refine m_geti K hP (by decide) sh_92 rfl tuX8 0 (by decide) rfl q_270 dX8_push_24 ?_
    refine lv_topi (fun g_8 eg_8 => ?_)
    refine lv_iconst (v := 1) K.1.1 K.1.2.1 dX8_push_27 (by decide) ?_
    refine lv_isub K.1.1 K.1.2.1 dX8_push_28 ?_
    refine m_puti K hP hS (by decide) sh_92 rfl tuX8 tyX8 tyX8_ok nmX8 0 (by decide) rfl rfl (by decide +kernel) q_270 dX8_push_29 (fun H locs hP hS => ?_)
    refine lv_aload_n K.1.1 K.1.2.1 dX8_push_32 rfl (lv_at hl 0 rfl) ?_
    refine lv_aload_n K.1.1 K.1.2.1 dX8_push_33 rfl (lv_at hl 0 rfl) ?_
    refine m_geti K hP (by decide) sh_92 rfl tuX8 0 (by decide) rfl q_270 dX8_push_34 ?_
    refine lv_topi (fun g_9 eg_9 => ?_)
    refine m_cV (n := 1) (As := [.int g_9]) (rest := []) K hP hS (MX8_placeOf l G B _ g_9 ) (by decide) sh_92 rfl q_653 q_655 q_13 q_22 q_656 hv_X8_placeOf ⟨Nat.le_of_ble_eq_true rfl, Nat.le_of_ble_eq_true rfl⟩ rfl hl.1 rfl (Nat.le_of_ble_eq_true rfl) dX8_push_37 ⟨Nat.zero_le _, Nat.zero_le _⟩ (fun H locs hP hS => ?_)
    refine m_topr (fun j_11 ej_11 => ?_)
    have hj_11 : isA j_11 := (by rw [ej_11]; exact isA_p _)
    refine lv_astore_n (lv' := [(2, .ref (B + j_11)), (0, .ref (B + 92)), (1, .ref (B + b))]) K.1.1 K.1.2.1 dX8_push_40 rfl hl (by decide) rfl (fun ls hl => ?_)
    refine lv_aload_n K.1.1 K.1.2.1 dX8_push_41 rfl (lv_at hl 0 rfl) ?_
    refine lv_ifnull K.1.1 K.1.2.1 dX8_push_42 ?_
    refine lv_aload_n K.1.1 K.1.2.1 dX8_push_45 rfl (lv_at hl 0 rfl) ?_
    refine lv_aload_n K.1.1 K.1.2.1 dX8_push_46 rfl (lv_at hl 2 rfl) ?_
    refine m_cV (n := 1) (As := [.ref (B + b)]) (rest := []) K hP hS (MX1_copyFrom l G B _ j_11 hj_11 b hb ) hj_11.1 hj_11.2.1 rfl q_657 q_658 q_659 q_16 q_660 hv_X1_copyFrom ⟨Nat.le_of_ble_eq_true rfl, Nat.le_of_ble_eq_true rfl⟩ rfl hl.1 rfl (Nat.le_of_ble_eq_true rfl) dX8_push_47 ⟨Nat.zero_le _, Nat.zero_le _⟩ (fun H locs hP hS => ?_)
    refine W.eq (g2 := F0 m 50 ls []) rfl ?_
    refine lv_aload_n K.1.1 K.1.2.1 dX8_push_50 rfl (lv_at hl 1 rfl) ?_
    refine lv_dup K.1.1 K.1.2.1 dX8_push_51 rfl ?_
    refine m_geti K hP (by decide) sh_92 rfl tuX8 0 (by decide) rfl q_270 dX8_push_52 ?_
    refine lv_topi (fun g_12 eg_12 => ?_)
    refine lv_iconst (v := 1) K.1.1 K.1.2.1 dX8_push_55 (by decide) ?_
    refine lv_iadd K.1.1 K.1.2.1 dX8_push_56 ?_
    refine m_puti K hP hS (by decide) sh_92 rfl tuX8 tyX8 tyX8_ok nmX8 0 (by decide) rfl rfl (by decide +kernel) q_270 dX8_push_57 (fun H locs hP hS => ?_)
    exact m_vret K hr hlocks hP hS dX8_push_60 rfl (by subst eg_1 eg_6 er_7 eg_8 eg_9 ej_11 eg_12; first | (simp only [U_push, U_drop, c_5, if_true, if_false]; done) | (rw [U_push, U_drop]; simp only [if_pos c_5]; rfl) | (rw [U_push, U_drop]; simp only [if_neg c_5]; rfl))

set_option maxHeartbeats 4000000 in
set_option maxRecDepth 100000 in
theorem MX8_pop (l : Launch) (G : GG) (B : Nat) (μ : Mm) (b : Nat) (hb : isA b) : CM l yX8_pop (.code yX8_pop cX8_pop 3 Option.none) 4 85 G B [.ref (B + 92), .ref (B + b)] μ none (U_pop μ b) := by
  refine CM.of (by decide) (Nat.le_of_ble_eq_true rfl) ?_
  intro p e s m below meth c ls K hr hlocks hP hl
  have hS : va_S (AA B) s.heap s.heap [] := va_S.rf
  have hl : lv_has ls 3 [(0, .ref (B + 92)), (1, .ref (B + b))] := hl
  refine lv_aload_n K.1.1 K.1.2.1 dX8_pop_0 rfl (lv_at hl 0 rfl) ?_
  refine m_geti K hP (by decide) sh_92 rfl tuX8 0 (by decide) rfl q_270 dX8_pop_1 ?_
  refine lv_topi (fun g_1 eg_1 => ?_)
  refine lv_if_ne (tgt := 8) K.1.1 K.1.2.1 dX8_pop_4 (by decide) (fun c_4 => ?_) (fun c_4 => ?_)
  · refine lv_aload_n K.1.1 K.1.2.1 dX8_pop_8 rfl (lv_at hl 0 rfl) ?_
    refine lv_dup K.1.1 K.1.2.1 dX8_pop_9 rfl ?_
    refine m_geti K hP (by decide) sh_92 rfl tuX8 0 (by decide) rfl q_270 dX8_pop_10 ?_
    refine lv_topi (fun g_2 eg_2 => ?_)
    refine lv_iconst (v := 1) K.1.1 K.1.2.1 dX8_pop_13 (by decide) ?_
    refine lv_isub K.1.1 K.1.2.1 dX8_pop_14 ?_
    refine m_puti K hP hS (by decide) sh_92 rfl tuX8 tyX8 tyX8_ok nmX8 0 (by decide) rfl rfl (by decide +kernel) q_270 dX8_pop_15 (fun H locs hP hS => ?_)
    refine lv_aload_n K.1.1 K.1.2.1 dX8_pop_18 rfl (lv_at hl 0 rfl) ?_
    refine lv_aload_n K.1.1 K.1.2.1 dX8_pop_19 rfl (lv_at hl 0 rfl) ?_
    refine m_geti K hP (by decide) sh_92 rfl tuX8 0 (by decide) rfl q_270 dX8_pop_20 ?_
    refine lv_topi (fun g_3 eg_3 => ?_)
    refine m_cV (n := 1) (As := [.int g_3]) (rest := []) K hP hS (MX8_placeOf l G B _ g_3 ) (by decide) sh_92 rfl q_653 q_655 q_13 q_22 q_656 hv_X8_placeOf ⟨Nat.le_of_ble_eq_true rfl, Nat.le_of_ble_eq_true rfl⟩ rfl hl.1 rfl (Nat.le_of_ble_eq_true rfl) dX8_pop_23 ⟨Nat.zero_le _, Nat.zero_le _⟩ (fun H locs hP hS => ?_)
    refine m_topr (fun j_5 ej_5 => ?_)
    have hj_5 : isA j_5 := (by rw [ej_5]; exact isA_p _)
    refine lv_astore_n (lv' := [(2, .ref (B + j_5)), (0, .ref (B + 92)), (1, .ref (B + b))]) K.1.1 K.1.2.1 dX8_pop_26 rfl hl (by decide) rfl (fun ls hl => ?_)
    refine lv_aload_n K.1.1 K.1.2.1 dX8_pop_27 rfl (lv_at hl 0 rfl) ?_
    refine lv_ifnull K.1.1 K.1.2.1 dX8_pop_28 ?_
    refine lv_aload_n K.1.1 K.1.2.1 dX8_pop_31 rfl (lv_at hl 2 rfl) ?_
    refine lv_aload_n K.1.1 K.1.2.1 dX8_pop_32 rfl (lv_at hl 0 rfl) ?_
    refine m_cV (n := 1) (As := [.ref (B + j_5)]) (rest := []) K hP hS (MX1_copyFrom l G B _ b hb j_5 hj_5 ) hb.1 hb.2.1 rfl q_657 q_658 q_659 q_16 q_660 hv_X1_copyFrom ⟨Nat.le_of_ble_eq_true rfl, Nat.le_of_ble_eq_true rfl⟩ rfl hl.1 rfl (Nat.le_of_ble_eq_true rfl) dX8_pop_33 ⟨Nat.zero_le _, Nat.zero_le _⟩ (fun H locs hP hS => ?_)
    refine W.eq (g2 := F0 m 36 ls []) rfl ?_
    exact m_vret K hr hlocks hP hS dX8_pop_36 rfl (by subst eg_1 eg_2 eg_3 ej_5; first | (rw [U_pop, if_pos c_4]; done) | (rw [U_pop, if_neg c_4]; done))
  · exact m_vret K hr hlocks hP hS dX8_pop_7 rfl (by subst eg_1; first | (rw [U_pop, if_pos c_4]; done) | (rw [U_pop, if_neg c_4]; done))
end
