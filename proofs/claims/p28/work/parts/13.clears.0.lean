noncomputable section
def M_side (μ : Mm) (k : Int32) : Int32 := M_t μ (M_o μ k 1) 0
def M_val (μ : Mm) (k : Int32) : Int32 := M_t μ (M_o μ k 1) 1
def M_isGood (μ : Mm) (k p : Int32) : Int32 := if M_side μ k = 0 then (if M_o μ k 2 < p then 0 else 1) else (if p < M_o μ k 2 then 0 else 1)
def M_unitsAt (μ : Mm) (sd p : Int32) : Int32 :=
  sumI (fun k => if M_side μ (nI k) = sd then (if M_isGood μ (nI k) p = 0 then 0 else M_o μ (nI k) 3) else 0) (cn (μ 260 1))
def lsI (x y : Int32) : Int32 := if x < y then x else y
def M_volumeAt (μ : Mm) (p : Int32) : Int32 := lsI (M_unitsAt μ 0 p) (M_unitsAt μ 1 p)
/-- one price of the search -/
def FI_step (k : Nat) (μ : Mm) : Mm :=
  let v := M_volumeAt μ (nI (k + 1))
  let μ1 := if μ 259 7 < v then up2 (up2 μ 259 7 v) 259 4 (nI (k + 1)) else μ
  up2 μ1 259 5 (if 0 < v then (if v = μ1 259 7 then nI (k + 1) else μ1 259 5) else μ1 259 5)
def FI_run (μ : Mm) (k : Nat) : Mm := itr FI_step (up2 (up2 (up2 μ 259 7 0) 259 4 (-10000)) 259 5 (-10000)) k
theorem FI_run_s (μ : Mm) (k : Nat) : FI_run μ (k + 1) = FI_step k (FI_run μ k) := rfl
def M_priceOf (μ : Mm) : Int32 := if μ 259 7 = 0 then -10000 else μ 259 4 + (μ 259 5 - μ 259 4) * μ 260 3 / 10
def M_finds (μ : Mm) : Mm := up2 (FI_run μ (NN 120)) 259 6 (M_priceOf (FI_run μ (NN 120)))
theorem FI_ne {μ : Mm} {k' : Nat} (h : k' ≠ 259) (k : Nat) : FI_run μ k k' = μ k' := by
  refine itr_inv (fun _ (s : Mm) => s k' = μ k') (by rw [up2_k _ _ h, up2_k _ _ h, up2_k _ _ h]) (fun k s hs => ?_) k
  show (FI_step k s) k' = μ k'
  unfold FI_step
  try dsimp only
  rw [up2_k _ _ h]
  split
  · rw [up2_k _ _ h, up2_k _ _ h, hs]
  · exact hs
theorem FI_260 (μ : Mm) (k : Nat) : FI_run μ k 260 = μ 260 := FI_ne (by decide) k
theorem M_finds_260 (μ : Mm) : M_finds μ 260 = μ 260 := by
  unfold M_finds
  rw [up2_k _ _ (by decide), FI_260]
def M_isAhead (μ : Mm) (k j : Int32) : Int32 :=
  if M_side μ k = M_side μ j then
    if k = j then 0
    else if (if M_side μ k = 0 then (if M_o μ j 2 < M_o μ k 2 then (1 : Int32) else 0) else (if M_o μ k 2 < M_o μ j 2 then 1 else 0)) = 0 then
      (if M_o μ k 2 = M_o μ j 2 then (if M_o μ k 0 < M_o μ j 0 then 1 else 0) else 0)
    else 1
  else 0
def M_placeOf (μ : Mm) (k : Int32) : Int32 := sumI (fun j => if M_isAhead μ (nI j) k = 0 then 0 else 1) (cn (μ 260 1))
def subI (g : Nat → Int32) (a : Int32) : Nat → Int32
  | 0 => a
  | n + 1 => subI g a n - g n
def M_leftOf (μ : Mm) (k : Int32) (n : Nat) : Int32 := subI (fun j => if M_isAhead μ (nI j) k = 0 then 0 else M_o μ (nI j) 3) (μ 259 7) n
def M_fillOf (μ : Mm) (k : Int32) : Int32 :=
  if μ 259 7 = 0 then 0
  else if M_isGood μ k (μ 259 6) = 0 then 0
  else if M_leftOf μ k (cn (μ 260 1)) < 0 then 0
  else lsI (M_leftOf μ k (cn (μ 260 1))) (M_o μ k 3)
def M_gainOf (μ : Mm) (k : Int32) : Int32 := if M_side μ k = 0 then M_val μ k - μ 259 6 else μ 259 6 - M_val μ k
def M_gainsOf (μ : Mm) (t : Int32) : Int32 :=
  sumI (fun k => if M_o μ (nI k) 1 = t then M_fillOf μ (nI k) * (if μ 259 7 = 0 then 0 else M_gainOf μ (nI k)) else 0) (cn (μ 260 1))
def M_surplusNow (μ : Mm) : Int32 := sumI (fun t => M_gainsOf μ (nI t)) (cn (μ 260 0))
def M_unitsBy (μ : Mm) (sd v : Int32) : Int32 :=
  sumI (fun k => if M_side μ (nI k) = sd then (if M_val μ (nI k) = v then M_o μ (nI k) 3 else 0) else 0) (cn (μ 260 1))
/-- the greatest surplus, n steps at most: sum, high, low, bought, sold -/
def GR (μ : Mm) : Nat → Int32 → Int32 → Int32 → Int32 → Int32 → Int32
  | 0, s, _, _, _, _ => s
  | n + 1, s, h, l, b, d =>
    if l < h then
      if b = 0 then GR μ n s (h - 1) l (M_unitsBy μ 0 (h - 1)) d
      else if d = 0 then GR μ n s h (l + 1) b (M_unitsBy μ 1 (l + 1))
      else GR μ n (s + lsI b d * (h - l)) h l (b - lsI b d) (d - lsI b d)
    else s
def GRok (μ : Mm) : Nat → Int32 → Int32 → Int32 → Int32 → Prop
  | 0, h, l, _, _ => ¬ l < h
  | n + 1, h, l, b, d =>
    l < h → (b = 0 → GRok μ n (h - 1) l (M_unitsBy μ 0 (h - 1)) d) ∧ (¬ b = 0 → d = 0 → GRok μ n h (l + 1) b (M_unitsBy μ 1 (l + 1))) ∧ (¬ b = 0 → ¬ d = 0 → GRok μ n h l (b - lsI b d) (d - lsI b d))
def M_greatest (μ : Mm) : Int32 := GR μ (NN 400) 0 99 1 (M_unitsBy μ 0 99) (M_unitsBy μ 1 1)
def M_grok (μ : Mm) : Prop := GRok μ (NN 400) 99 1 (M_unitsBy μ 0 99) (M_unitsBy μ 1 1)
def fst0 (p : Nat → Bool) (n : Nat) : Int32 := match fst p n with
  | some k => nI k
  | none => 0
theorem fst0_none {p : Nat → Bool} {n : Nat} (h : ∀ j, j < n → p j = false) : fst0 p n = 0 := by simp [fst0, fst_none h]
theorem fst0_some {p : Nat → Bool} {n k : Nat} (hk : k < n) (h : ∀ j, j < k → p j = false) (hp : p k = true) : fst0 p n = nI k := by simp [fst0, fst_some hk h hp]
def M_orderAt (μ : Mm) (sd pl : Int32) : Int32 := fst0 (fun k => decide (M_side μ (nI k) = sd ∧ M_placeOf μ (nI k) = pl)) (cn (μ 260 1))
theorem orderAt_vp {μ : Mm} (h : MI μ) (sd pl : Int32) : vp_in (M_orderAt μ sd pl) 20 := by
  unfold M_orderAt fst0
  split
  · rename_i k e
    exact MI_k h (fst_lt e).1
  · exact vpd rfl
def M_adds (μ : Mm) (b s u : Int32) : Mm :=
  let i := 167 + 5 * μ 260 9
  let μ1 := up2 μ 260 (cn i) (M_o μ b 0)
  let μ2 := up2 μ1 260 (cn (i + 1)) (M_o μ1 s 0)
  let μ3 := up2 μ2 260 (cn (i + 2)) u
  let μ4 := up2 μ3 260 (cn (i + 3)) (M_o μ3 b 1)
  let μ5 := up2 μ4 260 (cn (i + 4)) (M_o μ4 s 1)
  up2 μ5 260 9 (μ5 260 9 + 1)
/-- the trades, n at most: memory, left, buys, sells, bought, sold -/
def TR_mb (μ : Mm) (b x : Int32) : Int32 := M_fillOf μ (M_orderAt μ 0 b) - x
def TR_ms (μ : Mm) (s y : Int32) : Int32 := M_fillOf μ (M_orderAt μ 1 s) - y
def TR_u (μ : Mm) (b s x y : Int32) : Int32 := lsI (TR_mb μ b x) (TR_ms μ s y)
def TR : Nat → Mm → Int32 → Int32 → Int32 → Int32 → Int32 → Mm
  | 0, μ, _, _, _, _, _ => μ
  | n + 1, μ, l, b, s, x, y =>
    if 0 < l then
      TR n (M_adds μ (M_orderAt μ 0 b) (M_orderAt μ 1 s) (TR_u μ b s x y)) (l - TR_u μ b s x y)
        (b + (if TR_u μ b s x y = TR_mb μ b x then 1 else 0)) (s + (if TR_u μ b s x y = TR_ms μ s y then 1 else 0))
        (if TR_u μ b s x y = TR_mb μ b x then 0 else x + TR_u μ b s x y) (if TR_u μ b s x y = TR_ms μ s y then 0 else y + TR_u μ b s x y)
    else μ
def TRok : Nat → Mm → Int32 → Int32 → Int32 → Int32 → Int32 → Prop
  | 0, _, l, _, _, _, _ => ¬ 0 < l
  | n + 1, μ, l, b, s, x, y =>
    0 < l → vp_in (μ 260 9) 20 ∧
      TRok n (M_adds μ (M_orderAt μ 0 b) (M_orderAt μ 1 s) (TR_u μ b s x y)) (l - TR_u μ b s x y)
        (b + (if TR_u μ b s x y = TR_mb μ b x then 1 else 0)) (s + (if TR_u μ b s x y = TR_ms μ s y then 1 else 0))
        (if TR_u μ b s x y = TR_mb μ b x then 0 else x + TR_u μ b s x y) (if TR_u μ b s x y = TR_ms μ s y then 0 else y + TR_u μ b s x y)
def M_trades (μ : Mm) : Mm := TR (NN 40) (up2 μ 260 9 0) (up2 μ 260 9 0 259 7) 0 0 0 0
def M_trok (μ : Mm) : Prop := TRok (NN 40) (up2 μ 260 9 0) (up2 μ 260 9 0 259 7) 0 0 0 0
def M_cntOf (μ : Mm) (t : Int32) (n : Nat) : Int32 := sumI (fun k => if M_o μ (nI k) 1 = t then 1 else 0) n
def M_allOf (μ : Mm) (t : Int32) (n : Nat) : Int32 := sumI (fun k => if M_o μ (nI k) 1 = t then (if M_fillOf μ (nI k) = M_o μ (nI k) 3 then 1 else 0) else 0) n
def M_noneOf (μ : Mm) (t : Int32) (n : Nat) : Int32 := sumI (fun k => if M_o μ (nI k) 1 = t then (if M_fillOf μ (nI k) = 0 then 1 else 0) else 0) n
def M_outcome (μ : Mm) (t : Int32) : Int32 :=
  if M_cntOf μ t (cn (μ 260 1)) = 0 then 0 else if M_allOf μ t (cn (μ 260 1)) = M_cntOf μ t (cn (μ 260 1)) then 1 else if M_noneOf μ t (cn (μ 260 1)) = M_cntOf μ t (cn (μ 260 1)) then -1 else 0
def M_learns (μ : Mm) (t : Int32) : Mm :=
  if M_t μ t 2 = 3 then (if wI (M_t μ t 3 + M_outcome μ t) 0 50 = 0 then μ else M_setT μ t 3 (M_t μ t 3 + M_outcome μ t)) else μ
def M_takenOf (μ : Mm) (t : Int32) : Int32 := sumI (fun k => if M_o μ (nI k) 1 = t then M_fillOf μ (nI k) else 0) (cn (μ 260 1))
def M_paid (μ : Mm) (t : Int32) : Int32 := if M_takenOf μ t = 0 then 0 else M_takenOf μ t * μ 259 6
def M_settles (μ : Mm) (t : Int32) : Mm :=
  let μ1 := M_setT μ t 5 (M_t μ t 5 + M_gainsOf μ t)
  let μ2 := M_setT μ1 t 4 (M_t μ1 t 4 + M_takenOf μ t)
  M_setT μ2 t 6 (M_t μ2 t 6 + (if M_t μ2 t 0 = 0 then -M_paid μ t else M_paid μ t))
def M_fillK (μ : Mm) (k : Nat) : Mm := fun a i => if a = 264 ∧ i < k then M_fillOf μ (nI i) else μ a i
def EM_set (n : Nat) (μ : Mm) : Mm := M_setO μ (nI n) 3 (M_o μ (nI n) 3 - μ 264 n)
def EM : Nat → Mm → Mm
  | 0, μ => μ
  | n + 1, μ => EM n (if M_o (EM_set n μ) (nI n) 3 = 0 then M_removes (EM_set n μ) (nI n) else EM_set n μ)
def M_empties (μ : Mm) : Mm := EM (cn (μ 260 1)) (M_fillK μ (cn (μ 260 1)))
def M_cl1 (μ : Mm) : Mm :=
  let μ1 := M_trades (M_finds μ)
  let μ2 := up2 μ1 260 7 (μ1 260 7 + M_surplusNow μ1)
  let μ3 := up2 μ2 260 6 (μ2 260 6 + μ2 259 7)
  up2 μ3 260 8 (μ3 259 6)
def M_cl2 (μ : Mm) (k : Nat) : Mm := itr (fun t ν => M_learns (M_settles ν (nI t)) (nI t)) (M_cl1 μ) k
def M_clE (μ : Mm) : Mm := M_cl2 μ (cn (M_cl1 μ 260 0))
def M_cl3 (μ : Mm) : Mm := up2 (M_empties (M_clE μ)) 260 2 (M_empties (M_clE μ) 260 2 + 1)
def EX_rem (n : Nat) (μ : Mm) : Mm := up2 (M_removes μ (nI n)) 260 10 (M_removes μ (nI n) 260 10 + 1)
def EX : Nat → Mm → Mm
  | 0, μ => μ
  | n + 1, μ => EX n (if M_o μ (nI n) 4 + μ 260 4 ≤ μ 260 2 then EX_rem n μ else μ)
def M_clears (μ : Mm) : Mm × Int32 := (EX (cn (M_cl3 μ 260 1)) (M_cl3 μ), M_clE μ 259 7)
def M_clok (μ : Mm) : Prop := M_trok (M_finds μ)
def M_clearError (μ : Mm) : Int32 := if μ 260 2 < 9999 then 0 else 1
def M_clear (μ : Mm) : Mm × Int32 := M_call μ (M_clearError μ) M_clears
/-! the invariant behind each change -/
theorem MI_up {μ : Mm} {i : Nat} {v : Int32} (h : MI μ) (h0 : i ≠ 0) (h1 : i ≠ 1) (h9 : i ≠ 9) (hw : ∀ k, k < 20 → i ≠ 68 + 5 * k) : MI (up2 μ 260 i v) := by
  have e : ∀ j, j ≠ i → up2 μ 260 i v 260 j = μ 260 j := fun j hj => by simp [up2, hj]
  refine ⟨?_, ?_, ?_, fun k hk => ?_⟩
  · rw [e 0 (Ne.symm h0)]; exact h.1
  · rw [e 1 (Ne.symm h1)]; exact h.2.1
  · rw [e 9 (Ne.symm h9)]; exact h.2.2.1
  · rw [e _ (Ne.symm (hw k hk))]; exact h.2.2.2 k hk
theorem MI_ne {μ : Mm} {k i : Nat} {v : Int32} (h : MI μ) (hk : k ≠ 260) : MI (up2 μ k i v) := MI_of h (up2_k _ _ (Ne.symm hk))
theorem MI_setT {μ : Mm} {t w v : Int32} (h : MI μ) (ht : vp_in t 8) (hw : vp_in w 7) : MI (M_setT μ t w v) := by
  obtain ⟨a, ha, rfl⟩ := vp_nI ht (by decide)
  obtain ⟨b, hb, rfl⟩ := vp_nI hw (by decide)
  unfold M_setT
  rw [idxT, cn_nI (by omega)]
  exact MI_up h (by omega) (by omega) (by omega) (fun k hk => by omega)
theorem MI_setO {μ : Mm} {k w v : Int32} (h : MI μ) (hk : vp_in k 20) (hw : vp_in w 5) (h1 : w ≠ 1) : MI (M_setO μ k w v) := by
  obtain ⟨a, ha, rfl⟩ := vp_nI hk (by decide)
  obtain ⟨b, hb, rfl⟩ := vp_nI hw (by decide)
  unfold M_setO
  rw [idxO, cn_nI (by omega)]
  have hb1 : b ≠ 1 := fun e => h1 (by rw [e]; rfl)
  exact MI_up h (by omega) (by omega) (by omega) (fun k hk => by omega)
theorem setO_1 {μ : Mm} {k w v : Int32} {i : Nat} (hk : vp_in k 20) (hw : vp_in w 5) (hi : i < 67) : M_setO μ k w v 260 i = μ 260 i := by
  obtain ⟨a, ha, rfl⟩ := vp_nI hk (by decide)
  obtain ⟨b, hb, rfl⟩ := vp_nI hw (by decide)
  unfold M_setO
  rw [idxO, cn_nI (by omega)]
  have : ¬ i = 67 + 5 * a + b := by omega
  simp [up2, this]
theorem rem_1 {μ : Mm} {k : Int32} : M_removes μ k 260 1 = μ 260 1 - 1 := by
  unfold M_removes
  rw [M_remK_ct (by decide), up2_s]
theorem rem_ct {μ : Mm} {k : Int32} {i : Nat} (h : i < 67) (h1 : i ≠ 1) : M_removes μ k 260 i = μ 260 i := by
  unfold M_removes
  rw [M_remK_ct h]
  simp [up2, h1]
theorem rem_ne {μ : Mm} {k : Int32} {k' : Nat} (h : k' ≠ 260) : M_removes μ k k' = μ k' := by
  funext i
  simp [M_removes, M_remK, up2, h]
theorem cnt_pred {x : Int32} {n : Nat} (h : vp_in x 21) (hn : n < cn x) : vp_in (x - 1) 21 ∧ cn (x - 1) = cn x - 1 := by
  obtain ⟨j, hj, rfl⟩ := vp_nI h (by decide)
  rw [cn_nI (by omega)] at hn ⊢
  rw [show j = j - 1 + 1 by omega, nI_pred, cn_nI (by omega)]
  exact ⟨vp_in_nI (by omega) (by decide), by omega⟩
theorem MI_rem {μ : Mm} {k : Int32} (h : MI μ) (hk : cn k < cn (μ 260 1)) : MI (M_removes μ k) := by
  have hb := vp_cn h.2.1
  refine ⟨?_, ?_, ?_, fun j hj => ?_⟩
  · rw [rem_ct (by decide) (by decide)]; exact h.1
  · rw [rem_1]; exact (cnt_pred h.2.1 hk).1
  · rw [rem_ct (by decide) (by decide)]; exact h.2.2.1
  · unfold M_removes M_remK
    split
    · rename_i c
      have e : up2 μ 260 1 (μ 260 1 - 1) 260 (68 + 5 * j + 5) = μ 260 (68 + 5 * (j + 1)) := by
        simp [up2]
        congr 1
      rw [e]
      exact h.2.2.2 (j + 1) (by omega)
    · have e : up2 μ 260 1 (μ 260 1 - 1) 260 (68 + 5 * j) = μ 260 (68 + 5 * j) := by
        simp [up2]
        omega
      rw [e]
      exact h.2.2.2 j hj
theorem fill_congr {μ ν : Mm} (h1 : ν 259 = μ 259) (h2 : ν 260 = μ 260) (k : Int32) : M_fillOf ν k = M_fillOf μ k := by
  unfold M_fillOf M_leftOf M_isGood M_isAhead M_side M_t M_o
  simp only [h1, h2]
theorem fillK_260 (μ : Mm) (k : Nat) : M_fillK μ k 260 = μ 260 := by funext i; simp [M_fillK]
theorem fillK_259 (μ : Mm) (k : Nat) : M_fillK μ k 259 = μ 259 := by funext i; simp [M_fillK]
theorem fillK_0 (μ : Mm) : μ = M_fillK μ 0 := by
  funext a i
  simp only [M_fillK]
  rw [if_neg (by omega)]
theorem fillK_s (μ : Mm) (k : Nat) : up2 (M_fillK μ k) 264 k (M_fillOf (M_fillK μ k) (nI k)) = M_fillK μ (k + 1) := by
  rw [fill_congr (fillK_259 μ k) (fillK_260 μ k)]
  funext a i
  by_cases ha : a = 264 <;> by_cases hi : i = k
  · simp only [up2, M_fillK]
    rw [if_pos ⟨ha, hi⟩, if_pos ⟨ha, by omega⟩, hi]
  · have : i < k + 1 ↔ i < k := by omega
    simp [up2, M_fillK, ha, hi, this]
  · simp [up2, M_fillK, ha]
  · simp [up2, M_fillK, ha]
theorem MI_emset {μ : Mm} {n : Nat} (h : MI μ) (hn : n < 20) : MI (EM_set n μ) := MI_setO h (vp_in_nI hn (by decide)) (vpd rfl) (by decide)
theorem emset_1 {μ : Mm} {n : Nat} (hn : n < 20) : EM_set n μ 260 1 = μ 260 1 := setO_1 (vp_in_nI hn (by decide)) (vpd rfl) (by decide)
theorem MI_em {μ : Mm} {n : Nat} (h : MI μ) (hn : n + 1 ≤ cn (μ 260 1)) : MI (M_removes (EM_set n μ) (nI n)) ∧ n ≤ cn (M_removes (EM_set n μ) (nI n) 260 1) := by
  have hb := vp_cn h.2.1
  have h1 := MI_emset (n := n) h (by omega)
  have hk : cn (nI n) < cn (EM_set n μ 260 1) := by rw [emset_1 (by omega), cn_nI (by omega)]; omega
  refine ⟨MI_rem h1 hk, ?_⟩
  rw [rem_1, (cnt_pred h1.2.1 hk).2, emset_1 (by omega)]
  omega
theorem MI_exrem {μ : Mm} {n : Nat} (h : MI μ) (hn : n + 1 ≤ cn (μ 260 1)) : MI (EX_rem n μ) ∧ n ≤ cn (EX_rem n μ 260 1) := by
  have hb := vp_cn h.2.1
  have hk : cn (nI n) < cn (μ 260 1) := by rw [cn_nI (by omega)]; omega
  refine ⟨MI_up (MI_rem h hk) (by decide) (by decide) (by decide) (fun k _ => by omega), ?_⟩
  unfold EX_rem
  rw [show ∀ ν : Mm, ∀ v, up2 ν 260 10 v 260 1 = ν 260 1 from fun ν v => by simp [up2], rem_1, (cnt_pred h.2.1 hk).2]
  omega
theorem MI_finds {μ : Mm} (h : MI μ) : MI (M_finds μ) := MI_of h (M_finds_260 μ)
theorem idxD {a b : Nat} : (167 : Int32) + 5 * nI a + nI b = nI (167 + 5 * a + b) := by
  rw [show (167 : Int32) = nI 167 from rfl, show (5 : Int32) = nI 5 from rfl, nI_mul, nI_add, nI_add]
theorem idxD0 {a : Nat} : (167 : Int32) + 5 * nI a = nI (167 + 5 * a) := by
  rw [show (167 : Int32) = nI 167 from rfl, show (5 : Int32) = nI 5 from rfl, nI_mul, nI_add]
theorem loD {t w : Int32} (ht : vp_in t 20) (hw : vp_in w 5) : vp_in (167 + 5 * t + w) 267 := by
  obtain ⟨a, ha, rfl⟩ := vp_nI ht (by decide)
  obtain ⟨b, hb, rfl⟩ := vp_nI hw (by decide)
  rw [idxD]
  exact vp_in_nI (by omega) (by decide)
theorem loD0 {t : Int32} (ht : vp_in t 20) : vp_in (167 + 5 * t) 267 := by
  obtain ⟨a, ha, rfl⟩ := vp_nI ht (by decide)
  rw [idxD0]
  exact vp_in_nI (by omega) (by decide)
theorem MI_trade {μ : Mm} {t v : Int32} (h : MI μ) (ht : vp_in t 20) (w : Int32) (hw : vp_in w 5) : MI (up2 μ 260 (cn (167 + 5 * t + w)) v) := by
  obtain ⟨a, ha, rfl⟩ := vp_nI ht (by decide)
  obtain ⟨b, hb, rfl⟩ := vp_nI hw (by decide)
  rw [idxD, cn_nI (by omega)]
  exact MI_up h (by omega) (by omega) (by omega) (fun k hk => by omega)
theorem MI_trade0 {μ : Mm} {t v : Int32} (h : MI μ) (ht : vp_in t 20) : MI (up2 μ 260 (cn (167 + 5 * t)) v) := by
  obtain ⟨a, ha, rfl⟩ := vp_nI ht (by decide)
  rw [idxD0, cn_nI (by omega)]
  exact MI_up h (by omega) (by omega) (by omega) (fun k hk => by omega)
theorem trade_9 {μ : Mm} {t v : Int32} (ht : vp_in t 20) (w : Int32) (hw : vp_in w 5) : up2 μ 260 (cn (167 + 5 * t + w)) v 260 9 = μ 260 9 := by
  obtain ⟨a, ha, rfl⟩ := vp_nI ht (by decide)
  obtain ⟨b, hb, rfl⟩ := vp_nI hw (by decide)
  rw [idxD, cn_nI (by omega)]
  have : ¬ 9 = 167 + 5 * a + b := by omega
  simp [up2, this]
theorem trade0_9 {μ : Mm} {t v : Int32} (ht : vp_in t 20) : up2 μ 260 (cn (167 + 5 * t)) v 260 9 = μ 260 9 := by
  obtain ⟨a, ha, rfl⟩ := vp_nI ht (by decide)
  rw [idxD0, cn_nI (by omega)]
  have : ¬ 9 = 167 + 5 * a := by omega
  simp [up2, this]
theorem MI_9 {μ : Mm} {v : Int32} (h : MI μ) (hv : vp_in v 21) : MI (up2 μ 260 9 v) := by
  have e : ∀ j, j ≠ 9 → up2 μ 260 9 v 260 j = μ 260 j := fun j hj => by simp [up2, hj]
  refine ⟨?_, ?_, ?_, fun k hk => ?_⟩
  · rw [e 0 (by decide)]; exact h.1
  · rw [e 1 (by decide)]; exact h.2.1
  · rw [up2_s]; exact hv
  · rw [e _ (by omega)]; exact h.2.2.2 k hk
theorem succ_vp {x : Int32} {n : Nat} (h : vp_in x n) (hn : n + 1 < 2 ^ 31) : vp_in (x + 1) (n + 1) := by
  obtain ⟨j, hj, rfl⟩ := vp_nI h (by omega)
  rw [nI_1]
  exact vp_in_nI (by omega) hn
theorem MI_adds {μ : Mm} {b s u : Int32} (h : MI μ) (ht : vp_in (μ 260 9) 20) : MI (M_adds μ b s u) := by
  unfold M_adds
  try dsimp only
  have h1 := MI_trade0 (v := M_o μ b 0) h ht
  refine MI_9 (MI_trade (MI_trade (MI_trade (MI_trade h1 ht 1 (vpd rfl)) ht 2 (vpd rfl)) ht 3 (vpd rfl)) ht 4 (vpd rfl)) ?_
  rw [trade_9 ht 4 (vpd rfl), trade_9 ht 3 (vpd rfl), trade_9 ht 2 (vpd rfl), trade_9 ht 1 (vpd rfl), trade0_9 ht]
  exact succ_vp ht (by decide)
theorem MI_TR : ∀ (n : Nat) (μ : Mm) (l b s x y : Int32), MI μ → TRok n μ l b s x y → MI (TR n μ l b s x y)
  | 0, μ, _, _, _, _, _, h, _ => h
  | n + 1, μ, l, b, s, x, y, h, ok => by
    unfold TR
    split
    · rename_i c
      exact MI_TR n _ _ _ _ _ _ (MI_adds h (ok c).1) (ok c).2
    · exact h
theorem MI_trades {μ : Mm} (h : MI μ) (ok : M_trok μ) : MI (M_trades μ) := MI_TR _ _ _ _ _ _ _ (MI_9 h (vpd rfl)) ok
theorem MI_settles {μ : Mm} {t : Int32} (h : MI μ) (ht : vp_in t 8) : MI (M_settles μ t) := MI_setT (MI_setT (MI_setT h ht (vpd rfl)) ht (vpd rfl)) ht (vpd rfl)
theorem MI_learns {μ : Mm} {t : Int32} (h : MI μ) (ht : vp_in t 8) : MI (M_learns μ t) := by
  unfold M_learns
  split
  · split
    · exact h
    · exact MI_setT h ht (vpd rfl)
  · exact h
theorem setT_ct {μ : Mm} {t w v : Int32} {i : Nat} (ht : vp_in t 8) (hw : vp_in w 7) (hi : i < 11) : M_setT μ t w v 260 i = μ 260 i := by
  obtain ⟨a, ha, rfl⟩ := vp_nI ht (by decide)
  obtain ⟨b, hb, rfl⟩ := vp_nI hw (by decide)
  unfold M_setT
  rw [idxT, cn_nI (by omega)]
  have : ¬ i = 11 + 7 * a + b := by omega
  simp [up2, this]
theorem settles_ct {μ : Mm} {t : Int32} {i : Nat} (ht : vp_in t 8) (hi : i < 11) : M_settles μ t 260 i = μ 260 i := by
  unfold M_settles
  try dsimp only
  rw [setT_ct ht (vpd rfl) hi, setT_ct ht (vpd rfl) hi, setT_ct ht (vpd rfl) hi]
theorem learns_ct {μ : Mm} {t : Int32} {i : Nat} (ht : vp_in t 8) (hi : i < 11) : M_learns μ t 260 i = μ 260 i := by
  unfold M_learns
  split
  · split
    · rfl
    · exact setT_ct ht (vpd rfl) hi
  · rfl
theorem MI_cl1 {μ : Mm} (h : MI μ) (ok : M_clok μ) : MI (M_cl1 μ) := by
  have h1 := MI_trades (MI_finds h) ok
  unfold M_cl1
  exact MI_up (MI_up (MI_up h1 (by decide) (by decide) (by decide) (fun k _ => by omega)) (by decide) (by decide) (by decide) (fun k _ => by omega)) (by decide) (by decide) (by decide) (fun k _ => by omega)
theorem MI_cl2 {μ : Mm} (h : MI μ) (ok : M_clok μ) : ∀ k, k ≤ cn (M_cl1 μ 260 0) → MI (M_cl2 μ k) ∧ ∀ i, i < 11 → M_cl2 μ k 260 i = M_cl1 μ 260 i
  | 0, _ => ⟨MI_cl1 h ok, fun _ _ => rfl⟩
  | k + 1, hk => by
    obtain ⟨h1, h2⟩ := MI_cl2 h ok k (by omega)
    have ht : vp_in (nI k) 8 := MI_t (MI_cl1 h ok) (by omega)
    exact ⟨MI_learns (MI_settles h1 ht) ht, fun i hi => by
      show M_learns (M_settles (M_cl2 μ k) (nI k)) (nI k) 260 i = _
      rw [learns_ct ht hi, settles_ct ht hi, h2 i hi]⟩
theorem MI_EM : ∀ (n : Nat) (μ : Mm), MI μ → n ≤ cn (μ 260 1) → MI (EM n μ)
  | 0, μ, h, _ => h
  | n + 1, μ, h, hn => by
    have hb := vp_cn h.2.1
    unfold EM
    split
    · exact MI_EM n _ (MI_em h hn).1 (MI_em h hn).2
    · exact MI_EM n _ (MI_emset h (by omega)) (by rw [emset_1 (by omega)]; omega)
theorem MI_empties {μ : Mm} (h : MI μ) : MI (M_empties μ) := MI_EM _ _ (MI_of h (fillK_260 _ _)) (by rw [fillK_260]; exact Nat.le_refl _)
theorem MI_cl3 {μ : Mm} (h : MI μ) (ok : M_clok μ) : MI (M_cl3 μ) := MI_up (MI_empties (MI_cl2 h ok _ (Nat.le_refl _)).1) (by decide) (by decide) (by decide) (fun k _ => by omega)
theorem MI_EX : ∀ (n : Nat) (μ : Mm), MI μ → n ≤ cn (μ 260 1) → MI (EX n μ)
  | 0, μ, h, _ => h
  | n + 1, μ, h, hn => by
    unfold EX
    split
    · exact MI_EX n _ (MI_exrem h hn).1 (MI_exrem h hn).2
    · exact MI_EX n _ h (by omega)
theorem MI_clears {μ : Mm} (h : MI μ) (ok : M_clok μ) : MI (M_clears μ).1 := MI_EX _ _ (MI_cl3 h ok) (Nat.le_refl _)
end
