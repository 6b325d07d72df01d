noncomputable section
/-! the reference at 259: now 260 (267), kept 261 (1335), text 262 (150), numbers 263, fills 264; states 2, thrown 3, lowest 4, highest 5, price 6, volume 7, length 9, at 10, kind 11 -/
def M_t (μ : Mm) (t w : Int32) : Int32 := μ 260 (cn (11 + 7 * t + w))
def M_o (μ : Mm) (k w : Int32) : Int32 := μ 260 (cn (67 + 5 * k + w))
def M_setT (μ : Mm) (t w v : Int32) : Mm := up2 μ 260 (cn (11 + 7 * t + w)) v
def M_setO (μ : Mm) (k w v : Int32) : Mm := up2 μ 260 (cn (67 + 5 * k + w)) v
/-- the counts and the traders of the orders are in their ranges -/
def MI (μ : Mm) : Prop := vp_in (μ 260 0) 9 ∧ vp_in (μ 260 1) 21 ∧ vp_in (μ 260 9) 21 ∧ ∀ k : Nat, k < 20 → vp_in (μ 260 (68 + 5 * k)) 8
/-- a written number in its range -/
theorem vpd {w : Int32} {n : Nat} (h : (decide (w < 0) || decide (n ≤ w.toNatClampNeg)) = false) : vp_in w n := by
  rw [Bool.or_eq_false_iff] at h
  exact fun e => e.elim (of_decide_eq_false h.1) (of_decide_eq_false h.2)
theorem MI_of {μ ν : Mm} (h : MI μ) (e : ν 260 = μ 260) : MI ν := by unfold MI; rw [e]; exact h
theorem vp_nI {x : Int32} {n : Nat} (h : vp_in x n) (hn : n < 2 ^ 31) : ∃ j, j < n ∧ x = nI j := by
  have h1 : ¬ x < 0 := fun e => h (Or.inl e)
  have h2 := vp_cn h
  obtain ⟨j, hj, rfl⟩ := nI_of h1
  rw [cn_nI hj] at h2
  exact ⟨j, h2, rfl⟩
theorem nI_mul (a b : Nat) : nI a * nI b = nI (a * b) := by simp [nI, Int32.ofNat_mul]
theorem idxO {a b : Nat} : (67 : Int32) + 5 * nI a + nI b = nI (67 + 5 * a + b) := by
  rw [show (67 : Int32) = nI 67 from rfl, show (5 : Int32) = nI 5 from rfl, nI_mul, nI_add, nI_add]
theorem idxT {a b : Nat} : (11 : Int32) + 7 * nI a + nI b = nI (11 + 7 * a + b) := by
  rw [show (11 : Int32) = nI 11 from rfl, show (7 : Int32) = nI 7 from rfl, nI_mul, nI_add, nI_add]
theorem loO {k w : Int32} (hk : vp_in k 20) (hw : vp_in w 5) : vp_in (67 + 5 * k + w) 267 := by
  obtain ⟨a, ha, rfl⟩ := vp_nI hk (by decide)
  obtain ⟨b, hb, rfl⟩ := vp_nI hw (by decide)
  rw [idxO]
  exact vp_in_nI (by omega) (by decide)
theorem loT {t w : Int32} (ht : vp_in t 8) (hw : vp_in w 7) : vp_in (11 + 7 * t + w) 267 := by
  obtain ⟨a, ha, rfl⟩ := vp_nI ht (by decide)
  obtain ⟨b, hb, rfl⟩ := vp_nI hw (by decide)
  rw [idxT]
  exact vp_in_nI (by omega) (by decide)
theorem MI_w {μ : Mm} (h : MI μ) {k : Int32} (hk : vp_in k 20) : vp_in (M_o μ k 1) 8 := by
  obtain ⟨a, ha, rfl⟩ := vp_nI hk (by decide)
  unfold M_o
  rw [show (1 : Int32) = nI 1 from rfl, idxO, cn_nI (by omega), show 67 + 5 * a + 1 = 68 + 5 * a by omega]
  exact h.2.2.2 a ha
theorem MI_k {μ : Mm} (h : MI μ) {j : Nat} (hj : j < cn (μ 260 1)) : vp_in (nI j) 20 := by
  have := vp_cn h.2.1
  exact vp_in_nI (by omega) (by decide)
theorem MI_t {μ : Mm} (h : MI μ) {j : Nat} (hj : j < cn (μ 260 0)) : vp_in (nI j) 8 := by
  have := vp_cn h.1
  exact vp_in_nI (by omega) (by decide)
def M_isTrader (μ : Mm) (t : Int32) : Int32 := wI t 0 (μ 260 0 - 1)
theorem isTrader_vp {μ : Mm} (h : MI μ) {t : Int32} (ht : ¬ M_isTrader μ t = 0) : vp_in t 8 := by
  unfold M_isTrader wI at ht
  have h1 : ¬ t < 0 := fun e => ht (if_pos e)
  rw [if_neg h1] at ht
  have h2 : ¬ μ 260 0 - 1 < t := fun e => ht (if_pos e)
  obtain ⟨n, hn, e⟩ := vp_nI h.1 (by decide)
  obtain ⟨j, hj, rfl⟩ := nI_of h1
  rw [e] at h2
  match n, hn with
  | 0, _ => exact absurd (Int32.lt_of_lt_of_le (by decide : (nI 0 - 1 : Int32) < 0) (Int32.not_lt.mp h1)) h2
  | n + 1, hn =>
    rw [nI_pred] at h2
    have : j ≤ n := Nat.le_of_not_lt (fun hlt => h2 (nI_lt hlt hj))
    exact vp_in_nI (by omega) (by decide)
def M_find (μ : Mm) (x : Int32) : Int32 := fstI (fun k => decide (M_o μ (nI k) 0 = x)) (cn (μ 260 1))
theorem find_vp {μ : Mm} (h : MI μ) {x : Int32} (hx : ¬ M_find μ x < 0) : vp_in (M_find μ x) 20 := by
  unfold M_find fstI at hx ⊢
  split
  · rename_i k e
    exact MI_k h (fst_lt e).1
  · rename_i e
    rw [e] at hx
    exact absurd (by decide) hx
def M_keepK (μ : Mm) (c k : Nat) : Mm := fun a i => if a = 261 ∧ 267 * c ≤ i ∧ i < 267 * c + k then μ 260 (i - 267 * c) else μ a i
def M_keeps (μ : Mm) (c : Int32) : Mm := M_keepK μ (cn c) 267
def M_bringK (μ : Mm) (c k : Nat) : Mm := fun a i => if a = 260 ∧ i < k then μ 261 (267 * c + i) else μ a i
def M_brings (μ : Mm) (c : Int32) : Mm := M_bringK μ (cn c) 267
def M_shiftK (μ : Mm) (k : Nat) : Mm := fun a i => if a = 261 ∧ i < k then μ 261 (i + 267) else μ a i
theorem M_keepK_0 (μ : Mm) (c : Nat) : μ = M_keepK μ c 0 := by
  funext a i
  simp only [M_keepK]
  rw [if_neg (by omega)]
theorem M_keepK_s (μ : Mm) (c k : Nat) : up2 (M_keepK μ c k) 261 (c * 267 + k) (M_keepK μ c k 260 k) = M_keepK μ c (k + 1) := by
  funext a i
  by_cases ha : a = 261 <;> by_cases hi : i = c * 267 + k
  · simp only [up2, M_keepK]
    rw [if_pos ⟨ha, hi⟩, if_neg (by omega), if_pos ⟨ha, by omega, by omega⟩, hi, show c * 267 + k - 267 * c = k by omega]
  · have : (267 * c ≤ i ∧ i < 267 * c + (k + 1)) ↔ (267 * c ≤ i ∧ i < 267 * c + k) := by omega
    simp [up2, M_keepK, ha, hi, this]
  · simp [up2, M_keepK, ha]
  · simp [up2, M_keepK, ha]
theorem M_bringK_0 (μ : Mm) (c : Nat) : μ = M_bringK μ c 0 := by
  funext a i
  simp only [M_bringK]
  rw [if_neg (by omega)]
theorem M_bringK_s (μ : Mm) (c k : Nat) : up2 (M_bringK μ c k) 260 k (M_bringK μ c k 261 (c * 267 + k)) = M_bringK μ c (k + 1) := by
  funext a i
  by_cases ha : a = 260 <;> by_cases hi : i = k
  · simp only [up2, M_bringK]
    rw [if_pos ⟨ha, hi⟩, if_neg (by omega), if_pos ⟨ha, by omega⟩, hi, show c * 267 + k = 267 * c + k by omega]
  · have : i < k + 1 ↔ i < k := by omega
    simp [up2, M_bringK, ha, hi, this]
  · simp [up2, M_bringK, ha]
  · simp [up2, M_bringK, ha]
theorem M_shiftK_0 (μ : Mm) : μ = M_shiftK μ 0 := by
  funext a i
  simp only [M_shiftK]
  rw [if_neg (by omega)]
theorem M_shiftK_s (μ : Mm) (k : Nat) : up2 (M_shiftK μ k) 261 k (M_shiftK μ k 261 (k + 267)) = M_shiftK μ (k + 1) := by
  funext a i
  by_cases ha : a = 261 <;> by_cases hi : i = k
  · simp only [up2, M_shiftK]
    rw [if_pos ⟨ha, hi⟩, if_neg (by omega), if_pos ⟨ha, by omega⟩, hi]
  · have : i < k + 1 ↔ i < k := by omega
    simp [up2, M_shiftK, ha, hi, this]
  · simp [up2, M_shiftK, ha]
  · simp [up2, M_shiftK, ha]
theorem idxK {c : Int32} {k : Nat} (hc : vp_in c 5) : c * 267 + nI k = nI (cn c * 267 + k) := by
  obtain ⟨a, ha, rfl⟩ := vp_nI hc (by decide)
  rw [show (267 : Int32) = nI 267 from rfl, nI_mul, nI_add, cn_nI (by omega)]
def M_drop (μ : Mm) : Mm := if μ 259 2 = 4 then up2 (M_shiftK μ 801) 259 2 (M_shiftK μ 801 259 2 - 1) else μ
def M_records (μ : Mm) : Mm :=
  let μ1 := M_drop μ
  let μ2 := M_keeps μ1 (μ1 259 2)
  up2 μ2 259 2 (μ2 259 2 + 1)
theorem M_drop_259 (μ : Mm) (i : Nat) (h : i ≠ 2) : M_drop μ 259 i = μ 259 i := by
  unfold M_drop
  split
  · simp [up2, h, M_shiftK]
  · rfl
theorem M_drop_ne {μ : Mm} {k' : Nat} (h1 : k' ≠ 259) (h2 : k' ≠ 261) : M_drop μ k' = μ k' := by
  unfold M_drop
  split
  · rw [up2_k _ _ h1]
    funext i
    simp [M_shiftK, h2]
  · rfl
theorem M_keeps_ne {μ : Mm} {c : Int32} {k' : Nat} (h : k' ≠ 261) : M_keeps μ c k' = μ k' := by
  funext i
  simp [M_keeps, M_keepK, h]
theorem M_records_ne {μ : Mm} {k' : Nat} (h1 : k' ≠ 259) (h2 : k' ≠ 261) : M_records μ k' = μ k' := by
  unfold M_records
  try dsimp only
  rw [up2_k _ _ h1, M_keeps_ne h2, M_drop_ne h1 h2]
theorem M_records_259 (μ : Mm) (i : Nat) (h : i ≠ 2) : M_records μ 259 i = μ 259 i := by
  unfold M_records
  try dsimp only
  rw [show ∀ ν : Mm, ∀ v, up2 ν 259 2 v 259 i = ν 259 i from fun ν v => by simp [up2, h], M_keeps_ne (by decide), M_drop_259 μ i h]
theorem drop_vp {μ : Mm} (h : vp_in (μ 259 2) 5) : vp_in (M_drop μ 259 2) 5 := by
  unfold M_drop
  split
  · rename_i c
    rw [up2_s, show M_shiftK μ 801 259 2 = μ 259 2 from by simp [M_shiftK], c]
    exact vpd rfl
  · exact h
def M_thr (μ : Mm) (v : Int32) : Mm := up2 μ 259 3 v
def M_undoT (μ : Mm) : Mm := M_thr μ (if 0 < μ 259 2 then 0 else 1)
def M_undo (μ : Mm) : Mm × Int32 :=
  if 0 < μ 259 2 then
    let μ2 := up2 (M_thr μ 0) 259 2 (M_thr μ 0 259 2 - 1)
    (M_brings μ2 (μ2 259 2), M_brings μ2 (μ2 259 2) 259 2)
  else (M_thr μ 1, 0)
def M_traderError (μ : Mm) (sd v : Int32) : Int32 := if wI sd 0 1 = 0 then 1 else if wI v 1 99 = 0 then 1 else if μ 260 0 < 8 then 0 else 2
def M_zeroT (μ : Mm) (t : Int32) (k : Nat) : Mm := itr (fun k ν => M_setT ν t (nI k) 0) μ k
def M_addsTrader (μ : Mm) (sd v : Int32) : Mm := M_setT (M_setT (M_zeroT (up2 μ 260 0 (μ 260 0 + 1)) (μ 260 0) (NN 7)) (μ 260 0) 0 sd) (μ 260 0) 1 v
/-- a call that may be refused: the error noted, and if there is none, the states kept and the deed -/
def M_call (μ : Mm) (e : Int32) (f : Mm → Mm × Int32) : Mm × Int32 := if e = 0 then f (M_records (M_thr μ e)) else (M_thr μ e, 0)
/-- a question -/
def M_ask (μ : Mm) (e : Int32) (f : Mm → Mm × Int32) : Mm × Int32 := if e = 0 then f (M_thr μ e) else (M_thr μ e, 0)
def M_addTrader (μ : Mm) (sd v : Int32) : Mm × Int32 := M_call μ (M_traderError μ sd v) (fun ν => (M_addsTrader ν sd v, ν 260 0))
def M_valueError (μ : Mm) (t v : Int32) : Int32 := if M_isTrader μ t = 0 then 1 else if wI v 1 99 = 0 then 2 else 0
def M_setValue (μ : Mm) (t v : Int32) : Mm × Int32 := M_call μ (M_valueError μ t v) (fun ν => (M_setT ν t 1 v, M_t ν t 1))
def M_bidBy (μ : Mm) (t h : Int32) : Int32 :=
  if M_t μ t 0 = 0 then (if M_t μ t 1 - h < 1 then 1 else M_t μ t 1 - h) else (if 120 < M_t μ t 1 + h then 120 else M_t μ t 1 + h)
def M_shadeOf (μ : Mm) (t : Int32) : Int32 := if M_t μ t 2 = 0 then 0 else if M_t μ t 2 = 2 then M_t μ t 1 * M_t μ t 3 / 100 else M_t μ t 3
def M_bidOf (μ : Mm) (t : Int32) : Int32 := M_bidBy μ t (M_shadeOf μ t)
def M_shadeError (μ : Mm) (t k a : Int32) : Int32 := if M_isTrader μ t = 0 then 1 else if wI k 0 3 = 0 then 2 else if wI a 0 50 = 0 then 2 else 0
def M_shadesM (μ : Mm) (t k a : Int32) : Mm := M_setT (M_setT μ t 2 k) t 3 a
def M_setShade (μ : Mm) (t k a : Int32) : Mm × Int32 := M_call μ (M_shadeError μ t k a) (fun ν => (M_shadesM ν t k a, M_bidOf (M_shadesM ν t k a) t))
def M_settingError (w v : Int32) : Int32 :=
  if w = 0 then (if wI v 0 10 = 0 then 1 else 0) else if w = 1 then (if wI v 1 9 = 0 then 1 else 0) else 1
def M_setsM (μ : Mm) (w v : Int32) : Mm := up2 μ 260 (cn (3 + w)) v
def M_set (μ : Mm) (w v : Int32) : Mm × Int32 := M_call μ (M_settingError w v) (fun ν => (M_setsM ν w v, ν 260 (cn (3 + w))))
theorem setting_vp {w v : Int32} (h : M_settingError w v = 0) : vp_in (3 + w) 267 := by
  unfold M_settingError at h
  split at h
  · rename_i c; subst c; exact vpd rfl
  · split at h
    · rename_i c; subst c; exact vpd rfl
    · exact absurd h (by decide)
def M_orderError (μ : Mm) (t pr u : Int32) : Int32 :=
  if M_isTrader μ t = 0 then 1 else if wI pr 1 120 = 0 then 2 else if wI u 1 9 = 0 then 2 else if μ 260 1 < 20 then 0 else 3
def M_placesM (μ : Mm) (t pr u : Int32) : Mm :=
  let k := μ 260 1
  let μ1 := up2 μ 260 1 (μ 260 1 + 1)
  let μ2 := M_setO μ1 k 0 (μ1 260 5)
  let μ3 := M_setO μ2 k 1 t
  let μ4 := M_setO μ3 k 2 pr
  let μ5 := M_setO μ4 k 3 u
  let μ6 := M_setO μ5 k 4 (μ5 260 2)
  up2 μ6 260 5 (μ6 260 5 + 1)
def M_places (μ : Mm) (t pr u : Int32) : Mm × Int32 := (M_placesM μ t pr u, M_o (M_placesM μ t pr u) (μ 260 1) 0)
def M_bid (μ : Mm) (t u : Int32) : Mm × Int32 := M_call μ (M_orderError μ t 1 u) (fun ν => M_places ν t (M_bidOf ν t) u)
def M_order (μ : Mm) (t pr u : Int32) : Mm × Int32 := M_call μ (M_orderError μ t pr u) (fun ν => M_places ν t pr u)
def M_remK (μ : Mm) (j c : Nat) : Mm := fun a i => if a = 260 ∧ 67 + 5 * j ≤ i ∧ i < 67 + 5 * j + c then μ 260 (i + 5) else μ a i
/-- the orders behind the k-th move up -/
def M_removes (μ : Mm) (k : Int32) : Mm := M_remK (up2 μ 260 1 (μ 260 1 - 1)) (cn k) (5 * (cn (μ 260 1) - 1 - cn k))
theorem M_remK_0 (μ : Mm) (j : Nat) : μ = M_remK μ j 0 := by
  funext a i
  simp only [M_remK]
  rw [if_neg (by omega)]
theorem M_remK_s (μ : Mm) (j c : Nat) : up2 (M_remK μ j c) 260 (67 + 5 * j + c) (M_remK μ j c 260 (67 + 5 * j + c + 5)) = M_remK μ j (c + 1) := by
  funext a i
  by_cases ha : a = 260 <;> by_cases hi : i = 67 + 5 * j + c
  · simp only [up2, M_remK]
    rw [if_pos ⟨ha, hi⟩, if_neg (by omega), if_pos ⟨ha, by omega, by omega⟩, hi]
  · have : i < 67 + 5 * j + (c + 1) ↔ i < 67 + 5 * j + c := by omega
    simp [up2, M_remK, ha, hi, this]
  · simp [up2, M_remK, ha]
  · simp [up2, M_remK, ha]
theorem M_remK_ct {μ : Mm} {j c i : Nat} (h : i < 67) : M_remK μ j c 260 i = μ 260 i := by
  simp only [M_remK]
  rw [if_neg (by omega)]
def M_cancel (μ : Mm) (x : Int32) : Mm × Int32 := M_call μ (if M_find μ x < 0 then 1 else 0) (fun ν => (M_removes ν (M_find ν x), M_o ν (M_find ν x) 3))
theorem rec_260 (μ : Mm) (v : Int32) : M_records (up2 μ 259 3 v) 260 = μ 260 := by
  rw [M_records_ne (by decide) (by decide), up2_k _ _ (by decide)]
theorem up2k_states (μ : Mm) (v : Int32) : up2 μ 259 3 v 259 2 = μ 259 2 := by simp [up2]
theorem find_260 {μ ν : Mm} {x : Int32} (h : ν 260 = μ 260) : M_find ν x = M_find μ x := by
  unfold M_find M_o
  rw [h]
theorem findJ {μ : Mm} {x : Int32} (h : ¬ M_find μ x < 0) (hI : MI μ) : cn (M_find μ x) < cn (μ 260 1) := by
  have hb := vp_cn hI.2.1
  unfold M_find fstI at h ⊢
  split
  · rename_i k e
    have := (fst_lt e).1
    rw [cn_nI (by omega)]
    exact this
  · rename_i e
    rw [e] at h
    exact absurd (by decide) h
theorem lt_vp {x : Int32} {n m : Nat} (h : vp_in x n) (hm : m < 2 ^ 31) (hx : x < nI m) : vp_in x m := by
  have h1 : ¬ x < 0 := fun e => h (Or.inl e)
  obtain ⟨j, hj, rfl⟩ := nI_of h1
  exact vp_in_nI (nI_lt_of hm hj hx) hm
theorem addT_vp {μ : Mm} {sd v e : Int32} (hI : MI μ) (h : M_traderError μ sd v = 0) : vp_in (M_records (up2 μ 259 3 e) 260 0) 8 := by
  rw [rec_260]
  unfold M_traderError at h
  split at h
  · exact absurd h (by decide)
  · split at h
    · exact absurd h (by decide)
    · split at h
      · exact lt_vp hI.1 (by decide) (by assumption)
      · exact absurd h (by decide)
theorem shT {μ : Mm} {t k a : Int32} (h : M_shadeError μ t k a = 0) : ¬ M_isTrader μ t = 0 := fun e => by
  unfold M_shadeError at h
  rw [if_pos e] at h
  exact absurd h (by decide)
theorem orT {μ : Mm} {t k a : Int32} (h : M_orderError μ t k a = 0) : ¬ M_isTrader μ t = 0 := fun e => by
  unfold M_orderError at h
  rw [if_pos e] at h
  exact absurd h (by decide)
theorem orK {μ : Mm} {t pr u : Int32} (hI : MI μ) (h : M_orderError μ t pr u = 0) : vp_in (μ 260 1) 20 := by
  unfold M_orderError at h
  split at h
  · exact absurd h (by decide)
  · split at h
    · exact absurd h (by decide)
    · split at h
      · exact absurd h (by decide)
      · split at h
        · exact lt_vp hI.2.1 (by decide) (by assumption)
        · exact absurd h (by decide)
theorem pred_vp {x : Int32} {n : Nat} (h : vp_in x n) (hn : n < 2 ^ 31) (hx : ¬ x ≤ 0) : vp_in (x - 1) n := by
  obtain ⟨j, hj, rfl⟩ := vp_nI h hn
  match j, hj with
  | 0, _ => exact absurd (by decide) hx
  | j + 1, hj =>
    rw [nI_pred]
    exact vp_in_nI (by omega) hn
/-! the indices of a removal -/
theorem rmI0 {k : Int32} (h : ¬ k < 0) : 5 * k = nI (5 * cn k + 0) := by
  obtain ⟨j, hj, rfl⟩ := nI_of h
  rw [cn_nI hj, show (5 : Int32) = nI 5 from rfl, nI_mul]
  rfl
theorem rmI1 {a : Nat} : (67 : Int32) + nI a = nI (67 + a) := by rw [show (67 : Int32) = nI 67 from rfl, nI_add]
theorem rmI2 {a : Nat} : (67 : Int32) + nI a + 5 = nI (67 + a + 5) := by rw [rmI1, show (5 : Int32) = nI 5 from rfl, nI_add]
theorem rmIc {μ : Mm} {j : Nat} (hI : MI μ) (hj : j < cn (μ 260 1)) : 5 * (μ 260 1 - 1) = nI (5 * (cn (μ 260 1) - 1)) := by
  obtain ⟨n, hn, e⟩ := vp_nI hI.2.1 (by decide)
  rw [e] at hj ⊢
  rw [cn_nI (by omega)] at hj ⊢
  rw [show n = n - 1 + 1 by omega, nI_pred, Nat.add_sub_cancel, show (5 : Int32) = nI 5 from rfl, nI_mul]
end
