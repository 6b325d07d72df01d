noncomputable section
/-- a value that isn't unfolded by itself -/
noncomputable def opq {α : Type} (a : α) : α := Classical.choose (p := fun b => b = a) ⟨a, rfl⟩
theorem opq_eq {α : Type} (a : α) : opq a = a := Classical.choose_spec (p := fun b => b = a) ⟨a, rfl⟩
/-! the clearing at 81: lowest 0, highest 1, price 2, volume 3, surplus 4, buyCount 8, sellCount 9; rows taken 82, buys 84, sells 86, wanted 88, offered 90 -/
def itr {α : Type} (f : Nat → α → α) (a : α) : Nat → α
  | 0 => a
  | k + 1 => f k (itr f a k)
theorem itr_inv {α : Type} {f : Nat → α → α} {a : α} (P : Nat → α → Prop) (h0 : P 0 a) (hs : ∀ k s, P k s → P (k + 1) (f k s)) : ∀ k, P k (itr f a k)
  | 0 => h0
  | k + 1 => hs k _ (itr_inv P h0 hs k)
theorem R_put_ne (μ : Mm) {k n : Nat} {i v : Int32} {k' : Nat} (h : k' ≠ k + 1) : R_put μ k n i v k' = μ k' := by
  unfold R_put
  split
  · rfl
  · split
    · rfl
    · exact up2_k _ _ h
theorem R_add_ne (μ : Mm) {k n : Nat} {i v : Int32} {k' : Nat} (h : k' ≠ k + 1) : R_add μ k n i v k' = μ k' := by
  unfold R_add
  split
  · rfl
  · split
    · rfl
    · exact up2_k _ _ h
theorem R_zero_ne (μ : Mm) {k n : Nat} {k' : Nat} (h : k' ≠ k + 1) : R_zero μ k n k' = μ k' := by
  funext i
  simp [R_zero, h]
theorem R_rem_ne (μ : Mm) {k n j : Nat} {k' : Nat} (h : k' ≠ k + 1) : R_rem μ k n j k' = μ k' := by
  funext i
  simp [R_rem, h]
theorem R_copy_ne (μ : Mm) {k n b : Nat} {k' : Nat} (h : k' ≠ k + 1) : R_copy μ k n b k' = μ k' := by
  funext i
  simp [R_copy, h]
/-- places of other shapes are other places -/
theorem ne_sh {a b : Nat} (h : sh a ≠ sh b) : a ≠ b := fun e => h (by rw [e])
theorem ne_1 {a b ci n : Nat} {fs gs : List Fc} (ha : sh a = (1, ci, fs)) (hb : sh b = (0, n, gs)) : a ≠ b := ne_sh (by rw [ha, hb]; intro h; exact absurd (congrArg Prod.fst h) (by decide : ¬ (1 : Nat) = 0))
theorem ne_2 {a b ci cj : Nat} {fs gs : List Fc} (ha : sh a = (1, ci, fs)) (hb : sh b = (1, cj, gs)) (h : ci ≠ cj) : a ≠ b := ne_sh (by rw [ha, hb]; intro e; exact h (congrArg (fun q : Sh => q.2.1) e))
theorem nI_up0 {n : Nat} (h : n + 1 < 2 ^ 31) : ¬ nI (n + 1) ≤ 0 := by
  intro hle
  have h2 : (nI (n + 1)).toInt = ((n + 1 : Nat) : Int) := nI_toInt (by omega)
  have h3 := Int32.le_iff_toInt_le.mp hle
  rw [h2] at h3
  have : (0 : Int32).toInt = 0 := rfl
  omega
def Q_in (q n_q o : Nat) (ix : Int32) : Nat → Mm → Mm × Int32
  | 0, μ => (μ, nI 0)
  | n + 1, μ => if O_isAhead μ o ix (R_get μ q n_q (nI (n + 1) - 1)) = 0 then (μ, nI (n + 1)) else Q_in q n_q o ix n (R_put μ q n_q (nI (n + 1)) (R_get μ q n_q (nI (n + 1) - 1)))
def Q_step (q n_q o : Nat) (sd : Int32) (k : Nat) (s : Mm × Int32) : Mm × Int32 :=
  if R_get s.1 (o + 5) 20 (nI k) = sd then (R_put (Q_in q n_q o (nI k) (cn s.2) s.1).1 q n_q (Q_in q n_q o (nI k) (cn s.2) s.1).2 (nI k), s.2 + 1) else s
def C_queueUp (μ : Mm) (q n_q o : Nat) (sd : Int32) : Mm × Int32 := itr (Q_step q n_q o sd) (μ, 0) (cn (μ o 0))
theorem Q_in_ne {q n_q o : Nat} {ix : Int32} {k' : Nat} (h : k' ≠ q + 1) : ∀ n μ, (Q_in q n_q o ix n μ).1 k' = μ k'
  | 0, μ => rfl
  | n + 1, μ => by
    unfold Q_in
    split
    · rfl
    · rw [Q_in_ne h n, R_put_ne _ h]
theorem Q_ne {μ : Mm} {q n_q o : Nat} {sd : Int32} {k' : Nat} (h : k' ≠ q + 1) (k : Nat) : (itr (Q_step q n_q o sd) (μ, 0) k).1 k' = μ k' := by
  refine itr_inv (fun _ (s : Mm × Int32) => s.1 k' = μ k') rfl (fun k s hs => ?_) k
  show (Q_step q n_q o sd k s).1 k' = μ k'
  unfold Q_step
  split
  · show (R_put _ q n_q _ _) k' = _
    rw [R_put_ne _ h, Q_in_ne h, hs]
  · exact hs
def P_step (o : Nat) (k : Nat) (s : Mm × Int32) : Mm × Int32 :=
  if R_get s.1 (o + 5) 20 (nI k) = 0 then (R_add s.1 88 121 (R_get s.1 (o + 7) 20 (nI k)) (R_get s.1 (o + 9) 20 (nI k)), s.2 + R_get (R_add s.1 88 121 (R_get s.1 (o + 7) 20 (nI k)) (R_get s.1 (o + 9) 20 (nI k))) (o + 9) 20 (nI k))
  else (R_add s.1 90 121 (R_get s.1 (o + 7) 20 (nI k)) (R_get s.1 (o + 9) 20 (nI k)), s.2)
def C_tally (μ : Mm) (o : Nat) : Mm × Int32 := itr (P_step o) (R_zero (R_zero μ 88 121) 90 121, 0) (cn (μ o 0))
theorem P_ne {μ : Mm} {a : Int32} {o k' : Nat} (h1 : k' ≠ 89) (h2 : k' ≠ 91) (k : Nat) : (itr (P_step o) (R_zero (R_zero μ 88 121) 90 121, a) k).1 k' = μ k' := by
  refine itr_inv (fun _ (s : Mm × Int32) => s.1 k' = μ k') ((R_zero_ne _ h2).trans (R_zero_ne _ h1)) (fun k s hs => ?_) k
  show (P_step o k s).1 k' = μ k'
  unfold P_step
  split
  · exact (R_add_ne _ h1).trans hs
  · exact (R_add_ne _ h2).trans hs
def G_step (k : Nat) (s : Mm × Int32 × Int32) : Mm × Int32 × Int32 :=
  let d := s.2.1 - R_get s.1 88 121 (nI (k + 1) - 1)
  let y := s.2.2 + R_get s.1 90 121 (nI (k + 1))
  let μ1 := if s.1 81 3 < mnI d y then up2 (up2 s.1 81 3 (mnI d y)) 81 0 (nI (k + 1)) else s.1
  (if mnI d y = μ1 81 3 then if 0 < μ1 81 3 then up2 μ1 81 1 (nI (k + 1)) else μ1 else μ1, d, y)
def C_rangeS (μ : Mm) (o : Nat) (k : Nat) : Mm × Int32 × Int32 := itr G_step (up2 (up2 (up2 (C_tally μ o).1 81 3 0) 81 0 (-10000)) 81 1 (-10000), (C_tally μ o).2, 0) k
theorem C_rangeS_s (μ : Mm) (o k : Nat) : C_rangeS μ o (k + 1) = G_step k (C_rangeS μ o k) := rfl
/-- a number that isn't counted out -/
noncomputable def NN (n : Nat) : Nat := Classical.choose (p := fun m => m = n) ⟨n, rfl⟩
theorem NN_eq (n : Nat) : NN n = n := Classical.choose_spec (p := fun m => m = n) ⟨n, rfl⟩
def C_findRange (μ : Mm) (o : Nat) : Mm := (C_rangeS μ o (NN 120)).1
def C_priceWith (μ : Mm) (sp : Int32) : Int32 := if μ 81 3 = 0 then -10000 else μ 81 0 + (μ 81 1 - μ 81 0) * sp / 10
def K_step (q n_q o : Nat) (k : Nat) (s : Mm × Int32) : Mm × Int32 :=
  (R_put s.1 82 20 (R_get s.1 q n_q (nI k)) (mnI s.2 (R_get s.1 (o + 9) 20 (R_get s.1 q n_q (nI k)))), s.2 - mnI s.2 (R_get s.1 (o + 9) 20 (R_get s.1 q n_q (nI k))))
def C_take (μ : Mm) (q n_q : Nat) (len : Int32) (o : Nat) : Mm := (itr (K_step q n_q o) (μ, μ 81 3) (cn len)).1
def C_worth (μ : Mm) (o : Nat) (k : Nat) : Int32 := R_get μ (o + 1 + 3) 8 (R_get μ (o + 16 + 3) 20 (nI k)) * R_get μ 82 20 (nI k)
def C_sumSurplus (μ : Mm) (o : Nat) : Int32 := sumI (fun k => if R_get μ (o + 16 + 5) 20 (nI k) = 0 then C_worth μ o k else -C_worth μ o k) (cn (μ (o + 16) 0))
def C_settle0 (μ : Mm) (o : Nat) : Mm :=
  let q1 := C_queueUp μ 84 20 (o + 16) 0
  let μ1 := up2 q1.1 81 8 q1.2
  let q2 := C_queueUp μ1 86 20 (o + 16) 1
  let μ2 := up2 q2.1 81 9 q2.2
  let μ3 := C_findRange μ2 (o + 16)
  let μ4 := up2 μ3 81 2 (C_priceWith μ3 (μ3 o 3))
  let μ5 := C_take μ4 84 20 (μ4 81 8) (o + 16)
  let μ6 := C_take μ5 86 20 (μ5 81 9) (o + 16)
  up2 μ6 81 4 (C_sumSurplus μ6 o)
def C_settle (μ : Mm) (o : Nat) : Mm := opq (C_settle0 μ o)
theorem C_settle_eq (μ : Mm) (o : Nat) : C_settle μ o = C_settle0 μ o := opq_eq _
def V_step (o : Nat) (k : Nat) (μ : Mm) : Mm :=
  R_add μ (if R_get μ (o + 16 + 5) 20 (nI k) = 0 then 88 else 90) 121 (R_get μ (o + 1 + 3) 8 (R_get μ (o + 16 + 3) 20 (nI k))) (R_get μ (o + 16 + 9) 20 (nI k))
def C_tallyV (μ : Mm) (o : Nat) : Mm := itr (V_step o) (R_zero (R_zero μ 88 121) 90 121) (cn (μ (o + 16) 0))
theorem V_ne {μ : Mm} {o k' : Nat} (h1 : k' ≠ 89) (h2 : k' ≠ 91) (k : Nat) : (itr (V_step o) (R_zero (R_zero μ 88 121) 90 121) k) k' = μ k' := by
  refine itr_inv (fun _ (s : Mm) => s k' = μ k') ((R_zero_ne _ h2).trans (R_zero_ne _ h1)) (fun k s hs => ?_) k
  show (V_step o k s) k' = μ k'
  unfold V_step
  split
  · exact (R_add_ne _ h1).trans hs
  · exact (R_add_ne _ h2).trans hs
def FG : Nat → Mm → Int32 → Int32 → Int32 → Mm × Int32
  | 0, μ, _, _, s => (μ, s)
  | n + 1, μ, h, l, s =>
    if l < h then
      let u := mnI (R_get μ 88 121 h) (R_get μ 90 121 l)
      let μ1 := R_add (R_add μ 88 121 h (-u)) 90 121 l (-u)
      if R_get μ1 88 121 h = 0 then FG n μ1 (h - 1) l (s + u * (h - l)) else FG n μ1 h (l + 1) (s + u * (h - l))
    else (μ, s)
def C_greatest (μ : Mm) (o : Nat) : Mm × Int32 := opq (FG 98 (C_tallyV μ o) 99 1 0)
theorem C_greatest_eq (μ : Mm) (o : Nat) : C_greatest μ o = FG 98 (C_tallyV μ o) 99 1 0 := opq_eq _
def C_hundredths (μ : Mm) (g : Int32) : Int32 := if μ 81 4 < 0 then 0 else if 0 < g then μ 81 4 * 100 / g else 100
def C_valueOf (μ : Mm) (o : Nat) (w : Int32) : Int32 :=
  if w = 0 then μ 81 0 else if w = 1 then μ 81 1 else if w = 2 then μ 81 2 else if w = 3 then μ 81 3 else if w = 4 then μ 81 4 else if w = 5 then (C_greatest μ o).2 else C_hundredths (C_greatest μ o).1 (C_greatest μ o).2
def C_valueM (μ : Mm) (o : Nat) (w : Int32) : Mm :=
  if w = 0 then μ else if w = 1 then μ else if w = 2 then μ else if w = 3 then μ else if w = 4 then μ else (C_greatest μ o).1
def C_reasonOf (μ : Mm) (o : Nat) (i : Int32) : Int32 :=
  if R_get μ 82 20 i = R_get μ (o + 9) 20 i then 0 else if μ 81 3 = 0 then 1 else if O_accepts μ o i (μ 81 2) = 0 then 2 else 3
def C_takenOf (μ : Mm) (o : Nat) (t : Int32) : Int32 := sumI (fun k => if R_get μ (o + 3) 20 (nI k) = t then R_get μ 82 20 (nI k) else 0) (cn (μ o 0))
def C_gainOf (μ : Mm) (o : Nat) (t p : Int32) : Int32 := C_takenOf μ (o + 16) t * T_gain μ (o + 1) t p
def PF (o t : Nat) : Nat → Mm → Int32 → Int32 → Int32 → Int32 → Mm
  | 0, μ, _, _, _, _ => μ
  | n + 1, μ, b, s, x, y =>
    if b < μ 81 8 then
      if s < μ 81 9 then
        let bl := R_get μ 82 20 (R_get μ 84 20 b) - x
        let sl := R_get μ 82 20 (R_get μ 86 20 s) - y
        let μ1 := if 0 < mnI bl sl then S_append μ t o (R_get μ 84 20 b) (R_get μ 86 20 s) (mnI bl sl) else μ
        PF o t n μ1 (if bl ≤ sl then b + 1 else b) (if sl ≤ bl then s + 1 else s) (if bl ≤ sl then 0 else x + mnI bl sl) (if sl ≤ bl then 0 else y + mnI bl sl)
      else μ
    else μ
def C_pairOff (μ : Mm) (o t : Nat) : Mm := PF o t (cn (μ 81 8) + cn (μ 81 9)) (up2 μ t 0 0) 0 0 0 0
theorem S_append_ne (μ : Mm) {t o : Nat} {i j u : Int32} {k' : Nat} (h0 : k' ≠ t) (h1 : k' ≠ t + 2) (h2 : k' ≠ t + 4) (h3 : k' ≠ t + 6) (h4 : k' ≠ t + 8) (h5 : k' ≠ t + 10) : S_append μ t o i j u k' = μ k' := by
  unfold S_append
  rw [up2_k _ _ h0, R_put_ne _ h5, R_put_ne _ h4, R_put_ne _ h3, R_put_ne _ h2, R_put_ne _ h1]
theorem nI_lt_of {x y : Nat} (hx : x < 2 ^ 31) (hy : y < 2 ^ 31) (h : nI y < nI x) : y < x := by
  have h1 := Int32.lt_iff_toInt_lt.mp h
  rw [nI_toInt hx, nI_toInt hy] at h1
  omega
theorem n81 {t : Nat} (ht : isS t) : 81 ≠ t := ne_2 sh_81 ht.2.1 (by decide)
theorem S_append_81 {μ : Mm} {t o : Nat} {i j u : Int32} (ht : isS t) : S_append μ t o i j u 81 = μ 81 :=
  S_append_ne μ (n81 ht) (ne_1 sh_81 ht.2.2.1.2.2.1) (ne_1 sh_81 ht.2.2.2.1.2.2.1) (ne_1 sh_81 ht.2.2.2.2.1.2.2.1) (ne_1 sh_81 ht.2.2.2.2.2.1.2.2.1) (ne_1 sh_81 ht.2.2.2.2.2.2.2.2.1)
theorem nI_lt_cn {x : Nat} {c : Int32} (hx : x < 2 ^ 31) (h : nI x < c) : x < cn c := by
  have h1 := Int32.lt_iff_toInt_lt.mp h
  rw [nI_toInt hx] at h1
  unfold cn
  rw [Int32.toNatClampNeg]
  omega
theorem pf_step {m8 m9 M8 M9 b s b' s' : Int32} {x y n : Nat} (e8 : m8 = M8) (e9 : m9 = M9) (ex : b = nI x) (ey : s = nI y) (hx : x ≤ cn M8) (hy : y ≤ cn M9) (hn : cn M8 + cn M9 ≤ x + y + (n + 1)) (c1 : ¬ m8 ≤ b) (c2 : ¬ m9 ≤ s)
    (h : (b' = b + 1 ∧ s' = s + 1) ∨ (b' = b + 1 ∧ s' = s) ∨ (b' = b ∧ s' = s + 1)) : ∃ x y : Nat, b' = nI x ∧ s' = nI y ∧ x ≤ cn M8 ∧ y ≤ cn M9 ∧ cn M8 + cn M9 ≤ x + y + n := by
  have b1 := cn_lt M8
  have b2 := cn_lt M9
  have h1 : x < cn M8 := nI_lt_cn (by omega) (by rw [← e8, ← ex]; exact Int32.not_le.mp c1)
  have h2 : y < cn M9 := nI_lt_cn (by omega) (by rw [← e9, ← ey]; exact Int32.not_le.mp c2)
  rcases h with ⟨rfl, rfl⟩ | ⟨rfl, rfl⟩ | ⟨rfl, rfl⟩
  · exact ⟨x + 1, y + 1, by rw [ex]; exact nI_1 _, by rw [ey]; exact nI_1 _, by omega, by omega, by omega⟩
  · exact ⟨x + 1, y, by rw [ex]; exact nI_1 _, ey, by omega, by omega, by omega⟩
  · exact ⟨x, y + 1, ex, by rw [ey]; exact nI_1 _, by omega, by omega, by omega⟩
theorem nI_m1s (x : Int32) : x + (-1) = x - 1 := (Int32.sub_eq_add_neg x 1).symm
set_option maxHeartbeats 4000000 in
set_option maxRecDepth 100000 in
theorem MX2_queueUp (l : Launch) (G : GG) (B : Nat) (μ : Mm) (q n_q : Nat) (hq : isR q n_q) (b : Nat) (hb : isO b) (sd : Int32) : CM l yX2_queueUp (.code yX2_queueUp cX2_queueUp 6 (Option.some FieldType.int)) 2 44 G B [.ref (B + q), .ref (B + b), .int sd] μ (some (.int ((C_queueUp μ q n_q b sd).2))) ((C_queueUp μ q n_q b sd).1) := by
  refine CM.of (by decide) (Nat.le_of_ble_eq_true rfl) ?_
  intro p e s m below meth c ls K hr hlocks hP hl
  have hS : va_S (AA B) s.heap s.heap [] := va_S.rf
  have hl : lv_has ls 6 [(0, .ref (B + q)), (1, .ref (B + b)), (2, .int sd)] := hl
  refine lv_iconst (v := 0) K.1.1 K.1.2.1 dX2_queueUp_0 (by decide) ?_
  refine lv_istore_n (lv' := [(3, .int 0), (0, .ref (B + q)), (1, .ref (B + b)), (2, .int sd)]) K.1.1 K.1.2.1 dX2_queueUp_1 rfl hl (by decide) rfl (fun ls hl => ?_)
  refine lv_iconst (v := 0) K.1.1 K.1.2.1 dX2_queueUp_2 (by decide) ?_
  refine lv_istore (lv' := [(4, .int 0), (3, .int 0), (0, .ref (B + q)), (1, .ref (B + b)), (2, .int sd)]) K.1.1 K.1.2.1 dX2_queueUp_3 hl (by decide) rfl (fun ls hl => ?_)
  refine up_to (N := cn (μ b 0)) (P := fun k : Nat => ∀ (v4_5 : Int32) (v3_5 : Int32) (μ_5 : Mm) (H : Heap) (locs : List Loc) (ls : Array Slot), (v4_5 = nI k) → (v3_5 = (itr (Q_step q n_q b sd) (μ, 0) k).2) → (μ_5 = (itr (Q_step q n_q b sd) (μ, 0) k).1) → (∃ j : Nat, j ≤ k ∧ v3_5 = nI j) → MP G B μ_5 H → va_S (AA B) s.heap H locs → lv_has ls 6 [(4, .int v4_5), (3, .int v3_5), (0, .ref (B + q)), (1, .ref (B + b)), (2, .int sd)] → W p l e ({ frames := 2, cells := 0, slots := 0, locals := 44 } : Room) s m ([.ref (B + q), .ref (B + b), .int sd] : List Value).toArray below meth c H locs 0 0 (MF below G B (some (.int ((C_queueUp μ q n_q b sd).2))) ((C_queueUp μ q n_q b sd).1) ([.ref (B + q), .ref (B + b), .int sd] : List Value).toArray s) (F0 m 5 ls [])) ?_ ?_ _ _ _ _ _ _ (by first | rfl | (skip; rfl)) (by first | rfl | (skip; rfl)) (by first | rfl | (skip; rfl)) (by exact ⟨0, Nat.le_refl _, rfl⟩) hP hS (lv_sub hl [0, 1, 2, 3, 4] rfl)
  · intro v4_5 v3_5 μ_5 H locs ls ev4_5 ev3_5 eμ_5 inv_5 hP hS hl
    refine lv_iload K.1.1 K.1.2.1 dX2_queueUp_5 (lv_at hl 0 rfl) ?_
    refine lv_aload_n K.1.1 K.1.2.1 dX2_queueUp_7 rfl (lv_at hl 3 rfl) ?_
    refine m_geti K hP hb.1 hb.2.1 rfl tuX4 0 (by decide) rfl q_107 dX2_queueUp_8 ?_
    refine lv_topi (fun g_1 eg_1 => ?_)
    refine lv_icmp_ge (tgt := 89) K.1.1 K.1.2.1 dX2_queueUp_11 (by decide) (fun c_11 => ?_) (fun c_11 => ?_)
    · refine lv_iload_n K.1.1 K.1.2.1 dX2_queueUp_89 rfl (lv_at hl 1 rfl) ?_
      exact m_iret K hr hlocks hP hS dX2_queueUp_90 (by subst ev4_5 ev3_5 eμ_5 eg_1; rfl) (by subst ev4_5 ev3_5 eμ_5 eg_1; rfl)
    · exact absurd c_11 (not_not_intro (by subst ev4_5 ev3_5 eμ_5 eg_1; rw [Q_ne (ne_1 hb.2.1 hq.2.2.1)]; exact cn_out _))
  · intro k hk ih_5 v4_5 v3_5 μ_5 H locs ls ev4_5 ev3_5 eμ_5 inv_5 hP hS hl
    obtain ⟨j, hj, ej⟩ := inv_5
    have hkb : k < 2 ^ 31 := Nat.lt_trans hk (cn_lt _)
    refine lv_iload K.1.1 K.1.2.1 dX2_queueUp_5 (lv_at hl 0 rfl) ?_
    refine lv_aload_n K.1.1 K.1.2.1 dX2_queueUp_7 rfl (lv_at hl 3 rfl) ?_
    refine m_geti K hP hb.1 hb.2.1 rfl tuX4 0 (by decide) rfl q_107 dX2_queueUp_8 ?_
    refine lv_topi (fun g_2 eg_2 => ?_)
    refine lv_icmp_ge (tgt := 89) K.1.1 K.1.2.1 dX2_queueUp_11 (by decide) (fun c_11 => ?_) (fun c_11 => ?_)
    · exact absurd c_11 (by subst ev4_5 ev3_5 eμ_5 eg_2; rw [Q_ne (ne_1 hb.2.1 hq.2.2.1)]; exact cn_in hk)
    · refine lv_aload_n K.1.1 K.1.2.1 dX2_queueUp_14 rfl (lv_at hl 3 rfl) ?_
      refine m_getr K hP hb.1 hb.2.1 rfl tuX4 3 (by decide) rfl q_117 dX2_queueUp_15 ?_
      refine lv_iload K.1.1 K.1.2.1 dX2_queueUp_18 (lv_at hl 0 rfl) ?_
      refine m_cV (n := 1) (As := [.int v4_5]) (rest := []) K hP hS (MX5_get l G B _ (b + 5) 20 hb.2.2.2.2.1 v4_5 ) (Nat.lt_of_succ_lt hb.2.2.2.2.1.1) hb.2.2.2.2.1.2.1 rfl q_459 q_460 q_461 q_18 q_462 hv_X5_get ⟨Nat.le_of_ble_eq_true rfl, Nat.le_of_ble_eq_true rfl⟩ rfl hl.1 rfl (Nat.le_of_ble_eq_true rfl) dX2_queueUp_20 ⟨Nat.zero_le _, Nat.zero_le _⟩ (fun H locs hP hS => ?_)
      refine lv_topi (fun r_3 er_3 => ?_)
      refine lv_iload_n K.1.1 K.1.2.1 dX2_queueUp_23 rfl (lv_at hl 4 rfl) ?_
      refine lv_icmp_ne (tgt := 83) K.1.1 K.1.2.1 dX2_queueUp_24 (by decide) (fun c_24 => ?_) (fun c_24 => ?_)
      · obtain ⟨x_4, ex_4⟩ : ∃ y : Int32, y = v4_5 + (1) := ⟨_, rfl⟩
        refine lv_iinc (v := x_4) (lv' := [(4, .int x_4), (3, .int v3_5), (0, .ref (B + q)), (1, .ref (B + b)), (2, .int sd)]) K.1.1 K.1.2.1 dX2_queueUp_83 hl (k := 0) rfl (by rw [ex_4]; rfl) (by decide) rfl (fun ls hl => ?_)
        refine lv_goto (tgt := 5) K.1.1 K.1.2.1 dX2_queueUp_86 (by decide) ?_
        exact ih_5 _ _ _ _ _ _ (by subst ev4_5 ev3_5 eμ_5 eg_2 er_3 ex_4; exact nI_1 _) (by subst ev4_5 ev3_5 eμ_5 eg_2 er_3 ex_4; simp only [itr]; first | rw [Q_step, if_neg c_24] | rw [Q_step, if_pos c_24]) (by subst ev4_5 ev3_5 eμ_5 eg_2 er_3 ex_4; simp only [itr]; first | rw [Q_step, if_neg c_24] | (rw [Q_step, if_pos c_24]; simp only [← inv2_30]; first | rfl | rw [Q_in, if_pos c_49])) (by first | exact ⟨j, by omega, ej⟩ | exact ⟨j + 1, by omega, by subst ev4_5 ev3_5 eμ_5 eg_2 er_3 ex_4; rw [ej]; exact nI_1 _⟩) hP hS (lv_sub hl [0, 1, 2, 3, 4] rfl)
      · refine lv_iload_n K.1.1 K.1.2.1 dX2_queueUp_27 rfl (lv_at hl 1 rfl) ?_
        refine lv_istore (lv' := [(5, .int v3_5), (4, .int v4_5), (3, .int v3_5), (0, .ref (B + q)), (1, .ref (B + b)), (2, .int sd)]) K.1.1 K.1.2.1 dX2_queueUp_28 hl (by decide) rfl (fun ls hl => ?_)
        have lp_30 : ∀ n : Nat, ∀ (v5_30 : Int32) (μ_30 : Mm) (H : Heap) (locs : List Loc) (ls : Array Slot), (n < 2 ^ 31) → (v5_30 = nI n) → (Q_in q n_q b v4_5 n μ_30 = Q_in q n_q b v4_5 (cn v3_5) μ_5) → MP G B μ_30 H → va_S (AA B) s.heap H locs → lv_has ls 6 [(5, .int v5_30), (4, .int v4_5), (3, .int v3_5), (0, .ref (B + q)), (1, .ref (B + b)), (2, .int sd)] → W p l e ({ frames := 2, cells := 0, slots := 0, locals := 44 } : Room) s m ([.ref (B + q), .ref (B + b), .int sd] : List Value).toArray below meth c H locs 0 0 (MF below G B (some (.int ((C_queueUp μ q n_q b sd).2))) ((C_queueUp μ q n_q b sd).1) ([.ref (B + q), .ref (B + b), .int sd] : List Value).toArray s) (F0 m 30 ls []) := by
          intro n
          induction n with
          | zero =>
            intro v5_30 μ_30 H locs ls inv0_30 inv1_30 inv2_30 hP hS hl
            refine lv_iload K.1.1 K.1.2.1 dX2_queueUp_30 (lv_at hl 0 rfl) ?_
            refine lv_if_le (tgt := 72) K.1.1 K.1.2.1 dX2_queueUp_32 (by decide) (fun c_32 => ?_) (fun c_32 => ?_)
            · refine lv_aload_n K.1.1 K.1.2.1 dX2_queueUp_72 rfl (lv_at hl 3 rfl) ?_
              refine lv_iload K.1.1 K.1.2.1 dX2_queueUp_73 (lv_at hl 0 rfl) ?_
              refine lv_iload K.1.1 K.1.2.1 dX2_queueUp_75 (lv_at hl 1 rfl) ?_
              refine m_cV (n := 2) (As := [.int v5_30, .int v4_5]) (rest := []) K hP hS (MX5_put l G B _ q n_q hq v5_30 v4_5 ) (Nat.lt_of_succ_lt hq.1) hq.2.1 rfl q_468 q_469 q_470 q_18 q_471 hv_X5_put ⟨Nat.le_of_ble_eq_true rfl, Nat.le_of_ble_eq_true rfl⟩ rfl hl.1 rfl (Nat.le_of_ble_eq_true rfl) dX2_queueUp_77 ⟨Nat.zero_le _, Nat.zero_le _⟩ (fun H locs hP hS => ?_)
              refine W.eq (g2 := F0 m 80 ls []) rfl ?_
              obtain ⟨x_5, ex_5⟩ : ∃ y : Int32, y = v3_5 + (1) := ⟨_, rfl⟩
              refine lv_iinc (v := x_5) (lv' := [(3, .int x_5), (5, .int v5_30), (4, .int v4_5), (0, .ref (B + q)), (1, .ref (B + b)), (2, .int sd)]) K.1.1 K.1.2.1 dX2_queueUp_80 hl (k := 2) rfl (by rw [ex_5]; rfl) (by decide) rfl (fun ls hl => ?_)
              obtain ⟨x_6, ex_6⟩ : ∃ y : Int32, y = v4_5 + (1) := ⟨_, rfl⟩
              refine lv_iinc (v := x_6) (lv' := [(4, .int x_6), (3, .int x_5), (5, .int v5_30), (0, .ref (B + q)), (1, .ref (B + b)), (2, .int sd)]) K.1.1 K.1.2.1 dX2_queueUp_83 hl (k := 2) rfl (by rw [ex_6]; rfl) (by decide) rfl (fun ls hl => ?_)
              refine lv_goto (tgt := 5) K.1.1 K.1.2.1 dX2_queueUp_86 (by decide) ?_
              exact ih_5 _ _ _ _ _ _ (by subst ev4_5 ev3_5 eμ_5 eg_2 er_3 inv1_30 ex_5 ex_6; exact nI_1 _) (by subst ev4_5 ev3_5 eμ_5 eg_2 er_3 inv1_30 ex_5 ex_6; simp only [itr]; first | rw [Q_step, if_neg c_24] | rw [Q_step, if_pos c_24]) (by subst ev4_5 ev3_5 eμ_5 eg_2 er_3 inv1_30 ex_5 ex_6; simp only [itr]; first | rw [Q_step, if_neg c_24] | (rw [Q_step, if_pos c_24]; simp only [← inv2_30]; first | rfl | rw [Q_in, if_pos c_49])) (by first | exact ⟨j, by omega, ej⟩ | exact ⟨j + 1, by omega, by subst ev4_5 ev3_5 eμ_5 eg_2 er_3 inv1_30 ex_5 ex_6; rw [ej]; exact nI_1 _⟩) hP hS (lv_sub hl [0, 1, 3, 4, 5] rfl)
            · exact absurd c_32 (not_not_intro (by subst ev4_5 ev3_5 eμ_5 eg_2 er_3 inv1_30; exact Int32.le_refl _))
          | succ n ih_30 =>
            intro v5_30 μ_30 H locs ls inv0_30 inv1_30 inv2_30 hP hS hl
            refine lv_iload K.1.1 K.1.2.1 dX2_queueUp_30 (lv_at hl 0 rfl) ?_
            refine lv_if_le (tgt := 72) K.1.1 K.1.2.1 dX2_queueUp_32 (by decide) (fun c_32 => ?_) (fun c_32 => ?_)
            · exact absurd c_32 (by subst ev4_5 ev3_5 eμ_5 eg_2 er_3 inv1_30; exact nI_up0 inv0_30)
            · refine lv_aload_n K.1.1 K.1.2.1 dX2_queueUp_35 rfl (lv_at hl 4 rfl) ?_
              refine lv_iload K.1.1 K.1.2.1 dX2_queueUp_36 (lv_at hl 1 rfl) ?_
              refine lv_aload_n K.1.1 K.1.2.1 dX2_queueUp_38 rfl (lv_at hl 3 rfl) ?_
              refine lv_iload K.1.1 K.1.2.1 dX2_queueUp_39 (lv_at hl 0 rfl) ?_
              refine lv_iconst (v := 1) K.1.1 K.1.2.1 dX2_queueUp_41 (by decide) ?_
              refine lv_isub K.1.1 K.1.2.1 dX2_queueUp_42 ?_
              refine m_cV (n := 1) (As := [.int (v5_30 - 1)]) (rest := [.int v4_5, .ref (B + b)]) K hP hS (MX5_get l G B _ q n_q hq (v5_30 - 1) ) (Nat.lt_of_succ_lt hq.1) hq.2.1 rfl q_459 q_460 q_461 q_18 q_462 hv_X5_get ⟨Nat.le_of_ble_eq_true rfl, Nat.le_of_ble_eq_true rfl⟩ rfl hl.1 rfl (Nat.le_of_ble_eq_true rfl) dX2_queueUp_43 ⟨Nat.zero_le _, Nat.zero_le _⟩ (fun H locs hP hS => ?_)
              refine lv_topi (fun r_7 er_7 => ?_)
              refine m_cV (n := 2) (As := [.int v4_5, .int r_7]) (rest := []) K hP hS (MX4_isAhead l G B _ b hb v4_5 r_7 ) hb.1 hb.2.1 rfl q_463 q_464 q_465 q_19 q_466 hv_X4_isAhead ⟨Nat.le_of_ble_eq_true rfl, Nat.le_of_ble_eq_true rfl⟩ rfl hl.1 rfl (Nat.le_of_ble_eq_true rfl) dX2_queueUp_46 ⟨Nat.zero_le _, Nat.zero_le _⟩ (fun H locs hP hS => ?_)
              refine lv_topi (fun r_8 er_8 => ?_)
              refine lv_if_eq (tgt := 72) K.1.1 K.1.2.1 dX2_queueUp_49 (by decide) (fun c_49 => ?_) (fun c_49 => ?_)
              · refine lv_aload_n K.1.1 K.1.2.1 dX2_queueUp_72 rfl (lv_at hl 3 rfl) ?_
                refine lv_iload K.1.1 K.1.2.1 dX2_queueUp_73 (lv_at hl 0 rfl) ?_
                refine lv_iload K.1.1 K.1.2.1 dX2_queueUp_75 (lv_at hl 1 rfl) ?_
                refine m_cV (n := 2) (As := [.int v5_30, .int v4_5]) (rest := []) K hP hS (MX5_put l G B _ q n_q hq v5_30 v4_5 ) (Nat.lt_of_succ_lt hq.1) hq.2.1 rfl q_468 q_469 q_470 q_18 q_471 hv_X5_put ⟨Nat.le_of_ble_eq_true rfl, Nat.le_of_ble_eq_true rfl⟩ rfl hl.1 rfl (Nat.le_of_ble_eq_true rfl) dX2_queueUp_77 ⟨Nat.zero_le _, Nat.zero_le _⟩ (fun H locs hP hS => ?_)
                refine W.eq (g2 := F0 m 80 ls []) rfl ?_
                obtain ⟨x_9, ex_9⟩ : ∃ y : Int32, y = v3_5 + (1) := ⟨_, rfl⟩
                refine lv_iinc (v := x_9) (lv' := [(3, .int x_9), (5, .int v5_30), (4, .int v4_5), (0, .ref (B + q)), (1, .ref (B + b)), (2, .int sd)]) K.1.1 K.1.2.1 dX2_queueUp_80 hl (k := 2) rfl (by rw [ex_9]; rfl) (by decide) rfl (fun ls hl => ?_)
                obtain ⟨x_10, ex_10⟩ : ∃ y : Int32, y = v4_5 + (1) := ⟨_, rfl⟩
                refine lv_iinc (v := x_10) (lv' := [(4, .int x_10), (3, .int x_9), (5, .int v5_30), (0, .ref (B + q)), (1, .ref (B + b)), (2, .int sd)]) K.1.1 K.1.2.1 dX2_queueUp_83 hl (k := 2) rfl (by rw [ex_10]; rfl) (by decide) rfl (fun ls hl => ?_)
                refine lv_goto (tgt := 5) K.1.1 K.1.2.1 dX2_queueUp_86 (by decide) ?_
                exact ih_5 _ _ _ _ _ _ (by subst ev4_5 ev3_5 eμ_5 eg_2 er_3 inv1_30 er_7 er_8 ex_9 ex_10; exact nI_1 _) (by subst ev4_5 ev3_5 eμ_5 eg_2 er_3 inv1_30 er_7 er_8 ex_9 ex_10; simp only [itr]; first | rw [Q_step, if_neg c_24] | rw [Q_step, if_pos c_24]) (by subst ev4_5 ev3_5 eμ_5 eg_2 er_3 inv1_30 er_7 er_8 ex_9 ex_10; simp only [itr]; first | rw [Q_step, if_neg c_24] | (rw [Q_step, if_pos c_24]; simp only [← inv2_30]; first | rfl | rw [Q_in, if_pos c_49])) (by first | exact ⟨j, by omega, ej⟩ | exact ⟨j + 1, by omega, by subst ev4_5 ev3_5 eμ_5 eg_2 er_3 inv1_30 er_7 er_8 ex_9 ex_10; rw [ej]; exact nI_1 _⟩) hP hS (lv_sub hl [0, 1, 3, 4, 5] rfl)
              · refine lv_aload_n K.1.1 K.1.2.1 dX2_queueUp_52 rfl (lv_at hl 3 rfl) ?_
                refine lv_iload K.1.1 K.1.2.1 dX2_queueUp_53 (lv_at hl 0 rfl) ?_
                refine lv_aload_n K.1.1 K.1.2.1 dX2_queueUp_55 rfl (lv_at hl 3 rfl) ?_
                refine lv_iload K.1.1 K.1.2.1 dX2_queueUp_56 (lv_at hl 0 rfl) ?_
                refine lv_iconst (v := 1) K.1.1 K.1.2.1 dX2_queueUp_58 (by decide) ?_
                refine lv_isub K.1.1 K.1.2.1 dX2_queueUp_59 ?_
                refine m_cV (n := 1) (As := [.int (v5_30 - 1)]) (rest := [.int v5_30, .ref (B + q)]) K hP hS (MX5_get l G B _ q n_q hq (v5_30 - 1) ) (Nat.lt_of_succ_lt hq.1) hq.2.1 rfl q_459 q_460 q_461 q_18 q_462 hv_X5_get ⟨Nat.le_of_ble_eq_true rfl, Nat.le_of_ble_eq_true rfl⟩ rfl hl.1 rfl (Nat.le_of_ble_eq_true rfl) dX2_queueUp_60 ⟨Nat.zero_le _, Nat.zero_le _⟩ (fun H locs hP hS => ?_)
                refine lv_topi (fun r_11 er_11 => ?_)
                refine m_cV (n := 2) (As := [.int v5_30, .int r_11]) (rest := []) K hP hS (MX5_put l G B _ q n_q hq v5_30 r_11 ) (Nat.lt_of_succ_lt hq.1) hq.2.1 rfl q_468 q_469 q_470 q_18 q_471 hv_X5_put ⟨Nat.le_of_ble_eq_true rfl, Nat.le_of_ble_eq_true rfl⟩ rfl hl.1 rfl (Nat.le_of_ble_eq_true rfl) dX2_queueUp_63 ⟨Nat.zero_le _, Nat.zero_le _⟩ (fun H locs hP hS => ?_)
                refine W.eq (g2 := F0 m 66 ls []) rfl ?_
                obtain ⟨x_12, ex_12⟩ : ∃ y : Int32, y = v5_30 + (-1) := ⟨_, rfl⟩
                refine lv_iinc (v := x_12) (lv' := [(5, .int x_12), (4, .int v4_5), (3, .int v3_5), (0, .ref (B + q)), (1, .ref (B + b)), (2, .int sd)]) K.1.1 K.1.2.1 dX2_queueUp_66 hl (k := 0) rfl (by rw [ex_12]; rfl) (by decide) rfl (fun ls hl => ?_)
                refine lv_goto (tgt := 30) K.1.1 K.1.2.1 dX2_queueUp_69 (by decide) ?_
                exact ih_30 _ _ _ _ _ (by omega) (by subst ev4_5 ev3_5 eμ_5 eg_2 er_3 inv1_30 er_7 er_8 er_11 ex_12; rw [nI_m1s]; exact nI_pred _) (by subst ev4_5 ev3_5 eμ_5 eg_2 er_3 inv1_30 er_7 er_8 er_11 ex_12; rw [← inv2_30, Q_in, if_neg c_49]) hP hS (lv_sub hl [0, 1, 2, 3, 4, 5] rfl)
        exact lp_30 (cn v3_5) _ _ _ _ _ (by exact cn_lt _) (by rw [ej]; rw [cn_nI (by omega)]) (by rfl) hP hS (lv_sub hl [0, 1, 2, 3, 4, 5] rfl)

set_option maxHeartbeats 4000000 in
set_option maxRecDepth 100000 in
theorem MX2_tallyPrices (l : Launch) (G : GG) (B : Nat) (μ : Mm) (b : Nat) (hb : isO b) : CM l yX2_tallyPrices (.code yX2_tallyPrices cX2_tallyPrices 4 (Option.some FieldType.int)) 1 22 G B [.ref (B + 81), .ref (B + b)] μ (some (.int ((C_tally μ b).2))) ((C_tally μ b).1) := by
  refine CM.of (by decide) (Nat.le_of_ble_eq_true rfl) ?_
  intro p e s m below meth c ls K hr hlocks hP hl
  have hS : va_S (AA B) s.heap s.heap [] := va_S.rf
  have hl : lv_has ls 4 [(0, .ref (B + 81)), (1, .ref (B + b))] := hl
  refine lv_aload_n K.1.1 K.1.2.1 dX2_tallyPrices_0 rfl (lv_at hl 0 rfl) ?_
  refine m_getr K hP (by decide) sh_81 rfl tuX2 10 (by decide) rfl q_234 dX2_tallyPrices_1 ?_
  refine m_cV (n := 0) (As := []) (rest := []) K hP hS (MX5_fillWithZeros l G B _ 88 121 isR_88 ) (Nat.lt_of_succ_lt isR_88.1) isR_88.2.1 rfl q_480 q_481 q_482 q_18 q_483 hv_X5_fillWithZeros ⟨Nat.le_of_ble_eq_true rfl, Nat.le_of_ble_eq_true rfl⟩ rfl hl.1 rfl (Nat.le_of_ble_eq_true rfl) dX2_tallyPrices_4 ⟨Nat.zero_le _, Nat.zero_le _⟩ (fun H locs hP hS => ?_)
  refine W.eq (g2 := F0 m 7 ls []) rfl ?_
  refine lv_aload_n K.1.1 K.1.2.1 dX2_tallyPrices_7 rfl (lv_at hl 0 rfl) ?_
  refine m_getr K hP (by decide) sh_81 rfl tuX2 11 (by decide) rfl q_235 dX2_tallyPrices_8 ?_
  refine m_cV (n := 0) (As := []) (rest := []) K hP hS (MX5_fillWithZeros l G B _ 90 121 isR_90 ) (Nat.lt_of_succ_lt isR_90.1) isR_90.2.1 rfl q_480 q_481 q_482 q_18 q_483 hv_X5_fillWithZeros ⟨Nat.le_of_ble_eq_true rfl, Nat.le_of_ble_eq_true rfl⟩ rfl hl.1 rfl (Nat.le_of_ble_eq_true rfl) dX2_tallyPrices_11 ⟨Nat.zero_le _, Nat.zero_le _⟩ (fun H locs hP hS => ?_)
  refine W.eq (g2 := F0 m 14 ls []) rfl ?_
  refine lv_iconst (v := 0) K.1.1 K.1.2.1 dX2_tallyPrices_14 (by decide) ?_
  refine lv_istore_n (lv' := [(2, .int 0), (0, .ref (B + 81)), (1, .ref (B + b))]) K.1.1 K.1.2.1 dX2_tallyPrices_15 rfl hl (by decide) rfl (fun ls hl => ?_)
  refine lv_iconst (v := 0) K.1.1 K.1.2.1 dX2_tallyPrices_16 (by decide) ?_
  refine lv_istore_n (lv' := [(3, .int 0), (2, .int 0), (0, .ref (B + 81)), (1, .ref (B + b))]) K.1.1 K.1.2.1 dX2_tallyPrices_17 rfl hl (by decide) rfl (fun ls hl => ?_)
  refine up_to (N := cn (μ b 0)) (P := fun k : Nat => ∀ (v3_18 : Int32) (v2_18 : Int32) (μ_18 : Mm) (H : Heap) (locs : List Loc) (ls : Array Slot), (v3_18 = nI k) → (v2_18 = (itr (P_step b) (R_zero (R_zero μ 88 121) 90 121, 0) k).2) → (μ_18 = (itr (P_step b) (R_zero (R_zero μ 88 121) 90 121, 0) k).1) → MP G B μ_18 H → va_S (AA B) s.heap H locs → lv_has ls 4 [(3, .int v3_18), (2, .int v2_18), (0, .ref (B + 81)), (1, .ref (B + b))] → W p l e ({ frames := 1, cells := 0, slots := 0, locals := 22 } : Room) s m ([.ref (B + 81), .ref (B + b)] : List Value).toArray below meth c H locs 0 0 (MF below G B (some (.int ((C_tally μ b).2))) ((C_tally μ b).1) ([.ref (B + 81), .ref (B + b)] : List Value).toArray s) (F0 m 18 ls [])) ?_ ?_ _ _ _ _ _ _ (by first | rfl | (skip; rfl)) (by first | rfl | (skip; rfl)) (by first | rfl | (skip; rfl)) hP hS (lv_sub hl [0, 1, 2, 3] rfl)
  · intro v3_18 v2_18 μ_18 H locs ls ev3_18 ev2_18 eμ_18 hP hS hl
    refine lv_iload_n K.1.1 K.1.2.1 dX2_tallyPrices_18 rfl (lv_at hl 0 rfl) ?_
    refine lv_aload_n K.1.1 K.1.2.1 dX2_tallyPrices_19 rfl (lv_at hl 3 rfl) ?_
    refine m_geti K hP hb.1 hb.2.1 rfl tuX4 0 (by decide) rfl q_107 dX2_tallyPrices_20 ?_
    refine lv_topi (fun g_1 eg_1 => ?_)
    refine lv_icmp_ge (tgt := 103) K.1.1 K.1.2.1 dX2_tallyPrices_23 (by decide) (fun c_23 => ?_) (fun c_23 => ?_)
    · refine lv_iload_n K.1.1 K.1.2.1 dX2_tallyPrices_103 rfl (lv_at hl 1 rfl) ?_
      exact m_iret K hr hlocks hP hS dX2_tallyPrices_104 (by subst ev3_18 ev2_18 eμ_18 eg_1; rfl) (by subst ev3_18 ev2_18 eμ_18 eg_1; rfl)
    · exact absurd c_23 (not_not_intro (by subst ev3_18 ev2_18 eμ_18 eg_1; rw [P_ne (ne_1 hb.2.1 isR_88.2.2.1) (ne_1 hb.2.1 isR_90.2.2.1)]; exact cn_out _))
  · intro k hk ih_18 v3_18 v2_18 μ_18 H locs ls ev3_18 ev2_18 eμ_18 hP hS hl
    refine lv_iload_n K.1.1 K.1.2.1 dX2_tallyPrices_18 rfl (lv_at hl 0 rfl) ?_
    refine lv_aload_n K.1.1 K.1.2.1 dX2_tallyPrices_19 rfl (lv_at hl 3 rfl) ?_
    refine m_geti K hP hb.1 hb.2.1 rfl tuX4 0 (by decide) rfl q_107 dX2_tallyPrices_20 ?_
    refine lv_topi (fun g_2 eg_2 => ?_)
    refine lv_icmp_ge (tgt := 103) K.1.1 K.1.2.1 dX2_tallyPrices_23 (by decide) (fun c_23 => ?_) (fun c_23 => ?_)
    · exact absurd c_23 (by subst ev3_18 ev2_18 eμ_18 eg_2; rw [P_ne (ne_1 hb.2.1 isR_88.2.2.1) (ne_1 hb.2.1 isR_90.2.2.1)]; exact cn_in hk)
    · refine lv_aload_n K.1.1 K.1.2.1 dX2_tallyPrices_26 rfl (lv_at hl 3 rfl) ?_
      refine m_getr K hP hb.1 hb.2.1 rfl tuX4 3 (by decide) rfl q_117 dX2_tallyPrices_27 ?_
      refine lv_iload_n K.1.1 K.1.2.1 dX2_tallyPrices_30 rfl (lv_at hl 0 rfl) ?_
      refine m_cV (n := 1) (As := [.int v3_18]) (rest := []) K hP hS (MX5_get l G B _ (b + 5) 20 hb.2.2.2.2.1 v3_18 ) (Nat.lt_of_succ_lt hb.2.2.2.2.1.1) hb.2.2.2.2.1.2.1 rfl q_459 q_460 q_461 q_18 q_462 hv_X5_get ⟨Nat.le_of_ble_eq_true rfl, Nat.le_of_ble_eq_true rfl⟩ rfl hl.1 rfl (Nat.le_of_ble_eq_true rfl) dX2_tallyPrices_31 ⟨Nat.zero_le _, Nat.zero_le _⟩ (fun H locs hP hS => ?_)
      refine lv_topi (fun r_3 er_3 => ?_)
      refine lv_if_ne (tgt := 74) K.1.1 K.1.2.1 dX2_tallyPrices_34 (by decide) (fun c_34 => ?_) (fun c_34 => ?_)
      · refine lv_aload_n K.1.1 K.1.2.1 dX2_tallyPrices_74 rfl (lv_at hl 2 rfl) ?_
        refine m_getr K hP (by decide) sh_81 rfl tuX2 11 (by decide) rfl q_235 dX2_tallyPrices_75 ?_
        refine lv_aload_n K.1.1 K.1.2.1 dX2_tallyPrices_78 rfl (lv_at hl 3 rfl) ?_
        refine m_getr K hP hb.1 hb.2.1 rfl tuX4 4 (by decide) rfl q_119 dX2_tallyPrices_79 ?_
        refine lv_iload_n K.1.1 K.1.2.1 dX2_tallyPrices_82 rfl (lv_at hl 0 rfl) ?_
        refine m_cV (n := 1) (As := [.int v3_18]) (rest := [.ref (B + 90)]) K hP hS (MX5_get l G B _ (b + 7) 20 hb.2.2.2.2.2.1 v3_18 ) (Nat.lt_of_succ_lt hb.2.2.2.2.2.1.1) hb.2.2.2.2.2.1.2.1 rfl q_459 q_460 q_461 q_18 q_462 hv_X5_get ⟨Nat.le_of_ble_eq_true rfl, Nat.le_of_ble_eq_true rfl⟩ rfl hl.1 rfl (Nat.le_of_ble_eq_true rfl) dX2_tallyPrices_83 ⟨Nat.zero_le _, Nat.zero_le _⟩ (fun H locs hP hS => ?_)
        refine lv_topi (fun r_4 er_4 => ?_)
        refine lv_aload_n K.1.1 K.1.2.1 dX2_tallyPrices_86 rfl (lv_at hl 3 rfl) ?_
        refine m_getr K hP hb.1 hb.2.1 rfl tuX4 5 (by decide) rfl q_121 dX2_tallyPrices_87 ?_
        refine lv_iload_n K.1.1 K.1.2.1 dX2_tallyPrices_90 rfl (lv_at hl 0 rfl) ?_
        refine m_cV (n := 1) (As := [.int v3_18]) (rest := [.int r_4, .ref (B + 90)]) K hP hS (MX5_get l G B _ (b + 9) 20 hb.2.2.2.2.2.2.1 v3_18 ) (Nat.lt_of_succ_lt hb.2.2.2.2.2.2.1.1) hb.2.2.2.2.2.2.1.2.1 rfl q_459 q_460 q_461 q_18 q_462 hv_X5_get ⟨Nat.le_of_ble_eq_true rfl, Nat.le_of_ble_eq_true rfl⟩ rfl hl.1 rfl (Nat.le_of_ble_eq_true rfl) dX2_tallyPrices_91 ⟨Nat.zero_le _, Nat.zero_le _⟩ (fun H locs hP hS => ?_)
        refine lv_topi (fun r_5 er_5 => ?_)
        refine m_cV (n := 2) (As := [.int r_4, .int r_5]) (rest := []) K hP hS (MX5_add l G B _ 90 121 isR_90 r_4 r_5 ) (Nat.lt_of_succ_lt isR_90.1) isR_90.2.1 rfl q_484 q_485 q_486 q_18 q_487 hv_X5_add ⟨Nat.le_of_ble_eq_true rfl, Nat.le_of_ble_eq_true rfl⟩ rfl hl.1 rfl (Nat.le_of_ble_eq_true rfl) dX2_tallyPrices_94 ⟨Nat.zero_le _, Nat.zero_le _⟩ (fun H locs hP hS => ?_)
        refine W.eq (g2 := F0 m 97 ls []) rfl ?_
        obtain ⟨x_6, ex_6⟩ : ∃ y : Int32, y = v3_18 + (1) := ⟨_, rfl⟩
        refine lv_iinc (v := x_6) (lv' := [(3, .int x_6), (2, .int v2_18), (0, .ref (B + 81)), (1, .ref (B + b))]) K.1.1 K.1.2.1 dX2_tallyPrices_97 hl (k := 0) rfl (by rw [ex_6]; rfl) (by decide) rfl (fun ls hl => ?_)
        refine lv_goto (tgt := 18) K.1.1 K.1.2.1 dX2_tallyPrices_100 (by decide) ?_
        exact ih_18 _ _ _ _ _ _ (by subst ev3_18 ev2_18 eμ_18 eg_2 er_3 er_4 er_5 ex_6; exact nI_1 _) (by subst ev3_18 ev2_18 eμ_18 eg_2 er_3 er_4 er_5 ex_6; first | (simp only [itr, P_step, c_23, Int32.not_le.mp c_23, c_34, if_true, if_false, ite_true, ite_false, reduceIte, not_true, not_false_iff]; done) | simp [itr, P_step, c_23, Int32.not_le.mp c_23, c_34]) (by subst ev3_18 ev2_18 eμ_18 eg_2 er_3 er_4 er_5 ex_6; first | (simp only [itr, P_step, c_23, Int32.not_le.mp c_23, c_34, if_true, if_false, ite_true, ite_false, reduceIte, not_true, not_false_iff]; done) | simp [itr, P_step, c_23, Int32.not_le.mp c_23, c_34]) hP hS (lv_sub hl [0, 1, 2, 3] rfl)
      · refine lv_aload_n K.1.1 K.1.2.1 dX2_tallyPrices_37 rfl (lv_at hl 2 rfl) ?_
        refine m_getr K hP (by decide) sh_81 rfl tuX2 10 (by decide) rfl q_234 dX2_tallyPrices_38 ?_
        refine lv_aload_n K.1.1 K.1.2.1 dX2_tallyPrices_41 rfl (lv_at hl 3 rfl) ?_
        refine m_getr K hP hb.1 hb.2.1 rfl tuX4 4 (by decide) rfl q_119 dX2_tallyPrices_42 ?_
        refine lv_iload_n K.1.1 K.1.2.1 dX2_tallyPrices_45 rfl (lv_at hl 0 rfl) ?_
        refine m_cV (n := 1) (As := [.int v3_18]) (rest := [.ref (B + 88)]) K hP hS (MX5_get l G B _ (b + 7) 20 hb.2.2.2.2.2.1 v3_18 ) (Nat.lt_of_succ_lt hb.2.2.2.2.2.1.1) hb.2.2.2.2.2.1.2.1 rfl q_459 q_460 q_461 q_18 q_462 hv_X5_get ⟨Nat.le_of_ble_eq_true rfl, Nat.le_of_ble_eq_true rfl⟩ rfl hl.1 rfl (Nat.le_of_ble_eq_true rfl) dX2_tallyPrices_46 ⟨Nat.zero_le _, Nat.zero_le _⟩ (fun H locs hP hS => ?_)
        refine lv_topi (fun r_7 er_7 => ?_)
        refine lv_aload_n K.1.1 K.1.2.1 dX2_tallyPrices_49 rfl (lv_at hl 3 rfl) ?_
        refine m_getr K hP hb.1 hb.2.1 rfl tuX4 5 (by decide) rfl q_121 dX2_tallyPrices_50 ?_
        refine lv_iload_n K.1.1 K.1.2.1 dX2_tallyPrices_53 rfl (lv_at hl 0 rfl) ?_
        refine m_cV (n := 1) (As := [.int v3_18]) (rest := [.int r_7, .ref (B + 88)]) K hP hS (MX5_get l G B _ (b + 9) 20 hb.2.2.2.2.2.2.1 v3_18 ) (Nat.lt_of_succ_lt hb.2.2.2.2.2.2.1.1) hb.2.2.2.2.2.2.1.2.1 rfl q_459 q_460 q_461 q_18 q_462 hv_X5_get ⟨Nat.le_of_ble_eq_true rfl, Nat.le_of_ble_eq_true rfl⟩ rfl hl.1 rfl (Nat.le_of_ble_eq_true rfl) dX2_tallyPrices_54 ⟨Nat.zero_le _, Nat.zero_le _⟩ (fun H locs hP hS => ?_)
        refine lv_topi (fun r_8 er_8 => ?_)
        refine m_cV (n := 2) (As := [.int r_7, .int r_8]) (rest := []) K hP hS (MX5_add l G B _ 88 121 isR_88 r_7 r_8 ) (Nat.lt_of_succ_lt isR_88.1) isR_88.2.1 rfl q_484 q_485 q_486 q_18 q_487 hv_X5_add ⟨Nat.le_of_ble_eq_true rfl, Nat.le_of_ble_eq_true rfl⟩ rfl hl.1 rfl (Nat.le_of_ble_eq_true rfl) dX2_tallyPrices_57 ⟨Nat.zero_le _, Nat.zero_le _⟩ (fun H locs hP hS => ?_)
        refine W.eq (g2 := F0 m 60 ls []) rfl ?_
        refine lv_iload_n K.1.1 K.1.2.1 dX2_tallyPrices_60 rfl (lv_at hl 1 rfl) ?_
        refine lv_aload_n K.1.1 K.1.2.1 dX2_tallyPrices_61 rfl (lv_at hl 3 rfl) ?_
        refine m_getr K hP hb.1 hb.2.1 rfl tuX4 5 (by decide) rfl q_121 dX2_tallyPrices_62 ?_
        refine lv_iload_n K.1.1 K.1.2.1 dX2_tallyPrices_65 rfl (lv_at hl 0 rfl) ?_
        refine m_cV (n := 1) (As := [.int v3_18]) (rest := [.int v2_18]) K hP hS (MX5_get l G B _ (b + 9) 20 hb.2.2.2.2.2.2.1 v3_18 ) (Nat.lt_of_succ_lt hb.2.2.2.2.2.2.1.1) hb.2.2.2.2.2.2.1.2.1 rfl q_459 q_460 q_461 q_18 q_462 hv_X5_get ⟨Nat.le_of_ble_eq_true rfl, Nat.le_of_ble_eq_true rfl⟩ rfl hl.1 rfl (Nat.le_of_ble_eq_true rfl) dX2_tallyPrices_66 ⟨Nat.zero_le _, Nat.zero_le _⟩ (fun H locs hP hS => ?_)
        refine lv_topi (fun r_9 er_9 => ?_)
        refine lv_iadd K.1.1 K.1.2.1 dX2_tallyPrices_69 ?_
        refine lv_topi (fun x_10 ex_10 => ?_)
        refine lv_istore_n (lv' := [(2, .int x_10), (3, .int v3_18), (0, .ref (B + 81)), (1, .ref (B + b))]) K.1.1 K.1.2.1 dX2_tallyPrices_70 rfl hl (by decide) rfl (fun ls hl => ?_)
        refine lv_goto (tgt := 97) K.1.1 K.1.2.1 dX2_tallyPrices_71 (by decide) ?_
        obtain ⟨x_11, ex_11⟩ : ∃ y : Int32, y = v3_18 + (1) := ⟨_, rfl⟩
        refine lv_iinc (v := x_11) (lv' := [(3, .int x_11), (2, .int x_10), (0, .ref (B + 81)), (1, .ref (B + b))]) K.1.1 K.1.2.1 dX2_tallyPrices_97 hl (k := 1) rfl (by rw [ex_11]; rfl) (by decide) rfl (fun ls hl => ?_)
        refine lv_goto (tgt := 18) K.1.1 K.1.2.1 dX2_tallyPrices_100 (by decide) ?_
        exact ih_18 _ _ _ _ _ _ (by subst ev3_18 ev2_18 eμ_18 eg_2 er_3 er_7 er_8 er_9 ex_10 ex_11; exact nI_1 _) (by subst ev3_18 ev2_18 eμ_18 eg_2 er_3 er_7 er_8 er_9 ex_10 ex_11; first | (simp only [itr, P_step, c_23, Int32.not_le.mp c_23, c_34, if_true, if_false, ite_true, ite_false, reduceIte, not_true, not_false_iff]; done) | simp [itr, P_step, c_23, Int32.not_le.mp c_23, c_34]) (by subst ev3_18 ev2_18 eμ_18 eg_2 er_3 er_7 er_8 er_9 ex_10 ex_11; first | (simp only [itr, P_step, c_23, Int32.not_le.mp c_23, c_34, if_true, if_false, ite_true, ite_false, reduceIte, not_true, not_false_iff]; done) | simp [itr, P_step, c_23, Int32.not_le.mp c_23, c_34]) hP hS (lv_sub hl [0, 1, 2, 3] rfl)

set_option maxHeartbeats 4000000 in
set_option maxRecDepth 100000 in
theorem MX2_findRange (l : Launch) (G : GG) (B : Nat) (μ : Mm) (b : Nat) (hb : isO b) : CM l yX2_findRange (.code yX2_findRange cX2_findRange 6 Option.none) 2 45 G B [.ref (B + 81), .ref (B + b)] μ none (C_findRange μ b) := by
  refine CM.of (by decide) (Nat.le_of_ble_eq_true rfl) ?_
  intro p e s m below meth c ls K hr hlocks hP hl
  have hS : va_S (AA B) s.heap s.heap [] := va_S.rf
  have hl : lv_has ls 6 [(0, .ref (B + 81)), (1, .ref (B + b))] := hl
  refine lv_aload_n K.1.1 K.1.2.1 dX2_findRange_0 rfl (lv_at hl 0 rfl) ?_
  refine lv_aload_n K.1.1 K.1.2.1 dX2_findRange_1 rfl (lv_at hl 1 rfl) ?_
  refine m_cV (n := 1) (As := [.ref (B + b)]) (rest := []) K hP hS (MX2_tallyPrices l G B _ b hb ) (by decide) sh_81 rfl q_476 q_478 q_3 q_21 q_479 hv_X2_tallyPrices ⟨Nat.le_of_ble_eq_true rfl, Nat.le_of_ble_eq_true rfl⟩ rfl hl.1 rfl (Nat.le_of_ble_eq_true rfl) dX2_findRange_2 ⟨Nat.zero_le _, Nat.zero_le _⟩ (fun H locs hP hS => ?_)
  refine lv_topi (fun r_1 er_1 => ?_)
  refine lv_istore_n (lv' := [(2, .int r_1), (0, .ref (B + 81)), (1, .ref (B + b))]) K.1.1 K.1.2.1 dX2_findRange_5 rfl hl (by decide) rfl (fun ls hl => ?_)
  refine lv_iconst (v := 0) K.1.1 K.1.2.1 dX2_findRange_6 (by decide) ?_
  refine lv_istore_n (lv' := [(3, .int 0), (2, .int r_1), (0, .ref (B + 81)), (1, .ref (B + b))]) K.1.1 K.1.2.1 dX2_findRange_7 rfl hl (by decide) rfl (fun ls hl => ?_)
  refine lv_aload_n K.1.1 K.1.2.1 dX2_findRange_8 rfl (lv_at hl 2 rfl) ?_
  refine lv_iconst (v := 0) K.1.1 K.1.2.1 dX2_findRange_9 (by decide) ?_
  refine m_puti K hP hS (by decide) sh_81 rfl tuX2 tyX2 tyX2_ok nmX2 3 (by decide) rfl rfl (by decide +kernel) q_222 dX2_findRange_10 (fun H locs hP hS => ?_)
  refine lv_aload_n K.1.1 K.1.2.1 dX2_findRange_13 rfl (lv_at hl 2 rfl) ?_
  refine lv_sipush (v := (-10000)) K.1.1 K.1.2.1 dX2_findRange_14 (by decide) ?_
  refine m_puti K hP hS (by decide) sh_81 rfl tuX2 tyX2 tyX2_ok nmX2 0 (by decide) rfl rfl (by decide +kernel) q_217 dX2_findRange_17 (fun H locs hP hS => ?_)
  refine lv_aload_n K.1.1 K.1.2.1 dX2_findRange_20 rfl (lv_at hl 2 rfl) ?_
  refine lv_sipush (v := (-10000)) K.1.1 K.1.2.1 dX2_findRange_21 (by decide) ?_
  refine m_puti K hP hS (by decide) sh_81 rfl tuX2 tyX2 tyX2_ok nmX2 1 (by decide) rfl rfl (by decide +kernel) q_218 dX2_findRange_24 (fun H locs hP hS => ?_)
  refine lv_iconst (v := 1) K.1.1 K.1.2.1 dX2_findRange_27 (by decide) ?_
  refine lv_istore (lv' := [(4, .int 1), (3, .int 0), (2, .int r_1), (0, .ref (B + 81)), (1, .ref (B + b))]) K.1.1 K.1.2.1 dX2_findRange_28 hl (by decide) rfl (fun ls hl => ?_)
  refine up_to (N := NN 120) (P := fun k : Nat => ∀ (v4_30 : Int32) (v3_30 : Int32) (v2_30 : Int32) (μ_30 : Mm) (H : Heap) (locs : List Loc) (ls : Array Slot), (v4_30 = nI (k + 1)) → (v3_30 = (C_rangeS μ b k).2.2) → (v2_30 = (C_rangeS μ b k).2.1) → (μ_30 = (C_rangeS μ b k).1) → MP G B μ_30 H → va_S (AA B) s.heap H locs → lv_has ls 6 [(4, .int v4_30), (3, .int v3_30), (2, .int v2_30), (0, .ref (B + 81)), (1, .ref (B + b))] → W p l e ({ frames := 2, cells := 0, slots := 0, locals := 45 } : Room) s m ([.ref (B + 81), .ref (B + b)] : List Value).toArray below meth c H locs 0 0 (MF below G B none (C_findRange μ b) ([.ref (B + 81), .ref (B + b)] : List Value).toArray s) (F0 m 30 ls [])) ?_ ?_ _ _ _ _ _ _ _ (by first | rfl | (subst er_1; rfl)) (by first | rfl | (subst er_1; rfl)) (by first | rfl | (subst er_1; rfl)) (by first | rfl | (subst er_1; rfl)) hP hS (lv_sub hl [0, 1, 2, 3, 4] rfl)
  · intro v4_30 v3_30 v2_30 μ_30 H locs ls ev4_30 ev3_30 ev2_30 eμ_30 hP hS hl
    refine lv_iload K.1.1 K.1.2.1 dX2_findRange_30 (lv_at hl 0 rfl) ?_
    refine lv_bipush (v := 120) K.1.1 K.1.2.1 dX2_findRange_32 (by decide) ?_
    refine lv_icmp_gt (tgt := 119) K.1.1 K.1.2.1 dX2_findRange_34 (by decide) (fun c_34 => ?_) (fun c_34 => ?_)
    · exact m_vret K hr hlocks hP hS dX2_findRange_119 rfl (by subst er_1 ev4_30 ev3_30 ev2_30 eμ_30; simp only [C_findRange])
    · exact absurd c_34 (not_not_intro (by subst er_1 ev4_30 ev3_30 ev2_30 eμ_30; rw [NN_eq]; decide))
  · intro k hk ih_30 v4_30 v3_30 v2_30 μ_30 H locs ls ev4_30 ev3_30 ev2_30 eμ_30 hP hS hl
    rw [NN_eq] at hk
    refine lv_iload K.1.1 K.1.2.1 dX2_findRange_30 (lv_at hl 0 rfl) ?_
    refine lv_bipush (v := 120) K.1.1 K.1.2.1 dX2_findRange_32 (by decide) ?_
    refine lv_icmp_gt (tgt := 119) K.1.1 K.1.2.1 dX2_findRange_34 (by decide) (fun c_34 => ?_) (fun c_34 => ?_)
    · exact absurd c_34 (by subst er_1 ev4_30 ev3_30 ev2_30 eμ_30; exact Int32.not_lt.mpr (nI_le (a := k + 1) (b := 120) (by omega) (by decide)))
    · refine lv_iload_n K.1.1 K.1.2.1 dX2_findRange_37 rfl (lv_at hl 2 rfl) ?_
      refine lv_aload_n K.1.1 K.1.2.1 dX2_findRange_38 rfl (lv_at hl 3 rfl) ?_
      refine m_getr K hP (by decide) sh_81 rfl tuX2 10 (by decide) rfl q_234 dX2_findRange_39 ?_
      refine lv_iload K.1.1 K.1.2.1 dX2_findRange_42 (lv_at hl 0 rfl) ?_
      refine lv_iconst (v := 1) K.1.1 K.1.2.1 dX2_findRange_44 (by decide) ?_
      refine lv_isub K.1.1 K.1.2.1 dX2_findRange_45 ?_
      refine m_cV (n := 1) (As := [.int (v4_30 - 1)]) (rest := [.int v2_30]) K hP hS (MX5_get l G B _ 88 121 isR_88 (v4_30 - 1) ) (Nat.lt_of_succ_lt isR_88.1) isR_88.2.1 rfl q_459 q_460 q_461 q_18 q_462 hv_X5_get ⟨Nat.le_of_ble_eq_true rfl, Nat.le_of_ble_eq_true rfl⟩ rfl hl.1 rfl (Nat.le_of_ble_eq_true rfl) dX2_findRange_46 ⟨Nat.zero_le _, Nat.zero_le _⟩ (fun H locs hP hS => ?_)
      refine lv_topi (fun r_2 er_2 => ?_)
      refine lv_isub K.1.1 K.1.2.1 dX2_findRange_49 ?_
      refine lv_topi (fun x_3 ex_3 => ?_)
      refine lv_istore_n (lv' := [(2, .int x_3), (4, .int v4_30), (3, .int v3_30), (0, .ref (B + 81)), (1, .ref (B + b))]) K.1.1 K.1.2.1 dX2_findRange_50 rfl hl (by decide) rfl (fun ls hl => ?_)
      refine lv_iload_n K.1.1 K.1.2.1 dX2_findRange_51 rfl (lv_at hl 2 rfl) ?_
      refine lv_aload_n K.1.1 K.1.2.1 dX2_findRange_52 rfl (lv_at hl 3 rfl) ?_
      refine m_getr K hP (by decide) sh_81 rfl tuX2 11 (by decide) rfl q_235 dX2_findRange_53 ?_
      refine lv_iload K.1.1 K.1.2.1 dX2_findRange_56 (lv_at hl 1 rfl) ?_
      refine m_cV (n := 1) (As := [.int v4_30]) (rest := [.int v3_30]) K hP hS (MX5_get l G B _ 90 121 isR_90 v4_30 ) (Nat.lt_of_succ_lt isR_90.1) isR_90.2.1 rfl q_459 q_460 q_461 q_18 q_462 hv_X5_get ⟨Nat.le_of_ble_eq_true rfl, Nat.le_of_ble_eq_true rfl⟩ rfl hl.1 rfl (Nat.le_of_ble_eq_true rfl) dX2_findRange_58 ⟨Nat.zero_le _, Nat.zero_le _⟩ (fun H locs hP hS => ?_)
      refine lv_topi (fun r_4 er_4 => ?_)
      refine lv_iadd K.1.1 K.1.2.1 dX2_findRange_61 ?_
      refine lv_topi (fun x_5 ex_5 => ?_)
      refine lv_istore_n (lv' := [(3, .int x_5), (2, .int x_3), (4, .int v4_30), (0, .ref (B + 81)), (1, .ref (B + b))]) K.1.1 K.1.2.1 dX2_findRange_62 rfl hl (by decide) rfl (fun ls hl => ?_)
      refine lv_iload_n K.1.1 K.1.2.1 dX2_findRange_63 rfl (lv_at hl 1 rfl) ?_
      refine lv_iload_n K.1.1 K.1.2.1 dX2_findRange_64 rfl (lv_at hl 0 rfl) ?_
      refine va_mmin K.1.1 K.1.2.1 (K.1.2.2.1.trans hl.1.symm) K.1.2.2.2.1 (own := RX2) (K.w q_488) (K.w q_489) (K.w q_30) (K.w q_490) (Nat.le_of_ble_eq_true rfl) (Nat.le_of_ble_eq_true rfl) (Nat.zero_le _) (Nat.zero_le _) dX2_findRange_65 ?_
      refine lv_topi (fun r_6 er_6 => ?_)
      have er_6 : r_6 = mnI x_3 x_5 := er_6
      refine lv_istore (lv' := [(5, .int r_6), (3, .int x_5), (2, .int x_3), (4, .int v4_30), (0, .ref (B + 81)), (1, .ref (B + b))]) K.1.1 K.1.2.1 dX2_findRange_68 hl (by decide) rfl (fun ls hl => ?_)
      refine lv_iload K.1.1 K.1.2.1 dX2_findRange_70 (lv_at hl 0 rfl) ?_
      refine lv_aload_n K.1.1 K.1.2.1 dX2_findRange_72 rfl (lv_at hl 4 rfl) ?_
      refine m_geti K hP (by decide) sh_81 rfl tuX2 3 (by decide) rfl q_222 dX2_findRange_73 ?_
      refine lv_topi (fun g_7 eg_7 => ?_)
      refine lv_icmp_le (tgt := 91) K.1.1 K.1.2.1 dX2_findRange_76 (by decide) (fun c_76 => ?_) (fun c_76 => ?_)
      · refine lv_iload K.1.1 K.1.2.1 dX2_findRange_91 (lv_at hl 0 rfl) ?_
        refine lv_aload_n K.1.1 K.1.2.1 dX2_findRange_93 rfl (lv_at hl 4 rfl) ?_
        refine m_geti K hP (by decide) sh_81 rfl tuX2 3 (by decide) rfl q_222 dX2_findRange_94 ?_
        refine lv_topi (fun g_8 eg_8 => ?_)
        refine lv_icmp_ne (tgt := 113) K.1.1 K.1.2.1 dX2_findRange_97 (by decide) (fun c_97 => ?_) (fun c_97 => ?_)
        · obtain ⟨x_9, ex_9⟩ : ∃ y : Int32, y = v4_30 + (1) := ⟨_, rfl⟩
          refine lv_iinc (v := x_9) (lv' := [(4, .int x_9), (5, .int r_6), (3, .int x_5), (2, .int x_3), (0, .ref (B + 81)), (1, .ref (B + b))]) K.1.1 K.1.2.1 dX2_findRange_113 hl (k := 3) rfl (by rw [ex_9]; rfl) (by decide) rfl (fun ls hl => ?_)
          refine lv_goto (tgt := 30) K.1.1 K.1.2.1 dX2_findRange_116 (by decide) ?_
          exact ih_30 _ _ _ _ _ _ _ (by subst er_1 ev4_30 ev3_30 ev2_30 eμ_30 er_2 ex_3 er_4 ex_5 er_6 eg_7 eg_8 ex_9; exact nI_1 _) (by subst er_1 ev4_30 ev3_30 ev2_30 eμ_30 er_2 ex_3 er_4 ex_5 er_6 eg_7 eg_8 ex_9; rfl) (by subst er_1 ev4_30 ev3_30 ev2_30 eμ_30 er_2 ex_3 er_4 ex_5 er_6 eg_7 eg_8 ex_9; rfl) (by subst er_1 ev4_30 ev3_30 ev2_30 eμ_30 er_2 ex_3 er_4 ex_5 er_6 eg_7 eg_8 ex_9; rw [C_rangeS_s]; unfold G_step; dsimp only; (first | rw [if_pos (Int32.not_le.mp c_76)] | rw [if_neg (Int32.not_lt.mpr c_76)]); first | rw [if_neg c_97] | (rw [if_pos c_97]; first | rw [if_pos (Int32.not_le.mp c_104)] | rw [if_neg (Int32.not_lt.mpr c_104)])) hP hS (lv_sub hl [0, 2, 3, 4, 5] rfl)
        · refine lv_aload_n K.1.1 K.1.2.1 dX2_findRange_100 rfl (lv_at hl 4 rfl) ?_
          refine m_geti K hP (by decide) sh_81 rfl tuX2 3 (by decide) rfl q_222 dX2_findRange_101 ?_
          refine lv_topi (fun g_10 eg_10 => ?_)
          refine lv_if_le (tgt := 113) K.1.1 K.1.2.1 dX2_findRange_104 (by decide) (fun c_104 => ?_) (fun c_104 => ?_)
          · obtain ⟨x_11, ex_11⟩ : ∃ y : Int32, y = v4_30 + (1) := ⟨_, rfl⟩
            refine lv_iinc (v := x_11) (lv' := [(4, .int x_11), (5, .int r_6), (3, .int x_5), (2, .int x_3), (0, .ref (B + 81)), (1, .ref (B + b))]) K.1.1 K.1.2.1 dX2_findRange_113 hl (k := 3) rfl (by rw [ex_11]; rfl) (by decide) rfl (fun ls hl => ?_)
            refine lv_goto (tgt := 30) K.1.1 K.1.2.1 dX2_findRange_116 (by decide) ?_
            exact ih_30 _ _ _ _ _ _ _ (by subst er_1 ev4_30 ev3_30 ev2_30 eμ_30 er_2 ex_3 er_4 ex_5 er_6 eg_7 eg_8 eg_10 ex_11; exact nI_1 _) (by subst er_1 ev4_30 ev3_30 ev2_30 eμ_30 er_2 ex_3 er_4 ex_5 er_6 eg_7 eg_8 eg_10 ex_11; rfl) (by subst er_1 ev4_30 ev3_30 ev2_30 eμ_30 er_2 ex_3 er_4 ex_5 er_6 eg_7 eg_8 eg_10 ex_11; rfl) (by subst er_1 ev4_30 ev3_30 ev2_30 eμ_30 er_2 ex_3 er_4 ex_5 er_6 eg_7 eg_8 eg_10 ex_11; rw [C_rangeS_s]; unfold G_step; dsimp only; (first | rw [if_pos (Int32.not_le.mp c_76)] | rw [if_neg (Int32.not_lt.mpr c_76)]); first | rw [if_neg c_97] | (rw [if_pos c_97]; first | rw [if_pos (Int32.not_le.mp c_104)] | rw [if_neg (Int32.not_lt.mpr c_104)])) hP hS (lv_sub hl [0, 2, 3, 4, 5] rfl)
          · refine lv_aload_n K.1.1 K.1.2.1 dX2_findRange_107 rfl (lv_at hl 4 rfl) ?_
            refine lv_iload K.1.1 K.1.2.1 dX2_findRange_108 (lv_at hl 3 rfl) ?_
            refine m_puti K hP hS (by decide) sh_81 rfl tuX2 tyX2 tyX2_ok nmX2 1 (by decide) rfl rfl (by decide +kernel) q_218 dX2_findRange_110 (fun H locs hP hS => ?_)
            obtain ⟨x_12, ex_12⟩ : ∃ y : Int32, y = v4_30 + (1) := ⟨_, rfl⟩
            refine lv_iinc (v := x_12) (lv' := [(4, .int x_12), (5, .int r_6), (3, .int x_5), (2, .int x_3), (0, .ref (B + 81)), (1, .ref (B + b))]) K.1.1 K.1.2.1 dX2_findRange_113 hl (k := 3) rfl (by rw [ex_12]; rfl) (by decide) rfl (fun ls hl => ?_)
            refine lv_goto (tgt := 30) K.1.1 K.1.2.1 dX2_findRange_116 (by decide) ?_
            exact ih_30 _ _ _ _ _ _ _ (by subst er_1 ev4_30 ev3_30 ev2_30 eμ_30 er_2 ex_3 er_4 ex_5 er_6 eg_7 eg_8 eg_10 ex_12; exact nI_1 _) (by subst er_1 ev4_30 ev3_30 ev2_30 eμ_30 er_2 ex_3 er_4 ex_5 er_6 eg_7 eg_8 eg_10 ex_12; rfl) (by subst er_1 ev4_30 ev3_30 ev2_30 eμ_30 er_2 ex_3 er_4 ex_5 er_6 eg_7 eg_8 eg_10 ex_12; rfl) (by subst er_1 ev4_30 ev3_30 ev2_30 eμ_30 er_2 ex_3 er_4 ex_5 er_6 eg_7 eg_8 eg_10 ex_12; rw [C_rangeS_s]; unfold G_step; dsimp only; (first | rw [if_pos (Int32.not_le.mp c_76)] | rw [if_neg (Int32.not_lt.mpr c_76)]); first | rw [if_neg c_97] | (rw [if_pos c_97]; first | rw [if_pos (Int32.not_le.mp c_104)] | rw [if_neg (Int32.not_lt.mpr c_104)])) hP hS (lv_sub hl [0, 2, 3, 4, 5] rfl)
      · refine lv_aload_n K.1.1 K.1.2.1 dX2_findRange_79 rfl (lv_at hl 4 rfl) ?_
        refine lv_iload K.1.1 K.1.2.1 dX2_findRange_80 (lv_at hl 0 rfl) ?_
        refine m_puti K hP hS (by decide) sh_81 rfl tuX2 tyX2 tyX2_ok nmX2 3 (by decide) rfl rfl (by decide +kernel) q_222 dX2_findRange_82 (fun H locs hP hS => ?_)
        refine lv_aload_n K.1.1 K.1.2.1 dX2_findRange_85 rfl (lv_at hl 4 rfl) ?_
        refine lv_iload K.1.1 K.1.2.1 dX2_findRange_86 (lv_at hl 3 rfl) ?_
        refine m_puti K hP hS (by decide) sh_81 rfl tuX2 tyX2 tyX2_ok nmX2 0 (by decide) rfl rfl (by decide +kernel) q_217 dX2_findRange_88 (fun H locs hP hS => ?_)
        refine lv_iload K.1.1 K.1.2.1 dX2_findRange_91 (lv_at hl 0 rfl) ?_
        refine lv_aload_n K.1.1 K.1.2.1 dX2_findRange_93 rfl (lv_at hl 4 rfl) ?_
        refine m_geti K hP (by decide) sh_81 rfl tuX2 3 (by decide) rfl q_222 dX2_findRange_94 ?_
        refine lv_topi (fun g_13 eg_13 => ?_)
        refine lv_icmp_ne (tgt := 113) K.1.1 K.1.2.1 dX2_findRange_97 (by decide) (fun c_97 => ?_) (fun c_97 => ?_)
        · obtain ⟨x_14, ex_14⟩ : ∃ y : Int32, y = v4_30 + (1) := ⟨_, rfl⟩
          refine lv_iinc (v := x_14) (lv' := [(4, .int x_14), (5, .int r_6), (3, .int x_5), (2, .int x_3), (0, .ref (B + 81)), (1, .ref (B + b))]) K.1.1 K.1.2.1 dX2_findRange_113 hl (k := 3) rfl (by rw [ex_14]; rfl) (by decide) rfl (fun ls hl => ?_)
          refine lv_goto (tgt := 30) K.1.1 K.1.2.1 dX2_findRange_116 (by decide) ?_
          exact ih_30 _ _ _ _ _ _ _ (by subst er_1 ev4_30 ev3_30 ev2_30 eμ_30 er_2 ex_3 er_4 ex_5 er_6 eg_7 eg_13 ex_14; exact nI_1 _) (by subst er_1 ev4_30 ev3_30 ev2_30 eμ_30 er_2 ex_3 er_4 ex_5 er_6 eg_7 eg_13 ex_14; rfl) (by subst er_1 ev4_30 ev3_30 ev2_30 eμ_30 er_2 ex_3 er_4 ex_5 er_6 eg_7 eg_13 ex_14; rfl) (by subst er_1 ev4_30 ev3_30 ev2_30 eμ_30 er_2 ex_3 er_4 ex_5 er_6 eg_7 eg_13 ex_14; rw [C_rangeS_s]; unfold G_step; dsimp only; (first | rw [if_pos (Int32.not_le.mp c_76)] | rw [if_neg (Int32.not_lt.mpr c_76)]); first | rw [if_neg c_97] | (rw [if_pos c_97]; first | rw [if_pos (Int32.not_le.mp c_104)] | rw [if_neg (Int32.not_lt.mpr c_104)])) hP hS (lv_sub hl [0, 2, 3, 4, 5] rfl)
        · refine lv_aload_n K.1.1 K.1.2.1 dX2_findRange_100 rfl (lv_at hl 4 rfl) ?_
          refine m_geti K hP (by decide) sh_81 rfl tuX2 3 (by decide) rfl q_222 dX2_findRange_101 ?_
          refine lv_topi (fun g_15 eg_15 => ?_)
          refine lv_if_le (tgt := 113) K.1.1 K.1.2.1 dX2_findRange_104 (by decide) (fun c_104 => ?_) (fun c_104 => ?_)
          · obtain ⟨x_16, ex_16⟩ : ∃ y : Int32, y = v4_30 + (1) := ⟨_, rfl⟩
            refine lv_iinc (v := x_16) (lv' := [(4, .int x_16), (5, .int r_6), (3, .int x_5), (2, .int x_3), (0, .ref (B + 81)), (1, .ref (B + b))]) K.1.1 K.1.2.1 dX2_findRange_113 hl (k := 3) rfl (by rw [ex_16]; rfl) (by decide) rfl (fun ls hl => ?_)
            refine lv_goto (tgt := 30) K.1.1 K.1.2.1 dX2_findRange_116 (by decide) ?_
            exact ih_30 _ _ _ _ _ _ _ (by subst er_1 ev4_30 ev3_30 ev2_30 eμ_30 er_2 ex_3 er_4 ex_5 er_6 eg_7 eg_13 eg_15 ex_16; exact nI_1 _) (by subst er_1 ev4_30 ev3_30 ev2_30 eμ_30 er_2 ex_3 er_4 ex_5 er_6 eg_7 eg_13 eg_15 ex_16; rfl) (by subst er_1 ev4_30 ev3_30 ev2_30 eμ_30 er_2 ex_3 er_4 ex_5 er_6 eg_7 eg_13 eg_15 ex_16; rfl) (by subst er_1 ev4_30 ev3_30 ev2_30 eμ_30 er_2 ex_3 er_4 ex_5 er_6 eg_7 eg_13 eg_15 ex_16; rw [C_rangeS_s]; unfold G_step; dsimp only; (first | rw [if_pos (Int32.not_le.mp c_76)] | rw [if_neg (Int32.not_lt.mpr c_76)]); first | rw [if_neg c_97] | (rw [if_pos c_97]; first | rw [if_pos (Int32.not_le.mp c_104)] | rw [if_neg (Int32.not_lt.mpr c_104)])) hP hS (lv_sub hl [0, 2, 3, 4, 5] rfl)
          · refine lv_aload_n K.1.1 K.1.2.1 dX2_findRange_107 rfl (lv_at hl 4 rfl) ?_
            refine lv_iload K.1.1 K.1.2.1 dX2_findRange_108 (lv_at hl 3 rfl) ?_
            refine m_puti K hP hS (by decide) sh_81 rfl tuX2 tyX2 tyX2_ok nmX2 1 (by decide) rfl rfl (by decide +kernel) q_218 dX2_findRange_110 (fun H locs hP hS => ?_)
            obtain ⟨x_17, ex_17⟩ : ∃ y : Int32, y = v4_30 + (1) := ⟨_, rfl⟩
            refine lv_iinc (v := x_17) (lv' := [(4, .int x_17), (5, .int r_6), (3, .int x_5), (2, .int x_3), (0, .ref (B + 81)), (1, .ref (B + b))]) K.1.1 K.1.2.1 dX2_findRange_113 hl (k := 3) rfl (by rw [ex_17]; rfl) (by decide) rfl (fun ls hl => ?_)
            refine lv_goto (tgt := 30) K.1.1 K.1.2.1 dX2_findRange_116 (by decide) ?_
            exact ih_30 _ _ _ _ _ _ _ (by subst er_1 ev4_30 ev3_30 ev2_30 eμ_30 er_2 ex_3 er_4 ex_5 er_6 eg_7 eg_13 eg_15 ex_17; exact nI_1 _) (by subst er_1 ev4_30 ev3_30 ev2_30 eμ_30 er_2 ex_3 er_4 ex_5 er_6 eg_7 eg_13 eg_15 ex_17; rfl) (by subst er_1 ev4_30 ev3_30 ev2_30 eμ_30 er_2 ex_3 er_4 ex_5 er_6 eg_7 eg_13 eg_15 ex_17; rfl) (by subst er_1 ev4_30 ev3_30 ev2_30 eμ_30 er_2 ex_3 er_4 ex_5 er_6 eg_7 eg_13 eg_15 ex_17; rw [C_rangeS_s]; unfold G_step; dsimp only; (first | rw [if_pos (Int32.not_le.mp c_76)] | rw [if_neg (Int32.not_lt.mpr c_76)]); first | rw [if_neg c_97] | (rw [if_pos c_97]; first | rw [if_pos (Int32.not_le.mp c_104)] | rw [if_neg (Int32.not_lt.mpr c_104)])) hP hS (lv_sub hl [0, 2, 3, 4, 5] rfl)

set_option maxHeartbeats 4000000 in
set_option maxRecDepth 100000 in
theorem MX2_priceWith (l : Launch) (G : GG) (B : Nat) (μ : Mm) (sp : Int32) : CM l yX2_priceWith (.code yX2_priceWith cX2_priceWith 2 (Option.some FieldType.int)) 0 0 G B [.ref (B + 81), .int sp] μ (some (.int (C_priceWith μ sp))) μ := by
  refine CM.of (by decide) (Nat.le_of_ble_eq_true rfl) ?_
  intro p e s m below meth c ls K hr hlocks hP hl
  have hS : va_S (AA B) s.heap s.heap [] := va_S.rf
  have hl : lv_has ls 2 [(0, .ref (B + 81)), (1, .int sp)] := hl
  refine lv_aload_n K.1.1 K.1.2.1 dX2_priceWith_0 rfl (lv_at hl 0 rfl) ?_
  refine m_geti K hP (by decide) sh_81 rfl tuX2 3 (by decide) rfl q_222 dX2_priceWith_1 ?_
  refine lv_topi (fun g_1 eg_1 => ?_)
  refine lv_if_ne (tgt := 13) K.1.1 K.1.2.1 dX2_priceWith_4 (by decide) (fun c_4 => ?_) (fun c_4 => ?_)
  · refine lv_aload_n K.1.1 K.1.2.1 dX2_priceWith_13 rfl (lv_at hl 0 rfl) ?_
    refine m_geti K hP (by decide) sh_81 rfl tuX2 0 (by decide) rfl q_217 dX2_priceWith_14 ?_
    refine lv_topi (fun g_2 eg_2 => ?_)
    refine lv_aload_n K.1.1 K.1.2.1 dX2_priceWith_17 rfl (lv_at hl 0 rfl) ?_
    refine m_geti K hP (by decide) sh_81 rfl tuX2 1 (by decide) rfl q_218 dX2_priceWith_18 ?_
    refine lv_topi (fun g_3 eg_3 => ?_)
    refine lv_aload_n K.1.1 K.1.2.1 dX2_priceWith_21 rfl (lv_at hl 0 rfl) ?_
    refine m_geti K hP (by decide) sh_81 rfl tuX2 0 (by decide) rfl q_217 dX2_priceWith_22 ?_
    refine lv_topi (fun g_4 eg_4 => ?_)
    refine lv_isub K.1.1 K.1.2.1 dX2_priceWith_25 ?_
    refine lv_iload_n K.1.1 K.1.2.1 dX2_priceWith_26 rfl (lv_at hl 1 rfl) ?_
    refine lv_imul K.1.1 K.1.2.1 dX2_priceWith_27 ?_
    refine lv_bipush (v := 10) K.1.1 K.1.2.1 dX2_priceWith_28 (by decide) ?_
    refine lv_idiv K.1.1 K.1.2.1 dX2_priceWith_30 (by decide) ?_
    refine lv_iadd K.1.1 K.1.2.1 dX2_priceWith_31 ?_
    exact m_iret K hr hlocks hP hS dX2_priceWith_32 (by subst eg_1 eg_2 eg_3 eg_4; first | (simp only [C_priceWith, c_4, if_true, if_false, ite_true, ite_false, reduceIte, not_true, not_false_iff]; done) | simp [C_priceWith, c_4]) rfl
  · refine lv_sipush (v := (-10000)) K.1.1 K.1.2.1 dX2_priceWith_7 (by decide) ?_
    refine lv_goto (tgt := 32) K.1.1 K.1.2.1 dX2_priceWith_10 (by decide) ?_
    exact m_iret K hr hlocks hP hS dX2_priceWith_32 (by subst eg_1; first | (simp only [C_priceWith, c_4, if_true, if_false, ite_true, ite_false, reduceIte, not_true, not_false_iff]; done) | simp [C_priceWith, c_4]) rfl

set_option maxHeartbeats 4000000 in
set_option maxRecDepth 100000 in
theorem MX2_take (l : Launch) (G : GG) (B : Nat) (μ : Mm) (q n_q : Nat) (hq : isR q n_q) (ln : Int32) (b : Nat) (hb : isO b) : CM l yX2_take (.code yX2_take cX2_take 8 Option.none) 1 22 G B [.ref (B + 81), .ref (B + q), .int ln, .ref (B + b)] μ none (C_take μ q n_q ln b) := by
  refine CM.of (by decide) (Nat.le_of_ble_eq_true rfl) ?_
  intro p e s m below meth c ls K hr hlocks hP hl
  have hS : va_S (AA B) s.heap s.heap [] := va_S.rf
  have hl : lv_has ls 8 [(0, .ref (B + 81)), (1, .ref (B + q)), (2, .int ln), (3, .ref (B + b))] := hl
  refine lv_aload_n K.1.1 K.1.2.1 dX2_take_0 rfl (lv_at hl 0 rfl) ?_
  refine m_geti K hP (by decide) sh_81 rfl tuX2 3 (by decide) rfl q_222 dX2_take_1 ?_
  refine lv_topi (fun g_1 eg_1 => ?_)
  refine lv_istore (lv' := [(4, .int g_1), (0, .ref (B + 81)), (1, .ref (B + q)), (2, .int ln), (3, .ref (B + b))]) K.1.1 K.1.2.1 dX2_take_4 hl (by decide) rfl (fun ls hl => ?_)
  refine lv_iconst (v := 0) K.1.1 K.1.2.1 dX2_take_6 (by decide) ?_
  refine lv_istore (lv' := [(5, .int 0), (4, .int g_1), (0, .ref (B + 81)), (1, .ref (B + q)), (2, .int ln), (3, .ref (B + b))]) K.1.1 K.1.2.1 dX2_take_7 hl (by decide) rfl (fun ls hl => ?_)
  refine up_to (N := cn ln) (P := fun k : Nat => ∀ (v5_9 : Int32) (v4_9 : Int32) (μ_9 : Mm) (H : Heap) (locs : List Loc) (ls : Array Slot), (v5_9 = nI k) → (v4_9 = (itr (K_step q n_q b) (μ, μ 81 3) k).2) → (μ_9 = (itr (K_step q n_q b) (μ, μ 81 3) k).1) → MP G B μ_9 H → va_S (AA B) s.heap H locs → lv_has ls 8 [(5, .int v5_9), (4, .int v4_9), (0, .ref (B + 81)), (1, .ref (B + q)), (2, .int ln), (3, .ref (B + b))] → W p l e ({ frames := 1, cells := 0, slots := 0, locals := 22 } : Room) s m ([.ref (B + 81), .ref (B + q), .int ln, .ref (B + b)] : List Value).toArray below meth c H locs 0 0 (MF below G B none (C_take μ q n_q ln b) ([.ref (B + 81), .ref (B + q), .int ln, .ref (B + b)] : List Value).toArray s) (F0 m 9 ls [])) ?_ ?_ _ _ _ _ _ _ (by first | rfl | (subst eg_1; rfl)) (by first | rfl | (subst eg_1; rfl)) (by first | rfl | (subst eg_1; rfl)) hP hS (lv_sub hl [0, 1, 2, 3, 4, 5] rfl)
  · intro v5_9 v4_9 μ_9 H locs ls ev5_9 ev4_9 eμ_9 hP hS hl
    refine lv_iload K.1.1 K.1.2.1 dX2_take_9 (lv_at hl 0 rfl) ?_
    refine lv_iload_n K.1.1 K.1.2.1 dX2_take_11 rfl (lv_at hl 4 rfl) ?_
    refine lv_icmp_ge (tgt := 63) K.1.1 K.1.2.1 dX2_take_12 (by decide) (fun c_12 => ?_) (fun c_12 => ?_)
    · exact m_vret K hr hlocks hP hS dX2_take_63 rfl (by subst eg_1 ev5_9 ev4_9 eμ_9; rfl)
    · exact absurd c_12 (not_not_intro (by subst eg_1 ev5_9 ev4_9 eμ_9; exact cn_out _))
  · intro k hk ih_9 v5_9 v4_9 μ_9 H locs ls ev5_9 ev4_9 eμ_9 hP hS hl
    refine lv_iload K.1.1 K.1.2.1 dX2_take_9 (lv_at hl 0 rfl) ?_
    refine lv_iload_n K.1.1 K.1.2.1 dX2_take_11 rfl (lv_at hl 4 rfl) ?_
    refine lv_icmp_ge (tgt := 63) K.1.1 K.1.2.1 dX2_take_12 (by decide) (fun c_12 => ?_) (fun c_12 => ?_)
    · exact absurd c_12 (by subst eg_1 ev5_9 ev4_9 eμ_9; exact cn_in hk)
    · refine lv_aload_n K.1.1 K.1.2.1 dX2_take_15 rfl (lv_at hl 3 rfl) ?_
      refine lv_iload K.1.1 K.1.2.1 dX2_take_16 (lv_at hl 0 rfl) ?_
      refine m_cV (n := 1) (As := [.int v5_9]) (rest := []) K hP hS (MX5_get l G B _ q n_q hq v5_9 ) (Nat.lt_of_succ_lt hq.1) hq.2.1 rfl q_459 q_460 q_461 q_18 q_462 hv_X5_get ⟨Nat.le_of_ble_eq_true rfl, Nat.le_of_ble_eq_true rfl⟩ rfl hl.1 rfl (Nat.le_of_ble_eq_true rfl) dX2_take_18 ⟨Nat.zero_le _, Nat.zero_le _⟩ (fun H locs hP hS => ?_)
      refine lv_topi (fun r_2 er_2 => ?_)
      refine lv_istore (lv' := [(6, .int r_2), (5, .int v5_9), (4, .int v4_9), (0, .ref (B + 81)), (1, .ref (B + q)), (2, .int ln), (3, .ref (B + b))]) K.1.1 K.1.2.1 dX2_take_21 hl (by decide) rfl (fun ls hl => ?_)
      refine lv_iload K.1.1 K.1.2.1 dX2_take_23 (lv_at hl 2 rfl) ?_
      refine lv_aload_n K.1.1 K.1.2.1 dX2_take_25 rfl (lv_at hl 6 rfl) ?_
      refine m_getr K hP hb.1 hb.2.1 rfl tuX4 5 (by decide) rfl q_121 dX2_take_26 ?_
      refine lv_iload K.1.1 K.1.2.1 dX2_take_29 (lv_at hl 0 rfl) ?_
      refine m_cV (n := 1) (As := [.int r_2]) (rest := [.int v4_9]) K hP hS (MX5_get l G B _ (b + 9) 20 hb.2.2.2.2.2.2.1 r_2 ) (Nat.lt_of_succ_lt hb.2.2.2.2.2.2.1.1) hb.2.2.2.2.2.2.1.2.1 rfl q_459 q_460 q_461 q_18 q_462 hv_X5_get ⟨Nat.le_of_ble_eq_true rfl, Nat.le_of_ble_eq_true rfl⟩ rfl hl.1 rfl (Nat.le_of_ble_eq_true rfl) dX2_take_31 ⟨Nat.zero_le _, Nat.zero_le _⟩ (fun H locs hP hS => ?_)
      refine lv_topi (fun r_3 er_3 => ?_)
      refine va_mmin K.1.1 K.1.2.1 (K.1.2.2.1.trans hl.1.symm) K.1.2.2.2.1 (own := RX2) (K.w q_488) (K.w q_489) (K.w q_30) (K.w q_490) (Nat.le_of_ble_eq_true rfl) (Nat.le_of_ble_eq_true rfl) (Nat.zero_le _) (Nat.zero_le _) dX2_take_34 ?_
      refine lv_topi (fun r_4 er_4 => ?_)
      have er_4 : r_4 = mnI v4_9 r_3 := er_4
      refine lv_istore (lv' := [(7, .int r_4), (6, .int r_2), (5, .int v5_9), (4, .int v4_9), (0, .ref (B + 81)), (1, .ref (B + q)), (2, .int ln), (3, .ref (B + b))]) K.1.1 K.1.2.1 dX2_take_37 hl (by decide) rfl (fun ls hl => ?_)
      refine lv_aload_n K.1.1 K.1.2.1 dX2_take_39 rfl (lv_at hl 4 rfl) ?_
      refine m_getr K hP (by decide) sh_81 rfl tuX2 5 (by decide) rfl q_227 dX2_take_40 ?_
      refine lv_iload K.1.1 K.1.2.1 dX2_take_43 (lv_at hl 1 rfl) ?_
      refine lv_iload K.1.1 K.1.2.1 dX2_take_45 (lv_at hl 0 rfl) ?_
      refine m_cV (n := 2) (As := [.int r_2, .int r_4]) (rest := []) K hP hS (MX5_put l G B _ 82 20 isR_82 r_2 r_4 ) (Nat.lt_of_succ_lt isR_82.1) isR_82.2.1 rfl q_468 q_469 q_470 q_18 q_471 hv_X5_put ⟨Nat.le_of_ble_eq_true rfl, Nat.le_of_ble_eq_true rfl⟩ rfl hl.1 rfl (Nat.le_of_ble_eq_true rfl) dX2_take_47 ⟨Nat.zero_le _, Nat.zero_le _⟩ (fun H locs hP hS => ?_)
      refine W.eq (g2 := F0 m 50 ls []) rfl ?_
      refine lv_iload K.1.1 K.1.2.1 dX2_take_50 (lv_at hl 3 rfl) ?_
      refine lv_iload K.1.1 K.1.2.1 dX2_take_52 (lv_at hl 0 rfl) ?_
      refine lv_isub K.1.1 K.1.2.1 dX2_take_54 ?_
      refine lv_topi (fun x_5 ex_5 => ?_)
      refine lv_istore (lv' := [(4, .int x_5), (7, .int r_4), (6, .int r_2), (5, .int v5_9), (0, .ref (B + 81)), (1, .ref (B + q)), (2, .int ln), (3, .ref (B + b))]) K.1.1 K.1.2.1 dX2_take_55 hl (by decide) rfl (fun ls hl => ?_)
      obtain ⟨x_6, ex_6⟩ : ∃ y : Int32, y = v5_9 + (1) := ⟨_, rfl⟩
      refine lv_iinc (v := x_6) (lv' := [(5, .int x_6), (4, .int x_5), (7, .int r_4), (6, .int r_2), (0, .ref (B + 81)), (1, .ref (B + q)), (2, .int ln), (3, .ref (B + b))]) K.1.1 K.1.2.1 dX2_take_57 hl (k := 3) rfl (by rw [ex_6]; rfl) (by decide) rfl (fun ls hl => ?_)
      refine lv_goto (tgt := 9) K.1.1 K.1.2.1 dX2_take_60 (by decide) ?_
      exact ih_9 _ _ _ _ _ _ (by subst eg_1 ev5_9 ev4_9 eμ_9 er_2 er_3 er_4 ex_5 ex_6; exact nI_1 _) (by subst eg_1 ev5_9 ev4_9 eμ_9 er_2 er_3 er_4 ex_5 ex_6; rfl) (by subst eg_1 ev5_9 ev4_9 eμ_9 er_2 er_3 er_4 ex_5 ex_6; rfl) hP hS (lv_sub hl [0, 1, 4, 5, 6, 7] rfl)

set_option maxHeartbeats 4000000 in
set_option maxRecDepth 100000 in
theorem MX2_sumSurplus (l : Launch) (G : GG) (B : Nat) (μ : Mm) (a : Nat) (ha : isA a) : CM l yX2_sumSurplus (.code yX2_sumSurplus cX2_sumSurplus 5 (Option.some FieldType.int)) 1 21 G B [.ref (B + 81), .ref (B + a)] μ (some (.int (C_sumSurplus μ a))) μ := by
  refine CM.of (by decide) (Nat.le_of_ble_eq_true rfl) ?_
  intro p e s m below meth c ls K hr hlocks hP hl
  have hS : va_S (AA B) s.heap s.heap [] := va_S.rf
  have hl : lv_has ls 5 [(0, .ref (B + 81)), (1, .ref (B + a))] := hl
  refine lv_iconst (v := 0) K.1.1 K.1.2.1 dX2_sumSurplus_0 (by decide) ?_
  refine lv_istore_n (lv' := [(2, .int 0), (0, .ref (B + 81)), (1, .ref (B + a))]) K.1.1 K.1.2.1 dX2_sumSurplus_1 rfl hl (by decide) rfl (fun ls hl => ?_)
  refine lv_iconst (v := 0) K.1.1 K.1.2.1 dX2_sumSurplus_2 (by decide) ?_
  refine lv_istore_n (lv' := [(3, .int 0), (2, .int 0), (0, .ref (B + 81)), (1, .ref (B + a))]) K.1.1 K.1.2.1 dX2_sumSurplus_3 rfl hl (by decide) rfl (fun ls hl => ?_)
  refine up_to (N := cn (μ (a + 16) 0)) (P := fun k : Nat => ∀ (v3_4 : Int32) (v2_4 : Int32) (H : Heap) (locs : List Loc) (ls : Array Slot), (v3_4 = nI k) → (v2_4 = sumI (fun k => if R_get μ (a + 16 + 5) 20 (nI k) = 0 then C_worth μ a k else -C_worth μ a k) k) → MP G B μ H → va_S (AA B) s.heap H locs → lv_has ls 5 [(3, .int v3_4), (2, .int v2_4), (0, .ref (B + 81)), (1, .ref (B + a))] → W p l e ({ frames := 1, cells := 0, slots := 0, locals := 21 } : Room) s m ([.ref (B + 81), .ref (B + a)] : List Value).toArray below meth c H locs 0 0 (MF below G B (some (.int (C_sumSurplus μ a))) μ ([.ref (B + 81), .ref (B + a)] : List Value).toArray s) (F0 m 4 ls [])) ?_ ?_ _ _ _ _ _ (by first | rfl | (skip; rfl)) (by first | rfl | (skip; rfl)) hP hS (lv_sub hl [0, 1, 2, 3] rfl)
  · intro v3_4 v2_4 H locs ls ev3_4 ev2_4 hP hS hl
    refine lv_iload_n K.1.1 K.1.2.1 dX2_sumSurplus_4 rfl (lv_at hl 0 rfl) ?_
    refine lv_aload_n K.1.1 K.1.2.1 dX2_sumSurplus_5 rfl (lv_at hl 3 rfl) ?_
    refine m_getr K hP ha.1 ha.2.1 rfl tuX1 1 (by decide) rfl q_173 dX2_sumSurplus_6 ?_
    refine m_geti K hP ha.2.2.2.1.1 ha.2.2.2.1.2.1 rfl tuX4 0 (by decide) rfl q_107 dX2_sumSurplus_9 ?_
    refine lv_topi (fun g_1 eg_1 => ?_)
    refine lv_icmp_ge (tgt := 78) K.1.1 K.1.2.1 dX2_sumSurplus_12 (by decide) (fun c_12 => ?_) (fun c_12 => ?_)
    · refine lv_iload_n K.1.1 K.1.2.1 dX2_sumSurplus_78 rfl (lv_at hl 1 rfl) ?_
      exact m_iret K hr hlocks hP hS dX2_sumSurplus_79 (by subst ev3_4 ev2_4 eg_1; rfl) rfl
    · exact absurd c_12 (not_not_intro (by subst ev3_4 ev2_4 eg_1; exact cn_out _))
  · intro k hk ih_4 v3_4 v2_4 H locs ls ev3_4 ev2_4 hP hS hl
    refine lv_iload_n K.1.1 K.1.2.1 dX2_sumSurplus_4 rfl (lv_at hl 0 rfl) ?_
    refine lv_aload_n K.1.1 K.1.2.1 dX2_sumSurplus_5 rfl (lv_at hl 3 rfl) ?_
    refine m_getr K hP ha.1 ha.2.1 rfl tuX1 1 (by decide) rfl q_173 dX2_sumSurplus_6 ?_
    refine m_geti K hP ha.2.2.2.1.1 ha.2.2.2.1.2.1 rfl tuX4 0 (by decide) rfl q_107 dX2_sumSurplus_9 ?_
    refine lv_topi (fun g_2 eg_2 => ?_)
    refine lv_icmp_ge (tgt := 78) K.1.1 K.1.2.1 dX2_sumSurplus_12 (by decide) (fun c_12 => ?_) (fun c_12 => ?_)
    · exact absurd c_12 (by subst ev3_4 ev2_4 eg_2; exact cn_in hk)
    · refine lv_aload_n K.1.1 K.1.2.1 dX2_sumSurplus_15 rfl (lv_at hl 3 rfl) ?_
      refine m_getr K hP ha.1 ha.2.1 rfl tuX1 0 (by decide) rfl q_171 dX2_sumSurplus_16 ?_
      refine m_getr K hP ha.2.2.1.1 ha.2.2.1.2.1 rfl tuX6 2 (by decide) rfl q_70 dX2_sumSurplus_19 ?_
      refine lv_aload_n K.1.1 K.1.2.1 dX2_sumSurplus_22 rfl (lv_at hl 3 rfl) ?_
      refine m_getr K hP ha.1 ha.2.1 rfl tuX1 1 (by decide) rfl q_173 dX2_sumSurplus_23 ?_
      refine m_getr K hP ha.2.2.2.1.1 ha.2.2.2.1.2.1 rfl tuX4 2 (by decide) rfl q_115 dX2_sumSurplus_26 ?_
      refine lv_iload_n K.1.1 K.1.2.1 dX2_sumSurplus_29 rfl (lv_at hl 0 rfl) ?_
      refine m_cV (n := 1) (As := [.int v3_4]) (rest := [.ref (B + (a + 1 + 3))]) K hP hS (MX5_get l G B _ (a + 16 + 3) 20 ha.2.2.2.1.2.2.2.1 v3_4 ) (Nat.lt_of_succ_lt ha.2.2.2.1.2.2.2.1.1) ha.2.2.2.1.2.2.2.1.2.1 rfl q_459 q_460 q_461 q_18 q_462 hv_X5_get ⟨Nat.le_of_ble_eq_true rfl, Nat.le_of_ble_eq_true rfl⟩ rfl hl.1 rfl (Nat.le_of_ble_eq_true rfl) dX2_sumSurplus_30 ⟨Nat.zero_le _, Nat.zero_le _⟩ (fun H locs hP hS => ?_)
      refine lv_topi (fun r_3 er_3 => ?_)
      refine m_cV (n := 1) (As := [.int r_3]) (rest := []) K hP hS (MX5_get l G B _ (a + 1 + 3) 8 ha.2.2.1.2.2.2.1 r_3 ) (Nat.lt_of_succ_lt ha.2.2.1.2.2.2.1.1) ha.2.2.1.2.2.2.1.2.1 rfl q_459 q_460 q_461 q_18 q_462 hv_X5_get ⟨Nat.le_of_ble_eq_true rfl, Nat.le_of_ble_eq_true rfl⟩ rfl hl.1 rfl (Nat.le_of_ble_eq_true rfl) dX2_sumSurplus_33 ⟨Nat.zero_le _, Nat.zero_le _⟩ (fun H locs hP hS => ?_)
      refine lv_topi (fun r_4 er_4 => ?_)
      refine lv_aload_n K.1.1 K.1.2.1 dX2_sumSurplus_36 rfl (lv_at hl 2 rfl) ?_
      refine m_getr K hP (by decide) sh_81 rfl tuX2 5 (by decide) rfl q_227 dX2_sumSurplus_37 ?_
      refine lv_iload_n K.1.1 K.1.2.1 dX2_sumSurplus_40 rfl (lv_at hl 0 rfl) ?_
      refine m_cV (n := 1) (As := [.int v3_4]) (rest := [.int r_4]) K hP hS (MX5_get l G B _ 82 20 isR_82 v3_4 ) (Nat.lt_of_succ_lt isR_82.1) isR_82.2.1 rfl q_459 q_460 q_461 q_18 q_462 hv_X5_get ⟨Nat.le_of_ble_eq_true rfl, Nat.le_of_ble_eq_true rfl⟩ rfl hl.1 rfl (Nat.le_of_ble_eq_true rfl) dX2_sumSurplus_41 ⟨Nat.zero_le _, Nat.zero_le _⟩ (fun H locs hP hS => ?_)
      refine lv_topi (fun r_5 er_5 => ?_)
      refine lv_imul K.1.1 K.1.2.1 dX2_sumSurplus_44 ?_
      refine lv_topi (fun x_6 ex_6 => ?_)
      refine lv_istore (lv' := [(4, .int x_6), (3, .int v3_4), (2, .int v2_4), (0, .ref (B + 81)), (1, .ref (B + a))]) K.1.1 K.1.2.1 dX2_sumSurplus_45 hl (by decide) rfl (fun ls hl => ?_)
      refine lv_iload_n K.1.1 K.1.2.1 dX2_sumSurplus_47 rfl (lv_at hl 2 rfl) ?_
      refine lv_aload_n K.1.1 K.1.2.1 dX2_sumSurplus_48 rfl (lv_at hl 4 rfl) ?_
      refine m_getr K hP ha.1 ha.2.1 rfl tuX1 1 (by decide) rfl q_173 dX2_sumSurplus_49 ?_
      refine m_getr K hP ha.2.2.2.1.1 ha.2.2.2.1.2.1 rfl tuX4 3 (by decide) rfl q_117 dX2_sumSurplus_52 ?_
      refine lv_iload_n K.1.1 K.1.2.1 dX2_sumSurplus_55 rfl (lv_at hl 1 rfl) ?_
      refine m_cV (n := 1) (As := [.int v3_4]) (rest := [.int v2_4]) K hP hS (MX5_get l G B _ (a + 16 + 5) 20 ha.2.2.2.1.2.2.2.2.1 v3_4 ) (Nat.lt_of_succ_lt ha.2.2.2.1.2.2.2.2.1.1) ha.2.2.2.1.2.2.2.2.1.2.1 rfl q_459 q_460 q_461 q_18 q_462 hv_X5_get ⟨Nat.le_of_ble_eq_true rfl, Nat.le_of_ble_eq_true rfl⟩ rfl hl.1 rfl (Nat.le_of_ble_eq_true rfl) dX2_sumSurplus_56 ⟨Nat.zero_le _, Nat.zero_le _⟩ (fun H locs hP hS => ?_)
      refine lv_topi (fun r_7 er_7 => ?_)
      refine lv_if_ne (tgt := 67) K.1.1 K.1.2.1 dX2_sumSurplus_59 (by decide) (fun c_59 => ?_) (fun c_59 => ?_)
      · refine lv_iload K.1.1 K.1.2.1 dX2_sumSurplus_67 (lv_at hl 0 rfl) ?_
        refine lv_ineg K.1.1 K.1.2.1 dX2_sumSurplus_69 ?_
        refine lv_iadd K.1.1 K.1.2.1 dX2_sumSurplus_70 ?_
        refine lv_topi (fun x_8 ex_8 => ?_)
        refine lv_istore_n (lv' := [(2, .int x_8), (4, .int x_6), (3, .int v3_4), (0, .ref (B + 81)), (1, .ref (B + a))]) K.1.1 K.1.2.1 dX2_sumSurplus_71 rfl hl (by decide) rfl (fun ls hl => ?_)
        obtain ⟨x_9, ex_9⟩ : ∃ y : Int32, y = v3_4 + (1) := ⟨_, rfl⟩
        refine lv_iinc (v := x_9) (lv' := [(3, .int x_9), (2, .int x_8), (4, .int x_6), (0, .ref (B + 81)), (1, .ref (B + a))]) K.1.1 K.1.2.1 dX2_sumSurplus_72 hl (k := 2) rfl (by rw [ex_9]; rfl) (by decide) rfl (fun ls hl => ?_)
        refine lv_goto (tgt := 4) K.1.1 K.1.2.1 dX2_sumSurplus_75 (by decide) ?_
        exact ih_4 _ _ _ _ _ (by subst ev3_4 ev2_4 eg_2 er_3 er_4 er_5 ex_6 er_7 ex_8 ex_9; exact nI_1 _) (by subst ev3_4 ev2_4 eg_2 er_3 er_4 er_5 ex_6 er_7 ex_8 ex_9; simp [sumI, C_worth, c_12, Int32.not_le.mp c_12, c_59]) hP hS (lv_sub hl [0, 1, 3, 4] rfl)
      · refine lv_iload K.1.1 K.1.2.1 dX2_sumSurplus_62 (lv_at hl 0 rfl) ?_
        refine lv_goto (tgt := 70) K.1.1 K.1.2.1 dX2_sumSurplus_64 (by decide) ?_
        refine lv_iadd K.1.1 K.1.2.1 dX2_sumSurplus_70 ?_
        refine lv_topi (fun x_10 ex_10 => ?_)
        refine lv_istore_n (lv' := [(2, .int x_10), (4, .int x_6), (3, .int v3_4), (0, .ref (B + 81)), (1, .ref (B + a))]) K.1.1 K.1.2.1 dX2_sumSurplus_71 rfl hl (by decide) rfl (fun ls hl => ?_)
        obtain ⟨x_11, ex_11⟩ : ∃ y : Int32, y = v3_4 + (1) := ⟨_, rfl⟩
        refine lv_iinc (v := x_11) (lv' := [(3, .int x_11), (2, .int x_10), (4, .int x_6), (0, .ref (B + 81)), (1, .ref (B + a))]) K.1.1 K.1.2.1 dX2_sumSurplus_72 hl (k := 2) rfl (by rw [ex_11]; rfl) (by decide) rfl (fun ls hl => ?_)
        refine lv_goto (tgt := 4) K.1.1 K.1.2.1 dX2_sumSurplus_75 (by decide) ?_
        exact ih_4 _ _ _ _ _ (by subst ev3_4 ev2_4 eg_2 er_3 er_4 er_5 ex_6 er_7 ex_10 ex_11; exact nI_1 _) (by subst ev3_4 ev2_4 eg_2 er_3 er_4 er_5 ex_6 er_7 ex_10 ex_11; simp [sumI, C_worth, c_12, Int32.not_le.mp c_12, c_59]) hP hS (lv_sub hl [0, 1, 3, 4] rfl)

set_option maxHeartbeats 4000000 in
set_option maxRecDepth 100000 in
theorem MX2_settle (l : Launch) (G : GG) (B : Nat) (μ : Mm) (a : Nat) (ha : isA a) : CM l yX2_settle (.code yX2_settle cX2_settle 2 Option.none) 3 70 G B [.ref (B + 81), .ref (B + a)] μ none (C_settle μ a) := by
  refine CM.of (by decide) (Nat.le_of_ble_eq_true rfl) ?_
  intro p e s m below meth c ls K hr hlocks hP hl
  have hS : va_S (AA B) s.heap s.heap [] := va_S.rf
  have hl : lv_has ls 2 [(0, .ref (B + 81)), (1, .ref (B + a))] := hl
  refine lv_aload_n K.1.1 K.1.2.1 dX2_settle_0 rfl (lv_at hl 0 rfl) ?_
  refine lv_aload_n K.1.1 K.1.2.1 dX2_settle_1 rfl (lv_at hl 0 rfl) ?_
  refine m_getr K hP (by decide) sh_81 rfl tuX2 6 (by decide) rfl q_230 dX2_settle_2 ?_
  refine lv_aload_n K.1.1 K.1.2.1 dX2_settle_5 rfl (lv_at hl 1 rfl) ?_
  refine m_getr K hP ha.1 ha.2.1 rfl tuX1 1 (by decide) rfl q_173 dX2_settle_6 ?_
  refine lv_iconst (v := 0) K.1.1 K.1.2.1 dX2_settle_9 (by decide) ?_
  refine m_cS (n := 3) (As := [.ref (B + 84), .ref (B + (a + 16)), .int 0]) (rest := [.ref (B + 81)]) K hP hS (MX2_queueUp l G B _ 84 20 isR_84 (a + 16) ha.2.2.2.1 0 ) q_456 q_457 q_21 q_458 hv_X2_queueUp ⟨Nat.le_of_ble_eq_true rfl, Nat.le_of_ble_eq_true rfl⟩ rfl hl.1 rfl (Nat.le_of_ble_eq_true rfl) dX2_settle_10 ⟨Nat.zero_le _, Nat.zero_le _⟩ (fun H locs hP hS => ?_)
  refine lv_topi (fun r_1 er_1 => ?_)
  refine m_puti K hP hS (by decide) sh_81 rfl tuX2 tyX2 tyX2_ok nmX2 8 (by decide) rfl rfl (by decide +kernel) q_232 dX2_settle_13 (fun H locs hP hS => ?_)
  refine lv_aload_n K.1.1 K.1.2.1 dX2_settle_16 rfl (lv_at hl 0 rfl) ?_
  refine lv_aload_n K.1.1 K.1.2.1 dX2_settle_17 rfl (lv_at hl 0 rfl) ?_
  refine m_getr K hP (by decide) sh_81 rfl tuX2 7 (by decide) rfl q_231 dX2_settle_18 ?_
  refine lv_aload_n K.1.1 K.1.2.1 dX2_settle_21 rfl (lv_at hl 1 rfl) ?_
  refine m_getr K hP ha.1 ha.2.1 rfl tuX1 1 (by decide) rfl q_173 dX2_settle_22 ?_
  refine lv_iconst (v := 1) K.1.1 K.1.2.1 dX2_settle_25 (by decide) ?_
  refine m_cS (n := 3) (As := [.ref (B + 86), .ref (B + (a + 16)), .int 1]) (rest := [.ref (B + 81)]) K hP hS (MX2_queueUp l G B _ 86 20 isR_86 (a + 16) ha.2.2.2.1 1 ) q_456 q_457 q_21 q_458 hv_X2_queueUp ⟨Nat.le_of_ble_eq_true rfl, Nat.le_of_ble_eq_true rfl⟩ rfl hl.1 rfl (Nat.le_of_ble_eq_true rfl) dX2_settle_26 ⟨Nat.zero_le _, Nat.zero_le _⟩ (fun H locs hP hS => ?_)
  refine lv_topi (fun r_2 er_2 => ?_)
  refine m_puti K hP hS (by decide) sh_81 rfl tuX2 tyX2 tyX2_ok nmX2 9 (by decide) rfl rfl (by decide +kernel) q_233 dX2_settle_29 (fun H locs hP hS => ?_)
  refine lv_aload_n K.1.1 K.1.2.1 dX2_settle_32 rfl (lv_at hl 0 rfl) ?_
  refine lv_aload_n K.1.1 K.1.2.1 dX2_settle_33 rfl (lv_at hl 1 rfl) ?_
  refine m_getr K hP ha.1 ha.2.1 rfl tuX1 1 (by decide) rfl q_173 dX2_settle_34 ?_
  refine m_cV (n := 1) (As := [.ref (B + (a + 16))]) (rest := []) K hP hS (MX2_findRange l G B _ (a + 16) ha.2.2.2.1 ) (by decide) sh_81 rfl q_472 q_474 q_2 q_21 q_475 hv_X2_findRange ⟨Nat.le_of_ble_eq_true rfl, Nat.le_of_ble_eq_true rfl⟩ rfl hl.1 rfl (Nat.le_of_ble_eq_true rfl) dX2_settle_37 ⟨Nat.zero_le _, Nat.zero_le _⟩ (fun H locs hP hS => ?_)
  refine W.eq (g2 := F0 m 40 ls []) rfl ?_
  refine lv_aload_n K.1.1 K.1.2.1 dX2_settle_40 rfl (lv_at hl 0 rfl) ?_
  refine lv_aload_n K.1.1 K.1.2.1 dX2_settle_41 rfl (lv_at hl 0 rfl) ?_
  refine lv_aload_n K.1.1 K.1.2.1 dX2_settle_42 rfl (lv_at hl 1 rfl) ?_
  refine m_geti K hP ha.1 ha.2.1 rfl tuX1 3 (by decide) rfl q_178 dX2_settle_43 ?_
  refine lv_topi (fun g_3 eg_3 => ?_)
  refine m_cV (n := 1) (As := [.int g_3]) (rest := [.ref (B + 81)]) K hP hS (MX2_priceWith l G B _ g_3 ) (by decide) sh_81 rfl q_491 q_492 q_493 q_21 q_494 hv_X2_priceWith ⟨Nat.le_of_ble_eq_true rfl, Nat.le_of_ble_eq_true rfl⟩ rfl hl.1 rfl (Nat.le_of_ble_eq_true rfl) dX2_settle_46 ⟨Nat.zero_le _, Nat.zero_le _⟩ (fun H locs hP hS => ?_)
  refine lv_topi (fun r_4 er_4 => ?_)
  refine m_puti K hP hS (by decide) sh_81 rfl tuX2 tyX2 tyX2_ok nmX2 2 (by decide) rfl rfl (by decide +kernel) q_219 dX2_settle_49 (fun H locs hP hS => ?_)
  refine lv_aload_n K.1.1 K.1.2.1 dX2_settle_52 rfl (lv_at hl 0 rfl) ?_
  refine lv_aload_n K.1.1 K.1.2.1 dX2_settle_53 rfl (lv_at hl 0 rfl) ?_
  refine m_getr K hP (by decide) sh_81 rfl tuX2 6 (by decide) rfl q_230 dX2_settle_54 ?_
  refine lv_aload_n K.1.1 K.1.2.1 dX2_settle_57 rfl (lv_at hl 0 rfl) ?_
  refine m_geti K hP (by decide) sh_81 rfl tuX2 8 (by decide) rfl q_232 dX2_settle_58 ?_
  refine lv_topi (fun g_5 eg_5 => ?_)
  refine lv_aload_n K.1.1 K.1.2.1 dX2_settle_61 rfl (lv_at hl 1 rfl) ?_
  refine m_getr K hP ha.1 ha.2.1 rfl tuX1 1 (by decide) rfl q_173 dX2_settle_62 ?_
  refine m_cV (n := 3) (As := [.ref (B + 84), .int g_5, .ref (B + (a + 16))]) (rest := []) K hP hS (MX2_take l G B _ 84 20 isR_84 g_5 (a + 16) ha.2.2.2.1 ) (by decide) sh_81 rfl q_495 q_497 q_4 q_21 q_498 hv_X2_take ⟨Nat.le_of_ble_eq_true rfl, Nat.le_of_ble_eq_true rfl⟩ rfl hl.1 rfl (Nat.le_of_ble_eq_true rfl) dX2_settle_65 ⟨Nat.zero_le _, Nat.zero_le _⟩ (fun H locs hP hS => ?_)
  refine W.eq (g2 := F0 m 68 ls []) rfl ?_
  refine lv_aload_n K.1.1 K.1.2.1 dX2_settle_68 rfl (lv_at hl 0 rfl) ?_
  refine lv_aload_n K.1.1 K.1.2.1 dX2_settle_69 rfl (lv_at hl 0 rfl) ?_
  refine m_getr K hP (by decide) sh_81 rfl tuX2 7 (by decide) rfl q_231 dX2_settle_70 ?_
  refine lv_aload_n K.1.1 K.1.2.1 dX2_settle_73 rfl (lv_at hl 0 rfl) ?_
  refine m_geti K hP (by decide) sh_81 rfl tuX2 9 (by decide) rfl q_233 dX2_settle_74 ?_
  refine lv_topi (fun g_6 eg_6 => ?_)
  refine lv_aload_n K.1.1 K.1.2.1 dX2_settle_77 rfl (lv_at hl 1 rfl) ?_
  refine m_getr K hP ha.1 ha.2.1 rfl tuX1 1 (by decide) rfl q_173 dX2_settle_78 ?_
  refine m_cV (n := 3) (As := [.ref (B + 86), .int g_6, .ref (B + (a + 16))]) (rest := []) K hP hS (MX2_take l G B _ 86 20 isR_86 g_6 (a + 16) ha.2.2.2.1 ) (by decide) sh_81 rfl q_495 q_497 q_4 q_21 q_498 hv_X2_take ⟨Nat.le_of_ble_eq_true rfl, Nat.le_of_ble_eq_true rfl⟩ rfl hl.1 rfl (Nat.le_of_ble_eq_true rfl) dX2_settle_81 ⟨Nat.zero_le _, Nat.zero_le _⟩ (fun H locs hP hS => ?_)
  refine W.eq (g2 := F0 m 84 ls []) rfl ?_
  refine lv_aload_n K.1.1 K.1.2.1 dX2_settle_84 rfl (lv_at hl 0 rfl) ?_
  refine lv_aload_n K.1.1 K.1.2.1 dX2_settle_85 rfl (lv_at hl 0 rfl) ?_
  refine lv_aload_n K.1.1 K.1.2.1 dX2_settle_86 rfl (lv_at hl 1 rfl) ?_
  refine m_cV (n := 1) (As := [.ref (B + a)]) (rest := [.ref (B + 81)]) K hP hS (MX2_sumSurplus l G B _ a ha ) (by decide) sh_81 rfl q_499 q_501 q_5 q_21 q_502 hv_X2_sumSurplus ⟨Nat.le_of_ble_eq_true rfl, Nat.le_of_ble_eq_true rfl⟩ rfl hl.1 rfl (Nat.le_of_ble_eq_true rfl) dX2_settle_87 ⟨Nat.zero_le _, Nat.zero_le _⟩ (fun H locs hP hS => ?_)
  refine lv_topi (fun r_7 er_7 => ?_)
  refine m_puti K hP hS (by decide) sh_81 rfl tuX2 tyX2 tyX2_ok nmX2 4 (by decide) rfl rfl (by decide +kernel) q_225 dX2_settle_90 (fun H locs hP hS => ?_)
  exact m_vret K hr hlocks hP hS dX2_settle_93 rfl (by subst er_1 er_2 eg_3 er_4 eg_5 eg_6 er_7; rw [C_settle_eq]; rfl)

set_option maxHeartbeats 4000000 in
set_option maxRecDepth 100000 in
theorem MX2_tallyValues (l : Launch) (G : GG) (B : Nat) (μ : Mm) (a : Nat) (ha : isA a) : CM l yX2_tallyValues (.code yX2_tallyValues cX2_tallyValues 5 Option.none) 1 22 G B [.ref (B + 81), .ref (B + a)] μ none (C_tallyV μ a) := by
  refine CM.of (by decide) (Nat.le_of_ble_eq_true rfl) ?_
  intro p e s m below meth c ls K hr hlocks hP hl
  have hS : va_S (AA B) s.heap s.heap [] := va_S.rf
  have hl : lv_has ls 5 [(0, .ref (B + 81)), (1, .ref (B + a))] := hl
  refine lv_aload_n K.1.1 K.1.2.1 dX2_tallyValues_0 rfl (lv_at hl 0 rfl) ?_
  refine m_getr K hP (by decide) sh_81 rfl tuX2 10 (by decide) rfl q_234 dX2_tallyValues_1 ?_
  refine m_cV (n := 0) (As := []) (rest := []) K hP hS (MX5_fillWithZeros l G B _ 88 121 isR_88 ) (Nat.lt_of_succ_lt isR_88.1) isR_88.2.1 rfl q_480 q_481 q_482 q_18 q_483 hv_X5_fillWithZeros ⟨Nat.le_of_ble_eq_true rfl, Nat.le_of_ble_eq_true rfl⟩ rfl hl.1 rfl (Nat.le_of_ble_eq_true rfl) dX2_tallyValues_4 ⟨Nat.zero_le _, Nat.zero_le _⟩ (fun H locs hP hS => ?_)
  refine W.eq (g2 := F0 m 7 ls []) rfl ?_
  refine lv_aload_n K.1.1 K.1.2.1 dX2_tallyValues_7 rfl (lv_at hl 0 rfl) ?_
  refine m_getr K hP (by decide) sh_81 rfl tuX2 11 (by decide) rfl q_235 dX2_tallyValues_8 ?_
  refine m_cV (n := 0) (As := []) (rest := []) K hP hS (MX5_fillWithZeros l G B _ 90 121 isR_90 ) (Nat.lt_of_succ_lt isR_90.1) isR_90.2.1 rfl q_480 q_481 q_482 q_18 q_483 hv_X5_fillWithZeros ⟨Nat.le_of_ble_eq_true rfl, Nat.le_of_ble_eq_true rfl⟩ rfl hl.1 rfl (Nat.le_of_ble_eq_true rfl) dX2_tallyValues_11 ⟨Nat.zero_le _, Nat.zero_le _⟩ (fun H locs hP hS => ?_)
  refine W.eq (g2 := F0 m 14 ls []) rfl ?_
  refine lv_iconst (v := 0) K.1.1 K.1.2.1 dX2_tallyValues_14 (by decide) ?_
  refine lv_istore_n (lv' := [(2, .int 0), (0, .ref (B + 81)), (1, .ref (B + a))]) K.1.1 K.1.2.1 dX2_tallyValues_15 rfl hl (by decide) rfl (fun ls hl => ?_)
  refine up_to (N := cn (μ (a + 16) 0)) (P := fun k : Nat => ∀ (v2_16 : Int32) (μ_16 : Mm) (H : Heap) (locs : List Loc) (ls : Array Slot), (v2_16 = nI k) → (μ_16 = (itr (V_step a) (R_zero (R_zero μ 88 121) 90 121) k)) → MP G B μ_16 H → va_S (AA B) s.heap H locs → lv_has ls 5 [(2, .int v2_16), (0, .ref (B + 81)), (1, .ref (B + a))] → W p l e ({ frames := 1, cells := 0, slots := 0, locals := 22 } : Room) s m ([.ref (B + 81), .ref (B + a)] : List Value).toArray below meth c H locs 0 0 (MF below G B none (C_tallyV μ a) ([.ref (B + 81), .ref (B + a)] : List Value).toArray s) (F0 m 16 ls [])) ?_ ?_ _ _ _ _ _ (by first | rfl | (skip; rfl)) (by first | rfl | (skip; rfl)) hP hS (lv_sub hl [0, 1, 2] rfl)
  · intro v2_16 μ_16 H locs ls ev2_16 eμ_16 hP hS hl
    refine lv_iload_n K.1.1 K.1.2.1 dX2_tallyValues_16 rfl (lv_at hl 0 rfl) ?_
    refine lv_aload_n K.1.1 K.1.2.1 dX2_tallyValues_17 rfl (lv_at hl 2 rfl) ?_
    refine m_getr K hP ha.1 ha.2.1 rfl tuX1 1 (by decide) rfl q_173 dX2_tallyValues_18 ?_
    refine m_geti K hP ha.2.2.2.1.1 ha.2.2.2.1.2.1 rfl tuX4 0 (by decide) rfl q_107 dX2_tallyValues_21 ?_
    refine lv_topi (fun g_1 eg_1 => ?_)
    refine lv_icmp_ge (tgt := 99) K.1.1 K.1.2.1 dX2_tallyValues_24 (by decide) (fun c_24 => ?_) (fun c_24 => ?_)
    · exact m_vret K hr hlocks hP hS dX2_tallyValues_99 rfl (by subst ev2_16 eμ_16 eg_1; rfl)
    · exact absurd c_24 (not_not_intro (by subst ev2_16 eμ_16 eg_1; rw [V_ne (ne_1 ha.2.2.2.1.2.1 isR_88.2.2.1) (ne_1 ha.2.2.2.1.2.1 isR_90.2.2.1)]; exact cn_out _))
  · intro k hk ih_16 v2_16 μ_16 H locs ls ev2_16 eμ_16 hP hS hl
    refine lv_iload_n K.1.1 K.1.2.1 dX2_tallyValues_16 rfl (lv_at hl 0 rfl) ?_
    refine lv_aload_n K.1.1 K.1.2.1 dX2_tallyValues_17 rfl (lv_at hl 2 rfl) ?_
    refine m_getr K hP ha.1 ha.2.1 rfl tuX1 1 (by decide) rfl q_173 dX2_tallyValues_18 ?_
    refine m_geti K hP ha.2.2.2.1.1 ha.2.2.2.1.2.1 rfl tuX4 0 (by decide) rfl q_107 dX2_tallyValues_21 ?_
    refine lv_topi (fun g_2 eg_2 => ?_)
    refine lv_icmp_ge (tgt := 99) K.1.1 K.1.2.1 dX2_tallyValues_24 (by decide) (fun c_24 => ?_) (fun c_24 => ?_)
    · exact absurd c_24 (by subst ev2_16 eμ_16 eg_2; rw [V_ne (ne_1 ha.2.2.2.1.2.1 isR_88.2.2.1) (ne_1 ha.2.2.2.1.2.1 isR_90.2.2.1)]; exact cn_in hk)
    · refine lv_aload_n K.1.1 K.1.2.1 dX2_tallyValues_27 rfl (lv_at hl 2 rfl) ?_
      refine m_getr K hP ha.1 ha.2.1 rfl tuX1 0 (by decide) rfl q_171 dX2_tallyValues_28 ?_
      refine m_getr K hP ha.2.2.1.1 ha.2.2.1.2.1 rfl tuX6 2 (by decide) rfl q_70 dX2_tallyValues_31 ?_
      refine lv_aload_n K.1.1 K.1.2.1 dX2_tallyValues_34 rfl (lv_at hl 2 rfl) ?_
      refine m_getr K hP ha.1 ha.2.1 rfl tuX1 1 (by decide) rfl q_173 dX2_tallyValues_35 ?_
      refine m_getr K hP ha.2.2.2.1.1 ha.2.2.2.1.2.1 rfl tuX4 2 (by decide) rfl q_115 dX2_tallyValues_38 ?_
      refine lv_iload_n K.1.1 K.1.2.1 dX2_tallyValues_41 rfl (lv_at hl 0 rfl) ?_
      refine m_cV (n := 1) (As := [.int v2_16]) (rest := [.ref (B + (a + 1 + 3))]) K hP hS (MX5_get l G B _ (a + 16 + 3) 20 ha.2.2.2.1.2.2.2.1 v2_16 ) (Nat.lt_of_succ_lt ha.2.2.2.1.2.2.2.1.1) ha.2.2.2.1.2.2.2.1.2.1 rfl q_459 q_460 q_461 q_18 q_462 hv_X5_get ⟨Nat.le_of_ble_eq_true rfl, Nat.le_of_ble_eq_true rfl⟩ rfl hl.1 rfl (Nat.le_of_ble_eq_true rfl) dX2_tallyValues_42 ⟨Nat.zero_le _, Nat.zero_le _⟩ (fun H locs hP hS => ?_)
      refine lv_topi (fun r_3 er_3 => ?_)
      refine m_cV (n := 1) (As := [.int r_3]) (rest := []) K hP hS (MX5_get l G B _ (a + 1 + 3) 8 ha.2.2.1.2.2.2.1 r_3 ) (Nat.lt_of_succ_lt ha.2.2.1.2.2.2.1.1) ha.2.2.1.2.2.2.1.2.1 rfl q_459 q_460 q_461 q_18 q_462 hv_X5_get ⟨Nat.le_of_ble_eq_true rfl, Nat.le_of_ble_eq_true rfl⟩ rfl hl.1 rfl (Nat.le_of_ble_eq_true rfl) dX2_tallyValues_45 ⟨Nat.zero_le _, Nat.zero_le _⟩ (fun H locs hP hS => ?_)
      refine lv_topi (fun r_4 er_4 => ?_)
      refine lv_istore_n (lv' := [(3, .int r_4), (2, .int v2_16), (0, .ref (B + 81)), (1, .ref (B + a))]) K.1.1 K.1.2.1 dX2_tallyValues_48 rfl hl (by decide) rfl (fun ls hl => ?_)
      refine lv_aload_n K.1.1 K.1.2.1 dX2_tallyValues_49 rfl (lv_at hl 3 rfl) ?_
      refine m_getr K hP ha.1 ha.2.1 rfl tuX1 1 (by decide) rfl q_173 dX2_tallyValues_50 ?_
      refine m_getr K hP ha.2.2.2.1.1 ha.2.2.2.1.2.1 rfl tuX4 3 (by decide) rfl q_117 dX2_tallyValues_53 ?_
      refine lv_iload_n K.1.1 K.1.2.1 dX2_tallyValues_56 rfl (lv_at hl 1 rfl) ?_
      refine m_cV (n := 1) (As := [.int v2_16]) (rest := []) K hP hS (MX5_get l G B _ (a + 16 + 5) 20 ha.2.2.2.1.2.2.2.2.1 v2_16 ) (Nat.lt_of_succ_lt ha.2.2.2.1.2.2.2.2.1.1) ha.2.2.2.1.2.2.2.2.1.2.1 rfl q_459 q_460 q_461 q_18 q_462 hv_X5_get ⟨Nat.le_of_ble_eq_true rfl, Nat.le_of_ble_eq_true rfl⟩ rfl hl.1 rfl (Nat.le_of_ble_eq_true rfl) dX2_tallyValues_57 ⟨Nat.zero_le _, Nat.zero_le _⟩ (fun H locs hP hS => ?_)
      refine lv_topi (fun r_5 er_5 => ?_)
      refine lv_if_ne (tgt := 70) K.1.1 K.1.2.1 dX2_tallyValues_60 (by decide) (fun c_60 => ?_) (fun c_60 => ?_)
      · refine lv_aload_n K.1.1 K.1.2.1 dX2_tallyValues_70 rfl (lv_at hl 2 rfl) ?_
        refine m_getr K hP (by decide) sh_81 rfl tuX2 11 (by decide) rfl q_235 dX2_tallyValues_71 ?_
        refine lv_astore (lv' := [(4, .ref (B + 90)), (3, .int r_4), (2, .int v2_16), (0, .ref (B + 81)), (1, .ref (B + a))]) K.1.1 K.1.2.1 dX2_tallyValues_74 hl (by decide) rfl (fun ls hl => ?_)
        refine lv_aload K.1.1 K.1.2.1 dX2_tallyValues_76 (lv_at hl 0 rfl) ?_
        refine lv_iload_n K.1.1 K.1.2.1 dX2_tallyValues_78 rfl (lv_at hl 1 rfl) ?_
        refine lv_aload_n K.1.1 K.1.2.1 dX2_tallyValues_79 rfl (lv_at hl 4 rfl) ?_
        refine m_getr K hP ha.1 ha.2.1 rfl tuX1 1 (by decide) rfl q_173 dX2_tallyValues_80 ?_
        refine m_getr K hP ha.2.2.2.1.1 ha.2.2.2.1.2.1 rfl tuX4 5 (by decide) rfl q_121 dX2_tallyValues_83 ?_
        refine lv_iload_n K.1.1 K.1.2.1 dX2_tallyValues_86 rfl (lv_at hl 2 rfl) ?_
        refine m_cV (n := 1) (As := [.int v2_16]) (rest := [.int r_4, .ref (B + 90)]) K hP hS (MX5_get l G B _ (a + 16 + 9) 20 ha.2.2.2.1.2.2.2.2.2.2.1 v2_16 ) (Nat.lt_of_succ_lt ha.2.2.2.1.2.2.2.2.2.2.1.1) ha.2.2.2.1.2.2.2.2.2.2.1.2.1 rfl q_459 q_460 q_461 q_18 q_462 hv_X5_get ⟨Nat.le_of_ble_eq_true rfl, Nat.le_of_ble_eq_true rfl⟩ rfl hl.1 rfl (Nat.le_of_ble_eq_true rfl) dX2_tallyValues_87 ⟨Nat.zero_le _, Nat.zero_le _⟩ (fun H locs hP hS => ?_)
        refine lv_topi (fun r_6 er_6 => ?_)
        refine m_cV (n := 2) (As := [.int r_4, .int r_6]) (rest := []) K hP hS (MX5_add l G B _ 90 121 isR_90 r_4 r_6 ) (Nat.lt_of_succ_lt isR_90.1) isR_90.2.1 rfl q_484 q_485 q_486 q_18 q_487 hv_X5_add ⟨Nat.le_of_ble_eq_true rfl, Nat.le_of_ble_eq_true rfl⟩ rfl hl.1 rfl (Nat.le_of_ble_eq_true rfl) dX2_tallyValues_90 ⟨Nat.zero_le _, Nat.zero_le _⟩ (fun H locs hP hS => ?_)
        refine W.eq (g2 := F0 m 93 ls []) rfl ?_
        obtain ⟨x_7, ex_7⟩ : ∃ y : Int32, y = v2_16 + (1) := ⟨_, rfl⟩
        refine lv_iinc (v := x_7) (lv' := [(2, .int x_7), (4, .ref (B + 90)), (3, .int r_4), (0, .ref (B + 81)), (1, .ref (B + a))]) K.1.1 K.1.2.1 dX2_tallyValues_93 hl (k := 2) rfl (by rw [ex_7]; rfl) (by decide) rfl (fun ls hl => ?_)
        refine lv_goto (tgt := 16) K.1.1 K.1.2.1 dX2_tallyValues_96 (by decide) ?_
        exact ih_16 _ _ _ _ _ (by subst ev2_16 eμ_16 eg_2 er_3 er_4 er_5 er_6 ex_7; exact nI_1 _) (by subst ev2_16 eμ_16 eg_2 er_3 er_4 er_5 er_6 ex_7; first | (simp only [itr, V_step, c_24, Int32.not_le.mp c_24, c_60, if_true, if_false, ite_true, ite_false, reduceIte, not_true, not_false_iff]; done) | simp [itr, V_step, c_24, Int32.not_le.mp c_24, c_60]) hP hS (lv_sub hl [0, 3, 4] rfl)
      · refine lv_aload_n K.1.1 K.1.2.1 dX2_tallyValues_63 rfl (lv_at hl 2 rfl) ?_
        refine m_getr K hP (by decide) sh_81 rfl tuX2 10 (by decide) rfl q_234 dX2_tallyValues_64 ?_
        refine lv_goto (tgt := 74) K.1.1 K.1.2.1 dX2_tallyValues_67 (by decide) ?_
        refine lv_astore (lv' := [(4, .ref (B + 88)), (3, .int r_4), (2, .int v2_16), (0, .ref (B + 81)), (1, .ref (B + a))]) K.1.1 K.1.2.1 dX2_tallyValues_74 hl (by decide) rfl (fun ls hl => ?_)
        refine lv_aload K.1.1 K.1.2.1 dX2_tallyValues_76 (lv_at hl 0 rfl) ?_
        refine lv_iload_n K.1.1 K.1.2.1 dX2_tallyValues_78 rfl (lv_at hl 1 rfl) ?_
        refine lv_aload_n K.1.1 K.1.2.1 dX2_tallyValues_79 rfl (lv_at hl 4 rfl) ?_
        refine m_getr K hP ha.1 ha.2.1 rfl tuX1 1 (by decide) rfl q_173 dX2_tallyValues_80 ?_
        refine m_getr K hP ha.2.2.2.1.1 ha.2.2.2.1.2.1 rfl tuX4 5 (by decide) rfl q_121 dX2_tallyValues_83 ?_
        refine lv_iload_n K.1.1 K.1.2.1 dX2_tallyValues_86 rfl (lv_at hl 2 rfl) ?_
        refine m_cV (n := 1) (As := [.int v2_16]) (rest := [.int r_4, .ref (B + 88)]) K hP hS (MX5_get l G B _ (a + 16 + 9) 20 ha.2.2.2.1.2.2.2.2.2.2.1 v2_16 ) (Nat.lt_of_succ_lt ha.2.2.2.1.2.2.2.2.2.2.1.1) ha.2.2.2.1.2.2.2.2.2.2.1.2.1 rfl q_459 q_460 q_461 q_18 q_462 hv_X5_get ⟨Nat.le_of_ble_eq_true rfl, Nat.le_of_ble_eq_true rfl⟩ rfl hl.1 rfl (Nat.le_of_ble_eq_true rfl) dX2_tallyValues_87 ⟨Nat.zero_le _, Nat.zero_le _⟩ (fun H locs hP hS => ?_)
        refine lv_topi (fun r_8 er_8 => ?_)
        refine m_cV (n := 2) (As := [.int r_4, .int r_8]) (rest := []) K hP hS (MX5_add l G B _ 88 121 isR_88 r_4 r_8 ) (Nat.lt_of_succ_lt isR_88.1) isR_88.2.1 rfl q_484 q_485 q_486 q_18 q_487 hv_X5_add ⟨Nat.le_of_ble_eq_true rfl, Nat.le_of_ble_eq_true rfl⟩ rfl hl.1 rfl (Nat.le_of_ble_eq_true rfl) dX2_tallyValues_90 ⟨Nat.zero_le _, Nat.zero_le _⟩ (fun H locs hP hS => ?_)
        refine W.eq (g2 := F0 m 93 ls []) rfl ?_
        obtain ⟨x_9, ex_9⟩ : ∃ y : Int32, y = v2_16 + (1) := ⟨_, rfl⟩
        refine lv_iinc (v := x_9) (lv' := [(2, .int x_9), (4, .ref (B + 88)), (3, .int r_4), (0, .ref (B + 81)), (1, .ref (B + a))]) K.1.1 K.1.2.1 dX2_tallyValues_93 hl (k := 2) rfl (by rw [ex_9]; rfl) (by decide) rfl (fun ls hl => ?_)
        refine lv_goto (tgt := 16) K.1.1 K.1.2.1 dX2_tallyValues_96 (by decide) ?_
        exact ih_16 _ _ _ _ _ (by subst ev2_16 eμ_16 eg_2 er_3 er_4 er_5 er_8 ex_9; exact nI_1 _) (by subst ev2_16 eμ_16 eg_2 er_3 er_4 er_5 er_8 ex_9; first | (simp only [itr, V_step, c_24, Int32.not_le.mp c_24, c_60, if_true, if_false, ite_true, ite_false, reduceIte, not_true, not_false_iff]; done) | simp [itr, V_step, c_24, Int32.not_le.mp c_24, c_60]) hP hS (lv_sub hl [0, 3, 4] rfl)

set_option maxHeartbeats 4000000 in
set_option maxRecDepth 100000 in
theorem MX2_findGreatest (l : Launch) (G : GG) (B : Nat) (μ : Mm) (a : Nat) (ha : isA a) : CM l yX2_findGreatest (.code yX2_findGreatest cX2_findGreatest 6 (Option.some FieldType.int)) 2 46 G B [.ref (B + 81), .ref (B + a)] μ (some (.int ((C_greatest μ a).2))) ((C_greatest μ a).1) := by
  refine CM.of (by decide) (Nat.le_of_ble_eq_true rfl) ?_
  intro p e s m below meth c ls K hr hlocks hP hl
  have hS : va_S (AA B) s.heap s.heap [] := va_S.rf
  have hl : lv_has ls 6 [(0, .ref (B + 81)), (1, .ref (B + a))] := hl
  refine lv_aload_n K.1.1 K.1.2.1 dX2_findGreatest_0 rfl (lv_at hl 0 rfl) ?_
  refine lv_aload_n K.1.1 K.1.2.1 dX2_findGreatest_1 rfl (lv_at hl 1 rfl) ?_
  refine m_cV (n := 1) (As := [.ref (B + a)]) (rest := []) K hP hS (MX2_tallyValues l G B _ a ha ) (by decide) sh_81 rfl q_511 q_513 q_7 q_21 q_514 hv_X2_tallyValues ⟨Nat.le_of_ble_eq_true rfl, Nat.le_of_ble_eq_true rfl⟩ rfl hl.1 rfl (Nat.le_of_ble_eq_true rfl) dX2_findGreatest_2 ⟨Nat.zero_le _, Nat.zero_le _⟩ (fun H locs hP hS => ?_)
  refine W.eq (g2 := F0 m 5 ls []) rfl ?_
  refine lv_bipush (v := 99) K.1.1 K.1.2.1 dX2_findGreatest_5 (by decide) ?_
  refine lv_istore_n (lv' := [(2, .int 99), (0, .ref (B + 81)), (1, .ref (B + a))]) K.1.1 K.1.2.1 dX2_findGreatest_7 rfl hl (by decide) rfl (fun ls hl => ?_)
  refine lv_iconst (v := 1) K.1.1 K.1.2.1 dX2_findGreatest_8 (by decide) ?_
  refine lv_istore_n (lv' := [(3, .int 1), (2, .int 99), (0, .ref (B + 81)), (1, .ref (B + a))]) K.1.1 K.1.2.1 dX2_findGreatest_9 rfl hl (by decide) rfl (fun ls hl => ?_)
  refine lv_iconst (v := 0) K.1.1 K.1.2.1 dX2_findGreatest_10 (by decide) ?_
  refine lv_istore (lv' := [(4, .int 0), (3, .int 1), (2, .int 99), (0, .ref (B + 81)), (1, .ref (B + a))]) K.1.1 K.1.2.1 dX2_findGreatest_11 hl (by decide) rfl (fun ls hl => ?_)
  have lp_13 : ∀ n : Nat, ∀ (v4_13 : Int32) (v3_13 : Int32) (v2_13 : Int32) (μ_13 : Mm) (H : Heap) (locs : List Loc) (ls : Array Slot), (∃ x y : Nat, v2_13 = nI x ∧ v3_13 = nI y ∧ y ≤ x ∧ x ≤ 99 ∧ x ≤ y + n) → (FG 98 (C_tallyV μ a) 99 1 0 = FG n μ_13 v2_13 v3_13 v4_13) → MP G B μ_13 H → va_S (AA B) s.heap H locs → lv_has ls 6 [(4, .int v4_13), (3, .int v3_13), (2, .int v2_13), (0, .ref (B + 81)), (1, .ref (B + a))] → W p l e ({ frames := 2, cells := 0, slots := 0, locals := 46 } : Room) s m ([.ref (B + 81), .ref (B + a)] : List Value).toArray below meth c H locs 0 0 (MF below G B (some (.int ((C_greatest μ a).2))) ((C_greatest μ a).1) ([.ref (B + 81), .ref (B + a)] : List Value).toArray s) (F0 m 13 ls []) := by
    intro n
    induction n with
    | zero =>
      intro v4_13 v3_13 v2_13 μ_13 H locs ls inv0_13 fin0_13 hP hS hl
      obtain ⟨x, y, ex, ey, hyx, hx, hn⟩ := inv0_13
      refine lv_iload_n K.1.1 K.1.2.1 dX2_findGreatest_13 rfl (lv_at hl 2 rfl) ?_
      refine lv_iload_n K.1.1 K.1.2.1 dX2_findGreatest_14 rfl (lv_at hl 1 rfl) ?_
      refine lv_icmp_le (tgt := 95) K.1.1 K.1.2.1 dX2_findGreatest_15 (by decide) (fun c_15 => ?_) (fun c_15 => ?_)
      · refine lv_iload K.1.1 K.1.2.1 dX2_findGreatest_95 (lv_at hl 0 rfl) ?_
        exact m_iret K hr hlocks hP hS dX2_findGreatest_97 (by skip; rw [C_greatest_eq, fin0_13]; first | rfl | (simp only [FG, c_15, Int32.not_lt.mpr c_15, if_true, if_false]; done) | simp [FG, c_15, Int32.not_lt.mpr c_15]) (by skip; rw [C_greatest_eq, fin0_13]; first | rfl | (simp only [FG, c_15, Int32.not_lt.mpr c_15, if_true, if_false]; done) | simp [FG, c_15, Int32.not_lt.mpr c_15])
      · exact absurd c_15 (by rw [ex, ey, show x = y by omega]; exact not_not_intro (Int32.le_refl _))
    | succ n ih_13 =>
      intro v4_13 v3_13 v2_13 μ_13 H locs ls inv0_13 fin0_13 hP hS hl
      obtain ⟨x, y, ex, ey, hyx, hx, hn⟩ := inv0_13
      refine lv_iload_n K.1.1 K.1.2.1 dX2_findGreatest_13 rfl (lv_at hl 2 rfl) ?_
      refine lv_iload_n K.1.1 K.1.2.1 dX2_findGreatest_14 rfl (lv_at hl 1 rfl) ?_
      refine lv_icmp_le (tgt := 95) K.1.1 K.1.2.1 dX2_findGreatest_15 (by decide) (fun c_15 => ?_) (fun c_15 => ?_)
      · refine lv_iload K.1.1 K.1.2.1 dX2_findGreatest_95 (lv_at hl 0 rfl) ?_
        exact m_iret K hr hlocks hP hS dX2_findGreatest_97 (by skip; rw [C_greatest_eq, fin0_13]; first | rfl | (simp only [FG, c_15, Int32.not_lt.mpr c_15, if_true, if_false]; done) | simp [FG, c_15, Int32.not_lt.mpr c_15]) (by skip; rw [C_greatest_eq, fin0_13]; first | rfl | (simp only [FG, c_15, Int32.not_lt.mpr c_15, if_true, if_false]; done) | simp [FG, c_15, Int32.not_lt.mpr c_15])
      · refine lv_aload_n K.1.1 K.1.2.1 dX2_findGreatest_18 rfl (lv_at hl 3 rfl) ?_
        refine m_getr K hP (by decide) sh_81 rfl tuX2 10 (by decide) rfl q_234 dX2_findGreatest_19 ?_
        refine lv_iload_n K.1.1 K.1.2.1 dX2_findGreatest_22 rfl (lv_at hl 2 rfl) ?_
        refine m_cV (n := 1) (As := [.int v2_13]) (rest := []) K hP hS (MX5_get l G B _ 88 121 isR_88 v2_13 ) (Nat.lt_of_succ_lt isR_88.1) isR_88.2.1 rfl q_459 q_460 q_461 q_18 q_462 hv_X5_get ⟨Nat.le_of_ble_eq_true rfl, Nat.le_of_ble_eq_true rfl⟩ rfl hl.1 rfl (Nat.le_of_ble_eq_true rfl) dX2_findGreatest_23 ⟨Nat.zero_le _, Nat.zero_le _⟩ (fun H locs hP hS => ?_)
        refine lv_topi (fun r_1 er_1 => ?_)
        refine lv_aload_n K.1.1 K.1.2.1 dX2_findGreatest_26 rfl (lv_at hl 3 rfl) ?_
        refine m_getr K hP (by decide) sh_81 rfl tuX2 11 (by decide) rfl q_235 dX2_findGreatest_27 ?_
        refine lv_iload_n K.1.1 K.1.2.1 dX2_findGreatest_30 rfl (lv_at hl 1 rfl) ?_
        refine m_cV (n := 1) (As := [.int v3_13]) (rest := [.int r_1]) K hP hS (MX5_get l G B _ 90 121 isR_90 v3_13 ) (Nat.lt_of_succ_lt isR_90.1) isR_90.2.1 rfl q_459 q_460 q_461 q_18 q_462 hv_X5_get ⟨Nat.le_of_ble_eq_true rfl, Nat.le_of_ble_eq_true rfl⟩ rfl hl.1 rfl (Nat.le_of_ble_eq_true rfl) dX2_findGreatest_31 ⟨Nat.zero_le _, Nat.zero_le _⟩ (fun H locs hP hS => ?_)
        refine lv_topi (fun r_2 er_2 => ?_)
        refine va_mmin K.1.1 K.1.2.1 (K.1.2.2.1.trans hl.1.symm) K.1.2.2.2.1 (own := RX2) (K.w q_488) (K.w q_489) (K.w q_30) (K.w q_490) (Nat.le_of_ble_eq_true rfl) (Nat.le_of_ble_eq_true rfl) (Nat.zero_le _) (Nat.zero_le _) dX2_findGreatest_34 ?_
        refine lv_topi (fun r_3 er_3 => ?_)
        have er_3 : r_3 = mnI r_1 r_2 := er_3
        refine lv_istore (lv' := [(5, .int r_3), (4, .int v4_13), (3, .int v3_13), (2, .int v2_13), (0, .ref (B + 81)), (1, .ref (B + a))]) K.1.1 K.1.2.1 dX2_findGreatest_37 hl (by decide) rfl (fun ls hl => ?_)
        refine lv_iload K.1.1 K.1.2.1 dX2_findGreatest_39 (lv_at hl 1 rfl) ?_
        refine lv_iload K.1.1 K.1.2.1 dX2_findGreatest_41 (lv_at hl 0 rfl) ?_
        refine lv_iload_n K.1.1 K.1.2.1 dX2_findGreatest_43 rfl (lv_at hl 3 rfl) ?_
        refine lv_iload_n K.1.1 K.1.2.1 dX2_findGreatest_44 rfl (lv_at hl 2 rfl) ?_
        refine lv_isub K.1.1 K.1.2.1 dX2_findGreatest_45 ?_
        refine lv_imul K.1.1 K.1.2.1 dX2_findGreatest_46 ?_
        refine lv_iadd K.1.1 K.1.2.1 dX2_findGreatest_47 ?_
        refine lv_topi (fun x_4 ex_4 => ?_)
        refine lv_istore (lv' := [(4, .int x_4), (5, .int r_3), (3, .int v3_13), (2, .int v2_13), (0, .ref (B + 81)), (1, .ref (B + a))]) K.1.1 K.1.2.1 dX2_findGreatest_48 hl (by decide) rfl (fun ls hl => ?_)
        refine lv_aload_n K.1.1 K.1.2.1 dX2_findGreatest_50 rfl (lv_at hl 4 rfl) ?_
        refine m_getr K hP (by decide) sh_81 rfl tuX2 10 (by decide) rfl q_234 dX2_findGreatest_51 ?_
        refine lv_iload_n K.1.1 K.1.2.1 dX2_findGreatest_54 rfl (lv_at hl 3 rfl) ?_
        refine lv_iload K.1.1 K.1.2.1 dX2_findGreatest_55 (lv_at hl 1 rfl) ?_
        refine lv_ineg K.1.1 K.1.2.1 dX2_findGreatest_57 ?_
        refine m_cV (n := 2) (As := [.int v2_13, .int (-r_3)]) (rest := []) K hP hS (MX5_add l G B _ 88 121 isR_88 v2_13 (-r_3) ) (Nat.lt_of_succ_lt isR_88.1) isR_88.2.1 rfl q_484 q_485 q_486 q_18 q_487 hv_X5_add ⟨Nat.le_of_ble_eq_true rfl, Nat.le_of_ble_eq_true rfl⟩ rfl hl.1 rfl (Nat.le_of_ble_eq_true rfl) dX2_findGreatest_58 ⟨Nat.zero_le _, Nat.zero_le _⟩ (fun H locs hP hS => ?_)
        refine W.eq (g2 := F0 m 61 ls []) rfl ?_
        refine lv_aload_n K.1.1 K.1.2.1 dX2_findGreatest_61 rfl (lv_at hl 4 rfl) ?_
        refine m_getr K hP (by decide) sh_81 rfl tuX2 11 (by decide) rfl q_235 dX2_findGreatest_62 ?_
        refine lv_iload_n K.1.1 K.1.2.1 dX2_findGreatest_65 rfl (lv_at hl 2 rfl) ?_
        refine lv_iload K.1.1 K.1.2.1 dX2_findGreatest_66 (lv_at hl 1 rfl) ?_
        refine lv_ineg K.1.1 K.1.2.1 dX2_findGreatest_68 ?_
        refine m_cV (n := 2) (As := [.int v3_13, .int (-r_3)]) (rest := []) K hP hS (MX5_add l G B _ 90 121 isR_90 v3_13 (-r_3) ) (Nat.lt_of_succ_lt isR_90.1) isR_90.2.1 rfl q_484 q_485 q_486 q_18 q_487 hv_X5_add ⟨Nat.le_of_ble_eq_true rfl, Nat.le_of_ble_eq_true rfl⟩ rfl hl.1 rfl (Nat.le_of_ble_eq_true rfl) dX2_findGreatest_69 ⟨Nat.zero_le _, Nat.zero_le _⟩ (fun H locs hP hS => ?_)
        refine W.eq (g2 := F0 m 72 ls []) rfl ?_
        refine lv_aload_n K.1.1 K.1.2.1 dX2_findGreatest_72 rfl (lv_at hl 4 rfl) ?_
        refine m_getr K hP (by decide) sh_81 rfl tuX2 10 (by decide) rfl q_234 dX2_findGreatest_73 ?_
        refine lv_iload_n K.1.1 K.1.2.1 dX2_findGreatest_76 rfl (lv_at hl 3 rfl) ?_
        refine m_cV (n := 1) (As := [.int v2_13]) (rest := []) K hP hS (MX5_get l G B _ 88 121 isR_88 v2_13 ) (Nat.lt_of_succ_lt isR_88.1) isR_88.2.1 rfl q_459 q_460 q_461 q_18 q_462 hv_X5_get ⟨Nat.le_of_ble_eq_true rfl, Nat.le_of_ble_eq_true rfl⟩ rfl hl.1 rfl (Nat.le_of_ble_eq_true rfl) dX2_findGreatest_77 ⟨Nat.zero_le _, Nat.zero_le _⟩ (fun H locs hP hS => ?_)
        refine lv_topi (fun r_5 er_5 => ?_)
        refine lv_if_ne (tgt := 89) K.1.1 K.1.2.1 dX2_findGreatest_80 (by decide) (fun c_80 => ?_) (fun c_80 => ?_)
        · obtain ⟨x_6, ex_6⟩ : ∃ y : Int32, y = v3_13 + (1) := ⟨_, rfl⟩
          refine lv_iinc (v := x_6) (lv' := [(3, .int x_6), (4, .int x_4), (5, .int r_3), (2, .int v2_13), (0, .ref (B + 81)), (1, .ref (B + a))]) K.1.1 K.1.2.1 dX2_findGreatest_89 hl (k := 2) rfl (by rw [ex_6]; rfl) (by decide) rfl (fun ls hl => ?_)
          refine lv_goto (tgt := 13) K.1.1 K.1.2.1 dX2_findGreatest_92 (by decide) ?_
          exact ih_13 _ _ _ _ _ _ _ (by have hlt : y < x := nI_lt_of (by omega) (by omega) (by rw [← ex, ← ey]; first | exact Int32.not_le.mp c_15 | exact c_15); first | exact ⟨x - 1, y, by subst er_1 er_2 er_3 ex_4 er_5 ex_6; rw [ex, show x = x - 1 + 1 by omega, nI_m1, nI_pred, Nat.add_sub_cancel], ey, by omega, by omega, by omega⟩ | exact ⟨x, y + 1, ex, by subst er_1 er_2 er_3 ex_4 er_5 ex_6; rw [ey]; exact nI_1 _, by omega, by omega, by omega⟩) (by subst er_1 er_2 er_3 ex_4 er_5 ex_6; rw [fin0_13]; first | (simp only [FG, c_15, Int32.not_le.mp c_15, c_80, if_true, if_false, nI_m1s]; done) | simp [FG, nI_m1s, c_15, Int32.not_le.mp c_15, c_80]) hP hS (lv_sub hl [1, 0, 3, 4, 5] rfl)
        · obtain ⟨x_7, ex_7⟩ : ∃ y : Int32, y = v2_13 + (-1) := ⟨_, rfl⟩
          refine lv_iinc (v := x_7) (lv' := [(2, .int x_7), (4, .int x_4), (5, .int r_3), (3, .int v3_13), (0, .ref (B + 81)), (1, .ref (B + a))]) K.1.1 K.1.2.1 dX2_findGreatest_83 hl (k := 3) rfl (by rw [ex_7]; rfl) (by decide) rfl (fun ls hl => ?_)
          refine lv_goto (tgt := 92) K.1.1 K.1.2.1 dX2_findGreatest_86 (by decide) ?_
          refine lv_goto (tgt := 13) K.1.1 K.1.2.1 dX2_findGreatest_92 (by decide) ?_
          exact ih_13 _ _ _ _ _ _ _ (by have hlt : y < x := nI_lt_of (by omega) (by omega) (by rw [← ex, ← ey]; first | exact Int32.not_le.mp c_15 | exact c_15); first | exact ⟨x - 1, y, by subst er_1 er_2 er_3 ex_4 er_5 ex_7; rw [ex, show x = x - 1 + 1 by omega, nI_m1, nI_pred, Nat.add_sub_cancel], ey, by omega, by omega, by omega⟩ | exact ⟨x, y + 1, ex, by subst er_1 er_2 er_3 ex_4 er_5 ex_7; rw [ey]; exact nI_1 _, by omega, by omega, by omega⟩) (by subst er_1 er_2 er_3 ex_4 er_5 ex_7; rw [fin0_13]; first | (simp only [FG, c_15, Int32.not_le.mp c_15, c_80, if_true, if_false, nI_m1s]; done) | simp [FG, nI_m1s, c_15, Int32.not_le.mp c_15, c_80]) hP hS (lv_sub hl [1, 3, 0, 4, 5] rfl)
  exact lp_13 (98) _ _ _ _ _ _ _ (by exact ⟨99, 1, rfl, rfl, by omega, by omega, by omega⟩) (by first | rfl | (skip; rfl)) hP hS (lv_sub hl [0, 1, 2, 3, 4] rfl)

set_option maxHeartbeats 4000000 in
set_option maxRecDepth 100000 in
theorem MX2_hundredthsOf (l : Launch) (G : GG) (B : Nat) (μ : Mm) (g : Int32) : CM l yX2_hundredthsOf (.code yX2_hundredthsOf cX2_hundredthsOf 2 (Option.some FieldType.int)) 0 0 G B [.ref (B + 81), .int g] μ (some (.int (C_hundredths μ g))) μ := by
  refine CM.of (by decide) (Nat.le_of_ble_eq_true rfl) ?_
  intro p e s m below meth c ls K hr hlocks hP hl
  have hS : va_S (AA B) s.heap s.heap [] := va_S.rf
  have hl : lv_has ls 2 [(0, .ref (B + 81)), (1, .int g)] := hl
  refine lv_aload_n K.1.1 K.1.2.1 dX2_hundredthsOf_0 rfl (lv_at hl 0 rfl) ?_
  refine m_geti K hP (by decide) sh_81 rfl tuX2 4 (by decide) rfl q_225 dX2_hundredthsOf_1 ?_
  refine lv_topi (fun g_1 eg_1 => ?_)
  refine lv_if_ge (tgt := 9) K.1.1 K.1.2.1 dX2_hundredthsOf_4 (by decide) (fun c_4 => ?_) (fun c_4 => ?_)
  · refine lv_iload_n K.1.1 K.1.2.1 dX2_hundredthsOf_9 rfl (lv_at hl 1 rfl) ?_
    refine lv_if_le (tgt := 25) K.1.1 K.1.2.1 dX2_hundredthsOf_10 (by decide) (fun c_10 => ?_) (fun c_10 => ?_)
    · refine lv_bipush (v := 100) K.1.1 K.1.2.1 dX2_hundredthsOf_25 (by decide) ?_
      exact m_iret K hr hlocks hP hS dX2_hundredthsOf_27 (by subst eg_1; first | (simp only [C_hundredths, c_4, Int32.not_lt.mpr c_4, c_10, Int32.not_lt.mpr c_10, if_true, if_false, ite_true, ite_false, reduceIte, not_true, not_false_iff]; done) | simp [C_hundredths, c_4, Int32.not_lt.mpr c_4, c_10, Int32.not_lt.mpr c_10]) rfl
    · refine lv_aload_n K.1.1 K.1.2.1 dX2_hundredthsOf_13 rfl (lv_at hl 0 rfl) ?_
      refine m_geti K hP (by decide) sh_81 rfl tuX2 4 (by decide) rfl q_225 dX2_hundredthsOf_14 ?_
      refine lv_topi (fun g_2 eg_2 => ?_)
      refine lv_bipush (v := 100) K.1.1 K.1.2.1 dX2_hundredthsOf_17 (by decide) ?_
      refine lv_imul K.1.1 K.1.2.1 dX2_hundredthsOf_19 ?_
      refine lv_iload_n K.1.1 K.1.2.1 dX2_hundredthsOf_20 rfl (lv_at hl 1 rfl) ?_
      refine lv_idiv K.1.1 K.1.2.1 dX2_hundredthsOf_21 (by rintro rfl; exact c_10 (Int32.le_refl _)) ?_
      refine lv_goto (tgt := 27) K.1.1 K.1.2.1 dX2_hundredthsOf_22 (by decide) ?_
      exact m_iret K hr hlocks hP hS dX2_hundredthsOf_27 (by subst eg_1 eg_2; first | (simp only [C_hundredths, c_4, Int32.not_lt.mpr c_4, c_10, Int32.not_le.mp c_10, if_true, if_false, ite_true, ite_false, reduceIte, not_true, not_false_iff]; done) | simp [C_hundredths, c_4, Int32.not_lt.mpr c_4, c_10, Int32.not_le.mp c_10]) rfl
  · refine lv_iconst (v := 0) K.1.1 K.1.2.1 dX2_hundredthsOf_7 (by decide) ?_
    exact m_iret K hr hlocks hP hS dX2_hundredthsOf_8 (by subst eg_1; first | (simp only [C_hundredths, c_4, Int32.not_le.mp c_4, if_true, if_false, ite_true, ite_false, reduceIte, not_true, not_false_iff]; done) | simp [C_hundredths, c_4, Int32.not_le.mp c_4]) rfl

set_option maxHeartbeats 4000000 in
set_option maxRecDepth 100000 in
theorem MX2_valueOf (l : Launch) (G : GG) (B : Nat) (μ : Mm) (a : Nat) (ha : isA a) (w : Int32) : CM l yX2_valueOf (.code yX2_valueOf cX2_valueOf 3 (Option.some FieldType.int)) 3 71 G B [.ref (B + 81), .ref (B + a), .int w] μ (some (.int (C_valueOf μ a w))) (C_valueM μ a w) := by
  refine CM.of (by decide) (Nat.le_of_ble_eq_true rfl) ?_
  intro p e s m below meth c ls K hr hlocks hP hl
  have hS : va_S (AA B) s.heap s.heap [] := va_S.rf
  have hl : lv_has ls 3 [(0, .ref (B + 81)), (1, .ref (B + a)), (2, .int w)] := hl
  refine lv_iload_n K.1.1 K.1.2.1 dX2_valueOf_0 rfl (lv_at hl 2 rfl) ?_
  by_cases w_1 : w = 0
  · refine lv_tableIn (off := 39) (tgt := 40) K.1.1 K.1.2.1 dX2_valueOf_1 (by rw [w_1]; decide) (by rw [w_1]; decide) (by rw [w_1]; rfl) (by decide) ?_
    refine lv_aload_n K.1.1 K.1.2.1 dX2_valueOf_40 rfl (lv_at hl 0 rfl) ?_
    refine m_geti K hP (by decide) sh_81 rfl tuX2 0 (by decide) rfl q_217 dX2_valueOf_41 ?_
    refine lv_topi (fun g_2 eg_2 => ?_)
    exact m_iret K hr hlocks hP hS dX2_valueOf_44 (by subst eg_2; first | (simp only [C_valueOf, C_valueM, w_1, if_true, if_false, ite_true, ite_false, reduceIte, not_true, not_false_iff]; done) | simp [C_valueOf, C_valueM, w_1]) (by subst eg_2; first | (simp only [C_valueOf, C_valueM, w_1, if_true, if_false, ite_true, ite_false, reduceIte, not_true, not_false_iff]; done) | simp [C_valueOf, C_valueM, w_1])
  by_cases w_3 : w = 1
  · refine lv_tableIn (off := 44) (tgt := 45) K.1.1 K.1.2.1 dX2_valueOf_1 (by rw [w_3]; decide) (by rw [w_3]; decide) (by rw [w_3]; rfl) (by decide) ?_
    refine lv_aload_n K.1.1 K.1.2.1 dX2_valueOf_45 rfl (lv_at hl 0 rfl) ?_
    refine m_geti K hP (by decide) sh_81 rfl tuX2 1 (by decide) rfl q_218 dX2_valueOf_46 ?_
    refine lv_topi (fun g_4 eg_4 => ?_)
    exact m_iret K hr hlocks hP hS dX2_valueOf_49 (by subst eg_4; first | (simp only [C_valueOf, C_valueM, w_1, w_3, if_true, if_false, ite_true, ite_false, reduceIte, not_true, not_false_iff]; done) | simp [C_valueOf, C_valueM, w_1, w_3]) (by subst eg_4; first | (simp only [C_valueOf, C_valueM, w_1, w_3, if_true, if_false, ite_true, ite_false, reduceIte, not_true, not_false_iff]; done) | simp [C_valueOf, C_valueM, w_1, w_3])
  by_cases w_5 : w = 2
  · refine lv_tableIn (off := 49) (tgt := 50) K.1.1 K.1.2.1 dX2_valueOf_1 (by rw [w_5]; decide) (by rw [w_5]; decide) (by rw [w_5]; rfl) (by decide) ?_
    refine lv_aload_n K.1.1 K.1.2.1 dX2_valueOf_50 rfl (lv_at hl 0 rfl) ?_
    refine m_geti K hP (by decide) sh_81 rfl tuX2 2 (by decide) rfl q_219 dX2_valueOf_51 ?_
    refine lv_topi (fun g_6 eg_6 => ?_)
    exact m_iret K hr hlocks hP hS dX2_valueOf_54 (by subst eg_6; first | (simp only [C_valueOf, C_valueM, w_1, w_3, w_5, if_true, if_false, ite_true, ite_false, reduceIte, not_true, not_false_iff]; done) | simp [C_valueOf, C_valueM, w_1, w_3, w_5]) (by subst eg_6; first | (simp only [C_valueOf, C_valueM, w_1, w_3, w_5, if_true, if_false, ite_true, ite_false, reduceIte, not_true, not_false_iff]; done) | simp [C_valueOf, C_valueM, w_1, w_3, w_5])
  by_cases w_7 : w = 3
  · refine lv_tableIn (off := 54) (tgt := 55) K.1.1 K.1.2.1 dX2_valueOf_1 (by rw [w_7]; decide) (by rw [w_7]; decide) (by rw [w_7]; rfl) (by decide) ?_
    refine lv_aload_n K.1.1 K.1.2.1 dX2_valueOf_55 rfl (lv_at hl 0 rfl) ?_
    refine m_geti K hP (by decide) sh_81 rfl tuX2 3 (by decide) rfl q_222 dX2_valueOf_56 ?_
    refine lv_topi (fun g_8 eg_8 => ?_)
    exact m_iret K hr hlocks hP hS dX2_valueOf_59 (by subst eg_8; first | (simp only [C_valueOf, C_valueM, w_1, w_3, w_5, w_7, if_true, if_false, ite_true, ite_false, reduceIte, not_true, not_false_iff]; done) | simp [C_valueOf, C_valueM, w_1, w_3, w_5, w_7]) (by subst eg_8; first | (simp only [C_valueOf, C_valueM, w_1, w_3, w_5, w_7, if_true, if_false, ite_true, ite_false, reduceIte, not_true, not_false_iff]; done) | simp [C_valueOf, C_valueM, w_1, w_3, w_5, w_7])
  by_cases w_9 : w = 4
  · refine lv_tableIn (off := 59) (tgt := 60) K.1.1 K.1.2.1 dX2_valueOf_1 (by rw [w_9]; decide) (by rw [w_9]; decide) (by rw [w_9]; rfl) (by decide) ?_
    refine lv_aload_n K.1.1 K.1.2.1 dX2_valueOf_60 rfl (lv_at hl 0 rfl) ?_
    refine m_geti K hP (by decide) sh_81 rfl tuX2 4 (by decide) rfl q_225 dX2_valueOf_61 ?_
    refine lv_topi (fun g_10 eg_10 => ?_)
    exact m_iret K hr hlocks hP hS dX2_valueOf_64 (by subst eg_10; first | (simp only [C_valueOf, C_valueM, w_1, w_3, w_5, w_7, w_9, if_true, if_false, ite_true, ite_false, reduceIte, not_true, not_false_iff]; done) | simp [C_valueOf, C_valueM, w_1, w_3, w_5, w_7, w_9]) (by subst eg_10; first | (simp only [C_valueOf, C_valueM, w_1, w_3, w_5, w_7, w_9, if_true, if_false, ite_true, ite_false, reduceIte, not_true, not_false_iff]; done) | simp [C_valueOf, C_valueM, w_1, w_3, w_5, w_7, w_9])
  by_cases w_11 : w = 5
  · refine lv_tableIn (off := 64) (tgt := 65) K.1.1 K.1.2.1 dX2_valueOf_1 (by rw [w_11]; decide) (by rw [w_11]; decide) (by rw [w_11]; rfl) (by decide) ?_
    refine lv_aload_n K.1.1 K.1.2.1 dX2_valueOf_65 rfl (lv_at hl 0 rfl) ?_
    refine lv_aload_n K.1.1 K.1.2.1 dX2_valueOf_66 rfl (lv_at hl 1 rfl) ?_
    refine m_cV (n := 1) (As := [.ref (B + a)]) (rest := []) K hP hS (MX2_findGreatest l G B _ a ha ) (by decide) sh_81 rfl q_507 q_509 q_6 q_21 q_510 hv_X2_findGreatest ⟨Nat.le_of_ble_eq_true rfl, Nat.le_of_ble_eq_true rfl⟩ rfl hl.1 rfl (Nat.le_of_ble_eq_true rfl) dX2_valueOf_67 ⟨Nat.zero_le _, Nat.zero_le _⟩ (fun H locs hP hS => ?_)
    refine lv_topi (fun r_12 er_12 => ?_)
    exact m_iret K hr hlocks hP hS dX2_valueOf_70 (by subst er_12; first | (simp only [C_valueOf, C_valueM, w_1, w_3, w_5, w_7, w_9, w_11, if_true, if_false, ite_true, ite_false, reduceIte, not_true, not_false_iff]; done) | simp [C_valueOf, C_valueM, w_1, w_3, w_5, w_7, w_9, w_11]) (by subst er_12; first | (simp only [C_valueOf, C_valueM, w_1, w_3, w_5, w_7, w_9, w_11, if_true, if_false, ite_true, ite_false, reduceIte, not_true, not_false_iff]; done) | simp [C_valueOf, C_valueM, w_1, w_3, w_5, w_7, w_9, w_11])
  refine lv_tableOut (tgt := 71) K.1.1 K.1.2.1 dX2_valueOf_1 (sw_out_0_5 w_1 w_3 w_5 w_7 w_9 w_11) (by decide) ?_
  refine lv_aload_n K.1.1 K.1.2.1 dX2_valueOf_71 rfl (lv_at hl 0 rfl) ?_
  refine lv_aload_n K.1.1 K.1.2.1 dX2_valueOf_72 rfl (lv_at hl 0 rfl) ?_
  refine lv_aload_n K.1.1 K.1.2.1 dX2_valueOf_73 rfl (lv_at hl 1 rfl) ?_
  refine m_cV (n := 1) (As := [.ref (B + a)]) (rest := [.ref (B + 81)]) K hP hS (MX2_findGreatest l G B _ a ha ) (by decide) sh_81 rfl q_507 q_509 q_6 q_21 q_510 hv_X2_findGreatest ⟨Nat.le_of_ble_eq_true rfl, Nat.le_of_ble_eq_true rfl⟩ rfl hl.1 rfl (Nat.le_of_ble_eq_true rfl) dX2_valueOf_74 ⟨Nat.zero_le _, Nat.zero_le _⟩ (fun H locs hP hS => ?_)
  refine lv_topi (fun r_13 er_13 => ?_)
  refine m_cV (n := 1) (As := [.int r_13]) (rest := []) K hP hS (MX2_hundredthsOf l G B _ r_13 ) (by decide) sh_81 rfl q_515 q_517 q_8 q_21 q_518 hv_X2_hundredthsOf ⟨Nat.le_of_ble_eq_true rfl, Nat.le_of_ble_eq_true rfl⟩ rfl hl.1 rfl (Nat.le_of_ble_eq_true rfl) dX2_valueOf_77 ⟨Nat.zero_le _, Nat.zero_le _⟩ (fun H locs hP hS => ?_)
  refine lv_topi (fun r_14 er_14 => ?_)
  exact m_iret K hr hlocks hP hS dX2_valueOf_80 (by subst er_13 er_14; first | (simp only [C_valueOf, C_valueM, w_1, w_3, w_5, w_7, w_9, w_11, if_true, if_false, ite_true, ite_false, reduceIte, not_true, not_false_iff]; done) | simp [C_valueOf, C_valueM, w_1, w_3, w_5, w_7, w_9, w_11]) (by subst er_13 er_14; first | (simp only [C_valueOf, C_valueM, w_1, w_3, w_5, w_7, w_9, w_11, if_true, if_false, ite_true, ite_false, reduceIte, not_true, not_false_iff]; done) | simp [C_valueOf, C_valueM, w_1, w_3, w_5, w_7, w_9, w_11])

set_option maxHeartbeats 4000000 in
set_option maxRecDepth 100000 in
theorem MX2_reasonOf (l : Launch) (G : GG) (B : Nat) (μ : Mm) (b : Nat) (hb : isO b) (i : Int32) : CM l yX2_reasonOf (.code yX2_reasonOf cX2_reasonOf 3 (Option.some FieldType.int)) 2 43 G B [.ref (B + 81), .ref (B + b), .int i] μ (some (.int (C_reasonOf μ b i))) μ := by
  refine CM.of (by decide) (Nat.le_of_ble_eq_true rfl) ?_
  intro p e s m below meth c ls K hr hlocks hP hl
  have hS : va_S (AA B) s.heap s.heap [] := va_S.rf
  have hl : lv_has ls 3 [(0, .ref (B + 81)), (1, .ref (B + b)), (2, .int i)] := hl
  refine lv_aload_n K.1.1 K.1.2.1 dX2_reasonOf_0 rfl (lv_at hl 0 rfl) ?_
  refine m_getr K hP (by decide) sh_81 rfl tuX2 5 (by decide) rfl q_227 dX2_reasonOf_1 ?_
  refine lv_iload_n K.1.1 K.1.2.1 dX2_reasonOf_4 rfl (lv_at hl 2 rfl) ?_
  refine m_cV (n := 1) (As := [.int i]) (rest := []) K hP hS (MX5_get l G B _ 82 20 isR_82 i ) (Nat.lt_of_succ_lt isR_82.1) isR_82.2.1 rfl q_459 q_460 q_461 q_18 q_462 hv_X5_get ⟨Nat.le_of_ble_eq_true rfl, Nat.le_of_ble_eq_true rfl⟩ rfl hl.1 rfl (Nat.le_of_ble_eq_true rfl) dX2_reasonOf_5 ⟨Nat.zero_le _, Nat.zero_le _⟩ (fun H locs hP hS => ?_)
  refine lv_topi (fun r_1 er_1 => ?_)
  refine lv_aload_n K.1.1 K.1.2.1 dX2_reasonOf_8 rfl (lv_at hl 1 rfl) ?_
  refine m_getr K hP hb.1 hb.2.1 rfl tuX4 5 (by decide) rfl q_121 dX2_reasonOf_9 ?_
  refine lv_iload_n K.1.1 K.1.2.1 dX2_reasonOf_12 rfl (lv_at hl 2 rfl) ?_
  refine m_cV (n := 1) (As := [.int i]) (rest := [.int r_1]) K hP hS (MX5_get l G B _ (b + 9) 20 hb.2.2.2.2.2.2.1 i ) (Nat.lt_of_succ_lt hb.2.2.2.2.2.2.1.1) hb.2.2.2.2.2.2.1.2.1 rfl q_459 q_460 q_461 q_18 q_462 hv_X5_get ⟨Nat.le_of_ble_eq_true rfl, Nat.le_of_ble_eq_true rfl⟩ rfl hl.1 rfl (Nat.le_of_ble_eq_true rfl) dX2_reasonOf_13 ⟨Nat.zero_le _, Nat.zero_le _⟩ (fun H locs hP hS => ?_)
  refine lv_topi (fun r_2 er_2 => ?_)
  refine lv_icmp_ne (tgt := 21) K.1.1 K.1.2.1 dX2_reasonOf_16 (by decide) (fun c_16 => ?_) (fun c_16 => ?_)
  · refine lv_aload_n K.1.1 K.1.2.1 dX2_reasonOf_21 rfl (lv_at hl 0 rfl) ?_
    refine m_geti K hP (by decide) sh_81 rfl tuX2 3 (by decide) rfl q_222 dX2_reasonOf_22 ?_
    refine lv_topi (fun g_3 eg_3 => ?_)
    refine lv_if_ne (tgt := 30) K.1.1 K.1.2.1 dX2_reasonOf_25 (by decide) (fun c_25 => ?_) (fun c_25 => ?_)
    · refine lv_aload_n K.1.1 K.1.2.1 dX2_reasonOf_30 rfl (lv_at hl 1 rfl) ?_
      refine lv_iload_n K.1.1 K.1.2.1 dX2_reasonOf_31 rfl (lv_at hl 2 rfl) ?_
      refine lv_aload_n K.1.1 K.1.2.1 dX2_reasonOf_32 rfl (lv_at hl 0 rfl) ?_
      refine m_geti K hP (by decide) sh_81 rfl tuX2 2 (by decide) rfl q_219 dX2_reasonOf_33 ?_
      refine lv_topi (fun g_4 eg_4 => ?_)
      refine m_cV (n := 2) (As := [.int i, .int g_4]) (rest := []) K hP hS (MX4_accepts l G B _ b hb i g_4 ) hb.1 hb.2.1 rfl q_850 q_851 q_852 q_19 q_853 hv_X4_accepts ⟨Nat.le_of_ble_eq_true rfl, Nat.le_of_ble_eq_true rfl⟩ rfl hl.1 rfl (Nat.le_of_ble_eq_true rfl) dX2_reasonOf_36 ⟨Nat.zero_le _, Nat.zero_le _⟩ (fun H locs hP hS => ?_)
      refine lv_topi (fun r_5 er_5 => ?_)
      refine lv_if_eq (tgt := 46) K.1.1 K.1.2.1 dX2_reasonOf_39 (by decide) (fun c_39 => ?_) (fun c_39 => ?_)
      · refine lv_iconst (v := 2) K.1.1 K.1.2.1 dX2_reasonOf_46 (by decide) ?_
        exact m_iret K hr hlocks hP hS dX2_reasonOf_47 (by subst er_1 er_2 eg_3 eg_4 er_5; first | (simp only [C_reasonOf, c_16, c_25, c_39, if_true, if_false, ite_true, ite_false, reduceIte, not_true, not_false_iff]; done) | simp [C_reasonOf, c_16, c_25, c_39]) rfl
      · refine lv_iconst (v := 3) K.1.1 K.1.2.1 dX2_reasonOf_42 (by decide) ?_
        refine lv_goto (tgt := 47) K.1.1 K.1.2.1 dX2_reasonOf_43 (by decide) ?_
        exact m_iret K hr hlocks hP hS dX2_reasonOf_47 (by subst er_1 er_2 eg_3 eg_4 er_5; first | (simp only [C_reasonOf, c_16, c_25, c_39, if_true, if_false, ite_true, ite_false, reduceIte, not_true, not_false_iff]; done) | simp [C_reasonOf, c_16, c_25, c_39]) rfl
    · refine lv_iconst (v := 1) K.1.1 K.1.2.1 dX2_reasonOf_28 (by decide) ?_
      exact m_iret K hr hlocks hP hS dX2_reasonOf_29 (by subst er_1 er_2 eg_3; first | (simp only [C_reasonOf, c_16, c_25, if_true, if_false, ite_true, ite_false, reduceIte, not_true, not_false_iff]; done) | simp [C_reasonOf, c_16, c_25]) rfl
  · refine lv_iconst (v := 0) K.1.1 K.1.2.1 dX2_reasonOf_19 (by decide) ?_
    exact m_iret K hr hlocks hP hS dX2_reasonOf_20 (by subst er_1 er_2; first | (simp only [C_reasonOf, c_16, if_true, if_false, ite_true, ite_false, reduceIte, not_true, not_false_iff]; done) | simp [C_reasonOf, c_16]) rfl

set_option maxHeartbeats 4000000 in
set_option maxRecDepth 100000 in
theorem MX2_takenOf (l : Launch) (G : GG) (B : Nat) (μ : Mm) (b : Nat) (hb : isO b) (t : Int32) : CM l yX2_takenOf (.code yX2_takenOf cX2_takenOf 5 (Option.some FieldType.int)) 1 21 G B [.ref (B + 81), .ref (B + b), .int t] μ (some (.int (C_takenOf μ b t))) μ := by
  refine CM.of (by decide) (Nat.le_of_ble_eq_true rfl) ?_
  intro p e s m below meth c ls K hr hlocks hP hl
  have hS : va_S (AA B) s.heap s.heap [] := va_S.rf
  have hl : lv_has ls 5 [(0, .ref (B + 81)), (1, .ref (B + b)), (2, .int t)] := hl
  refine lv_iconst (v := 0) K.1.1 K.1.2.1 dX2_takenOf_0 (by decide) ?_
  refine lv_istore_n (lv' := [(3, .int 0), (0, .ref (B + 81)), (1, .ref (B + b)), (2, .int t)]) K.1.1 K.1.2.1 dX2_takenOf_1 rfl hl (by decide) rfl (fun ls hl => ?_)
  refine lv_iconst (v := 0) K.1.1 K.1.2.1 dX2_takenOf_2 (by decide) ?_
  refine lv_istore (lv' := [(4, .int 0), (3, .int 0), (0, .ref (B + 81)), (1, .ref (B + b)), (2, .int t)]) K.1.1 K.1.2.1 dX2_takenOf_3 hl (by decide) rfl (fun ls hl => ?_)
  refine up_to (N := cn (μ b 0)) (P := fun k : Nat => ∀ (v4_5 : Int32) (v3_5 : Int32) (H : Heap) (locs : List Loc) (ls : Array Slot), (v4_5 = nI k) → (v3_5 = sumI (fun k => if R_get μ (b + 3) 20 (nI k) = t then R_get μ 82 20 (nI k) else 0) k) → MP G B μ H → va_S (AA B) s.heap H locs → lv_has ls 5 [(4, .int v4_5), (3, .int v3_5), (0, .ref (B + 81)), (1, .ref (B + b)), (2, .int t)] → W p l e ({ frames := 1, cells := 0, slots := 0, locals := 21 } : Room) s m ([.ref (B + 81), .ref (B + b), .int t] : List Value).toArray below meth c H locs 0 0 (MF below G B (some (.int (C_takenOf μ b t))) μ ([.ref (B + 81), .ref (B + b), .int t] : List Value).toArray s) (F0 m 5 ls [])) ?_ ?_ _ _ _ _ _ (by first | rfl | (skip; rfl)) (by first | rfl | (skip; rfl)) hP hS (lv_sub hl [0, 1, 2, 3, 4] rfl)
  · intro v4_5 v3_5 H locs ls ev4_5 ev3_5 hP hS hl
    refine lv_iload K.1.1 K.1.2.1 dX2_takenOf_5 (lv_at hl 0 rfl) ?_
    refine lv_aload_n K.1.1 K.1.2.1 dX2_takenOf_7 rfl (lv_at hl 3 rfl) ?_
    refine m_geti K hP hb.1 hb.2.1 rfl tuX4 0 (by decide) rfl q_107 dX2_takenOf_8 ?_
    refine lv_topi (fun g_1 eg_1 => ?_)
    refine lv_icmp_ge (tgt := 45) K.1.1 K.1.2.1 dX2_takenOf_11 (by decide) (fun c_11 => ?_) (fun c_11 => ?_)
    · refine lv_iload_n K.1.1 K.1.2.1 dX2_takenOf_45 rfl (lv_at hl 1 rfl) ?_
      exact m_iret K hr hlocks hP hS dX2_takenOf_46 (by subst ev4_5 ev3_5 eg_1; rfl) rfl
    · exact absurd c_11 (not_not_intro (by subst ev4_5 ev3_5 eg_1; exact cn_out _))
  · intro k hk ih_5 v4_5 v3_5 H locs ls ev4_5 ev3_5 hP hS hl
    refine lv_iload K.1.1 K.1.2.1 dX2_takenOf_5 (lv_at hl 0 rfl) ?_
    refine lv_aload_n K.1.1 K.1.2.1 dX2_takenOf_7 rfl (lv_at hl 3 rfl) ?_
    refine m_geti K hP hb.1 hb.2.1 rfl tuX4 0 (by decide) rfl q_107 dX2_takenOf_8 ?_
    refine lv_topi (fun g_2 eg_2 => ?_)
    refine lv_icmp_ge (tgt := 45) K.1.1 K.1.2.1 dX2_takenOf_11 (by decide) (fun c_11 => ?_) (fun c_11 => ?_)
    · exact absurd c_11 (by subst ev4_5 ev3_5 eg_2; exact cn_in hk)
    · refine lv_aload_n K.1.1 K.1.2.1 dX2_takenOf_14 rfl (lv_at hl 3 rfl) ?_
      refine m_getr K hP hb.1 hb.2.1 rfl tuX4 2 (by decide) rfl q_115 dX2_takenOf_15 ?_
      refine lv_iload K.1.1 K.1.2.1 dX2_takenOf_18 (lv_at hl 0 rfl) ?_
      refine m_cV (n := 1) (As := [.int v4_5]) (rest := []) K hP hS (MX5_get l G B _ (b + 3) 20 hb.2.2.2.1 v4_5 ) (Nat.lt_of_succ_lt hb.2.2.2.1.1) hb.2.2.2.1.2.1 rfl q_459 q_460 q_461 q_18 q_462 hv_X5_get ⟨Nat.le_of_ble_eq_true rfl, Nat.le_of_ble_eq_true rfl⟩ rfl hl.1 rfl (Nat.le_of_ble_eq_true rfl) dX2_takenOf_20 ⟨Nat.zero_le _, Nat.zero_le _⟩ (fun H locs hP hS => ?_)
      refine lv_topi (fun r_3 er_3 => ?_)
      refine lv_iload_n K.1.1 K.1.2.1 dX2_takenOf_23 rfl (lv_at hl 4 rfl) ?_
      refine lv_icmp_ne (tgt := 39) K.1.1 K.1.2.1 dX2_takenOf_24 (by decide) (fun c_24 => ?_) (fun c_24 => ?_)
      · obtain ⟨x_4, ex_4⟩ : ∃ y : Int32, y = v4_5 + (1) := ⟨_, rfl⟩
        refine lv_iinc (v := x_4) (lv' := [(4, .int x_4), (3, .int v3_5), (0, .ref (B + 81)), (1, .ref (B + b)), (2, .int t)]) K.1.1 K.1.2.1 dX2_takenOf_39 hl (k := 0) rfl (by rw [ex_4]; rfl) (by decide) rfl (fun ls hl => ?_)
        refine lv_goto (tgt := 5) K.1.1 K.1.2.1 dX2_takenOf_42 (by decide) ?_
        exact ih_5 _ _ _ _ _ (by subst ev4_5 ev3_5 eg_2 er_3 ex_4; exact nI_1 _) (by subst ev4_5 ev3_5 eg_2 er_3 ex_4; simp [sumI, c_11, Int32.not_le.mp c_11, c_24]) hP hS (lv_sub hl [0, 1, 2, 3, 4] rfl)
      · refine lv_iload_n K.1.1 K.1.2.1 dX2_takenOf_27 rfl (lv_at hl 1 rfl) ?_
        refine lv_aload_n K.1.1 K.1.2.1 dX2_takenOf_28 rfl (lv_at hl 2 rfl) ?_
        refine m_getr K hP (by decide) sh_81 rfl tuX2 5 (by decide) rfl q_227 dX2_takenOf_29 ?_
        refine lv_iload K.1.1 K.1.2.1 dX2_takenOf_32 (lv_at hl 0 rfl) ?_
        refine m_cV (n := 1) (As := [.int v4_5]) (rest := [.int v3_5]) K hP hS (MX5_get l G B _ 82 20 isR_82 v4_5 ) (Nat.lt_of_succ_lt isR_82.1) isR_82.2.1 rfl q_459 q_460 q_461 q_18 q_462 hv_X5_get ⟨Nat.le_of_ble_eq_true rfl, Nat.le_of_ble_eq_true rfl⟩ rfl hl.1 rfl (Nat.le_of_ble_eq_true rfl) dX2_takenOf_34 ⟨Nat.zero_le _, Nat.zero_le _⟩ (fun H locs hP hS => ?_)
        refine lv_topi (fun r_5 er_5 => ?_)
        refine lv_iadd K.1.1 K.1.2.1 dX2_takenOf_37 ?_
        refine lv_topi (fun x_6 ex_6 => ?_)
        refine lv_istore_n (lv' := [(3, .int x_6), (4, .int v4_5), (0, .ref (B + 81)), (1, .ref (B + b)), (2, .int t)]) K.1.1 K.1.2.1 dX2_takenOf_38 rfl hl (by decide) rfl (fun ls hl => ?_)
        obtain ⟨x_7, ex_7⟩ : ∃ y : Int32, y = v4_5 + (1) := ⟨_, rfl⟩
        refine lv_iinc (v := x_7) (lv' := [(4, .int x_7), (3, .int x_6), (0, .ref (B + 81)), (1, .ref (B + b)), (2, .int t)]) K.1.1 K.1.2.1 dX2_takenOf_39 hl (k := 1) rfl (by rw [ex_7]; rfl) (by decide) rfl (fun ls hl => ?_)
        refine lv_goto (tgt := 5) K.1.1 K.1.2.1 dX2_takenOf_42 (by decide) ?_
        exact ih_5 _ _ _ _ _ (by subst ev4_5 ev3_5 eg_2 er_3 er_5 ex_6 ex_7; exact nI_1 _) (by subst ev4_5 ev3_5 eg_2 er_3 er_5 ex_6 ex_7; simp [sumI, c_11, Int32.not_le.mp c_11, c_24]) hP hS (lv_sub hl [0, 1, 2, 3, 4] rfl)

set_option maxHeartbeats 4000000 in
set_option maxRecDepth 100000 in
theorem MX2_gainOf (l : Launch) (G : GG) (B : Nat) (μ : Mm) (a : Nat) (ha : isA a) (t : Int32) (pr : Int32) : CM l yX2_gainOf (.code yX2_gainOf cX2_gainOf 4 (Option.some FieldType.int)) 2 45 G B [.ref (B + 81), .ref (B + a), .int t, .int pr] μ (some (.int (C_gainOf μ a t pr))) μ := by
  refine CM.of (by decide) (Nat.le_of_ble_eq_true rfl) ?_
  intro p e s m below meth c ls K hr hlocks hP hl
  have hS : va_S (AA B) s.heap s.heap [] := va_S.rf
  have hl : lv_has ls 4 [(0, .ref (B + 81)), (1, .ref (B + a)), (2, .int t), (3, .int pr)] := hl
  refine lv_aload_n K.1.1 K.1.2.1 dX2_gainOf_0 rfl (lv_at hl 0 rfl) ?_
  refine lv_aload_n K.1.1 K.1.2.1 dX2_gainOf_1 rfl (lv_at hl 1 rfl) ?_
  refine m_getr K hP ha.1 ha.2.1 rfl tuX1 1 (by decide) rfl q_173 dX2_gainOf_2 ?_
  refine lv_iload_n K.1.1 K.1.2.1 dX2_gainOf_5 rfl (lv_at hl 2 rfl) ?_
  refine m_cV (n := 2) (As := [.ref (B + (a + 16)), .int t]) (rest := []) K hP hS (MX2_takenOf l G B _ (a + 16) ha.2.2.2.1 t ) (by decide) sh_81 rfl q_828 q_790 q_791 q_21 q_792 hv_X2_takenOf ⟨Nat.le_of_ble_eq_true rfl, Nat.le_of_ble_eq_true rfl⟩ rfl hl.1 rfl (Nat.le_of_ble_eq_true rfl) dX2_gainOf_6 ⟨Nat.zero_le _, Nat.zero_le _⟩ (fun H locs hP hS => ?_)
  refine lv_topi (fun r_1 er_1 => ?_)
  refine lv_aload_n K.1.1 K.1.2.1 dX2_gainOf_9 rfl (lv_at hl 1 rfl) ?_
  refine m_getr K hP ha.1 ha.2.1 rfl tuX1 0 (by decide) rfl q_171 dX2_gainOf_10 ?_
  refine lv_iload_n K.1.1 K.1.2.1 dX2_gainOf_13 rfl (lv_at hl 2 rfl) ?_
  refine lv_iload_n K.1.1 K.1.2.1 dX2_gainOf_14 rfl (lv_at hl 3 rfl) ?_
  refine m_cV (n := 2) (As := [.int t, .int pr]) (rest := [.int r_1]) K hP hS (MX6_gainPerUnit l G B _ (a + 1) ha.2.2.1 t pr ) ha.2.2.1.1 ha.2.2.1.2.1 rfl q_829 q_799 q_800 q_17 q_801 hv_X6_gainPerUnit ⟨Nat.le_of_ble_eq_true rfl, Nat.le_of_ble_eq_true rfl⟩ rfl hl.1 rfl (Nat.le_of_ble_eq_true rfl) dX2_gainOf_15 ⟨Nat.zero_le _, Nat.zero_le _⟩ (fun H locs hP hS => ?_)
  refine lv_topi (fun r_2 er_2 => ?_)
  refine lv_imul K.1.1 K.1.2.1 dX2_gainOf_18 ?_
  exact m_iret K hr hlocks hP hS dX2_gainOf_19 (by subst er_1 er_2; rfl) rfl

set_option maxHeartbeats 4000000 in
set_option maxRecDepth 100000 in
theorem MX2_pairOff (l : Launch) (G : GG) (B : Nat) (μ : Mm) (b : Nat) (hb : isO b) (t : Nat) (ht : isS t) : CM l yX2_pairOff (.code yX2_pairOff cX2_pairOff 10 Option.none) 2 46 G B [.ref (B + 81), .ref (B + b), .ref (B + t)] μ none (C_pairOff μ b t) := by
  refine CM.of (by decide) (Nat.le_of_ble_eq_true rfl) ?_
  intro p e s m below meth c ls K hr hlocks hP hl
  have hS : va_S (AA B) s.heap s.heap [] := va_S.rf
  have hl : lv_has ls 10 [(0, .ref (B + 81)), (1, .ref (B + b)), (2, .ref (B + t))] := hl
  refine lv_aload_n K.1.1 K.1.2.1 dX2_pairOff_0 rfl (lv_at hl 2 rfl) ?_
  refine lv_iconst (v := 0) K.1.1 K.1.2.1 dX2_pairOff_1 (by decide) ?_
  refine m_puti K hP hS ht.1 ht.2.1 rfl tuX7 tyX7 tyX7_ok nmX7 0 (by decide) rfl rfl (by decide +kernel) q_148 dX2_pairOff_2 (fun H locs hP hS => ?_)
  refine lv_iconst (v := 0) K.1.1 K.1.2.1 dX2_pairOff_5 (by decide) ?_
  refine lv_istore_n (lv' := [(3, .int 0), (0, .ref (B + 81)), (1, .ref (B + b)), (2, .ref (B + t))]) K.1.1 K.1.2.1 dX2_pairOff_6 rfl hl (by decide) rfl (fun ls hl => ?_)
  refine lv_iconst (v := 0) K.1.1 K.1.2.1 dX2_pairOff_7 (by decide) ?_
  refine lv_istore (lv' := [(4, .int 0), (3, .int 0), (0, .ref (B + 81)), (1, .ref (B + b)), (2, .ref (B + t))]) K.1.1 K.1.2.1 dX2_pairOff_8 hl (by decide) rfl (fun ls hl => ?_)
  refine lv_iconst (v := 0) K.1.1 K.1.2.1 dX2_pairOff_10 (by decide) ?_
  refine lv_istore (lv' := [(5, .int 0), (4, .int 0), (3, .int 0), (0, .ref (B + 81)), (1, .ref (B + b)), (2, .ref (B + t))]) K.1.1 K.1.2.1 dX2_pairOff_11 hl (by decide) rfl (fun ls hl => ?_)
  refine lv_iconst (v := 0) K.1.1 K.1.2.1 dX2_pairOff_13 (by decide) ?_
  refine lv_istore (lv' := [(6, .int 0), (5, .int 0), (4, .int 0), (3, .int 0), (0, .ref (B + 81)), (1, .ref (B + b)), (2, .ref (B + t))]) K.1.1 K.1.2.1 dX2_pairOff_14 hl (by decide) rfl (fun ls hl => ?_)
  have lp_16 : ∀ n : Nat, ∀ (v6_16 : Int32) (v5_16 : Int32) (v4_16 : Int32) (v3_16 : Int32) (μ_16 : Mm) (H : Heap) (locs : List Loc) (ls : Array Slot), (μ_16 81 8 = μ 81 8 ∧ μ_16 81 9 = μ 81 9) → (∃ x y : Nat, v3_16 = nI x ∧ v4_16 = nI y ∧ x ≤ cn (μ 81 8) ∧ y ≤ cn (μ 81 9) ∧ cn (μ 81 8) + cn (μ 81 9) ≤ x + y + n) → (PF b t (cn (μ 81 8) + cn (μ 81 9)) (up2 μ t 0 0) 0 0 0 0 = PF b t n μ_16 v3_16 v4_16 v5_16 v6_16) → MP G B μ_16 H → va_S (AA B) s.heap H locs → lv_has ls 10 [(6, .int v6_16), (5, .int v5_16), (4, .int v4_16), (3, .int v3_16), (0, .ref (B + 81)), (1, .ref (B + b)), (2, .ref (B + t))] → W p l e ({ frames := 2, cells := 0, slots := 0, locals := 46 } : Room) s m ([.ref (B + 81), .ref (B + b), .ref (B + t)] : List Value).toArray below meth c H locs 0 0 (MF below G B none (C_pairOff μ b t) ([.ref (B + 81), .ref (B + b), .ref (B + t)] : List Value).toArray s) (F0 m 16 ls []) := by
    intro n
    induction n with
    | zero =>
      intro v6_16 v5_16 v4_16 v3_16 μ_16 H locs ls inv0_16 inv1_16 fin0_16 hP hS hl
      obtain ⟨x, y, ex, ey, hx, hy, hn⟩ := inv1_16
      refine lv_iload_n K.1.1 K.1.2.1 dX2_pairOff_16 rfl (lv_at hl 3 rfl) ?_
      refine lv_aload_n K.1.1 K.1.2.1 dX2_pairOff_17 rfl (lv_at hl 4 rfl) ?_
      refine m_geti K hP (by decide) sh_81 rfl tuX2 8 (by decide) rfl q_232 dX2_pairOff_18 ?_
      refine lv_topi (fun g_1 eg_1 => ?_)
      refine lv_icmp_ge (tgt := 155) K.1.1 K.1.2.1 dX2_pairOff_21 (by decide) (fun c_21 => ?_) (fun c_21 => ?_)
      · exact m_vret K hr hlocks hP hS dX2_pairOff_155 rfl (by subst eg_1; rw [C_pairOff, fin0_16]; first | rfl | (simp only [PF, c_21, Int32.not_lt.mpr c_21, if_true, if_false]; done) | simp [PF, c_21, Int32.not_lt.mpr c_21])
      · exact absurd c_21 (not_not_intro (by subst eg_1; rw [inv0_16.1, ex, show x = cn (μ 81 8) by omega]; exact cn_out _))
    | succ n ih_16 =>
      intro v6_16 v5_16 v4_16 v3_16 μ_16 H locs ls inv0_16 inv1_16 fin0_16 hP hS hl
      obtain ⟨x, y, ex, ey, hx, hy, hn⟩ := inv1_16
      have hxb := cn_lt (μ 81 8)
      have hyb := cn_lt (μ 81 9)
      refine lv_iload_n K.1.1 K.1.2.1 dX2_pairOff_16 rfl (lv_at hl 3 rfl) ?_
      refine lv_aload_n K.1.1 K.1.2.1 dX2_pairOff_17 rfl (lv_at hl 4 rfl) ?_
      refine m_geti K hP (by decide) sh_81 rfl tuX2 8 (by decide) rfl q_232 dX2_pairOff_18 ?_
      refine lv_topi (fun g_2 eg_2 => ?_)
      refine lv_icmp_ge (tgt := 155) K.1.1 K.1.2.1 dX2_pairOff_21 (by decide) (fun c_21 => ?_) (fun c_21 => ?_)
      · exact m_vret K hr hlocks hP hS dX2_pairOff_155 rfl (by subst eg_2; rw [C_pairOff, fin0_16]; first | rfl | (simp only [PF, c_21, Int32.not_lt.mpr c_21, if_true, if_false]; done) | simp [PF, c_21, Int32.not_lt.mpr c_21])
      · refine lv_iload K.1.1 K.1.2.1 dX2_pairOff_24 (lv_at hl 2 rfl) ?_
        refine lv_aload_n K.1.1 K.1.2.1 dX2_pairOff_26 rfl (lv_at hl 4 rfl) ?_
        refine m_geti K hP (by decide) sh_81 rfl tuX2 9 (by decide) rfl q_233 dX2_pairOff_27 ?_
        refine lv_topi (fun g_3 eg_3 => ?_)
        refine lv_icmp_ge (tgt := 155) K.1.1 K.1.2.1 dX2_pairOff_30 (by decide) (fun c_30 => ?_) (fun c_30 => ?_)
        · exact m_vret K hr hlocks hP hS dX2_pairOff_155 rfl (by subst eg_2 eg_3; rw [C_pairOff, fin0_16]; first | rfl | (simp only [PF, c_21, Int32.not_le.mp c_21, c_30, Int32.not_lt.mpr c_30, if_true, if_false]; done) | simp [PF, c_21, Int32.not_le.mp c_21, c_30, Int32.not_lt.mpr c_30])
        · refine lv_aload_n K.1.1 K.1.2.1 dX2_pairOff_33 rfl (lv_at hl 4 rfl) ?_
          refine m_getr K hP (by decide) sh_81 rfl tuX2 5 (by decide) rfl q_227 dX2_pairOff_34 ?_
          refine lv_aload_n K.1.1 K.1.2.1 dX2_pairOff_37 rfl (lv_at hl 4 rfl) ?_
          refine m_getr K hP (by decide) sh_81 rfl tuX2 6 (by decide) rfl q_230 dX2_pairOff_38 ?_
          refine lv_iload_n K.1.1 K.1.2.1 dX2_pairOff_41 rfl (lv_at hl 3 rfl) ?_
          refine m_cV (n := 1) (As := [.int v3_16]) (rest := [.ref (B + 82)]) K hP hS (MX5_get l G B _ 84 20 isR_84 v3_16 ) (Nat.lt_of_succ_lt isR_84.1) isR_84.2.1 rfl q_459 q_460 q_461 q_18 q_462 hv_X5_get ⟨Nat.le_of_ble_eq_true rfl, Nat.le_of_ble_eq_true rfl⟩ rfl hl.1 rfl (Nat.le_of_ble_eq_true rfl) dX2_pairOff_42 ⟨Nat.zero_le _, Nat.zero_le _⟩ (fun H locs hP hS => ?_)
          refine lv_topi (fun r_4 er_4 => ?_)
          refine m_cV (n := 1) (As := [.int r_4]) (rest := []) K hP hS (MX5_get l G B _ 82 20 isR_82 r_4 ) (Nat.lt_of_succ_lt isR_82.1) isR_82.2.1 rfl q_459 q_460 q_461 q_18 q_462 hv_X5_get ⟨Nat.le_of_ble_eq_true rfl, Nat.le_of_ble_eq_true rfl⟩ rfl hl.1 rfl (Nat.le_of_ble_eq_true rfl) dX2_pairOff_45 ⟨Nat.zero_le _, Nat.zero_le _⟩ (fun H locs hP hS => ?_)
          refine lv_topi (fun r_5 er_5 => ?_)
          refine lv_iload K.1.1 K.1.2.1 dX2_pairOff_48 (lv_at hl 1 rfl) ?_
          refine lv_isub K.1.1 K.1.2.1 dX2_pairOff_50 ?_
          refine lv_topi (fun x_6 ex_6 => ?_)
          refine lv_istore (lv' := [(7, .int x_6), (6, .int v6_16), (5, .int v5_16), (4, .int v4_16), (3, .int v3_16), (0, .ref (B + 81)), (1, .ref (B + b)), (2, .ref (B + t))]) K.1.1 K.1.2.1 dX2_pairOff_51 hl (by decide) rfl (fun ls hl => ?_)
          refine lv_aload_n K.1.1 K.1.2.1 dX2_pairOff_53 rfl (lv_at hl 5 rfl) ?_
          refine m_getr K hP (by decide) sh_81 rfl tuX2 5 (by decide) rfl q_227 dX2_pairOff_54 ?_
          refine lv_aload_n K.1.1 K.1.2.1 dX2_pairOff_57 rfl (lv_at hl 5 rfl) ?_
          refine m_getr K hP (by decide) sh_81 rfl tuX2 7 (by decide) rfl q_231 dX2_pairOff_58 ?_
          refine lv_iload K.1.1 K.1.2.1 dX2_pairOff_61 (lv_at hl 3 rfl) ?_
          refine m_cV (n := 1) (As := [.int v4_16]) (rest := [.ref (B + 82)]) K hP hS (MX5_get l G B _ 86 20 isR_86 v4_16 ) (Nat.lt_of_succ_lt isR_86.1) isR_86.2.1 rfl q_459 q_460 q_461 q_18 q_462 hv_X5_get ⟨Nat.le_of_ble_eq_true rfl, Nat.le_of_ble_eq_true rfl⟩ rfl hl.1 rfl (Nat.le_of_ble_eq_true rfl) dX2_pairOff_63 ⟨Nat.zero_le _, Nat.zero_le _⟩ (fun H locs hP hS => ?_)
          refine lv_topi (fun r_7 er_7 => ?_)
          refine m_cV (n := 1) (As := [.int r_7]) (rest := []) K hP hS (MX5_get l G B _ 82 20 isR_82 r_7 ) (Nat.lt_of_succ_lt isR_82.1) isR_82.2.1 rfl q_459 q_460 q_461 q_18 q_462 hv_X5_get ⟨Nat.le_of_ble_eq_true rfl, Nat.le_of_ble_eq_true rfl⟩ rfl hl.1 rfl (Nat.le_of_ble_eq_true rfl) dX2_pairOff_66 ⟨Nat.zero_le _, Nat.zero_le _⟩ (fun H locs hP hS => ?_)
          refine lv_topi (fun r_8 er_8 => ?_)
          refine lv_iload K.1.1 K.1.2.1 dX2_pairOff_69 (lv_at hl 1 rfl) ?_
          refine lv_isub K.1.1 K.1.2.1 dX2_pairOff_71 ?_
          refine lv_topi (fun x_9 ex_9 => ?_)
          refine lv_istore (lv' := [(8, .int x_9), (7, .int x_6), (6, .int v6_16), (5, .int v5_16), (4, .int v4_16), (3, .int v3_16), (0, .ref (B + 81)), (1, .ref (B + b)), (2, .ref (B + t))]) K.1.1 K.1.2.1 dX2_pairOff_72 hl (by decide) rfl (fun ls hl => ?_)
          refine lv_iload K.1.1 K.1.2.1 dX2_pairOff_74 (lv_at hl 1 rfl) ?_
          refine lv_iload K.1.1 K.1.2.1 dX2_pairOff_76 (lv_at hl 0 rfl) ?_
          refine va_mmin K.1.1 K.1.2.1 (K.1.2.2.1.trans hl.1.symm) K.1.2.2.2.1 (own := RX2) (K.w q_488) (K.w q_489) (K.w q_30) (K.w q_490) (Nat.le_of_ble_eq_true rfl) (Nat.le_of_ble_eq_true rfl) (Nat.zero_le _) (Nat.zero_le _) dX2_pairOff_78 ?_
          refine lv_topi (fun r_10 er_10 => ?_)
          have er_10 : r_10 = mnI x_6 x_9 := er_10
          refine lv_istore (lv' := [(9, .int r_10), (8, .int x_9), (7, .int x_6), (6, .int v6_16), (5, .int v5_16), (4, .int v4_16), (3, .int v3_16), (0, .ref (B + 81)), (1, .ref (B + b)), (2, .ref (B + t))]) K.1.1 K.1.2.1 dX2_pairOff_81 hl (by decide) rfl (fun ls hl => ?_)
          refine lv_iload K.1.1 K.1.2.1 dX2_pairOff_83 (lv_at hl 0 rfl) ?_
          refine lv_if_le (tgt := 112) K.1.1 K.1.2.1 dX2_pairOff_85 (by decide) (fun c_85 => ?_) (fun c_85 => ?_)
          · refine lv_iload K.1.1 K.1.2.1 dX2_pairOff_112 (lv_at hl 4 rfl) ?_
            refine lv_iload K.1.1 K.1.2.1 dX2_pairOff_114 (lv_at hl 0 rfl) ?_
            refine lv_iadd K.1.1 K.1.2.1 dX2_pairOff_116 ?_
            refine lv_topi (fun x_11 ex_11 => ?_)
            refine lv_istore (lv' := [(5, .int x_11), (9, .int r_10), (8, .int x_9), (7, .int x_6), (6, .int v6_16), (4, .int v4_16), (3, .int v3_16), (0, .ref (B + 81)), (1, .ref (B + b)), (2, .ref (B + t))]) K.1.1 K.1.2.1 dX2_pairOff_117 hl (by decide) rfl (fun ls hl => ?_)
            refine lv_iload K.1.1 K.1.2.1 dX2_pairOff_119 (lv_at hl 4 rfl) ?_
            refine lv_iload K.1.1 K.1.2.1 dX2_pairOff_121 (lv_at hl 1 rfl) ?_
            refine lv_iadd K.1.1 K.1.2.1 dX2_pairOff_123 ?_
            refine lv_topi (fun x_12 ex_12 => ?_)
            refine lv_istore (lv' := [(6, .int x_12), (5, .int x_11), (9, .int r_10), (8, .int x_9), (7, .int x_6), (4, .int v4_16), (3, .int v3_16), (0, .ref (B + 81)), (1, .ref (B + b)), (2, .ref (B + t))]) K.1.1 K.1.2.1 dX2_pairOff_124 hl (by decide) rfl (fun ls hl => ?_)
            refine lv_iload K.1.1 K.1.2.1 dX2_pairOff_126 (lv_at hl 4 rfl) ?_
            refine lv_iload K.1.1 K.1.2.1 dX2_pairOff_128 (lv_at hl 3 rfl) ?_
            refine lv_icmp_gt (tgt := 139) K.1.1 K.1.2.1 dX2_pairOff_130 (by decide) (fun c_130 => ?_) (fun c_130 => ?_)
            · refine lv_iload K.1.1 K.1.2.1 dX2_pairOff_139 (lv_at hl 3 rfl) ?_
              refine lv_iload K.1.1 K.1.2.1 dX2_pairOff_141 (lv_at hl 4 rfl) ?_
              refine lv_icmp_gt (tgt := 152) K.1.1 K.1.2.1 dX2_pairOff_143 (by decide) (fun c_143 => ?_) (fun c_143 => ?_)
              · refine lv_goto (tgt := 16) K.1.1 K.1.2.1 dX2_pairOff_152 (by decide) ?_
                exact ih_16 _ _ _ _ _ _ _ _ (by subst eg_2 eg_3 er_4 er_5 ex_6 er_7 er_8 ex_9 er_10 ex_11 ex_12; first | exact inv0_16 | exact ⟨by rw [S_append_81 ht]; exact inv0_16.1, by rw [S_append_81 ht]; exact inv0_16.2⟩) (by subst eg_2 eg_3 er_4 er_5 ex_6 er_7 er_8 ex_9 er_10 ex_11 ex_12; first | exact absurd c_143 (Int32.not_lt.mpr (Int32.le_of_lt c_130)) | exact pf_step inv0_16.1 inv0_16.2 ex ey hx hy hn c_21 c_30 (by first | exact Or.inl ⟨rfl, rfl⟩ | exact Or.inr (Or.inl ⟨rfl, rfl⟩) | exact Or.inr (Or.inr ⟨rfl, rfl⟩))) (by subst eg_2 eg_3 er_4 er_5 ex_6 er_7 er_8 ex_9 er_10 ex_11 ex_12; first | exact absurd c_143 (Int32.not_lt.mpr (Int32.le_of_lt c_130)) | (rw [fin0_16]; first | (simp only [PF, c_21, Int32.not_le.mp c_21, c_30, Int32.not_le.mp c_30, c_85, Int32.not_lt.mpr c_85, c_130, Int32.not_le.mpr c_130, c_143, Int32.not_le.mpr c_143, if_true, if_false]; done) | simp [PF, c_21, Int32.not_le.mp c_21, c_30, Int32.not_le.mp c_30, c_85, Int32.not_lt.mpr c_85, c_130, Int32.not_le.mpr c_130, c_143, Int32.not_le.mpr c_143])) hP hS (lv_sub hl [0, 1, 5, 6, 7, 8, 9] rfl)
              · obtain ⟨x_13, ex_13⟩ : ∃ y : Int32, y = v4_16 + (1) := ⟨_, rfl⟩
                refine lv_iinc (v := x_13) (lv' := [(4, .int x_13), (6, .int x_12), (5, .int x_11), (9, .int r_10), (8, .int x_9), (7, .int x_6), (3, .int v3_16), (0, .ref (B + 81)), (1, .ref (B + b)), (2, .ref (B + t))]) K.1.1 K.1.2.1 dX2_pairOff_146 hl (k := 5) rfl (by rw [ex_13]; rfl) (by decide) rfl (fun ls hl => ?_)
                refine lv_iconst (v := 0) K.1.1 K.1.2.1 dX2_pairOff_149 (by decide) ?_
                refine lv_istore (lv' := [(6, .int 0), (4, .int x_13), (5, .int x_11), (9, .int r_10), (8, .int x_9), (7, .int x_6), (3, .int v3_16), (0, .ref (B + 81)), (1, .ref (B + b)), (2, .ref (B + t))]) K.1.1 K.1.2.1 dX2_pairOff_150 hl (by decide) rfl (fun ls hl => ?_)
                refine lv_goto (tgt := 16) K.1.1 K.1.2.1 dX2_pairOff_152 (by decide) ?_
                exact ih_16 _ _ _ _ _ _ _ _ (by subst eg_2 eg_3 er_4 er_5 ex_6 er_7 er_8 ex_9 er_10 ex_11 ex_12 ex_13; first | exact inv0_16 | exact ⟨by rw [S_append_81 ht]; exact inv0_16.1, by rw [S_append_81 ht]; exact inv0_16.2⟩) (by subst eg_2 eg_3 er_4 er_5 ex_6 er_7 er_8 ex_9 er_10 ex_11 ex_12 ex_13; first | exact absurd c_143 (Int32.not_lt.mpr (Int32.le_of_lt c_130)) | exact pf_step inv0_16.1 inv0_16.2 ex ey hx hy hn c_21 c_30 (by first | exact Or.inl ⟨rfl, rfl⟩ | exact Or.inr (Or.inl ⟨rfl, rfl⟩) | exact Or.inr (Or.inr ⟨rfl, rfl⟩))) (by subst eg_2 eg_3 er_4 er_5 ex_6 er_7 er_8 ex_9 er_10 ex_11 ex_12 ex_13; first | exact absurd c_143 (Int32.not_lt.mpr (Int32.le_of_lt c_130)) | (rw [fin0_16]; first | (simp only [PF, c_21, Int32.not_le.mp c_21, c_30, Int32.not_le.mp c_30, c_85, Int32.not_lt.mpr c_85, c_130, Int32.not_le.mpr c_130, c_143, Int32.not_lt.mp c_143, if_true, if_false]; done) | simp [PF, c_21, Int32.not_le.mp c_21, c_30, Int32.not_le.mp c_30, c_85, Int32.not_lt.mpr c_85, c_130, Int32.not_le.mpr c_130, c_143, Int32.not_lt.mp c_143])) hP hS (lv_sub hl [0, 2, 1, 6, 7, 8, 9] rfl)
            · obtain ⟨x_14, ex_14⟩ : ∃ y : Int32, y = v3_16 + (1) := ⟨_, rfl⟩
              refine lv_iinc (v := x_14) (lv' := [(3, .int x_14), (6, .int x_12), (5, .int x_11), (9, .int r_10), (8, .int x_9), (7, .int x_6), (4, .int v4_16), (0, .ref (B + 81)), (1, .ref (B + b)), (2, .ref (B + t))]) K.1.1 K.1.2.1 dX2_pairOff_133 hl (k := 6) rfl (by rw [ex_14]; rfl) (by decide) rfl (fun ls hl => ?_)
              refine lv_iconst (v := 0) K.1.1 K.1.2.1 dX2_pairOff_136 (by decide) ?_
              refine lv_istore (lv' := [(5, .int 0), (3, .int x_14), (6, .int x_12), (9, .int r_10), (8, .int x_9), (7, .int x_6), (4, .int v4_16), (0, .ref (B + 81)), (1, .ref (B + b)), (2, .ref (B + t))]) K.1.1 K.1.2.1 dX2_pairOff_137 hl (by decide) rfl (fun ls hl => ?_)
              refine lv_iload K.1.1 K.1.2.1 dX2_pairOff_139 (lv_at hl 4 rfl) ?_
              refine lv_iload K.1.1 K.1.2.1 dX2_pairOff_141 (lv_at hl 5 rfl) ?_
              refine lv_icmp_gt (tgt := 152) K.1.1 K.1.2.1 dX2_pairOff_143 (by decide) (fun c_143 => ?_) (fun c_143 => ?_)
              · refine lv_goto (tgt := 16) K.1.1 K.1.2.1 dX2_pairOff_152 (by decide) ?_
                exact ih_16 _ _ _ _ _ _ _ _ (by subst eg_2 eg_3 er_4 er_5 ex_6 er_7 er_8 ex_9 er_10 ex_11 ex_12 ex_14; first | exact inv0_16 | exact ⟨by rw [S_append_81 ht]; exact inv0_16.1, by rw [S_append_81 ht]; exact inv0_16.2⟩) (by subst eg_2 eg_3 er_4 er_5 ex_6 er_7 er_8 ex_9 er_10 ex_11 ex_12 ex_14; first | exact absurd c_143 (Int32.not_lt.mpr (Int32.le_of_lt c_130)) | exact pf_step inv0_16.1 inv0_16.2 ex ey hx hy hn c_21 c_30 (by first | exact Or.inl ⟨rfl, rfl⟩ | exact Or.inr (Or.inl ⟨rfl, rfl⟩) | exact Or.inr (Or.inr ⟨rfl, rfl⟩))) (by subst eg_2 eg_3 er_4 er_5 ex_6 er_7 er_8 ex_9 er_10 ex_11 ex_12 ex_14; first | exact absurd c_143 (Int32.not_lt.mpr (Int32.le_of_lt c_130)) | (rw [fin0_16]; first | (simp only [PF, c_21, Int32.not_le.mp c_21, c_30, Int32.not_le.mp c_30, c_85, Int32.not_lt.mpr c_85, c_130, Int32.not_lt.mp c_130, c_143, Int32.not_le.mpr c_143, if_true, if_false]; done) | simp [PF, c_21, Int32.not_le.mp c_21, c_30, Int32.not_le.mp c_30, c_85, Int32.not_lt.mpr c_85, c_130, Int32.not_lt.mp c_130, c_143, Int32.not_le.mpr c_143])) hP hS (lv_sub hl [2, 0, 6, 1, 7, 8, 9] rfl)
              · obtain ⟨x_15, ex_15⟩ : ∃ y : Int32, y = v4_16 + (1) := ⟨_, rfl⟩
                refine lv_iinc (v := x_15) (lv' := [(4, .int x_15), (5, .int 0), (3, .int x_14), (6, .int x_12), (9, .int r_10), (8, .int x_9), (7, .int x_6), (0, .ref (B + 81)), (1, .ref (B + b)), (2, .ref (B + t))]) K.1.1 K.1.2.1 dX2_pairOff_146 hl (k := 6) rfl (by rw [ex_15]; rfl) (by decide) rfl (fun ls hl => ?_)
                refine lv_iconst (v := 0) K.1.1 K.1.2.1 dX2_pairOff_149 (by decide) ?_
                refine lv_istore (lv' := [(6, .int 0), (4, .int x_15), (5, .int 0), (3, .int x_14), (9, .int r_10), (8, .int x_9), (7, .int x_6), (0, .ref (B + 81)), (1, .ref (B + b)), (2, .ref (B + t))]) K.1.1 K.1.2.1 dX2_pairOff_150 hl (by decide) rfl (fun ls hl => ?_)
                refine lv_goto (tgt := 16) K.1.1 K.1.2.1 dX2_pairOff_152 (by decide) ?_
                exact ih_16 _ _ _ _ _ _ _ _ (by subst eg_2 eg_3 er_4 er_5 ex_6 er_7 er_8 ex_9 er_10 ex_11 ex_12 ex_14 ex_15; first | exact inv0_16 | exact ⟨by rw [S_append_81 ht]; exact inv0_16.1, by rw [S_append_81 ht]; exact inv0_16.2⟩) (by subst eg_2 eg_3 er_4 er_5 ex_6 er_7 er_8 ex_9 er_10 ex_11 ex_12 ex_14 ex_15; first | exact absurd c_143 (Int32.not_lt.mpr (Int32.le_of_lt c_130)) | exact pf_step inv0_16.1 inv0_16.2 ex ey hx hy hn c_21 c_30 (by first | exact Or.inl ⟨rfl, rfl⟩ | exact Or.inr (Or.inl ⟨rfl, rfl⟩) | exact Or.inr (Or.inr ⟨rfl, rfl⟩))) (by subst eg_2 eg_3 er_4 er_5 ex_6 er_7 er_8 ex_9 er_10 ex_11 ex_12 ex_14 ex_15; first | exact absurd c_143 (Int32.not_lt.mpr (Int32.le_of_lt c_130)) | (rw [fin0_16]; first | (simp only [PF, c_21, Int32.not_le.mp c_21, c_30, Int32.not_le.mp c_30, c_85, Int32.not_lt.mpr c_85, c_130, Int32.not_lt.mp c_130, c_143, Int32.not_lt.mp c_143, if_true, if_false]; done) | simp [PF, c_21, Int32.not_le.mp c_21, c_30, Int32.not_le.mp c_30, c_85, Int32.not_lt.mpr c_85, c_130, Int32.not_lt.mp c_130, c_143, Int32.not_lt.mp c_143])) hP hS (lv_sub hl [0, 2, 1, 3, 7, 8, 9] rfl)
          · refine lv_aload_n K.1.1 K.1.2.1 dX2_pairOff_88 rfl (lv_at hl 9 rfl) ?_
            refine lv_aload_n K.1.1 K.1.2.1 dX2_pairOff_89 rfl (lv_at hl 8 rfl) ?_
            refine lv_aload_n K.1.1 K.1.2.1 dX2_pairOff_90 rfl (lv_at hl 7 rfl) ?_
            refine m_getr K hP (by decide) sh_81 rfl tuX2 6 (by decide) rfl q_230 dX2_pairOff_91 ?_
            refine lv_iload_n K.1.1 K.1.2.1 dX2_pairOff_94 rfl (lv_at hl 6 rfl) ?_
            refine m_cV (n := 1) (As := [.int v3_16]) (rest := [.ref (B + b), .ref (B + t)]) K hP hS (MX5_get l G B _ 84 20 isR_84 v3_16 ) (Nat.lt_of_succ_lt isR_84.1) isR_84.2.1 rfl q_459 q_460 q_461 q_18 q_462 hv_X5_get ⟨Nat.le_of_ble_eq_true rfl, Nat.le_of_ble_eq_true rfl⟩ rfl hl.1 rfl (Nat.le_of_ble_eq_true rfl) dX2_pairOff_95 ⟨Nat.zero_le _, Nat.zero_le _⟩ (fun H locs hP hS => ?_)
            refine lv_topi (fun r_16 er_16 => ?_)
            refine lv_aload_n K.1.1 K.1.2.1 dX2_pairOff_98 rfl (lv_at hl 7 rfl) ?_
            refine m_getr K hP (by decide) sh_81 rfl tuX2 7 (by decide) rfl q_231 dX2_pairOff_99 ?_
            refine lv_iload K.1.1 K.1.2.1 dX2_pairOff_102 (lv_at hl 5 rfl) ?_
            refine m_cV (n := 1) (As := [.int v4_16]) (rest := [.int r_16, .ref (B + b), .ref (B + t)]) K hP hS (MX5_get l G B _ 86 20 isR_86 v4_16 ) (Nat.lt_of_succ_lt isR_86.1) isR_86.2.1 rfl q_459 q_460 q_461 q_18 q_462 hv_X5_get ⟨Nat.le_of_ble_eq_true rfl, Nat.le_of_ble_eq_true rfl⟩ rfl hl.1 rfl (Nat.le_of_ble_eq_true rfl) dX2_pairOff_104 ⟨Nat.zero_le _, Nat.zero_le _⟩ (fun H locs hP hS => ?_)
            refine lv_topi (fun r_17 er_17 => ?_)
            refine lv_iload K.1.1 K.1.2.1 dX2_pairOff_107 (lv_at hl 0 rfl) ?_
            refine m_cV (n := 4) (As := [.ref (B + b), .int r_16, .int r_17, .int r_10]) (rest := []) K hP hS (MX7_append l G B _ t ht b hb r_16 r_17 r_10 ) ht.1 ht.2.1 rfl q_784 q_785 q_786 q_20 q_787 hv_X7_append ⟨Nat.le_of_ble_eq_true rfl, Nat.le_of_ble_eq_true rfl⟩ rfl hl.1 rfl (Nat.le_of_ble_eq_true rfl) dX2_pairOff_109 ⟨Nat.zero_le _, Nat.zero_le _⟩ (fun H locs hP hS => ?_)
            refine W.eq (g2 := F0 m 112 ls []) rfl ?_
            refine lv_iload K.1.1 K.1.2.1 dX2_pairOff_112 (lv_at hl 4 rfl) ?_
            refine lv_iload K.1.1 K.1.2.1 dX2_pairOff_114 (lv_at hl 0 rfl) ?_
            refine lv_iadd K.1.1 K.1.2.1 dX2_pairOff_116 ?_
            refine lv_topi (fun x_18 ex_18 => ?_)
            refine lv_istore (lv' := [(5, .int x_18), (9, .int r_10), (8, .int x_9), (7, .int x_6), (6, .int v6_16), (4, .int v4_16), (3, .int v3_16), (0, .ref (B + 81)), (1, .ref (B + b)), (2, .ref (B + t))]) K.1.1 K.1.2.1 dX2_pairOff_117 hl (by decide) rfl (fun ls hl => ?_)
            refine lv_iload K.1.1 K.1.2.1 dX2_pairOff_119 (lv_at hl 4 rfl) ?_
            refine lv_iload K.1.1 K.1.2.1 dX2_pairOff_121 (lv_at hl 1 rfl) ?_
            refine lv_iadd K.1.1 K.1.2.1 dX2_pairOff_123 ?_
            refine lv_topi (fun x_19 ex_19 => ?_)
            refine lv_istore (lv' := [(6, .int x_19), (5, .int x_18), (9, .int r_10), (8, .int x_9), (7, .int x_6), (4, .int v4_16), (3, .int v3_16), (0, .ref (B + 81)), (1, .ref (B + b)), (2, .ref (B + t))]) K.1.1 K.1.2.1 dX2_pairOff_124 hl (by decide) rfl (fun ls hl => ?_)
            refine lv_iload K.1.1 K.1.2.1 dX2_pairOff_126 (lv_at hl 4 rfl) ?_
            refine lv_iload K.1.1 K.1.2.1 dX2_pairOff_128 (lv_at hl 3 rfl) ?_
            refine lv_icmp_gt (tgt := 139) K.1.1 K.1.2.1 dX2_pairOff_130 (by decide) (fun c_130 => ?_) (fun c_130 => ?_)
            · refine lv_iload K.1.1 K.1.2.1 dX2_pairOff_139 (lv_at hl 3 rfl) ?_
              refine lv_iload K.1.1 K.1.2.1 dX2_pairOff_141 (lv_at hl 4 rfl) ?_
              refine lv_icmp_gt (tgt := 152) K.1.1 K.1.2.1 dX2_pairOff_143 (by decide) (fun c_143 => ?_) (fun c_143 => ?_)
              · refine lv_goto (tgt := 16) K.1.1 K.1.2.1 dX2_pairOff_152 (by decide) ?_
                exact ih_16 _ _ _ _ _ _ _ _ (by subst eg_2 eg_3 er_4 er_5 ex_6 er_7 er_8 ex_9 er_10 er_16 er_17 ex_18 ex_19; first | exact inv0_16 | exact ⟨by rw [S_append_81 ht]; exact inv0_16.1, by rw [S_append_81 ht]; exact inv0_16.2⟩) (by subst eg_2 eg_3 er_4 er_5 ex_6 er_7 er_8 ex_9 er_10 er_16 er_17 ex_18 ex_19; first | exact absurd c_143 (Int32.not_lt.mpr (Int32.le_of_lt c_130)) | exact pf_step inv0_16.1 inv0_16.2 ex ey hx hy hn c_21 c_30 (by first | exact Or.inl ⟨rfl, rfl⟩ | exact Or.inr (Or.inl ⟨rfl, rfl⟩) | exact Or.inr (Or.inr ⟨rfl, rfl⟩))) (by subst eg_2 eg_3 er_4 er_5 ex_6 er_7 er_8 ex_9 er_10 er_16 er_17 ex_18 ex_19; first | exact absurd c_143 (Int32.not_lt.mpr (Int32.le_of_lt c_130)) | (rw [fin0_16]; first | (simp only [PF, c_21, Int32.not_le.mp c_21, c_30, Int32.not_le.mp c_30, c_85, Int32.not_le.mp c_85, c_130, Int32.not_le.mpr c_130, c_143, Int32.not_le.mpr c_143, if_true, if_false]; done) | simp [PF, c_21, Int32.not_le.mp c_21, c_30, Int32.not_le.mp c_30, c_85, Int32.not_le.mp c_85, c_130, Int32.not_le.mpr c_130, c_143, Int32.not_le.mpr c_143])) hP hS (lv_sub hl [0, 1, 5, 6, 7, 8, 9] rfl)
              · obtain ⟨x_20, ex_20⟩ : ∃ y : Int32, y = v4_16 + (1) := ⟨_, rfl⟩
                refine lv_iinc (v := x_20) (lv' := [(4, .int x_20), (6, .int x_19), (5, .int x_18), (9, .int r_10), (8, .int x_9), (7, .int x_6), (3, .int v3_16), (0, .ref (B + 81)), (1, .ref (B + b)), (2, .ref (B + t))]) K.1.1 K.1.2.1 dX2_pairOff_146 hl (k := 5) rfl (by rw [ex_20]; rfl) (by decide) rfl (fun ls hl => ?_)
                refine lv_iconst (v := 0) K.1.1 K.1.2.1 dX2_pairOff_149 (by decide) ?_
                refine lv_istore (lv' := [(6, .int 0), (4, .int x_20), (5, .int x_18), (9, .int r_10), (8, .int x_9), (7, .int x_6), (3, .int v3_16), (0, .ref (B + 81)), (1, .ref (B + b)), (2, .ref (B + t))]) K.1.1 K.1.2.1 dX2_pairOff_150 hl (by decide) rfl (fun ls hl => ?_)
                refine lv_goto (tgt := 16) K.1.1 K.1.2.1 dX2_pairOff_152 (by decide) ?_
                exact ih_16 _ _ _ _ _ _ _ _ (by subst eg_2 eg_3 er_4 er_5 ex_6 er_7 er_8 ex_9 er_10 er_16 er_17 ex_18 ex_19 ex_20; first | exact inv0_16 | exact ⟨by rw [S_append_81 ht]; exact inv0_16.1, by rw [S_append_81 ht]; exact inv0_16.2⟩) (by subst eg_2 eg_3 er_4 er_5 ex_6 er_7 er_8 ex_9 er_10 er_16 er_17 ex_18 ex_19 ex_20; first | exact absurd c_143 (Int32.not_lt.mpr (Int32.le_of_lt c_130)) | exact pf_step inv0_16.1 inv0_16.2 ex ey hx hy hn c_21 c_30 (by first | exact Or.inl ⟨rfl, rfl⟩ | exact Or.inr (Or.inl ⟨rfl, rfl⟩) | exact Or.inr (Or.inr ⟨rfl, rfl⟩))) (by subst eg_2 eg_3 er_4 er_5 ex_6 er_7 er_8 ex_9 er_10 er_16 er_17 ex_18 ex_19 ex_20; first | exact absurd c_143 (Int32.not_lt.mpr (Int32.le_of_lt c_130)) | (rw [fin0_16]; first | (simp only [PF, c_21, Int32.not_le.mp c_21, c_30, Int32.not_le.mp c_30, c_85, Int32.not_le.mp c_85, c_130, Int32.not_le.mpr c_130, c_143, Int32.not_lt.mp c_143, if_true, if_false]; done) | simp [PF, c_21, Int32.not_le.mp c_21, c_30, Int32.not_le.mp c_30, c_85, Int32.not_le.mp c_85, c_130, Int32.not_le.mpr c_130, c_143, Int32.not_lt.mp c_143])) hP hS (lv_sub hl [0, 2, 1, 6, 7, 8, 9] rfl)
            · obtain ⟨x_21, ex_21⟩ : ∃ y : Int32, y = v3_16 + (1) := ⟨_, rfl⟩
              refine lv_iinc (v := x_21) (lv' := [(3, .int x_21), (6, .int x_19), (5, .int x_18), (9, .int r_10), (8, .int x_9), (7, .int x_6), (4, .int v4_16), (0, .ref (B + 81)), (1, .ref (B + b)), (2, .ref (B + t))]) K.1.1 K.1.2.1 dX2_pairOff_133 hl (k := 6) rfl (by rw [ex_21]; rfl) (by decide) rfl (fun ls hl => ?_)
              refine lv_iconst (v := 0) K.1.1 K.1.2.1 dX2_pairOff_136 (by decide) ?_
              refine lv_istore (lv' := [(5, .int 0), (3, .int x_21), (6, .int x_19), (9, .int r_10), (8, .int x_9), (7, .int x_6), (4, .int v4_16), (0, .ref (B + 81)), (1, .ref (B + b)), (2, .ref (B + t))]) K.1.1 K.1.2.1 dX2_pairOff_137 hl (by decide) rfl (fun ls hl => ?_)
              refine lv_iload K.1.1 K.1.2.1 dX2_pairOff_139 (lv_at hl 4 rfl) ?_
              refine lv_iload K.1.1 K.1.2.1 dX2_pairOff_141 (lv_at hl 5 rfl) ?_
              refine lv_icmp_gt (tgt := 152) K.1.1 K.1.2.1 dX2_pairOff_143 (by decide) (fun c_143 => ?_) (fun c_143 => ?_)
              · refine lv_goto (tgt := 16) K.1.1 K.1.2.1 dX2_pairOff_152 (by decide) ?_
                exact ih_16 _ _ _ _ _ _ _ _ (by subst eg_2 eg_3 er_4 er_5 ex_6 er_7 er_8 ex_9 er_10 er_16 er_17 ex_18 ex_19 ex_21; first | exact inv0_16 | exact ⟨by rw [S_append_81 ht]; exact inv0_16.1, by rw [S_append_81 ht]; exact inv0_16.2⟩) (by subst eg_2 eg_3 er_4 er_5 ex_6 er_7 er_8 ex_9 er_10 er_16 er_17 ex_18 ex_19 ex_21; first | exact absurd c_143 (Int32.not_lt.mpr (Int32.le_of_lt c_130)) | exact pf_step inv0_16.1 inv0_16.2 ex ey hx hy hn c_21 c_30 (by first | exact Or.inl ⟨rfl, rfl⟩ | exact Or.inr (Or.inl ⟨rfl, rfl⟩) | exact Or.inr (Or.inr ⟨rfl, rfl⟩))) (by subst eg_2 eg_3 er_4 er_5 ex_6 er_7 er_8 ex_9 er_10 er_16 er_17 ex_18 ex_19 ex_21; first | exact absurd c_143 (Int32.not_lt.mpr (Int32.le_of_lt c_130)) | (rw [fin0_16]; first | (simp only [PF, c_21, Int32.not_le.mp c_21, c_30, Int32.not_le.mp c_30, c_85, Int32.not_le.mp c_85, c_130, Int32.not_lt.mp c_130, c_143, Int32.not_le.mpr c_143, if_true, if_false]; done) | simp [PF, c_21, Int32.not_le.mp c_21, c_30, Int32.not_le.mp c_30, c_85, Int32.not_le.mp c_85, c_130, Int32.not_lt.mp c_130, c_143, Int32.not_le.mpr c_143])) hP hS (lv_sub hl [2, 0, 6, 1, 7, 8, 9] rfl)
              · obtain ⟨x_22, ex_22⟩ : ∃ y : Int32, y = v4_16 + (1) := ⟨_, rfl⟩
                refine lv_iinc (v := x_22) (lv' := [(4, .int x_22), (5, .int 0), (3, .int x_21), (6, .int x_19), (9, .int r_10), (8, .int x_9), (7, .int x_6), (0, .ref (B + 81)), (1, .ref (B + b)), (2, .ref (B + t))]) K.1.1 K.1.2.1 dX2_pairOff_146 hl (k := 6) rfl (by rw [ex_22]; rfl) (by decide) rfl (fun ls hl => ?_)
                refine lv_iconst (v := 0) K.1.1 K.1.2.1 dX2_pairOff_149 (by decide) ?_
                refine lv_istore (lv' := [(6, .int 0), (4, .int x_22), (5, .int 0), (3, .int x_21), (9, .int r_10), (8, .int x_9), (7, .int x_6), (0, .ref (B + 81)), (1, .ref (B + b)), (2, .ref (B + t))]) K.1.1 K.1.2.1 dX2_pairOff_150 hl (by decide) rfl (fun ls hl => ?_)
                refine lv_goto (tgt := 16) K.1.1 K.1.2.1 dX2_pairOff_152 (by decide) ?_
                exact ih_16 _ _ _ _ _ _ _ _ (by subst eg_2 eg_3 er_4 er_5 ex_6 er_7 er_8 ex_9 er_10 er_16 er_17 ex_18 ex_19 ex_21 ex_22; first | exact inv0_16 | exact ⟨by rw [S_append_81 ht]; exact inv0_16.1, by rw [S_append_81 ht]; exact inv0_16.2⟩) (by subst eg_2 eg_3 er_4 er_5 ex_6 er_7 er_8 ex_9 er_10 er_16 er_17 ex_18 ex_19 ex_21 ex_22; first | exact absurd c_143 (Int32.not_lt.mpr (Int32.le_of_lt c_130)) | exact pf_step inv0_16.1 inv0_16.2 ex ey hx hy hn c_21 c_30 (by first | exact Or.inl ⟨rfl, rfl⟩ | exact Or.inr (Or.inl ⟨rfl, rfl⟩) | exact Or.inr (Or.inr ⟨rfl, rfl⟩))) (by subst eg_2 eg_3 er_4 er_5 ex_6 er_7 er_8 ex_9 er_10 er_16 er_17 ex_18 ex_19 ex_21 ex_22; first | exact absurd c_143 (Int32.not_lt.mpr (Int32.le_of_lt c_130)) | (rw [fin0_16]; first | (simp only [PF, c_21, Int32.not_le.mp c_21, c_30, Int32.not_le.mp c_30, c_85, Int32.not_le.mp c_85, c_130, Int32.not_lt.mp c_130, c_143, Int32.not_lt.mp c_143, if_true, if_false]; done) | simp [PF, c_21, Int32.not_le.mp c_21, c_30, Int32.not_le.mp c_30, c_85, Int32.not_le.mp c_85, c_130, Int32.not_lt.mp c_130, c_143, Int32.not_lt.mp c_143])) hP hS (lv_sub hl [0, 2, 1, 3, 7, 8, 9] rfl)
  exact lp_16 (cn (μ 81 8) + cn (μ 81 9)) _ _ _ _ _ _ _ _ (by skip; exact ⟨by rw [up2_k _ _ (n81 ht)], by rw [up2_k _ _ (n81 ht)]⟩) (by exact ⟨0, 0, rfl, rfl, by omega, by omega, by omega⟩) (by first | rfl | (skip; rfl)) hP hS (lv_sub hl [0, 1, 2, 3, 4, 5, 6] rfl)
end
