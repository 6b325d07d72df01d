/-! the orders in the book, at the place o: number o+1, trader o+3, side o+5, price o+7, units o+9, round o+11 -/
def O_full (μ : Mm) (o : Nat) : Int32 := if μ o 0 < 20 then 0 else 1
def O_indexOf (μ : Mm) (o : Nat) (x : Int32) : Int32 := fstI (fun k => decide (R_get μ (o + 1) 20 (nI k) = x)) (cn (μ o 0))
def O_faultOfNumber (μ : Mm) (o : Nat) (x : Int32) : Int32 := if O_indexOf μ o x < 0 then 1 else 0
def O_append (μ : Mm) (o : Nat) (x0 x1 x2 x3 x4 x5 : Int32) : Mm :=
  let μ1 := R_put μ (o + 1) 20 (μ o 0) x0
  let μ2 := R_put μ1 (o + 3) 20 (μ1 o 0) x1
  let μ3 := R_put μ2 (o + 5) 20 (μ2 o 0) x2
  let μ4 := R_put μ3 (o + 7) 20 (μ3 o 0) x3
  let μ5 := R_put μ4 (o + 9) 20 (μ4 o 0) x4
  let μ6 := R_put μ5 (o + 11) 20 (μ5 o 0) x5
  up2 μ6 o 0 (μ6 o 0 + 1)
def O_remRows (μ : Mm) (o j : Nat) : Mm := R_rem (R_rem (R_rem (R_rem (R_rem (R_rem μ (o + 1) 20 j) (o + 3) 20 j) (o + 5) 20 j) (o + 7) 20 j) (o + 9) 20 j) (o + 11) 20 j
def O_removeAt (μ : Mm) (o : Nat) (i : Int32) : Mm := if i < 0 then μ else if i < μ o 0 then up2 (O_remRows μ o (cn i)) o 0 (O_remRows μ o (cn i) o 0 - 1) else μ
def O_isAhead (μ : Mm) (o : Nat) (i j : Int32) : Int32 :=
  if R_get μ (o + 7) 20 i - R_get μ (o + 7) 20 j = 0 then (if i < j then 1 else 0)
  else if R_get μ (o + 5) 20 i = 0 then (if 0 < R_get μ (o + 7) 20 i - R_get μ (o + 7) 20 j then 1 else 0)
  else (if R_get μ (o + 7) 20 i - R_get μ (o + 7) 20 j < 0 then 1 else 0)
def O_placeOf (μ : Mm) (o : Nat) (i : Int32) : Int32 :=
  sumI (fun k => if R_get μ (o + 5) 20 (nI k) = R_get μ (o + 5) 20 i then (if O_isAhead μ o (nI k) i = 0 then 0 else 1) else 0) (cn (μ o 0))
def O_accepts (μ : Mm) (o : Nat) (i p : Int32) : Int32 :=
  if R_get μ (o + 5) 20 i = 0 then (if p ≤ R_get μ (o + 7) 20 i then 1 else 0) else (if R_get μ (o + 7) 20 i ≤ p then 1 else 0)
def O_unitsAt (μ : Mm) (o : Nat) (sd p : Int32) : Int32 :=
  sumI (fun k => if R_get μ (o + 5) 20 (nI k) = sd then (if O_accepts μ o (nI k) p = 0 then 0 else R_get μ (o + 9) 20 (nI k)) else 0) (cn (μ o 0))
def O_bookValue (μ : Mm) (o : Nat) (p w : Int32) : Int32 :=
  if w = 0 then O_unitsAt μ o 0 p else if w = 1 then O_unitsAt μ o 1 p else mnI (O_unitsAt μ o 0 p) (O_unitsAt μ o 1 p)
def O_countOf (μ : Mm) (o : Nat) (t : Int32) : Int32 := sumI (fun k => if R_get μ (o + 3) 20 (nI k) = t then 1 else 0) (cn (μ o 0))
def O_unitsOf (μ : Mm) (o : Nat) (t : Int32) : Int32 := sumI (fun k => if R_get μ (o + 3) 20 (nI k) = t then R_get μ (o + 9) 20 (nI k) else 0) (cn (μ o 0))
def O_valueOf (μ : Mm) (o : Nat) (i w : Int32) : Int32 :=
  if w = 0 then R_get μ (o + 3) 20 i else if w = 1 then R_get μ (o + 7) 20 i else if w = 2 then R_get μ (o + 9) 20 i else if w = 3 then R_get μ (o + 11) 20 i else O_placeOf μ o i
/-- from the place n - 1 down -/
def O_reL (o : Nat) : Nat → Mm → Mm
  | 0, μ => μ
  | n + 1, μ => O_reL o n (if R_get μ (o + 9) 20 (nI n) = 0 then O_removeAt μ o (nI n) else μ)
def O_removeEmpty (μ : Mm) (o : Nat) : Mm := O_reL o (cn (μ o 0)) μ
def O_ruL (o : Nat) (r : Int32) : Nat → Mm → Mm
  | 0, μ => μ
  | n + 1, μ => O_ruL o r n (if R_get μ (o + 11) 20 (nI n) ≤ r then O_removeAt μ o (nI n) else μ)
def O_ruM (μ : Mm) (o : Nat) (r : Int32) : Mm := O_ruL o r (cn (μ o 0)) μ
def O_removeUpTo (μ : Mm) (o : Nat) (r : Int32) : Int32 := μ o 0 - O_ruM μ o r o 0
def O_copy (μ : Mm) (o b : Nat) : Mm :=
  R_copy (R_copy (R_copy (R_copy (R_copy (R_copy (up2 μ o 0 (μ b 0)) (o + 1) 20 (b + 1)) (o + 3) 20 (b + 3)) (o + 5) 20 (b + 5)) (o + 7) 20 (b + 7)) (o + 9) 20 (b + 9)) (o + 11) 20 (b + 11)
theorem nI_m1 (n : Nat) : nI n + (-1) = nI n - 1 := by
  rw [Int32.sub_eq_add_neg]
theorem nI_dn {n : Nat} (h : n < 2 ^ 31) : ¬ nI (n + 1) - 1 < 0 := by
  rw [nI_pred]
  exact nI_pos h
theorem nI_lo : nI 0 - 1 < 0 := by decide
/-- where a count begins to be counted down -/
theorem cnt_dn {x : Int32} (h : ¬ x < 0) : x - 1 = nI (cn x) - 1 := by rw [nI_cn h]
set_option maxHeartbeats 4000000 in
set_option maxRecDepth 100000 in
theorem MX4_isFull (l : Launch) (G : GG) (B : Nat) (μ : Mm) (o : Nat) (ho : isO o) : CM l yX4_isFull (.code yX4_isFull cX4_isFull 1 (Option.some FieldType.boolean)) 0 0 G B [.ref (B + o)] μ (some (.int (O_full μ o))) μ := by
  refine CM.of (by decide) (Nat.le_of_ble_eq_true rfl) ?_
  intro p e s m below meth c ls K hr hlocks hP hl
  have hS : va_S (AA B) s.heap s.heap [] := va_S.rf
  have hl : lv_has ls 1 [(0, .ref (B + o))] := hl
  refine lv_aload_n K.1.1 K.1.2.1 dX4_isFull_0 rfl (lv_at hl 0 rfl) ?_
  refine m_geti K hP ho.1 ho.2.1 rfl tuX4 0 (by decide) rfl q_106 dX4_isFull_1 ?_
  refine lv_topi (fun g_1 eg_1 => ?_)
  refine lv_bipush (v := 20) K.1.1 K.1.2.1 dX4_isFull_4 (by decide) ?_
  refine lv_icmp_lt (tgt := 13) K.1.1 K.1.2.1 dX4_isFull_6 (by decide) (fun c_6 => ?_) (fun c_6 => ?_)
  · refine lv_iconst (v := 0) K.1.1 K.1.2.1 dX4_isFull_13 (by decide) ?_
    exact m_zret K hr hlocks hP hS dX4_isFull_14 (by first | rfl | (subst eg_1; rfl)) (by subst eg_1; first | (simp only [O_full, c_6, Int32.not_le.mpr c_6, if_true, if_false, ite_true, ite_false, reduceIte, not_true, not_false_iff]; done) | simp [O_full, c_6, Int32.not_le.mpr c_6]) rfl
  · refine lv_iconst (v := 1) K.1.1 K.1.2.1 dX4_isFull_9 (by decide) ?_
    refine lv_goto (tgt := 14) K.1.1 K.1.2.1 dX4_isFull_10 (by decide) ?_
    exact m_zret K hr hlocks hP hS dX4_isFull_14 (by first | rfl | (subst eg_1; rfl)) (by subst eg_1; first | (simp only [O_full, c_6, Int32.not_lt.mp c_6, if_true, if_false, ite_true, ite_false, reduceIte, not_true, not_false_iff]; done) | simp [O_full, c_6, Int32.not_lt.mp c_6]) rfl

set_option maxHeartbeats 4000000 in
set_option maxRecDepth 100000 in
theorem MX4_indexOf (l : Launch) (G : GG) (B : Nat) (μ : Mm) (o : Nat) (ho : isO o) (x : Int32) : CM l yX4_indexOf (.code yX4_indexOf cX4_indexOf 3 (Option.some FieldType.int)) 1 21 G B [.ref (B + o), .int x] μ (some (.int (O_indexOf μ o x))) μ := by
  refine CM.of (by decide) (Nat.le_of_ble_eq_true rfl) ?_
  intro p e s m below meth c ls K hr hlocks hP hl
  have hS : va_S (AA B) s.heap s.heap [] := va_S.rf
  have hl : lv_has ls 3 [(0, .ref (B + o)), (1, .int x)] := hl
  refine lv_iconst (v := 0) K.1.1 K.1.2.1 dX4_indexOf_0 (by decide) ?_
  refine lv_istore_n (lv' := [(2, .int 0), (0, .ref (B + o)), (1, .int x)]) K.1.1 K.1.2.1 dX4_indexOf_1 rfl hl (by decide) rfl (fun ls hl => ?_)
  refine up_to (N := cn (μ o 0)) (P := fun k : Nat => ∀ (v2_2 : Int32) (H : Heap) (locs : List Loc) (ls : Array Slot), (v2_2 = nI k) → (∀ j : Nat, j < k → decide (R_get μ (o + 1) 20 (nI j) = x) = false) → MP G B μ H → va_S (AA B) s.heap H locs → lv_has ls 3 [(2, .int v2_2), (0, .ref (B + o)), (1, .int x)] → W p l e ({ frames := 1, cells := 0, slots := 0, locals := 21 } : Room) s m ([.ref (B + o), .int x] : List Value).toArray below meth c H locs 0 0 (MF below G B (some (.int (O_indexOf μ o x))) μ ([.ref (B + o), .int x] : List Value).toArray s) (F0 m 2 ls [])) ?_ ?_ _ _ _ _ (by first | rfl | (skip; rfl)) (by intro j hj; exact absurd hj (Nat.not_lt_zero _)) hP hS (lv_sub hl [0, 1, 2] rfl)
  · intro v2_2 H locs ls ev2_2 inv_2 hP hS hl
    refine lv_iload_n K.1.1 K.1.2.1 dX4_indexOf_2 rfl (lv_at hl 0 rfl) ?_
    refine lv_aload_n K.1.1 K.1.2.1 dX4_indexOf_3 rfl (lv_at hl 1 rfl) ?_
    refine m_geti K hP ho.1 ho.2.1 rfl tuX4 0 (by decide) rfl q_106 dX4_indexOf_4 ?_
    refine lv_topi (fun g_1 eg_1 => ?_)
    refine lv_icmp_ge (tgt := 30) K.1.1 K.1.2.1 dX4_indexOf_7 (by decide) (fun c_7 => ?_) (fun c_7 => ?_)
    · refine lv_iconst (v := (-1)) K.1.1 K.1.2.1 dX4_indexOf_30 (by decide) ?_
      exact m_iret K hr hlocks hP hS dX4_indexOf_31 (by subst ev2_2 eg_1; exact congrArg (fun z => some (Value.int z)) (fstI_none inv_2)) rfl
    · exact absurd c_7 (not_not_intro (by subst ev2_2 eg_1; exact cn_out _))
  · intro k hk ih_2 v2_2 H locs ls ev2_2 inv_2 hP hS hl
    refine lv_iload_n K.1.1 K.1.2.1 dX4_indexOf_2 rfl (lv_at hl 0 rfl) ?_
    refine lv_aload_n K.1.1 K.1.2.1 dX4_indexOf_3 rfl (lv_at hl 1 rfl) ?_
    refine m_geti K hP ho.1 ho.2.1 rfl tuX4 0 (by decide) rfl q_106 dX4_indexOf_4 ?_
    refine lv_topi (fun g_2 eg_2 => ?_)
    refine lv_icmp_ge (tgt := 30) K.1.1 K.1.2.1 dX4_indexOf_7 (by decide) (fun c_7 => ?_) (fun c_7 => ?_)
    · exact absurd c_7 (by subst ev2_2 eg_2; exact cn_in hk)
    · refine lv_aload_n K.1.1 K.1.2.1 dX4_indexOf_10 rfl (lv_at hl 1 rfl) ?_
      refine m_getr K hP ho.1 ho.2.1 rfl tuX4 1 (by decide) rfl q_110 dX4_indexOf_11 ?_
      refine lv_iload_n K.1.1 K.1.2.1 dX4_indexOf_14 rfl (lv_at hl 0 rfl) ?_
      refine m_cV (n := 1) (As := [.int v2_2]) (rest := []) K hP hS (MX5_get l G B _ (o + 1) 20 ho.2.2.1 v2_2 ) (Nat.lt_of_succ_lt ho.2.2.1.1) ho.2.2.1.2.1 rfl q_467 q_460 q_461 q_18 q_462 hv_X5_get ⟨Nat.le_of_ble_eq_true rfl, Nat.le_of_ble_eq_true rfl⟩ rfl hl.1 rfl (Nat.le_of_ble_eq_true rfl) dX4_indexOf_15 ⟨Nat.zero_le _, Nat.zero_le _⟩ (fun H locs hP hS => ?_)
      refine lv_topi (fun r_3 er_3 => ?_)
      refine lv_iload_n K.1.1 K.1.2.1 dX4_indexOf_18 rfl (lv_at hl 2 rfl) ?_
      refine lv_icmp_ne (tgt := 24) K.1.1 K.1.2.1 dX4_indexOf_19 (by decide) (fun c_19 => ?_) (fun c_19 => ?_)
      · obtain ⟨x_4, ex_4⟩ : ∃ y : Int32, y = v2_2 + (1) := ⟨_, rfl⟩
        refine lv_iinc (v := x_4) (lv' := [(2, .int x_4), (0, .ref (B + o)), (1, .int x)]) K.1.1 K.1.2.1 dX4_indexOf_24 hl (k := 0) rfl (by rw [ex_4]; rfl) (by decide) rfl (fun ls hl => ?_)
        refine lv_goto (tgt := 2) K.1.1 K.1.2.1 dX4_indexOf_27 (by decide) ?_
        exact ih_2 _ _ _ _ (by subst ev2_2 eg_2 er_3 ex_4; exact nI_1 _) (by subst ev2_2 eg_2 er_3 ex_4; exact lt_s inv_2 (decide_eq_false c_19)) hP hS (lv_sub hl [0, 1, 2] rfl)
      · refine lv_iload_n K.1.1 K.1.2.1 dX4_indexOf_22 rfl (lv_at hl 0 rfl) ?_
        exact m_iret K hr hlocks hP hS dX4_indexOf_23 (by subst ev2_2 eg_2 er_3; exact congrArg (fun z => some (Value.int z)) (fstI_some hk inv_2 (decide_eq_true c_19))) rfl

set_option maxHeartbeats 4000000 in
set_option maxRecDepth 100000 in
theorem MX4_faultOfNumber (l : Launch) (G : GG) (B : Nat) (μ : Mm) (o : Nat) (ho : isO o) (x : Int32) : CM l yX4_faultOfNumber (.code yX4_faultOfNumber cX4_faultOfNumber 2 (Option.some FieldType.int)) 2 43 G B [.ref (B + o), .int x] μ (some (.int (O_faultOfNumber μ o x))) μ := by
  refine CM.of (by decide) (Nat.le_of_ble_eq_true rfl) ?_
  intro p e s m below meth c ls K hr hlocks hP hl
  have hS : va_S (AA B) s.heap s.heap [] := va_S.rf
  have hl : lv_has ls 2 [(0, .ref (B + o)), (1, .int x)] := hl
  refine lv_aload_n K.1.1 K.1.2.1 dX4_faultOfNumber_0 rfl (lv_at hl 0 rfl) ?_
  refine lv_iload_n K.1.1 K.1.2.1 dX4_faultOfNumber_1 rfl (lv_at hl 1 rfl) ?_
  refine m_cV (n := 1) (As := [.int x]) (rest := []) K hP hS (MX4_indexOf l G B _ o ho x ) ho.1 ho.2.1 rfl q_614 q_615 q_616 q_19 q_617 hv_X4_indexOf ⟨Nat.le_of_ble_eq_true rfl, Nat.le_of_ble_eq_true rfl⟩ rfl hl.1 rfl (Nat.le_of_ble_eq_true rfl) dX4_faultOfNumber_2 ⟨Nat.zero_le _, Nat.zero_le _⟩ (fun H locs hP hS => ?_)
  refine lv_topi (fun r_1 er_1 => ?_)
  refine lv_if_lt (tgt := 12) K.1.1 K.1.2.1 dX4_faultOfNumber_5 (by decide) (fun c_5 => ?_) (fun c_5 => ?_)
  · refine lv_iconst (v := 1) K.1.1 K.1.2.1 dX4_faultOfNumber_12 (by decide) ?_
    exact m_iret K hr hlocks hP hS dX4_faultOfNumber_13 (by subst er_1; first | (simp only [O_faultOfNumber, c_5, Int32.not_le.mpr c_5, if_true, if_false, ite_true, ite_false, reduceIte, not_true, not_false_iff]; done) | simp [O_faultOfNumber, c_5, Int32.not_le.mpr c_5]) rfl
  · refine lv_iconst (v := 0) K.1.1 K.1.2.1 dX4_faultOfNumber_8 (by decide) ?_
    refine lv_goto (tgt := 13) K.1.1 K.1.2.1 dX4_faultOfNumber_9 (by decide) ?_
    exact m_iret K hr hlocks hP hS dX4_faultOfNumber_13 (by subst er_1; first | (simp only [O_faultOfNumber, c_5, Int32.not_lt.mp c_5, if_true, if_false, ite_true, ite_false, reduceIte, not_true, not_false_iff]; done) | simp [O_faultOfNumber, c_5, Int32.not_lt.mp c_5]) rfl

set_option maxHeartbeats 4000000 in
set_option maxRecDepth 100000 in
theorem MX4_append (l : Launch) (G : GG) (B : Nat) (μ : Mm) (o : Nat) (ho : isO o) (x0 : Int32) (x1 : Int32) (x2 : Int32) (x3 : Int32) (x4 : Int32) (x5 : Int32) : CM l yX4_append (.code yX4_append cX4_append 7 Option.none) 1 22 G B [.ref (B + o), .int x0, .int x1, .int x2, .int x3, .int x4, .int x5] μ none (O_append μ o x0 x1 x2 x3 x4 x5) := by
  refine CM.of (by decide) (Nat.le_of_ble_eq_true rfl) ?_
  intro p e s m below meth c ls K hr hlocks hP hl
  have hS : va_S (AA B) s.heap s.heap [] := va_S.rf
  have hl : lv_has ls 7 [(0, .ref (B + o)), (1, .int x0), (2, .int x1), (3, .int x2), (4, .int x3), (5, .int x4), (6, .int x5)] := hl
  refine lv_aload_n K.1.1 K.1.2.1 dX4_append_0 rfl (lv_at hl 0 rfl) ?_
  refine m_getr K hP ho.1 ho.2.1 rfl tuX4 1 (by decide) rfl q_110 dX4_append_1 ?_
  refine lv_aload_n K.1.1 K.1.2.1 dX4_append_4 rfl (lv_at hl 0 rfl) ?_
  refine m_geti K hP ho.1 ho.2.1 rfl tuX4 0 (by decide) rfl q_106 dX4_append_5 ?_
  refine lv_topi (fun g_1 eg_1 => ?_)
  refine lv_iload_n K.1.1 K.1.2.1 dX4_append_8 rfl (lv_at hl 1 rfl) ?_
  refine m_cV (n := 2) (As := [.int g_1, .int x0]) (rest := []) K hP hS (MX5_put l G B _ (o + 1) 20 ho.2.2.1 g_1 x0 ) (Nat.lt_of_succ_lt ho.2.2.1.1) ho.2.2.1.2.1 rfl q_745 q_469 q_470 q_18 q_471 hv_X5_put ⟨Nat.le_of_ble_eq_true rfl, Nat.le_of_ble_eq_true rfl⟩ rfl hl.1 rfl (Nat.le_of_ble_eq_true rfl) dX4_append_9 ⟨Nat.zero_le _, Nat.zero_le _⟩ (fun H locs hP hS => ?_)
  refine W.eq (g2 := F0 m 12 ls []) rfl ?_
  refine lv_aload_n K.1.1 K.1.2.1 dX4_append_12 rfl (lv_at hl 0 rfl) ?_
  refine m_getr K hP ho.1 ho.2.1 rfl tuX4 2 (by decide) rfl q_113 dX4_append_13 ?_
  refine lv_aload_n K.1.1 K.1.2.1 dX4_append_16 rfl (lv_at hl 0 rfl) ?_
  refine m_geti K hP ho.1 ho.2.1 rfl tuX4 0 (by decide) rfl q_106 dX4_append_17 ?_
  refine lv_topi (fun g_2 eg_2 => ?_)
  refine lv_iload_n K.1.1 K.1.2.1 dX4_append_20 rfl (lv_at hl 2 rfl) ?_
  refine m_cV (n := 2) (As := [.int g_2, .int x1]) (rest := []) K hP hS (MX5_put l G B _ (o + 3) 20 ho.2.2.2.1 g_2 x1 ) (Nat.lt_of_succ_lt ho.2.2.2.1.1) ho.2.2.2.1.2.1 rfl q_745 q_469 q_470 q_18 q_471 hv_X5_put ⟨Nat.le_of_ble_eq_true rfl, Nat.le_of_ble_eq_true rfl⟩ rfl hl.1 rfl (Nat.le_of_ble_eq_true rfl) dX4_append_21 ⟨Nat.zero_le _, Nat.zero_le _⟩ (fun H locs hP hS => ?_)
  refine W.eq (g2 := F0 m 24 ls []) rfl ?_
  refine lv_aload_n K.1.1 K.1.2.1 dX4_append_24 rfl (lv_at hl 0 rfl) ?_
  refine m_getr K hP ho.1 ho.2.1 rfl tuX4 3 (by decide) rfl q_116 dX4_append_25 ?_
  refine lv_aload_n K.1.1 K.1.2.1 dX4_append_28 rfl (lv_at hl 0 rfl) ?_
  refine m_geti K hP ho.1 ho.2.1 rfl tuX4 0 (by decide) rfl q_106 dX4_append_29 ?_
  refine lv_topi (fun g_3 eg_3 => ?_)
  refine lv_iload_n K.1.1 K.1.2.1 dX4_append_32 rfl (lv_at hl 3 rfl) ?_
  refine m_cV (n := 2) (As := [.int g_3, .int x2]) (rest := []) K hP hS (MX5_put l G B _ (o + 5) 20 ho.2.2.2.2.1 g_3 x2 ) (Nat.lt_of_succ_lt ho.2.2.2.2.1.1) ho.2.2.2.2.1.2.1 rfl q_745 q_469 q_470 q_18 q_471 hv_X5_put ⟨Nat.le_of_ble_eq_true rfl, Nat.le_of_ble_eq_true rfl⟩ rfl hl.1 rfl (Nat.le_of_ble_eq_true rfl) dX4_append_33 ⟨Nat.zero_le _, Nat.zero_le _⟩ (fun H locs hP hS => ?_)
  refine W.eq (g2 := F0 m 36 ls []) rfl ?_
  refine lv_aload_n K.1.1 K.1.2.1 dX4_append_36 rfl (lv_at hl 0 rfl) ?_
  refine m_getr K hP ho.1 ho.2.1 rfl tuX4 4 (by decide) rfl q_118 dX4_append_37 ?_
  refine lv_aload_n K.1.1 K.1.2.1 dX4_append_40 rfl (lv_at hl 0 rfl) ?_
  refine m_geti K hP ho.1 ho.2.1 rfl tuX4 0 (by decide) rfl q_106 dX4_append_41 ?_
  refine lv_topi (fun g_4 eg_4 => ?_)
  refine lv_iload K.1.1 K.1.2.1 dX4_append_44 (lv_at hl 4 rfl) ?_
  refine m_cV (n := 2) (As := [.int g_4, .int x3]) (rest := []) K hP hS (MX5_put l G B _ (o + 7) 20 ho.2.2.2.2.2.1 g_4 x3 ) (Nat.lt_of_succ_lt ho.2.2.2.2.2.1.1) ho.2.2.2.2.2.1.2.1 rfl q_745 q_469 q_470 q_18 q_471 hv_X5_put ⟨Nat.le_of_ble_eq_true rfl, Nat.le_of_ble_eq_true rfl⟩ rfl hl.1 rfl (Nat.le_of_ble_eq_true rfl) dX4_append_46 ⟨Nat.zero_le _, Nat.zero_le _⟩ (fun H locs hP hS => ?_)
  refine W.eq (g2 := F0 m 49 ls []) rfl ?_
  refine lv_aload_n K.1.1 K.1.2.1 dX4_append_49 rfl (lv_at hl 0 rfl) ?_
  refine m_getr K hP ho.1 ho.2.1 rfl tuX4 5 (by decide) rfl q_120 dX4_append_50 ?_
  refine lv_aload_n K.1.1 K.1.2.1 dX4_append_53 rfl (lv_at hl 0 rfl) ?_
  refine m_geti K hP ho.1 ho.2.1 rfl tuX4 0 (by decide) rfl q_106 dX4_append_54 ?_
  refine lv_topi (fun g_5 eg_5 => ?_)
  refine lv_iload K.1.1 K.1.2.1 dX4_append_57 (lv_at hl 5 rfl) ?_
  refine m_cV (n := 2) (As := [.int g_5, .int x4]) (rest := []) K hP hS (MX5_put l G B _ (o + 9) 20 ho.2.2.2.2.2.2.1 g_5 x4 ) (Nat.lt_of_succ_lt ho.2.2.2.2.2.2.1.1) ho.2.2.2.2.2.2.1.2.1 rfl q_745 q_469 q_470 q_18 q_471 hv_X5_put ⟨Nat.le_of_ble_eq_true rfl, Nat.le_of_ble_eq_true rfl⟩ rfl hl.1 rfl (Nat.le_of_ble_eq_true rfl) dX4_append_59 ⟨Nat.zero_le _, Nat.zero_le _⟩ (fun H locs hP hS => ?_)
  refine W.eq (g2 := F0 m 62 ls []) rfl ?_
  refine lv_aload_n K.1.1 K.1.2.1 dX4_append_62 rfl (lv_at hl 0 rfl) ?_
  refine m_getr K hP ho.1 ho.2.1 rfl tuX4 6 (by decide) rfl q_123 dX4_append_63 ?_
  refine lv_aload_n K.1.1 K.1.2.1 dX4_append_66 rfl (lv_at hl 0 rfl) ?_
  refine m_geti K hP ho.1 ho.2.1 rfl tuX4 0 (by decide) rfl q_106 dX4_append_67 ?_
  refine lv_topi (fun g_6 eg_6 => ?_)
  refine lv_iload K.1.1 K.1.2.1 dX4_append_70 (lv_at hl 6 rfl) ?_
  refine m_cV (n := 2) (As := [.int g_6, .int x5]) (rest := []) K hP hS (MX5_put l G B _ (o + 11) 20 ho.2.2.2.2.2.2.2 g_6 x5 ) (Nat.lt_of_succ_lt ho.2.2.2.2.2.2.2.1) ho.2.2.2.2.2.2.2.2.1 rfl q_745 q_469 q_470 q_18 q_471 hv_X5_put ⟨Nat.le_of_ble_eq_true rfl, Nat.le_of_ble_eq_true rfl⟩ rfl hl.1 rfl (Nat.le_of_ble_eq_true rfl) dX4_append_72 ⟨Nat.zero_le _, Nat.zero_le _⟩ (fun H locs hP hS => ?_)
  refine W.eq (g2 := F0 m 75 ls []) rfl ?_
  refine lv_aload_n K.1.1 K.1.2.1 dX4_append_75 rfl (lv_at hl 0 rfl) ?_
  refine lv_dup K.1.1 K.1.2.1 dX4_append_76 rfl ?_
  refine m_geti K hP ho.1 ho.2.1 rfl tuX4 0 (by decide) rfl q_106 dX4_append_77 ?_
  refine lv_topi (fun g_7 eg_7 => ?_)
  refine lv_iconst (v := 1) K.1.1 K.1.2.1 dX4_append_80 (by decide) ?_
  refine lv_iadd K.1.1 K.1.2.1 dX4_append_81 ?_
  refine m_puti K hP hS ho.1 ho.2.1 rfl tuX4 tyX4 tyX4_ok nmX4 0 (by decide) rfl rfl (by decide +kernel) q_106 dX4_append_82 (fun H locs hP hS => ?_)
  exact m_vret K hr hlocks hP hS dX4_append_85 rfl (by subst eg_1 eg_2 eg_3 eg_4 eg_5 eg_6 eg_7; rfl)

set_option maxHeartbeats 4000000 in
set_option maxRecDepth 100000 in
theorem MX4_removeAt (l : Launch) (G : GG) (B : Nat) (μ : Mm) (o : Nat) (ho : isO o) (i : Int32) : CM l yX4_removeAt (.code yX4_removeAt cX4_removeAt 2 Option.none) 1 22 G B [.ref (B + o), .int i] μ none (O_removeAt μ o i) := by
  refine CM.of (by decide) (Nat.le_of_ble_eq_true rfl) ?_
  intro p e s m below meth c ls K hr hlocks hP hl
  have hS : va_S (AA B) s.heap s.heap [] := va_S.rf
  have hl : lv_has ls 2 [(0, .ref (B + o)), (1, .int i)] := hl
  refine lv_iload_n K.1.1 K.1.2.1 dX4_removeAt_0 rfl (lv_at hl 1 rfl) ?_
  refine lv_if_lt (tgt := 12) K.1.1 K.1.2.1 dX4_removeAt_1 (by decide) (fun c_1 => ?_) (fun c_1 => ?_)
  · exact m_vret K hr hlocks hP hS dX4_removeAt_12 rfl (by skip; simp [O_removeAt, c_1, Int32.not_le.mpr c_1])
  · refine lv_iload_n K.1.1 K.1.2.1 dX4_removeAt_4 rfl (lv_at hl 1 rfl) ?_
    refine lv_aload_n K.1.1 K.1.2.1 dX4_removeAt_5 rfl (lv_at hl 0 rfl) ?_
    refine m_geti K hP ho.1 ho.2.1 rfl tuX4 0 (by decide) rfl q_106 dX4_removeAt_6 ?_
    refine lv_topi (fun g_1 eg_1 => ?_)
    refine lv_icmp_lt (tgt := 13) K.1.1 K.1.2.1 dX4_removeAt_9 (by decide) (fun c_9 => ?_) (fun c_9 => ?_)
    · refine lv_aload_n K.1.1 K.1.2.1 dX4_removeAt_13 rfl (lv_at hl 0 rfl) ?_
      refine m_getr K hP ho.1 ho.2.1 rfl tuX4 1 (by decide) rfl q_110 dX4_removeAt_14 ?_
      refine lv_iload_n K.1.1 K.1.2.1 dX4_removeAt_17 rfl (lv_at hl 1 rfl) ?_
      refine m_cV (n := 1) (As := [.int i]) (rest := []) K hP hS (MX5_removeAt l G B _ (o + 1) 20 ho.2.2.1 i c_1 (cn_succ c_1 (by subst eg_1; exact c_9))) (Nat.lt_of_succ_lt ho.2.2.1.1) ho.2.2.1.2.1 rfl q_763 q_764 q_765 q_18 q_766 hv_X5_removeAt ⟨Nat.le_of_ble_eq_true rfl, Nat.le_of_ble_eq_true rfl⟩ rfl hl.1 rfl (Nat.le_of_ble_eq_true rfl) dX4_removeAt_18 ⟨Nat.zero_le _, Nat.zero_le _⟩ (fun H locs hP hS => ?_)
      refine W.eq (g2 := F0 m 21 ls []) rfl ?_
      refine lv_aload_n K.1.1 K.1.2.1 dX4_removeAt_21 rfl (lv_at hl 0 rfl) ?_
      refine m_getr K hP ho.1 ho.2.1 rfl tuX4 2 (by decide) rfl q_113 dX4_removeAt_22 ?_
      refine lv_iload_n K.1.1 K.1.2.1 dX4_removeAt_25 rfl (lv_at hl 1 rfl) ?_
      refine m_cV (n := 1) (As := [.int i]) (rest := []) K hP hS (MX5_removeAt l G B _ (o + 3) 20 ho.2.2.2.1 i c_1 (cn_succ c_1 (by subst eg_1; exact c_9))) (Nat.lt_of_succ_lt ho.2.2.2.1.1) ho.2.2.2.1.2.1 rfl q_763 q_764 q_765 q_18 q_766 hv_X5_removeAt ⟨Nat.le_of_ble_eq_true rfl, Nat.le_of_ble_eq_true rfl⟩ rfl hl.1 rfl (Nat.le_of_ble_eq_true rfl) dX4_removeAt_26 ⟨Nat.zero_le _, Nat.zero_le _⟩ (fun H locs hP hS => ?_)
      refine W.eq (g2 := F0 m 29 ls []) rfl ?_
      refine lv_aload_n K.1.1 K.1.2.1 dX4_removeAt_29 rfl (lv_at hl 0 rfl) ?_
      refine m_getr K hP ho.1 ho.2.1 rfl tuX4 3 (by decide) rfl q_116 dX4_removeAt_30 ?_
      refine lv_iload_n K.1.1 K.1.2.1 dX4_removeAt_33 rfl (lv_at hl 1 rfl) ?_
      refine m_cV (n := 1) (As := [.int i]) (rest := []) K hP hS (MX5_removeAt l G B _ (o + 5) 20 ho.2.2.2.2.1 i c_1 (cn_succ c_1 (by subst eg_1; exact c_9))) (Nat.lt_of_succ_lt ho.2.2.2.2.1.1) ho.2.2.2.2.1.2.1 rfl q_763 q_764 q_765 q_18 q_766 hv_X5_removeAt ⟨Nat.le_of_ble_eq_true rfl, Nat.le_of_ble_eq_true rfl⟩ rfl hl.1 rfl (Nat.le_of_ble_eq_true rfl) dX4_removeAt_34 ⟨Nat.zero_le _, Nat.zero_le _⟩ (fun H locs hP hS => ?_)
      refine W.eq (g2 := F0 m 37 ls []) rfl ?_
      refine lv_aload_n K.1.1 K.1.2.1 dX4_removeAt_37 rfl (lv_at hl 0 rfl) ?_
      refine m_getr K hP ho.1 ho.2.1 rfl tuX4 4 (by decide) rfl q_118 dX4_removeAt_38 ?_
      refine lv_iload_n K.1.1 K.1.2.1 dX4_removeAt_41 rfl (lv_at hl 1 rfl) ?_
      refine m_cV (n := 1) (As := [.int i]) (rest := []) K hP hS (MX5_removeAt l G B _ (o + 7) 20 ho.2.2.2.2.2.1 i c_1 (cn_succ c_1 (by subst eg_1; exact c_9))) (Nat.lt_of_succ_lt ho.2.2.2.2.2.1.1) ho.2.2.2.2.2.1.2.1 rfl q_763 q_764 q_765 q_18 q_766 hv_X5_removeAt ⟨Nat.le_of_ble_eq_true rfl, Nat.le_of_ble_eq_true rfl⟩ rfl hl.1 rfl (Nat.le_of_ble_eq_true rfl) dX4_removeAt_42 ⟨Nat.zero_le _, Nat.zero_le _⟩ (fun H locs hP hS => ?_)
      refine W.eq (g2 := F0 m 45 ls []) rfl ?_
      refine lv_aload_n K.1.1 K.1.2.1 dX4_removeAt_45 rfl (lv_at hl 0 rfl) ?_
      refine m_getr K hP ho.1 ho.2.1 rfl tuX4 5 (by decide) rfl q_120 dX4_removeAt_46 ?_
      refine lv_iload_n K.1.1 K.1.2.1 dX4_removeAt_49 rfl (lv_at hl 1 rfl) ?_
      refine m_cV (n := 1) (As := [.int i]) (rest := []) K hP hS (MX5_removeAt l G B _ (o + 9) 20 ho.2.2.2.2.2.2.1 i c_1 (cn_succ c_1 (by subst eg_1; exact c_9))) (Nat.lt_of_succ_lt ho.2.2.2.2.2.2.1.1) ho.2.2.2.2.2.2.1.2.1 rfl q_763 q_764 q_765 q_18 q_766 hv_X5_removeAt ⟨Nat.le_of_ble_eq_true rfl, Nat.le_of_ble_eq_true rfl⟩ rfl hl.1 rfl (Nat.le_of_ble_eq_true rfl) dX4_removeAt_50 ⟨Nat.zero_le _, Nat.zero_le _⟩ (fun H locs hP hS => ?_)
      refine W.eq (g2 := F0 m 53 ls []) rfl ?_
      refine lv_aload_n K.1.1 K.1.2.1 dX4_removeAt_53 rfl (lv_at hl 0 rfl) ?_
      refine m_getr K hP ho.1 ho.2.1 rfl tuX4 6 (by decide) rfl q_123 dX4_removeAt_54 ?_
      refine lv_iload_n K.1.1 K.1.2.1 dX4_removeAt_57 rfl (lv_at hl 1 rfl) ?_
      refine m_cV (n := 1) (As := [.int i]) (rest := []) K hP hS (MX5_removeAt l G B _ (o + 11) 20 ho.2.2.2.2.2.2.2 i c_1 (cn_succ c_1 (by subst eg_1; exact c_9))) (Nat.lt_of_succ_lt ho.2.2.2.2.2.2.2.1) ho.2.2.2.2.2.2.2.2.1 rfl q_763 q_764 q_765 q_18 q_766 hv_X5_removeAt ⟨Nat.le_of_ble_eq_true rfl, Nat.le_of_ble_eq_true rfl⟩ rfl hl.1 rfl (Nat.le_of_ble_eq_true rfl) dX4_removeAt_58 ⟨Nat.zero_le _, Nat.zero_le _⟩ (fun H locs hP hS => ?_)
      refine W.eq (g2 := F0 m 61 ls []) rfl ?_
      refine lv_aload_n K.1.1 K.1.2.1 dX4_removeAt_61 rfl (lv_at hl 0 rfl) ?_
      refine lv_dup K.1.1 K.1.2.1 dX4_removeAt_62 rfl ?_
      refine m_geti K hP ho.1 ho.2.1 rfl tuX4 0 (by decide) rfl q_106 dX4_removeAt_63 ?_
      refine lv_topi (fun g_2 eg_2 => ?_)
      refine lv_iconst (v := 1) K.1.1 K.1.2.1 dX4_removeAt_66 (by decide) ?_
      refine lv_isub K.1.1 K.1.2.1 dX4_removeAt_67 ?_
      refine m_puti K hP hS ho.1 ho.2.1 rfl tuX4 tyX4 tyX4_ok nmX4 0 (by decide) rfl rfl (by decide +kernel) q_106 dX4_removeAt_68 (fun H locs hP hS => ?_)
      exact m_vret K hr hlocks hP hS dX4_removeAt_71 rfl (by subst eg_1 eg_2; rw [O_removeAt, if_neg c_1, if_pos c_9]; rfl)
    · exact m_vret K hr hlocks hP hS dX4_removeAt_12 rfl (by subst eg_1; simp [O_removeAt, c_1, Int32.not_lt.mp c_1, c_9, Int32.not_lt.mp c_9])

set_option maxHeartbeats 4000000 in
set_option maxRecDepth 100000 in
theorem MX4_withdraw (l : Launch) (G : GG) (B : Nat) (μ : Mm) (o : Nat) (ho : isO o) (x : Int32) : CM l yX4_withdraw (.code yX4_withdraw cX4_withdraw 4 (Option.some FieldType.int)) 2 43 G B [.ref (B + o), .int x] μ (some (.int (R_get μ (o + 9) 20 (O_indexOf μ o x)))) (O_removeAt μ o (O_indexOf μ o x)) := by
  refine CM.of (by decide) (Nat.le_of_ble_eq_true rfl) ?_
  intro p e s m below meth c ls K hr hlocks hP hl
  have hS : va_S (AA B) s.heap s.heap [] := va_S.rf
  have hl : lv_has ls 4 [(0, .ref (B + o)), (1, .int x)] := hl
  refine lv_aload_n K.1.1 K.1.2.1 dX4_withdraw_0 rfl (lv_at hl 0 rfl) ?_
  refine lv_iload_n K.1.1 K.1.2.1 dX4_withdraw_1 rfl (lv_at hl 1 rfl) ?_
  refine m_cV (n := 1) (As := [.int x]) (rest := []) K hP hS (MX4_indexOf l G B _ o ho x ) ho.1 ho.2.1 rfl q_614 q_615 q_616 q_19 q_617 hv_X4_indexOf ⟨Nat.le_of_ble_eq_true rfl, Nat.le_of_ble_eq_true rfl⟩ rfl hl.1 rfl (Nat.le_of_ble_eq_true rfl) dX4_withdraw_2 ⟨Nat.zero_le _, Nat.zero_le _⟩ (fun H locs hP hS => ?_)
  refine lv_topi (fun r_1 er_1 => ?_)
  refine lv_istore_n (lv' := [(2, .int r_1), (0, .ref (B + o)), (1, .int x)]) K.1.1 K.1.2.1 dX4_withdraw_5 rfl hl (by decide) rfl (fun ls hl => ?_)
  refine lv_aload_n K.1.1 K.1.2.1 dX4_withdraw_6 rfl (lv_at hl 1 rfl) ?_
  refine m_getr K hP ho.1 ho.2.1 rfl tuX4 5 (by decide) rfl q_120 dX4_withdraw_7 ?_
  refine lv_iload_n K.1.1 K.1.2.1 dX4_withdraw_10 rfl (lv_at hl 0 rfl) ?_
  refine m_cV (n := 1) (As := [.int r_1]) (rest := []) K hP hS (MX5_get l G B _ (o + 9) 20 ho.2.2.2.2.2.2.1 r_1 ) (Nat.lt_of_succ_lt ho.2.2.2.2.2.2.1.1) ho.2.2.2.2.2.2.1.2.1 rfl q_467 q_460 q_461 q_18 q_462 hv_X5_get ⟨Nat.le_of_ble_eq_true rfl, Nat.le_of_ble_eq_true rfl⟩ rfl hl.1 rfl (Nat.le_of_ble_eq_true rfl) dX4_withdraw_11 ⟨Nat.zero_le _, Nat.zero_le _⟩ (fun H locs hP hS => ?_)
  refine lv_topi (fun r_2 er_2 => ?_)
  refine lv_istore_n (lv' := [(3, .int r_2), (2, .int r_1), (0, .ref (B + o)), (1, .int x)]) K.1.1 K.1.2.1 dX4_withdraw_14 rfl hl (by decide) rfl (fun ls hl => ?_)
  refine lv_aload_n K.1.1 K.1.2.1 dX4_withdraw_15 rfl (lv_at hl 2 rfl) ?_
  refine lv_iload_n K.1.1 K.1.2.1 dX4_withdraw_16 rfl (lv_at hl 1 rfl) ?_
  refine m_cV (n := 1) (As := [.int r_1]) (rest := []) K hP hS (MX4_removeAt l G B _ o ho r_1 ) ho.1 ho.2.1 rfl q_759 q_760 q_761 q_19 q_762 hv_X4_removeAt ⟨Nat.le_of_ble_eq_true rfl, Nat.le_of_ble_eq_true rfl⟩ rfl hl.1 rfl (Nat.le_of_ble_eq_true rfl) dX4_withdraw_17 ⟨Nat.zero_le _, Nat.zero_le _⟩ (fun H locs hP hS => ?_)
  refine W.eq (g2 := F0 m 20 ls []) rfl ?_
  refine lv_iload_n K.1.1 K.1.2.1 dX4_withdraw_20 rfl (lv_at hl 0 rfl) ?_
  exact m_iret K hr hlocks hP hS dX4_withdraw_21 (by subst er_1 er_2; rfl) (by subst er_1 er_2; rfl)

set_option maxHeartbeats 4000000 in
set_option maxRecDepth 100000 in
theorem MX4_isAhead (l : Launch) (G : GG) (B : Nat) (μ : Mm) (o : Nat) (ho : isO o) (i : Int32) (j : Int32) : CM l yX4_isAhead (.code yX4_isAhead cX4_isAhead 4 (Option.some FieldType.boolean)) 1 21 G B [.ref (B + o), .int i, .int j] μ (some (.int (O_isAhead μ o i j))) μ := by
  refine CM.of (by decide) (Nat.le_of_ble_eq_true rfl) ?_
  intro p e s m below meth c ls K hr hlocks hP hl
  have hS : va_S (AA B) s.heap s.heap [] := va_S.rf
  have hl : lv_has ls 4 [(0, .ref (B + o)), (1, .int i), (2, .int j)] := hl
  refine lv_aload_n K.1.1 K.1.2.1 dX4_isAhead_0 rfl (lv_at hl 0 rfl) ?_
  refine m_getr K hP ho.1 ho.2.1 rfl tuX4 4 (by decide) rfl q_118 dX4_isAhead_1 ?_
  refine lv_iload_n K.1.1 K.1.2.1 dX4_isAhead_4 rfl (lv_at hl 1 rfl) ?_
  refine m_cV (n := 1) (As := [.int i]) (rest := []) K hP hS (MX5_get l G B _ (o + 7) 20 ho.2.2.2.2.2.1 i ) (Nat.lt_of_succ_lt ho.2.2.2.2.2.1.1) ho.2.2.2.2.2.1.2.1 rfl q_467 q_460 q_461 q_18 q_462 hv_X5_get ⟨Nat.le_of_ble_eq_true rfl, Nat.le_of_ble_eq_true rfl⟩ rfl hl.1 rfl (Nat.le_of_ble_eq_true rfl) dX4_isAhead_5 ⟨Nat.zero_le _, Nat.zero_le _⟩ (fun H locs hP hS => ?_)
  refine lv_topi (fun r_1 er_1 => ?_)
  refine lv_aload_n K.1.1 K.1.2.1 dX4_isAhead_8 rfl (lv_at hl 0 rfl) ?_
  refine m_getr K hP ho.1 ho.2.1 rfl tuX4 4 (by decide) rfl q_118 dX4_isAhead_9 ?_
  refine lv_iload_n K.1.1 K.1.2.1 dX4_isAhead_12 rfl (lv_at hl 2 rfl) ?_
  refine m_cV (n := 1) (As := [.int j]) (rest := [.int r_1]) K hP hS (MX5_get l G B _ (o + 7) 20 ho.2.2.2.2.2.1 j ) (Nat.lt_of_succ_lt ho.2.2.2.2.2.1.1) ho.2.2.2.2.2.1.2.1 rfl q_467 q_460 q_461 q_18 q_462 hv_X5_get ⟨Nat.le_of_ble_eq_true rfl, Nat.le_of_ble_eq_true rfl⟩ rfl hl.1 rfl (Nat.le_of_ble_eq_true rfl) dX4_isAhead_13 ⟨Nat.zero_le _, Nat.zero_le _⟩ (fun H locs hP hS => ?_)
  refine lv_topi (fun r_2 er_2 => ?_)
  refine lv_isub K.1.1 K.1.2.1 dX4_isAhead_16 ?_
  refine lv_topi (fun x_3 ex_3 => ?_)
  refine lv_istore_n (lv' := [(3, .int x_3), (0, .ref (B + o)), (1, .int i), (2, .int j)]) K.1.1 K.1.2.1 dX4_isAhead_17 rfl hl (by decide) rfl (fun ls hl => ?_)
  refine lv_iload_n K.1.1 K.1.2.1 dX4_isAhead_18 rfl (lv_at hl 0 rfl) ?_
  refine lv_if_ne (tgt := 33) K.1.1 K.1.2.1 dX4_isAhead_19 (by decide) (fun c_19 => ?_) (fun c_19 => ?_)
  · refine lv_aload_n K.1.1 K.1.2.1 dX4_isAhead_33 rfl (lv_at hl 1 rfl) ?_
    refine m_getr K hP ho.1 ho.2.1 rfl tuX4 3 (by decide) rfl q_116 dX4_isAhead_34 ?_
    refine lv_iload_n K.1.1 K.1.2.1 dX4_isAhead_37 rfl (lv_at hl 2 rfl) ?_
    refine m_cV (n := 1) (As := [.int i]) (rest := []) K hP hS (MX5_get l G B _ (o + 5) 20 ho.2.2.2.2.1 i ) (Nat.lt_of_succ_lt ho.2.2.2.2.1.1) ho.2.2.2.2.1.2.1 rfl q_467 q_460 q_461 q_18 q_462 hv_X5_get ⟨Nat.le_of_ble_eq_true rfl, Nat.le_of_ble_eq_true rfl⟩ rfl hl.1 rfl (Nat.le_of_ble_eq_true rfl) dX4_isAhead_38 ⟨Nat.zero_le _, Nat.zero_le _⟩ (fun H locs hP hS => ?_)
    refine lv_topi (fun r_4 er_4 => ?_)
    refine lv_if_ne (tgt := 56) K.1.1 K.1.2.1 dX4_isAhead_41 (by decide) (fun c_41 => ?_) (fun c_41 => ?_)
    · refine lv_iload_n K.1.1 K.1.2.1 dX4_isAhead_56 rfl (lv_at hl 0 rfl) ?_
      refine lv_if_ge (tgt := 64) K.1.1 K.1.2.1 dX4_isAhead_57 (by decide) (fun c_57 => ?_) (fun c_57 => ?_)
      · refine lv_iconst (v := 0) K.1.1 K.1.2.1 dX4_isAhead_64 (by decide) ?_
        exact m_zret K hr hlocks hP hS dX4_isAhead_65 (by first | rfl | (subst er_1 er_2 ex_3 er_4; rfl)) (by subst er_1 er_2 ex_3 er_4; first | (simp only [O_isAhead, c_19, c_41, c_57, Int32.not_lt.mpr c_57, if_true, if_false, ite_true, ite_false, reduceIte, not_true, not_false_iff]; done) | simp [O_isAhead, c_19, c_41, c_57, Int32.not_lt.mpr c_57]) rfl
      · refine lv_iconst (v := 1) K.1.1 K.1.2.1 dX4_isAhead_60 (by decide) ?_
        refine lv_goto (tgt := 65) K.1.1 K.1.2.1 dX4_isAhead_61 (by decide) ?_
        exact m_zret K hr hlocks hP hS dX4_isAhead_65 (by first | rfl | (subst er_1 er_2 ex_3 er_4; rfl)) (by subst er_1 er_2 ex_3 er_4; first | (simp only [O_isAhead, c_19, c_41, c_57, Int32.not_le.mp c_57, if_true, if_false, ite_true, ite_false, reduceIte, not_true, not_false_iff]; done) | simp [O_isAhead, c_19, c_41, c_57, Int32.not_le.mp c_57]) rfl
    · refine lv_iload_n K.1.1 K.1.2.1 dX4_isAhead_44 rfl (lv_at hl 0 rfl) ?_
      refine lv_if_le (tgt := 52) K.1.1 K.1.2.1 dX4_isAhead_45 (by decide) (fun c_45 => ?_) (fun c_45 => ?_)
      · refine lv_iconst (v := 0) K.1.1 K.1.2.1 dX4_isAhead_52 (by decide) ?_
        refine lv_goto (tgt := 65) K.1.1 K.1.2.1 dX4_isAhead_53 (by decide) ?_
        exact m_zret K hr hlocks hP hS dX4_isAhead_65 (by first | rfl | (subst er_1 er_2 ex_3 er_4; rfl)) (by subst er_1 er_2 ex_3 er_4; first | (simp only [O_isAhead, c_19, c_41, c_45, Int32.not_lt.mpr c_45, if_true, if_false, ite_true, ite_false, reduceIte, not_true, not_false_iff]; done) | simp [O_isAhead, c_19, c_41, c_45, Int32.not_lt.mpr c_45]) rfl
      · refine lv_iconst (v := 1) K.1.1 K.1.2.1 dX4_isAhead_48 (by decide) ?_
        refine lv_goto (tgt := 65) K.1.1 K.1.2.1 dX4_isAhead_49 (by decide) ?_
        exact m_zret K hr hlocks hP hS dX4_isAhead_65 (by first | rfl | (subst er_1 er_2 ex_3 er_4; rfl)) (by subst er_1 er_2 ex_3 er_4; first | (simp only [O_isAhead, c_19, c_41, c_45, Int32.not_le.mp c_45, if_true, if_false, ite_true, ite_false, reduceIte, not_true, not_false_iff]; done) | simp [O_isAhead, c_19, c_41, c_45, Int32.not_le.mp c_45]) rfl
  · refine lv_iload_n K.1.1 K.1.2.1 dX4_isAhead_22 rfl (lv_at hl 2 rfl) ?_
    refine lv_iload_n K.1.1 K.1.2.1 dX4_isAhead_23 rfl (lv_at hl 3 rfl) ?_
    refine lv_icmp_ge (tgt := 31) K.1.1 K.1.2.1 dX4_isAhead_24 (by decide) (fun c_24 => ?_) (fun c_24 => ?_)
    · refine lv_iconst (v := 0) K.1.1 K.1.2.1 dX4_isAhead_31 (by decide) ?_
      exact m_zret K hr hlocks hP hS dX4_isAhead_32 (by first | rfl | (subst er_1 er_2 ex_3; rfl)) (by subst er_1 er_2 ex_3; first | (simp only [O_isAhead, c_19, c_24, Int32.not_lt.mpr c_24, if_true, if_false, ite_true, ite_false, reduceIte, not_true, not_false_iff]; done) | simp [O_isAhead, c_19, c_24, Int32.not_lt.mpr c_24]) rfl
    · refine lv_iconst (v := 1) K.1.1 K.1.2.1 dX4_isAhead_27 (by decide) ?_
      refine lv_goto (tgt := 32) K.1.1 K.1.2.1 dX4_isAhead_28 (by decide) ?_
      exact m_zret K hr hlocks hP hS dX4_isAhead_32 (by first | rfl | (subst er_1 er_2 ex_3; rfl)) (by subst er_1 er_2 ex_3; first | (simp only [O_isAhead, c_19, c_24, Int32.not_le.mp c_24, if_true, if_false, ite_true, ite_false, reduceIte, not_true, not_false_iff]; done) | simp [O_isAhead, c_19, c_24, Int32.not_le.mp c_24]) rfl

set_option maxHeartbeats 4000000 in
set_option maxRecDepth 100000 in
theorem MX4_placeOf (l : Launch) (G : GG) (B : Nat) (μ : Mm) (o : Nat) (ho : isO o) (i : Int32) : CM l yX4_placeOf (.code yX4_placeOf cX4_placeOf 4 (Option.some FieldType.int)) 2 44 G B [.ref (B + o), .int i] μ (some (.int (O_placeOf μ o i))) μ := by
  refine CM.of (by decide) (Nat.le_of_ble_eq_true rfl) ?_
  intro p e s m below meth c ls K hr hlocks hP hl
  have hS : va_S (AA B) s.heap s.heap [] := va_S.rf
  have hl : lv_has ls 4 [(0, .ref (B + o)), (1, .int i)] := hl
  refine lv_iconst (v := 0) K.1.1 K.1.2.1 dX4_placeOf_0 (by decide) ?_
  refine lv_istore_n (lv' := [(2, .int 0), (0, .ref (B + o)), (1, .int i)]) K.1.1 K.1.2.1 dX4_placeOf_1 rfl hl (by decide) rfl (fun ls hl => ?_)
  refine lv_iconst (v := 0) K.1.1 K.1.2.1 dX4_placeOf_2 (by decide) ?_
  refine lv_istore_n (lv' := [(3, .int 0), (2, .int 0), (0, .ref (B + o)), (1, .int i)]) K.1.1 K.1.2.1 dX4_placeOf_3 rfl hl (by decide) rfl (fun ls hl => ?_)
  refine up_to (N := cn (μ o 0)) (P := fun k : Nat => ∀ (v3_4 : Int32) (v2_4 : Int32) (H : Heap) (locs : List Loc) (ls : Array Slot), (v3_4 = nI k) → (v2_4 = sumI (fun k => if R_get μ (o + 5) 20 (nI k) = R_get μ (o + 5) 20 i then (if O_isAhead μ o (nI k) i = 0 then 0 else 1) else 0) k) → MP G B μ H → va_S (AA B) s.heap H locs → lv_has ls 4 [(3, .int v3_4), (2, .int v2_4), (0, .ref (B + o)), (1, .int i)] → W p l e ({ frames := 2, cells := 0, slots := 0, locals := 44 } : Room) s m ([.ref (B + o), .int i] : List Value).toArray below meth c H locs 0 0 (MF below G B (some (.int (O_placeOf μ o i))) μ ([.ref (B + o), .int i] : List Value).toArray s) (F0 m 4 ls [])) ?_ ?_ _ _ _ _ _ (by first | rfl | (skip; rfl)) (by first | rfl | (skip; rfl)) hP hS (lv_sub hl [0, 1, 2, 3] rfl)
  · intro v3_4 v2_4 H locs ls ev3_4 ev2_4 hP hS hl
    refine lv_iload_n K.1.1 K.1.2.1 dX4_placeOf_4 rfl (lv_at hl 0 rfl) ?_
    refine lv_aload_n K.1.1 K.1.2.1 dX4_placeOf_5 rfl (lv_at hl 2 rfl) ?_
    refine m_geti K hP ho.1 ho.2.1 rfl tuX4 0 (by decide) rfl q_106 dX4_placeOf_6 ?_
    refine lv_topi (fun g_1 eg_1 => ?_)
    refine lv_icmp_ge (tgt := 49) K.1.1 K.1.2.1 dX4_placeOf_9 (by decide) (fun c_9 => ?_) (fun c_9 => ?_)
    · refine lv_iload_n K.1.1 K.1.2.1 dX4_placeOf_49 rfl (lv_at hl 1 rfl) ?_
      exact m_iret K hr hlocks hP hS dX4_placeOf_50 (by subst ev3_4 ev2_4 eg_1; rfl) rfl
    · exact absurd c_9 (not_not_intro (by subst ev3_4 ev2_4 eg_1; exact cn_out _))
  · intro k hk ih_4 v3_4 v2_4 H locs ls ev3_4 ev2_4 hP hS hl
    refine lv_iload_n K.1.1 K.1.2.1 dX4_placeOf_4 rfl (lv_at hl 0 rfl) ?_
    refine lv_aload_n K.1.1 K.1.2.1 dX4_placeOf_5 rfl (lv_at hl 2 rfl) ?_
    refine m_geti K hP ho.1 ho.2.1 rfl tuX4 0 (by decide) rfl q_106 dX4_placeOf_6 ?_
    refine lv_topi (fun g_2 eg_2 => ?_)
    refine lv_icmp_ge (tgt := 49) K.1.1 K.1.2.1 dX4_placeOf_9 (by decide) (fun c_9 => ?_) (fun c_9 => ?_)
    · exact absurd c_9 (by subst ev3_4 ev2_4 eg_2; exact cn_in hk)
    · refine lv_aload_n K.1.1 K.1.2.1 dX4_placeOf_12 rfl (lv_at hl 2 rfl) ?_
      refine m_getr K hP ho.1 ho.2.1 rfl tuX4 3 (by decide) rfl q_116 dX4_placeOf_13 ?_
      refine lv_iload_n K.1.1 K.1.2.1 dX4_placeOf_16 rfl (lv_at hl 0 rfl) ?_
      refine m_cV (n := 1) (As := [.int v3_4]) (rest := []) K hP hS (MX5_get l G B _ (o + 5) 20 ho.2.2.2.2.1 v3_4 ) (Nat.lt_of_succ_lt ho.2.2.2.2.1.1) ho.2.2.2.2.1.2.1 rfl q_467 q_460 q_461 q_18 q_462 hv_X5_get ⟨Nat.le_of_ble_eq_true rfl, Nat.le_of_ble_eq_true rfl⟩ rfl hl.1 rfl (Nat.le_of_ble_eq_true rfl) dX4_placeOf_17 ⟨Nat.zero_le _, Nat.zero_le _⟩ (fun H locs hP hS => ?_)
      refine lv_topi (fun r_3 er_3 => ?_)
      refine lv_aload_n K.1.1 K.1.2.1 dX4_placeOf_20 rfl (lv_at hl 2 rfl) ?_
      refine m_getr K hP ho.1 ho.2.1 rfl tuX4 3 (by decide) rfl q_116 dX4_placeOf_21 ?_
      refine lv_iload_n K.1.1 K.1.2.1 dX4_placeOf_24 rfl (lv_at hl 3 rfl) ?_
      refine m_cV (n := 1) (As := [.int i]) (rest := [.int r_3]) K hP hS (MX5_get l G B _ (o + 5) 20 ho.2.2.2.2.1 i ) (Nat.lt_of_succ_lt ho.2.2.2.2.1.1) ho.2.2.2.2.1.2.1 rfl q_467 q_460 q_461 q_18 q_462 hv_X5_get ⟨Nat.le_of_ble_eq_true rfl, Nat.le_of_ble_eq_true rfl⟩ rfl hl.1 rfl (Nat.le_of_ble_eq_true rfl) dX4_placeOf_25 ⟨Nat.zero_le _, Nat.zero_le _⟩ (fun H locs hP hS => ?_)
      refine lv_topi (fun r_4 er_4 => ?_)
      refine lv_icmp_ne (tgt := 43) K.1.1 K.1.2.1 dX4_placeOf_28 (by decide) (fun c_28 => ?_) (fun c_28 => ?_)
      · obtain ⟨x_5, ex_5⟩ : ∃ y : Int32, y = v3_4 + (1) := ⟨_, rfl⟩
        refine lv_iinc (v := x_5) (lv' := [(3, .int x_5), (2, .int v2_4), (0, .ref (B + o)), (1, .int i)]) K.1.1 K.1.2.1 dX4_placeOf_43 hl (k := 0) rfl (by rw [ex_5]; rfl) (by decide) rfl (fun ls hl => ?_)
        refine lv_goto (tgt := 4) K.1.1 K.1.2.1 dX4_placeOf_46 (by decide) ?_
        exact ih_4 _ _ _ _ _ (by subst ev3_4 ev2_4 eg_2 er_3 er_4 ex_5; exact nI_1 _) (by subst ev3_4 ev2_4 eg_2 er_3 er_4 ex_5; simp [sumI, c_9, Int32.not_le.mp c_9, c_28]) hP hS (lv_sub hl [0, 1, 2, 3] rfl)
      · refine lv_aload_n K.1.1 K.1.2.1 dX4_placeOf_31 rfl (lv_at hl 2 rfl) ?_
        refine lv_iload_n K.1.1 K.1.2.1 dX4_placeOf_32 rfl (lv_at hl 0 rfl) ?_
        refine lv_iload_n K.1.1 K.1.2.1 dX4_placeOf_33 rfl (lv_at hl 3 rfl) ?_
        refine m_cV (n := 2) (As := [.int v3_4, .int i]) (rest := []) K hP hS (MX4_isAhead l G B _ o ho v3_4 i ) ho.1 ho.2.1 rfl q_566 q_464 q_465 q_19 q_466 hv_X4_isAhead ⟨Nat.le_of_ble_eq_true rfl, Nat.le_of_ble_eq_true rfl⟩ rfl hl.1 rfl (Nat.le_of_ble_eq_true rfl) dX4_placeOf_34 ⟨Nat.zero_le _, Nat.zero_le _⟩ (fun H locs hP hS => ?_)
        refine lv_topi (fun r_6 er_6 => ?_)
        refine lv_if_eq (tgt := 43) K.1.1 K.1.2.1 dX4_placeOf_37 (by decide) (fun c_37 => ?_) (fun c_37 => ?_)
        · obtain ⟨x_7, ex_7⟩ : ∃ y : Int32, y = v3_4 + (1) := ⟨_, rfl⟩
          refine lv_iinc (v := x_7) (lv' := [(3, .int x_7), (2, .int v2_4), (0, .ref (B + o)), (1, .int i)]) K.1.1 K.1.2.1 dX4_placeOf_43 hl (k := 0) rfl (by rw [ex_7]; rfl) (by decide) rfl (fun ls hl => ?_)
          refine lv_goto (tgt := 4) K.1.1 K.1.2.1 dX4_placeOf_46 (by decide) ?_
          exact ih_4 _ _ _ _ _ (by subst ev3_4 ev2_4 eg_2 er_3 er_4 er_6 ex_7; exact nI_1 _) (by subst ev3_4 ev2_4 eg_2 er_3 er_4 er_6 ex_7; simp [sumI, c_9, Int32.not_le.mp c_9, c_28, c_37]) hP hS (lv_sub hl [0, 1, 2, 3] rfl)
        · obtain ⟨x_8, ex_8⟩ : ∃ y : Int32, y = v2_4 + (1) := ⟨_, rfl⟩
          refine lv_iinc (v := x_8) (lv' := [(2, .int x_8), (3, .int v3_4), (0, .ref (B + o)), (1, .int i)]) K.1.1 K.1.2.1 dX4_placeOf_40 hl (k := 1) rfl (by rw [ex_8]; rfl) (by decide) rfl (fun ls hl => ?_)
          obtain ⟨x_9, ex_9⟩ : ∃ y : Int32, y = v3_4 + (1) := ⟨_, rfl⟩
          refine lv_iinc (v := x_9) (lv' := [(3, .int x_9), (2, .int x_8), (0, .ref (B + o)), (1, .int i)]) K.1.1 K.1.2.1 dX4_placeOf_43 hl (k := 1) rfl (by rw [ex_9]; rfl) (by decide) rfl (fun ls hl => ?_)
          refine lv_goto (tgt := 4) K.1.1 K.1.2.1 dX4_placeOf_46 (by decide) ?_
          exact ih_4 _ _ _ _ _ (by subst ev3_4 ev2_4 eg_2 er_3 er_4 er_6 ex_8 ex_9; exact nI_1 _) (by subst ev3_4 ev2_4 eg_2 er_3 er_4 er_6 ex_8 ex_9; simp [sumI, c_9, Int32.not_le.mp c_9, c_28, c_37]) hP hS (lv_sub hl [0, 1, 2, 3] rfl)

set_option maxHeartbeats 4000000 in
set_option maxRecDepth 100000 in
theorem MX4_accepts (l : Launch) (G : GG) (B : Nat) (μ : Mm) (o : Nat) (ho : isO o) (i : Int32) (pr : Int32) : CM l yX4_accepts (.code yX4_accepts cX4_accepts 3 (Option.some FieldType.boolean)) 1 21 G B [.ref (B + o), .int i, .int pr] μ (some (.int (O_accepts μ o i pr))) μ := by
  refine CM.of (by decide) (Nat.le_of_ble_eq_true rfl) ?_
  intro p e s m below meth c ls K hr hlocks hP hl
  have hS : va_S (AA B) s.heap s.heap [] := va_S.rf
  have hl : lv_has ls 3 [(0, .ref (B + o)), (1, .int i), (2, .int pr)] := hl
  refine lv_aload_n K.1.1 K.1.2.1 dX4_accepts_0 rfl (lv_at hl 0 rfl) ?_
  refine m_getr K hP ho.1 ho.2.1 rfl tuX4 3 (by decide) rfl q_116 dX4_accepts_1 ?_
  refine lv_iload_n K.1.1 K.1.2.1 dX4_accepts_4 rfl (lv_at hl 1 rfl) ?_
  refine m_cV (n := 1) (As := [.int i]) (rest := []) K hP hS (MX5_get l G B _ (o + 5) 20 ho.2.2.2.2.1 i ) (Nat.lt_of_succ_lt ho.2.2.2.2.1.1) ho.2.2.2.2.1.2.1 rfl q_467 q_460 q_461 q_18 q_462 hv_X5_get ⟨Nat.le_of_ble_eq_true rfl, Nat.le_of_ble_eq_true rfl⟩ rfl hl.1 rfl (Nat.le_of_ble_eq_true rfl) dX4_accepts_5 ⟨Nat.zero_le _, Nat.zero_le _⟩ (fun H locs hP hS => ?_)
  refine lv_topi (fun r_1 er_1 => ?_)
  refine lv_if_ne (tgt := 31) K.1.1 K.1.2.1 dX4_accepts_8 (by decide) (fun c_8 => ?_) (fun c_8 => ?_)
  · refine lv_aload_n K.1.1 K.1.2.1 dX4_accepts_31 rfl (lv_at hl 0 rfl) ?_
    refine m_getr K hP ho.1 ho.2.1 rfl tuX4 4 (by decide) rfl q_118 dX4_accepts_32 ?_
    refine lv_iload_n K.1.1 K.1.2.1 dX4_accepts_35 rfl (lv_at hl 1 rfl) ?_
    refine m_cV (n := 1) (As := [.int i]) (rest := []) K hP hS (MX5_get l G B _ (o + 7) 20 ho.2.2.2.2.2.1 i ) (Nat.lt_of_succ_lt ho.2.2.2.2.2.1.1) ho.2.2.2.2.2.1.2.1 rfl q_467 q_460 q_461 q_18 q_462 hv_X5_get ⟨Nat.le_of_ble_eq_true rfl, Nat.le_of_ble_eq_true rfl⟩ rfl hl.1 rfl (Nat.le_of_ble_eq_true rfl) dX4_accepts_36 ⟨Nat.zero_le _, Nat.zero_le _⟩ (fun H locs hP hS => ?_)
    refine lv_topi (fun r_2 er_2 => ?_)
    refine lv_iload_n K.1.1 K.1.2.1 dX4_accepts_39 rfl (lv_at hl 2 rfl) ?_
    refine lv_icmp_gt (tgt := 47) K.1.1 K.1.2.1 dX4_accepts_40 (by decide) (fun c_40 => ?_) (fun c_40 => ?_)
    · refine lv_iconst (v := 0) K.1.1 K.1.2.1 dX4_accepts_47 (by decide) ?_
      exact m_zret K hr hlocks hP hS dX4_accepts_48 (by first | rfl | (subst er_1 er_2; rfl)) (by subst er_1 er_2; first | (simp only [O_accepts, c_8, c_40, Int32.not_le.mpr c_40, if_true, if_false, ite_true, ite_false, reduceIte, not_true, not_false_iff]; done) | simp [O_accepts, c_8, c_40, Int32.not_le.mpr c_40]) rfl
    · refine lv_iconst (v := 1) K.1.1 K.1.2.1 dX4_accepts_43 (by decide) ?_
      refine lv_goto (tgt := 48) K.1.1 K.1.2.1 dX4_accepts_44 (by decide) ?_
      exact m_zret K hr hlocks hP hS dX4_accepts_48 (by first | rfl | (subst er_1 er_2; rfl)) (by subst er_1 er_2; first | (simp only [O_accepts, c_8, c_40, Int32.not_lt.mp c_40, if_true, if_false, ite_true, ite_false, reduceIte, not_true, not_false_iff]; done) | simp [O_accepts, c_8, c_40, Int32.not_lt.mp c_40]) rfl
  · refine lv_aload_n K.1.1 K.1.2.1 dX4_accepts_11 rfl (lv_at hl 0 rfl) ?_
    refine m_getr K hP ho.1 ho.2.1 rfl tuX4 4 (by decide) rfl q_118 dX4_accepts_12 ?_
    refine lv_iload_n K.1.1 K.1.2.1 dX4_accepts_15 rfl (lv_at hl 1 rfl) ?_
    refine m_cV (n := 1) (As := [.int i]) (rest := []) K hP hS (MX5_get l G B _ (o + 7) 20 ho.2.2.2.2.2.1 i ) (Nat.lt_of_succ_lt ho.2.2.2.2.2.1.1) ho.2.2.2.2.2.1.2.1 rfl q_467 q_460 q_461 q_18 q_462 hv_X5_get ⟨Nat.le_of_ble_eq_true rfl, Nat.le_of_ble_eq_true rfl⟩ rfl hl.1 rfl (Nat.le_of_ble_eq_true rfl) dX4_accepts_16 ⟨Nat.zero_le _, Nat.zero_le _⟩ (fun H locs hP hS => ?_)
    refine lv_topi (fun r_3 er_3 => ?_)
    refine lv_iload_n K.1.1 K.1.2.1 dX4_accepts_19 rfl (lv_at hl 2 rfl) ?_
    refine lv_icmp_lt (tgt := 27) K.1.1 K.1.2.1 dX4_accepts_20 (by decide) (fun c_20 => ?_) (fun c_20 => ?_)
    · refine lv_iconst (v := 0) K.1.1 K.1.2.1 dX4_accepts_27 (by decide) ?_
      refine lv_goto (tgt := 48) K.1.1 K.1.2.1 dX4_accepts_28 (by decide) ?_
      exact m_zret K hr hlocks hP hS dX4_accepts_48 (by first | rfl | (subst er_1 er_3; rfl)) (by subst er_1 er_3; first | (simp only [O_accepts, c_8, c_20, Int32.not_le.mpr c_20, if_true, if_false, ite_true, ite_false, reduceIte, not_true, not_false_iff]; done) | simp [O_accepts, c_8, c_20, Int32.not_le.mpr c_20]) rfl
    · refine lv_iconst (v := 1) K.1.1 K.1.2.1 dX4_accepts_23 (by decide) ?_
      refine lv_goto (tgt := 48) K.1.1 K.1.2.1 dX4_accepts_24 (by decide) ?_
      exact m_zret K hr hlocks hP hS dX4_accepts_48 (by first | rfl | (subst er_1 er_3; rfl)) (by subst er_1 er_3; first | (simp only [O_accepts, c_8, c_20, Int32.not_lt.mp c_20, if_true, if_false, ite_true, ite_false, reduceIte, not_true, not_false_iff]; done) | simp [O_accepts, c_8, c_20, Int32.not_lt.mp c_20]) rfl

set_option maxHeartbeats 4000000 in
set_option maxRecDepth 100000 in
theorem MX4_countOf (l : Launch) (G : GG) (B : Nat) (μ : Mm) (o : Nat) (ho : isO o) (t : Int32) : CM l yX4_countOf (.code yX4_countOf cX4_countOf 4 (Option.some FieldType.int)) 1 21 G B [.ref (B + o), .int t] μ (some (.int (O_countOf μ o t))) μ := by
  refine CM.of (by decide) (Nat.le_of_ble_eq_true rfl) ?_
  intro p e s m below meth c ls K hr hlocks hP hl
  have hS : va_S (AA B) s.heap s.heap [] := va_S.rf
  have hl : lv_has ls 4 [(0, .ref (B + o)), (1, .int t)] := hl
  refine lv_iconst (v := 0) K.1.1 K.1.2.1 dX4_countOf_0 (by decide) ?_
  refine lv_istore_n (lv' := [(2, .int 0), (0, .ref (B + o)), (1, .int t)]) K.1.1 K.1.2.1 dX4_countOf_1 rfl hl (by decide) rfl (fun ls hl => ?_)
  refine lv_iconst (v := 0) K.1.1 K.1.2.1 dX4_countOf_2 (by decide) ?_
  refine lv_istore_n (lv' := [(3, .int 0), (2, .int 0), (0, .ref (B + o)), (1, .int t)]) K.1.1 K.1.2.1 dX4_countOf_3 rfl hl (by decide) rfl (fun ls hl => ?_)
  refine up_to (N := cn (μ o 0)) (P := fun k : Nat => ∀ (v3_4 : Int32) (v2_4 : Int32) (H : Heap) (locs : List Loc) (ls : Array Slot), (v3_4 = nI k) → (v2_4 = sumI (fun k => if R_get μ (o + 3) 20 (nI k) = t then 1 else 0) k) → MP G B μ H → va_S (AA B) s.heap H locs → lv_has ls 4 [(3, .int v3_4), (2, .int v2_4), (0, .ref (B + o)), (1, .int t)] → W p l e ({ frames := 1, cells := 0, slots := 0, locals := 21 } : Room) s m ([.ref (B + o), .int t] : List Value).toArray below meth c H locs 0 0 (MF below G B (some (.int (O_countOf μ o t))) μ ([.ref (B + o), .int t] : List Value).toArray s) (F0 m 4 ls [])) ?_ ?_ _ _ _ _ _ (by first | rfl | (skip; rfl)) (by first | rfl | (skip; rfl)) hP hS (lv_sub hl [0, 1, 2, 3] rfl)
  · intro v3_4 v2_4 H locs ls ev3_4 ev2_4 hP hS hl
    refine lv_iload_n K.1.1 K.1.2.1 dX4_countOf_4 rfl (lv_at hl 0 rfl) ?_
    refine lv_aload_n K.1.1 K.1.2.1 dX4_countOf_5 rfl (lv_at hl 2 rfl) ?_
    refine m_geti K hP ho.1 ho.2.1 rfl tuX4 0 (by decide) rfl q_106 dX4_countOf_6 ?_
    refine lv_topi (fun g_1 eg_1 => ?_)
    refine lv_icmp_ge (tgt := 33) K.1.1 K.1.2.1 dX4_countOf_9 (by decide) (fun c_9 => ?_) (fun c_9 => ?_)
    · refine lv_iload_n K.1.1 K.1.2.1 dX4_countOf_33 rfl (lv_at hl 1 rfl) ?_
      exact m_iret K hr hlocks hP hS dX4_countOf_34 (by subst ev3_4 ev2_4 eg_1; rfl) rfl
    · exact absurd c_9 (not_not_intro (by subst ev3_4 ev2_4 eg_1; exact cn_out _))
  · intro k hk ih_4 v3_4 v2_4 H locs ls ev3_4 ev2_4 hP hS hl
    refine lv_iload_n K.1.1 K.1.2.1 dX4_countOf_4 rfl (lv_at hl 0 rfl) ?_
    refine lv_aload_n K.1.1 K.1.2.1 dX4_countOf_5 rfl (lv_at hl 2 rfl) ?_
    refine m_geti K hP ho.1 ho.2.1 rfl tuX4 0 (by decide) rfl q_106 dX4_countOf_6 ?_
    refine lv_topi (fun g_2 eg_2 => ?_)
    refine lv_icmp_ge (tgt := 33) K.1.1 K.1.2.1 dX4_countOf_9 (by decide) (fun c_9 => ?_) (fun c_9 => ?_)
    · exact absurd c_9 (by subst ev3_4 ev2_4 eg_2; exact cn_in hk)
    · refine lv_aload_n K.1.1 K.1.2.1 dX4_countOf_12 rfl (lv_at hl 2 rfl) ?_
      refine m_getr K hP ho.1 ho.2.1 rfl tuX4 2 (by decide) rfl q_113 dX4_countOf_13 ?_
      refine lv_iload_n K.1.1 K.1.2.1 dX4_countOf_16 rfl (lv_at hl 0 rfl) ?_
      refine m_cV (n := 1) (As := [.int v3_4]) (rest := []) K hP hS (MX5_get l G B _ (o + 3) 20 ho.2.2.2.1 v3_4 ) (Nat.lt_of_succ_lt ho.2.2.2.1.1) ho.2.2.2.1.2.1 rfl q_467 q_460 q_461 q_18 q_462 hv_X5_get ⟨Nat.le_of_ble_eq_true rfl, Nat.le_of_ble_eq_true rfl⟩ rfl hl.1 rfl (Nat.le_of_ble_eq_true rfl) dX4_countOf_17 ⟨Nat.zero_le _, Nat.zero_le _⟩ (fun H locs hP hS => ?_)
      refine lv_topi (fun r_3 er_3 => ?_)
      refine lv_iload_n K.1.1 K.1.2.1 dX4_countOf_20 rfl (lv_at hl 3 rfl) ?_
      refine lv_icmp_ne (tgt := 27) K.1.1 K.1.2.1 dX4_countOf_21 (by decide) (fun c_21 => ?_) (fun c_21 => ?_)
      · obtain ⟨x_4, ex_4⟩ : ∃ y : Int32, y = v3_4 + (1) := ⟨_, rfl⟩
        refine lv_iinc (v := x_4) (lv' := [(3, .int x_4), (2, .int v2_4), (0, .ref (B + o)), (1, .int t)]) K.1.1 K.1.2.1 dX4_countOf_27 hl (k := 0) rfl (by rw [ex_4]; rfl) (by decide) rfl (fun ls hl => ?_)
        refine lv_goto (tgt := 4) K.1.1 K.1.2.1 dX4_countOf_30 (by decide) ?_
        exact ih_4 _ _ _ _ _ (by subst ev3_4 ev2_4 eg_2 er_3 ex_4; exact nI_1 _) (by subst ev3_4 ev2_4 eg_2 er_3 ex_4; simp [sumI, c_9, Int32.not_le.mp c_9, c_21]) hP hS (lv_sub hl [0, 1, 2, 3] rfl)
      · obtain ⟨x_5, ex_5⟩ : ∃ y : Int32, y = v2_4 + (1) := ⟨_, rfl⟩
        refine lv_iinc (v := x_5) (lv' := [(2, .int x_5), (3, .int v3_4), (0, .ref (B + o)), (1, .int t)]) K.1.1 K.1.2.1 dX4_countOf_24 hl (k := 1) rfl (by rw [ex_5]; rfl) (by decide) rfl (fun ls hl => ?_)
        obtain ⟨x_6, ex_6⟩ : ∃ y : Int32, y = v3_4 + (1) := ⟨_, rfl⟩
        refine lv_iinc (v := x_6) (lv' := [(3, .int x_6), (2, .int x_5), (0, .ref (B + o)), (1, .int t)]) K.1.1 K.1.2.1 dX4_countOf_27 hl (k := 1) rfl (by rw [ex_6]; rfl) (by decide) rfl (fun ls hl => ?_)
        refine lv_goto (tgt := 4) K.1.1 K.1.2.1 dX4_countOf_30 (by decide) ?_
        exact ih_4 _ _ _ _ _ (by subst ev3_4 ev2_4 eg_2 er_3 ex_5 ex_6; exact nI_1 _) (by subst ev3_4 ev2_4 eg_2 er_3 ex_5 ex_6; simp [sumI, c_9, Int32.not_le.mp c_9, c_21]) hP hS (lv_sub hl [0, 1, 2, 3] rfl)

set_option maxHeartbeats 4000000 in
set_option maxRecDepth 100000 in
theorem MX4_unitsOf (l : Launch) (G : GG) (B : Nat) (μ : Mm) (o : Nat) (ho : isO o) (t : Int32) : CM l yX4_unitsOf (.code yX4_unitsOf cX4_unitsOf 4 (Option.some FieldType.int)) 1 21 G B [.ref (B + o), .int t] μ (some (.int (O_unitsOf μ o t))) μ := by
  refine CM.of (by decide) (Nat.le_of_ble_eq_true rfl) ?_
  intro p e s m below meth c ls K hr hlocks hP hl
  have hS : va_S (AA B) s.heap s.heap [] := va_S.rf
  have hl : lv_has ls 4 [(0, .ref (B + o)), (1, .int t)] := hl
  refine lv_iconst (v := 0) K.1.1 K.1.2.1 dX4_unitsOf_0 (by decide) ?_
  refine lv_istore_n (lv' := [(2, .int 0), (0, .ref (B + o)), (1, .int t)]) K.1.1 K.1.2.1 dX4_unitsOf_1 rfl hl (by decide) rfl (fun ls hl => ?_)
  refine lv_iconst (v := 0) K.1.1 K.1.2.1 dX4_unitsOf_2 (by decide) ?_
  refine lv_istore_n (lv' := [(3, .int 0), (2, .int 0), (0, .ref (B + o)), (1, .int t)]) K.1.1 K.1.2.1 dX4_unitsOf_3 rfl hl (by decide) rfl (fun ls hl => ?_)
  refine up_to (N := cn (μ o 0)) (P := fun k : Nat => ∀ (v3_4 : Int32) (v2_4 : Int32) (H : Heap) (locs : List Loc) (ls : Array Slot), (v3_4 = nI k) → (v2_4 = sumI (fun k => if R_get μ (o + 3) 20 (nI k) = t then R_get μ (o + 9) 20 (nI k) else 0) k) → MP G B μ H → va_S (AA B) s.heap H locs → lv_has ls 4 [(3, .int v3_4), (2, .int v2_4), (0, .ref (B + o)), (1, .int t)] → W p l e ({ frames := 1, cells := 0, slots := 0, locals := 21 } : Room) s m ([.ref (B + o), .int t] : List Value).toArray below meth c H locs 0 0 (MF below G B (some (.int (O_unitsOf μ o t))) μ ([.ref (B + o), .int t] : List Value).toArray s) (F0 m 4 ls [])) ?_ ?_ _ _ _ _ _ (by first | rfl | (skip; rfl)) (by first | rfl | (skip; rfl)) hP hS (lv_sub hl [0, 1, 2, 3] rfl)
  · intro v3_4 v2_4 H locs ls ev3_4 ev2_4 hP hS hl
    refine lv_iload_n K.1.1 K.1.2.1 dX4_unitsOf_4 rfl (lv_at hl 0 rfl) ?_
    refine lv_aload_n K.1.1 K.1.2.1 dX4_unitsOf_5 rfl (lv_at hl 2 rfl) ?_
    refine m_geti K hP ho.1 ho.2.1 rfl tuX4 0 (by decide) rfl q_106 dX4_unitsOf_6 ?_
    refine lv_topi (fun g_1 eg_1 => ?_)
    refine lv_icmp_ge (tgt := 41) K.1.1 K.1.2.1 dX4_unitsOf_9 (by decide) (fun c_9 => ?_) (fun c_9 => ?_)
    · refine lv_iload_n K.1.1 K.1.2.1 dX4_unitsOf_41 rfl (lv_at hl 1 rfl) ?_
      exact m_iret K hr hlocks hP hS dX4_unitsOf_42 (by subst ev3_4 ev2_4 eg_1; rfl) rfl
    · exact absurd c_9 (not_not_intro (by subst ev3_4 ev2_4 eg_1; exact cn_out _))
  · intro k hk ih_4 v3_4 v2_4 H locs ls ev3_4 ev2_4 hP hS hl
    refine lv_iload_n K.1.1 K.1.2.1 dX4_unitsOf_4 rfl (lv_at hl 0 rfl) ?_
    refine lv_aload_n K.1.1 K.1.2.1 dX4_unitsOf_5 rfl (lv_at hl 2 rfl) ?_
    refine m_geti K hP ho.1 ho.2.1 rfl tuX4 0 (by decide) rfl q_106 dX4_unitsOf_6 ?_
    refine lv_topi (fun g_2 eg_2 => ?_)
    refine lv_icmp_ge (tgt := 41) K.1.1 K.1.2.1 dX4_unitsOf_9 (by decide) (fun c_9 => ?_) (fun c_9 => ?_)
    · exact absurd c_9 (by subst ev3_4 ev2_4 eg_2; exact cn_in hk)
    · refine lv_aload_n K.1.1 K.1.2.1 dX4_unitsOf_12 rfl (lv_at hl 2 rfl) ?_
      refine m_getr K hP ho.1 ho.2.1 rfl tuX4 2 (by decide) rfl q_113 dX4_unitsOf_13 ?_
      refine lv_iload_n K.1.1 K.1.2.1 dX4_unitsOf_16 rfl (lv_at hl 0 rfl) ?_
      refine m_cV (n := 1) (As := [.int v3_4]) (rest := []) K hP hS (MX5_get l G B _ (o + 3) 20 ho.2.2.2.1 v3_4 ) (Nat.lt_of_succ_lt ho.2.2.2.1.1) ho.2.2.2.1.2.1 rfl q_467 q_460 q_461 q_18 q_462 hv_X5_get ⟨Nat.le_of_ble_eq_true rfl, Nat.le_of_ble_eq_true rfl⟩ rfl hl.1 rfl (Nat.le_of_ble_eq_true rfl) dX4_unitsOf_17 ⟨Nat.zero_le _, Nat.zero_le _⟩ (fun H locs hP hS => ?_)
      refine lv_topi (fun r_3 er_3 => ?_)
      refine lv_iload_n K.1.1 K.1.2.1 dX4_unitsOf_20 rfl (lv_at hl 3 rfl) ?_
      refine lv_icmp_ne (tgt := 35) K.1.1 K.1.2.1 dX4_unitsOf_21 (by decide) (fun c_21 => ?_) (fun c_21 => ?_)
      · obtain ⟨x_4, ex_4⟩ : ∃ y : Int32, y = v3_4 + (1) := ⟨_, rfl⟩
        refine lv_iinc (v := x_4) (lv' := [(3, .int x_4), (2, .int v2_4), (0, .ref (B + o)), (1, .int t)]) K.1.1 K.1.2.1 dX4_unitsOf_35 hl (k := 0) rfl (by rw [ex_4]; rfl) (by decide) rfl (fun ls hl => ?_)
        refine lv_goto (tgt := 4) K.1.1 K.1.2.1 dX4_unitsOf_38 (by decide) ?_
        exact ih_4 _ _ _ _ _ (by subst ev3_4 ev2_4 eg_2 er_3 ex_4; exact nI_1 _) (by subst ev3_4 ev2_4 eg_2 er_3 ex_4; simp [sumI, c_9, Int32.not_le.mp c_9, c_21]) hP hS (lv_sub hl [0, 1, 2, 3] rfl)
      · refine lv_iload_n K.1.1 K.1.2.1 dX4_unitsOf_24 rfl (lv_at hl 1 rfl) ?_
        refine lv_aload_n K.1.1 K.1.2.1 dX4_unitsOf_25 rfl (lv_at hl 2 rfl) ?_
        refine m_getr K hP ho.1 ho.2.1 rfl tuX4 5 (by decide) rfl q_120 dX4_unitsOf_26 ?_
        refine lv_iload_n K.1.1 K.1.2.1 dX4_unitsOf_29 rfl (lv_at hl 0 rfl) ?_
        refine m_cV (n := 1) (As := [.int v3_4]) (rest := [.int v2_4]) K hP hS (MX5_get l G B _ (o + 9) 20 ho.2.2.2.2.2.2.1 v3_4 ) (Nat.lt_of_succ_lt ho.2.2.2.2.2.2.1.1) ho.2.2.2.2.2.2.1.2.1 rfl q_467 q_460 q_461 q_18 q_462 hv_X5_get ⟨Nat.le_of_ble_eq_true rfl, Nat.le_of_ble_eq_true rfl⟩ rfl hl.1 rfl (Nat.le_of_ble_eq_true rfl) dX4_unitsOf_30 ⟨Nat.zero_le _, Nat.zero_le _⟩ (fun H locs hP hS => ?_)
        refine lv_topi (fun r_5 er_5 => ?_)
        refine lv_iadd K.1.1 K.1.2.1 dX4_unitsOf_33 ?_
        refine lv_topi (fun x_6 ex_6 => ?_)
        refine lv_istore_n (lv' := [(2, .int x_6), (3, .int v3_4), (0, .ref (B + o)), (1, .int t)]) K.1.1 K.1.2.1 dX4_unitsOf_34 rfl hl (by decide) rfl (fun ls hl => ?_)
        obtain ⟨x_7, ex_7⟩ : ∃ y : Int32, y = v3_4 + (1) := ⟨_, rfl⟩
        refine lv_iinc (v := x_7) (lv' := [(3, .int x_7), (2, .int x_6), (0, .ref (B + o)), (1, .int t)]) K.1.1 K.1.2.1 dX4_unitsOf_35 hl (k := 1) rfl (by rw [ex_7]; rfl) (by decide) rfl (fun ls hl => ?_)
        refine lv_goto (tgt := 4) K.1.1 K.1.2.1 dX4_unitsOf_38 (by decide) ?_
        exact ih_4 _ _ _ _ _ (by subst ev3_4 ev2_4 eg_2 er_3 er_5 ex_6 ex_7; exact nI_1 _) (by subst ev3_4 ev2_4 eg_2 er_3 er_5 ex_6 ex_7; simp [sumI, c_9, Int32.not_le.mp c_9, c_21]) hP hS (lv_sub hl [0, 1, 2, 3] rfl)

set_option maxHeartbeats 4000000 in
set_option maxRecDepth 100000 in
theorem MX4_valueOf (l : Launch) (G : GG) (B : Nat) (μ : Mm) (o : Nat) (ho : isO o) (i : Int32) (w : Int32) : CM l yX4_valueOf (.code yX4_valueOf cX4_valueOf 3 (Option.some FieldType.int)) 3 67 G B [.ref (B + o), .int i, .int w] μ (some (.int (O_valueOf μ o i w))) μ := by
  refine CM.of (by decide) (Nat.le_of_ble_eq_true rfl) ?_
  intro p e s m below meth c ls K hr hlocks hP hl
  have hS : va_S (AA B) s.heap s.heap [] := va_S.rf
  have hl : lv_has ls 3 [(0, .ref (B + o)), (1, .int i), (2, .int w)] := hl
  refine lv_iload_n K.1.1 K.1.2.1 dX4_valueOf_0 rfl (lv_at hl 2 rfl) ?_
  by_cases w_1 : w = 0
  · refine lv_tableIn (off := 31) (tgt := 32) K.1.1 K.1.2.1 dX4_valueOf_1 (by rw [w_1]; decide) (by rw [w_1]; decide) (by rw [w_1]; rfl) (by decide) ?_
    refine lv_aload_n K.1.1 K.1.2.1 dX4_valueOf_32 rfl (lv_at hl 0 rfl) ?_
    refine m_getr K hP ho.1 ho.2.1 rfl tuX4 2 (by decide) rfl q_113 dX4_valueOf_33 ?_
    refine lv_iload_n K.1.1 K.1.2.1 dX4_valueOf_36 rfl (lv_at hl 1 rfl) ?_
    refine m_cV (n := 1) (As := [.int i]) (rest := []) K hP hS (MX5_get l G B _ (o + 3) 20 ho.2.2.2.1 i ) (Nat.lt_of_succ_lt ho.2.2.2.1.1) ho.2.2.2.1.2.1 rfl q_467 q_460 q_461 q_18 q_462 hv_X5_get ⟨Nat.le_of_ble_eq_true rfl, Nat.le_of_ble_eq_true rfl⟩ rfl hl.1 rfl (Nat.le_of_ble_eq_true rfl) dX4_valueOf_37 ⟨Nat.zero_le _, Nat.zero_le _⟩ (fun H locs hP hS => ?_)
    refine lv_topi (fun r_2 er_2 => ?_)
    exact m_iret K hr hlocks hP hS dX4_valueOf_40 (by subst er_2; first | (simp only [O_valueOf, w_1, if_true, if_false, ite_true, ite_false, reduceIte, not_true, not_false_iff]; done) | simp [O_valueOf, w_1]) rfl
  by_cases w_3 : w = 1
  · refine lv_tableIn (off := 40) (tgt := 41) K.1.1 K.1.2.1 dX4_valueOf_1 (by rw [w_3]; decide) (by rw [w_3]; decide) (by rw [w_3]; rfl) (by decide) ?_
    refine lv_aload_n K.1.1 K.1.2.1 dX4_valueOf_41 rfl (lv_at hl 0 rfl) ?_
    refine m_getr K hP ho.1 ho.2.1 rfl tuX4 4 (by decide) rfl q_118 dX4_valueOf_42 ?_
    refine lv_iload_n K.1.1 K.1.2.1 dX4_valueOf_45 rfl (lv_at hl 1 rfl) ?_
    refine m_cV (n := 1) (As := [.int i]) (rest := []) K hP hS (MX5_get l G B _ (o + 7) 20 ho.2.2.2.2.2.1 i ) (Nat.lt_of_succ_lt ho.2.2.2.2.2.1.1) ho.2.2.2.2.2.1.2.1 rfl q_467 q_460 q_461 q_18 q_462 hv_X5_get ⟨Nat.le_of_ble_eq_true rfl, Nat.le_of_ble_eq_true rfl⟩ rfl hl.1 rfl (Nat.le_of_ble_eq_true rfl) dX4_valueOf_46 ⟨Nat.zero_le _, Nat.zero_le _⟩ (fun H locs hP hS => ?_)
    refine lv_topi (fun r_4 er_4 => ?_)
    exact m_iret K hr hlocks hP hS dX4_valueOf_49 (by subst er_4; first | (simp only [O_valueOf, w_1, w_3, if_true, if_false, ite_true, ite_false, reduceIte, not_true, not_false_iff]; done) | simp [O_valueOf, w_1, w_3]) rfl
  by_cases w_5 : w = 2
  · refine lv_tableIn (off := 49) (tgt := 50) K.1.1 K.1.2.1 dX4_valueOf_1 (by rw [w_5]; decide) (by rw [w_5]; decide) (by rw [w_5]; rfl) (by decide) ?_
    refine lv_aload_n K.1.1 K.1.2.1 dX4_valueOf_50 rfl (lv_at hl 0 rfl) ?_
    refine m_getr K hP ho.1 ho.2.1 rfl tuX4 5 (by decide) rfl q_120 dX4_valueOf_51 ?_
    refine lv_iload_n K.1.1 K.1.2.1 dX4_valueOf_54 rfl (lv_at hl 1 rfl) ?_
    refine m_cV (n := 1) (As := [.int i]) (rest := []) K hP hS (MX5_get l G B _ (o + 9) 20 ho.2.2.2.2.2.2.1 i ) (Nat.lt_of_succ_lt ho.2.2.2.2.2.2.1.1) ho.2.2.2.2.2.2.1.2.1 rfl q_467 q_460 q_461 q_18 q_462 hv_X5_get ⟨Nat.le_of_ble_eq_true rfl, Nat.le_of_ble_eq_true rfl⟩ rfl hl.1 rfl (Nat.le_of_ble_eq_true rfl) dX4_valueOf_55 ⟨Nat.zero_le _, Nat.zero_le _⟩ (fun H locs hP hS => ?_)
    refine lv_topi (fun r_6 er_6 => ?_)
    exact m_iret K hr hlocks hP hS dX4_valueOf_58 (by subst er_6; first | (simp only [O_valueOf, w_1, w_3, w_5, if_true, if_false, ite_true, ite_false, reduceIte, not_true, not_false_iff]; done) | simp [O_valueOf, w_1, w_3, w_5]) rfl
  by_cases w_7 : w = 3
  · refine lv_tableIn (off := 58) (tgt := 59) K.1.1 K.1.2.1 dX4_valueOf_1 (by rw [w_7]; decide) (by rw [w_7]; decide) (by rw [w_7]; rfl) (by decide) ?_
    refine lv_aload_n K.1.1 K.1.2.1 dX4_valueOf_59 rfl (lv_at hl 0 rfl) ?_
    refine m_getr K hP ho.1 ho.2.1 rfl tuX4 6 (by decide) rfl q_123 dX4_valueOf_60 ?_
    refine lv_iload_n K.1.1 K.1.2.1 dX4_valueOf_63 rfl (lv_at hl 1 rfl) ?_
    refine m_cV (n := 1) (As := [.int i]) (rest := []) K hP hS (MX5_get l G B _ (o + 11) 20 ho.2.2.2.2.2.2.2 i ) (Nat.lt_of_succ_lt ho.2.2.2.2.2.2.2.1) ho.2.2.2.2.2.2.2.2.1 rfl q_467 q_460 q_461 q_18 q_462 hv_X5_get ⟨Nat.le_of_ble_eq_true rfl, Nat.le_of_ble_eq_true rfl⟩ rfl hl.1 rfl (Nat.le_of_ble_eq_true rfl) dX4_valueOf_64 ⟨Nat.zero_le _, Nat.zero_le _⟩ (fun H locs hP hS => ?_)
    refine lv_topi (fun r_8 er_8 => ?_)
    exact m_iret K hr hlocks hP hS dX4_valueOf_67 (by subst er_8; first | (simp only [O_valueOf, w_1, w_3, w_5, w_7, if_true, if_false, ite_true, ite_false, reduceIte, not_true, not_false_iff]; done) | simp [O_valueOf, w_1, w_3, w_5, w_7]) rfl
  refine lv_tableOut (tgt := 68) K.1.1 K.1.2.1 dX4_valueOf_1 (sw_out_0_3 w_1 w_3 w_5 w_7) (by decide) ?_
  refine lv_aload_n K.1.1 K.1.2.1 dX4_valueOf_68 rfl (lv_at hl 0 rfl) ?_
  refine lv_iload_n K.1.1 K.1.2.1 dX4_valueOf_69 rfl (lv_at hl 1 rfl) ?_
  refine m_cV (n := 1) (As := [.int i]) (rest := []) K hP hS (MX4_placeOf l G B _ o ho i ) ho.1 ho.2.1 rfl q_562 q_563 q_564 q_19 q_565 hv_X4_placeOf ⟨Nat.le_of_ble_eq_true rfl, Nat.le_of_ble_eq_true rfl⟩ rfl hl.1 rfl (Nat.le_of_ble_eq_true rfl) dX4_valueOf_70 ⟨Nat.zero_le _, Nat.zero_le _⟩ (fun H locs hP hS => ?_)
  refine lv_topi (fun r_9 er_9 => ?_)
  exact m_iret K hr hlocks hP hS dX4_valueOf_73 (by subst er_9; first | (simp only [O_valueOf, w_1, w_3, w_5, w_7, if_true, if_false, ite_true, ite_false, reduceIte, not_true, not_false_iff]; done) | simp [O_valueOf, w_1, w_3, w_5, w_7]) rfl

set_option maxHeartbeats 4000000 in
set_option maxRecDepth 100000 in
theorem MX4_removeEmpty (l : Launch) (G : GG) (B : Nat) (μ : Mm) (o : Nat) (ho : isO o) (hc : ¬ μ o 0 < 0) : CM l yX4_removeEmpty (.code yX4_removeEmpty cX4_removeEmpty 2 Option.none) 2 43 G B [.ref (B + o)] μ none (O_removeEmpty μ o) := by
  refine CM.of (by decide) (Nat.le_of_ble_eq_true rfl) ?_
  intro p e s m below meth c ls K hr hlocks hP hl
  have hS : va_S (AA B) s.heap s.heap [] := va_S.rf
  have hl : lv_has ls 2 [(0, .ref (B + o))] := hl
  refine lv_aload_n K.1.1 K.1.2.1 dX4_removeEmpty_0 rfl (lv_at hl 0 rfl) ?_
  refine m_geti K hP ho.1 ho.2.1 rfl tuX4 0 (by decide) rfl q_106 dX4_removeEmpty_1 ?_
  refine lv_topi (fun g_1 eg_1 => ?_)
  refine lv_iconst (v := 1) K.1.1 K.1.2.1 dX4_removeEmpty_4 (by decide) ?_
  refine lv_isub K.1.1 K.1.2.1 dX4_removeEmpty_5 ?_
  refine lv_topi (fun x_2 ex_2 => ?_)
  refine lv_istore_n (lv' := [(1, .int x_2), (0, .ref (B + o))]) K.1.1 K.1.2.1 dX4_removeEmpty_6 rfl hl (by decide) rfl (fun ls hl => ?_)
  have lp_7 : ∀ n : Nat, ∀ (v1_7 : Int32) (μ_7 : Mm) (H : Heap) (locs : List Loc) (ls : Array Slot), (n < 2 ^ 31) → (v1_7 = nI n - 1) → ((O_removeEmpty μ o) = O_reL o n μ_7) → MP G B μ_7 H → va_S (AA B) s.heap H locs → lv_has ls 2 [(1, .int v1_7), (0, .ref (B + o))] → W p l e ({ frames := 2, cells := 0, slots := 0, locals := 43 } : Room) s m ([.ref (B + o)] : List Value).toArray below meth c H locs 0 0 (MF below G B none (O_removeEmpty μ o) ([.ref (B + o)] : List Value).toArray s) (F0 m 7 ls []) := by
    intro n
    induction n with
    | zero =>
      intro v1_7 μ_7 H locs ls inv0_7 inv1_7 fin0_7 hP hS hl
      refine lv_iload_n K.1.1 K.1.2.1 dX4_removeEmpty_7 rfl (lv_at hl 0 rfl) ?_
      refine lv_if_lt (tgt := 33) K.1.1 K.1.2.1 dX4_removeEmpty_8 (by decide) (fun c_8 => ?_) (fun c_8 => ?_)
      · exact m_vret K hr hlocks hP hS dX4_removeEmpty_33 rfl (by exact fin0_7)
      · exact absurd c_8 (not_not_intro (by subst eg_1 ex_2 inv1_7; exact nI_lo))
    | succ n ih_7 =>
      intro v1_7 μ_7 H locs ls inv0_7 inv1_7 fin0_7 hP hS hl
      refine lv_iload_n K.1.1 K.1.2.1 dX4_removeEmpty_7 rfl (lv_at hl 0 rfl) ?_
      refine lv_if_lt (tgt := 33) K.1.1 K.1.2.1 dX4_removeEmpty_8 (by decide) (fun c_8 => ?_) (fun c_8 => ?_)
      · exact absurd c_8 (by subst eg_1 ex_2 inv1_7; exact nI_dn (by omega))
      · refine lv_aload_n K.1.1 K.1.2.1 dX4_removeEmpty_11 rfl (lv_at hl 1 rfl) ?_
        refine m_getr K hP ho.1 ho.2.1 rfl tuX4 5 (by decide) rfl q_120 dX4_removeEmpty_12 ?_
        refine lv_iload_n K.1.1 K.1.2.1 dX4_removeEmpty_15 rfl (lv_at hl 0 rfl) ?_
        refine m_cV (n := 1) (As := [.int v1_7]) (rest := []) K hP hS (MX5_get l G B _ (o + 9) 20 ho.2.2.2.2.2.2.1 v1_7 ) (Nat.lt_of_succ_lt ho.2.2.2.2.2.2.1.1) ho.2.2.2.2.2.2.1.2.1 rfl q_467 q_460 q_461 q_18 q_462 hv_X5_get ⟨Nat.le_of_ble_eq_true rfl, Nat.le_of_ble_eq_true rfl⟩ rfl hl.1 rfl (Nat.le_of_ble_eq_true rfl) dX4_removeEmpty_16 ⟨Nat.zero_le _, Nat.zero_le _⟩ (fun H locs hP hS => ?_)
        refine lv_topi (fun r_3 er_3 => ?_)
        refine lv_if_ne (tgt := 27) K.1.1 K.1.2.1 dX4_removeEmpty_19 (by decide) (fun c_19 => ?_) (fun c_19 => ?_)
        · obtain ⟨x_4, ex_4⟩ : ∃ y : Int32, y = v1_7 + (-1) := ⟨_, rfl⟩
          refine lv_iinc (v := x_4) (lv' := [(1, .int x_4), (0, .ref (B + o))]) K.1.1 K.1.2.1 dX4_removeEmpty_27 hl (k := 0) rfl (by rw [ex_4]; rfl) (by decide) rfl (fun ls hl => ?_)
          refine lv_goto (tgt := 7) K.1.1 K.1.2.1 dX4_removeEmpty_30 (by decide) ?_
          exact ih_7 _ _ _ _ _ (by omega) (by subst eg_1 ex_2 inv1_7 er_3 ex_4; rw [nI_pred]; exact nI_m1 n) (by subst eg_1 ex_2 inv1_7 er_3 ex_4; simp only [nI_pred] at *; rw [fin0_7]; simp [O_reL, c_19]) hP hS (lv_sub hl [0, 1] rfl)
        · refine lv_aload_n K.1.1 K.1.2.1 dX4_removeEmpty_22 rfl (lv_at hl 1 rfl) ?_
          refine lv_iload_n K.1.1 K.1.2.1 dX4_removeEmpty_23 rfl (lv_at hl 0 rfl) ?_
          refine m_cV (n := 1) (As := [.int v1_7]) (rest := []) K hP hS (MX4_removeAt l G B _ o ho v1_7 ) ho.1 ho.2.1 rfl q_759 q_760 q_761 q_19 q_762 hv_X4_removeAt ⟨Nat.le_of_ble_eq_true rfl, Nat.le_of_ble_eq_true rfl⟩ rfl hl.1 rfl (Nat.le_of_ble_eq_true rfl) dX4_removeEmpty_24 ⟨Nat.zero_le _, Nat.zero_le _⟩ (fun H locs hP hS => ?_)
          refine W.eq (g2 := F0 m 27 ls []) rfl ?_
          obtain ⟨x_5, ex_5⟩ : ∃ y : Int32, y = v1_7 + (-1) := ⟨_, rfl⟩
          refine lv_iinc (v := x_5) (lv' := [(1, .int x_5), (0, .ref (B + o))]) K.1.1 K.1.2.1 dX4_removeEmpty_27 hl (k := 0) rfl (by rw [ex_5]; rfl) (by decide) rfl (fun ls hl => ?_)
          refine lv_goto (tgt := 7) K.1.1 K.1.2.1 dX4_removeEmpty_30 (by decide) ?_
          exact ih_7 _ _ _ _ _ (by omega) (by subst eg_1 ex_2 inv1_7 er_3 ex_5; rw [nI_pred]; exact nI_m1 n) (by subst eg_1 ex_2 inv1_7 er_3 ex_5; simp only [nI_pred] at *; rw [fin0_7]; simp [O_reL, c_19]) hP hS (lv_sub hl [0, 1] rfl)
  exact lp_7 (cn (μ o 0)) _ _ _ _ _ (by exact cn_lt _) (by subst eg_1 ex_2; exact cnt_dn hc) (by subst eg_1 ex_2; rfl) hP hS (lv_sub hl [0, 1] rfl)

set_option maxHeartbeats 4000000 in
set_option maxRecDepth 100000 in
theorem MX4_removeUpTo (l : Launch) (G : GG) (B : Nat) (μ : Mm) (o : Nat) (ho : isO o) (r : Int32) (hc : ¬ μ o 0 < 0) : CM l yX4_removeUpTo (.code yX4_removeUpTo cX4_removeUpTo 4 (Option.some FieldType.int)) 2 43 G B [.ref (B + o), .int r] μ (some (.int (O_removeUpTo μ o r))) (O_ruM μ o r) := by
  refine CM.of (by decide) (Nat.le_of_ble_eq_true rfl) ?_
  intro p e s m below meth c ls K hr hlocks hP hl
  have hS : va_S (AA B) s.heap s.heap [] := va_S.rf
  have hl : lv_has ls 4 [(0, .ref (B + o)), (1, .int r)] := hl
  refine lv_aload_n K.1.1 K.1.2.1 dX4_removeUpTo_0 rfl (lv_at hl 0 rfl) ?_
  refine m_geti K hP ho.1 ho.2.1 rfl tuX4 0 (by decide) rfl q_106 dX4_removeUpTo_1 ?_
  refine lv_topi (fun g_1 eg_1 => ?_)
  refine lv_istore_n (lv' := [(2, .int g_1), (0, .ref (B + o)), (1, .int r)]) K.1.1 K.1.2.1 dX4_removeUpTo_4 rfl hl (by decide) rfl (fun ls hl => ?_)
  refine lv_aload_n K.1.1 K.1.2.1 dX4_removeUpTo_5 rfl (lv_at hl 1 rfl) ?_
  refine m_geti K hP ho.1 ho.2.1 rfl tuX4 0 (by decide) rfl q_106 dX4_removeUpTo_6 ?_
  refine lv_topi (fun g_2 eg_2 => ?_)
  refine lv_iconst (v := 1) K.1.1 K.1.2.1 dX4_removeUpTo_9 (by decide) ?_
  refine lv_isub K.1.1 K.1.2.1 dX4_removeUpTo_10 ?_
  refine lv_topi (fun x_3 ex_3 => ?_)
  refine lv_istore_n (lv' := [(3, .int x_3), (2, .int g_1), (0, .ref (B + o)), (1, .int r)]) K.1.1 K.1.2.1 dX4_removeUpTo_11 rfl hl (by decide) rfl (fun ls hl => ?_)
  have lp_12 : ∀ n : Nat, ∀ (v3_12 : Int32) (μ_12 : Mm) (H : Heap) (locs : List Loc) (ls : Array Slot), (n < 2 ^ 31) → (v3_12 = nI n - 1) → ((O_ruM μ o r) = O_ruL o r n μ_12) → MP G B μ_12 H → va_S (AA B) s.heap H locs → lv_has ls 4 [(3, .int v3_12), (2, .int g_1), (0, .ref (B + o)), (1, .int r)] → W p l e ({ frames := 2, cells := 0, slots := 0, locals := 43 } : Room) s m ([.ref (B + o), .int r] : List Value).toArray below meth c H locs 0 0 (MF below G B (some (.int (O_removeUpTo μ o r))) (O_ruM μ o r) ([.ref (B + o), .int r] : List Value).toArray s) (F0 m 12 ls []) := by
    intro n
    induction n with
    | zero =>
      intro v3_12 μ_12 H locs ls inv0_12 inv1_12 fin0_12 hP hS hl
      refine lv_iload_n K.1.1 K.1.2.1 dX4_removeUpTo_12 rfl (lv_at hl 0 rfl) ?_
      refine lv_if_lt (tgt := 39) K.1.1 K.1.2.1 dX4_removeUpTo_13 (by decide) (fun c_13 => ?_) (fun c_13 => ?_)
      · refine lv_iload_n K.1.1 K.1.2.1 dX4_removeUpTo_39 rfl (lv_at hl 1 rfl) ?_
        refine lv_aload_n K.1.1 K.1.2.1 dX4_removeUpTo_40 rfl (lv_at hl 2 rfl) ?_
        refine m_geti K hP ho.1 ho.2.1 rfl tuX4 0 (by decide) rfl q_106 dX4_removeUpTo_41 ?_
        refine lv_topi (fun g_4 eg_4 => ?_)
        refine lv_isub K.1.1 K.1.2.1 dX4_removeUpTo_44 ?_
        exact m_iret K hr hlocks hP hS dX4_removeUpTo_45 (by subst eg_1 eg_2 ex_3 inv1_12 eg_4; rw [O_removeUpTo, fin0_12]; rfl) (by exact fin0_12)
      · exact absurd c_13 (not_not_intro (by subst eg_1 eg_2 ex_3 inv1_12; exact nI_lo))
    | succ n ih_12 =>
      intro v3_12 μ_12 H locs ls inv0_12 inv1_12 fin0_12 hP hS hl
      refine lv_iload_n K.1.1 K.1.2.1 dX4_removeUpTo_12 rfl (lv_at hl 0 rfl) ?_
      refine lv_if_lt (tgt := 39) K.1.1 K.1.2.1 dX4_removeUpTo_13 (by decide) (fun c_13 => ?_) (fun c_13 => ?_)
      · exact absurd c_13 (by subst eg_1 eg_2 ex_3 inv1_12; exact nI_dn (by omega))
      · refine lv_aload_n K.1.1 K.1.2.1 dX4_removeUpTo_16 rfl (lv_at hl 2 rfl) ?_
        refine m_getr K hP ho.1 ho.2.1 rfl tuX4 6 (by decide) rfl q_123 dX4_removeUpTo_17 ?_
        refine lv_iload_n K.1.1 K.1.2.1 dX4_removeUpTo_20 rfl (lv_at hl 0 rfl) ?_
        refine m_cV (n := 1) (As := [.int v3_12]) (rest := []) K hP hS (MX5_get l G B _ (o + 11) 20 ho.2.2.2.2.2.2.2 v3_12 ) (Nat.lt_of_succ_lt ho.2.2.2.2.2.2.2.1) ho.2.2.2.2.2.2.2.2.1 rfl q_467 q_460 q_461 q_18 q_462 hv_X5_get ⟨Nat.le_of_ble_eq_true rfl, Nat.le_of_ble_eq_true rfl⟩ rfl hl.1 rfl (Nat.le_of_ble_eq_true rfl) dX4_removeUpTo_21 ⟨Nat.zero_le _, Nat.zero_le _⟩ (fun H locs hP hS => ?_)
        refine lv_topi (fun r_5 er_5 => ?_)
        refine lv_iload_n K.1.1 K.1.2.1 dX4_removeUpTo_24 rfl (lv_at hl 3 rfl) ?_
        refine lv_icmp_gt (tgt := 33) K.1.1 K.1.2.1 dX4_removeUpTo_25 (by decide) (fun c_25 => ?_) (fun c_25 => ?_)
        · obtain ⟨x_6, ex_6⟩ : ∃ y : Int32, y = v3_12 + (-1) := ⟨_, rfl⟩
          refine lv_iinc (v := x_6) (lv' := [(3, .int x_6), (2, .int g_1), (0, .ref (B + o)), (1, .int r)]) K.1.1 K.1.2.1 dX4_removeUpTo_33 hl (k := 0) rfl (by rw [ex_6]; rfl) (by decide) rfl (fun ls hl => ?_)
          refine lv_goto (tgt := 12) K.1.1 K.1.2.1 dX4_removeUpTo_36 (by decide) ?_
          exact ih_12 _ _ _ _ _ (by omega) (by subst eg_1 eg_2 ex_3 inv1_12 er_5 ex_6; rw [nI_pred]; exact nI_m1 n) (by subst eg_1 eg_2 ex_3 inv1_12 er_5 ex_6; simp only [nI_pred] at *; rw [fin0_12]; simp [O_ruL, c_13, Int32.not_lt.mp c_13, c_25, Int32.not_le.mpr c_25]) hP hS (lv_sub hl [0, 1, 2, 3] rfl)
        · refine lv_aload_n K.1.1 K.1.2.1 dX4_removeUpTo_28 rfl (lv_at hl 2 rfl) ?_
          refine lv_iload_n K.1.1 K.1.2.1 dX4_removeUpTo_29 rfl (lv_at hl 0 rfl) ?_
          refine m_cV (n := 1) (As := [.int v3_12]) (rest := []) K hP hS (MX4_removeAt l G B _ o ho v3_12 ) ho.1 ho.2.1 rfl q_759 q_760 q_761 q_19 q_762 hv_X4_removeAt ⟨Nat.le_of_ble_eq_true rfl, Nat.le_of_ble_eq_true rfl⟩ rfl hl.1 rfl (Nat.le_of_ble_eq_true rfl) dX4_removeUpTo_30 ⟨Nat.zero_le _, Nat.zero_le _⟩ (fun H locs hP hS => ?_)
          refine W.eq (g2 := F0 m 33 ls []) rfl ?_
          obtain ⟨x_7, ex_7⟩ : ∃ y : Int32, y = v3_12 + (-1) := ⟨_, rfl⟩
          refine lv_iinc (v := x_7) (lv' := [(3, .int x_7), (2, .int g_1), (0, .ref (B + o)), (1, .int r)]) K.1.1 K.1.2.1 dX4_removeUpTo_33 hl (k := 0) rfl (by rw [ex_7]; rfl) (by decide) rfl (fun ls hl => ?_)
          refine lv_goto (tgt := 12) K.1.1 K.1.2.1 dX4_removeUpTo_36 (by decide) ?_
          exact ih_12 _ _ _ _ _ (by omega) (by subst eg_1 eg_2 ex_3 inv1_12 er_5 ex_7; rw [nI_pred]; exact nI_m1 n) (by subst eg_1 eg_2 ex_3 inv1_12 er_5 ex_7; simp only [nI_pred] at *; rw [fin0_12]; simp [O_ruL, c_13, Int32.not_lt.mp c_13, c_25, Int32.not_lt.mp c_25]) hP hS (lv_sub hl [0, 1, 2, 3] rfl)
  exact lp_12 (cn (μ o 0)) _ _ _ _ _ (by exact cn_lt _) (by subst eg_1 eg_2 ex_3; exact cnt_dn hc) (by subst eg_1 eg_2 ex_3; rfl) hP hS (lv_sub hl [0, 1, 2, 3] rfl)

set_option maxHeartbeats 4000000 in
set_option maxRecDepth 100000 in
theorem MX4_copyFrom (l : Launch) (G : GG) (B : Nat) (μ : Mm) (o : Nat) (ho : isO o) (b : Nat) (hb : isO b) : CM l yX4_copyFrom (.code yX4_copyFrom cX4_copyFrom 2 Option.none) 2 43 G B [.ref (B + o), .ref (B + b)] μ none (O_copy μ o b) := by
  refine CM.of (by decide) (Nat.le_of_ble_eq_true rfl) ?_
  intro p e s m below meth c ls K hr hlocks hP hl
  have hS : va_S (AA B) s.heap s.heap [] := va_S.rf
  have hl : lv_has ls 2 [(0, .ref (B + o)), (1, .ref (B + b))] := hl
  refine lv_aload_n K.1.1 K.1.2.1 dX4_copyFrom_0 rfl (lv_at hl 0 rfl) ?_
  refine lv_aload_n K.1.1 K.1.2.1 dX4_copyFrom_1 rfl (lv_at hl 1 rfl) ?_
  refine m_geti K hP hb.1 hb.2.1 rfl tuX4 0 (by decide) rfl q_106 dX4_copyFrom_2 ?_
  refine lv_topi (fun g_1 eg_1 => ?_)
  refine m_puti K hP hS ho.1 ho.2.1 rfl tuX4 tyX4 tyX4_ok nmX4 0 (by decide) rfl rfl (by decide +kernel) q_106 dX4_copyFrom_5 (fun H locs hP hS => ?_)
  refine lv_aload_n K.1.1 K.1.2.1 dX4_copyFrom_8 rfl (lv_at hl 0 rfl) ?_
  refine m_getr K hP ho.1 ho.2.1 rfl tuX4 1 (by decide) rfl q_110 dX4_copyFrom_9 ?_
  refine lv_aload_n K.1.1 K.1.2.1 dX4_copyFrom_12 rfl (lv_at hl 1 rfl) ?_
  refine m_getr K hP hb.1 hb.2.1 rfl tuX4 1 (by decide) rfl q_110 dX4_copyFrom_13 ?_
  refine m_cV (n := 1) (As := [.ref (B + (b + 1))]) (rest := []) K hP hS (MX5_copyFrom l G B _ (o + 1) 20 ho.2.2.1 (b + 1) 20 hb.2.2.1 rfl) (Nat.lt_of_succ_lt ho.2.2.1.1) ho.2.2.1.2.1 rfl q_674 q_666 q_667 q_18 q_668 hv_X5_copyFrom ⟨Nat.le_of_ble_eq_true rfl, Nat.le_of_ble_eq_true rfl⟩ rfl hl.1 rfl (Nat.le_of_ble_eq_true rfl) dX4_copyFrom_16 ⟨Nat.zero_le _, Nat.zero_le _⟩ (fun H locs hP hS => ?_)
  refine W.eq (g2 := F0 m 19 ls []) rfl ?_
  refine lv_aload_n K.1.1 K.1.2.1 dX4_copyFrom_19 rfl (lv_at hl 0 rfl) ?_
  refine m_getr K hP ho.1 ho.2.1 rfl tuX4 2 (by decide) rfl q_113 dX4_copyFrom_20 ?_
  refine lv_aload_n K.1.1 K.1.2.1 dX4_copyFrom_23 rfl (lv_at hl 1 rfl) ?_
  refine m_getr K hP hb.1 hb.2.1 rfl tuX4 2 (by decide) rfl q_113 dX4_copyFrom_24 ?_
  refine m_cV (n := 1) (As := [.ref (B + (b + 3))]) (rest := []) K hP hS (MX5_copyFrom l G B _ (o + 3) 20 ho.2.2.2.1 (b + 3) 20 hb.2.2.2.1 rfl) (Nat.lt_of_succ_lt ho.2.2.2.1.1) ho.2.2.2.1.2.1 rfl q_674 q_666 q_667 q_18 q_668 hv_X5_copyFrom ⟨Nat.le_of_ble_eq_true rfl, Nat.le_of_ble_eq_true rfl⟩ rfl hl.1 rfl (Nat.le_of_ble_eq_true rfl) dX4_copyFrom_27 ⟨Nat.zero_le _, Nat.zero_le _⟩ (fun H locs hP hS => ?_)
  refine W.eq (g2 := F0 m 30 ls []) rfl ?_
  refine lv_aload_n K.1.1 K.1.2.1 dX4_copyFrom_30 rfl (lv_at hl 0 rfl) ?_
  refine m_getr K hP ho.1 ho.2.1 rfl tuX4 3 (by decide) rfl q_116 dX4_copyFrom_31 ?_
  refine lv_aload_n K.1.1 K.1.2.1 dX4_copyFrom_34 rfl (lv_at hl 1 rfl) ?_
  refine m_getr K hP hb.1 hb.2.1 rfl tuX4 3 (by decide) rfl q_116 dX4_copyFrom_35 ?_
  refine m_cV (n := 1) (As := [.ref (B + (b + 5))]) (rest := []) K hP hS (MX5_copyFrom l G B _ (o + 5) 20 ho.2.2.2.2.1 (b + 5) 20 hb.2.2.2.2.1 rfl) (Nat.lt_of_succ_lt ho.2.2.2.2.1.1) ho.2.2.2.2.1.2.1 rfl q_674 q_666 q_667 q_18 q_668 hv_X5_copyFrom ⟨Nat.le_of_ble_eq_true rfl, Nat.le_of_ble_eq_true rfl⟩ rfl hl.1 rfl (Nat.le_of_ble_eq_true rfl) dX4_copyFrom_38 ⟨Nat.zero_le _, Nat.zero_le _⟩ (fun H locs hP hS => ?_)
  refine W.eq (g2 := F0 m 41 ls []) rfl ?_
  refine lv_aload_n K.1.1 K.1.2.1 dX4_copyFrom_41 rfl (lv_at hl 0 rfl) ?_
  refine m_getr K hP ho.1 ho.2.1 rfl tuX4 4 (by decide) rfl q_118 dX4_copyFrom_42 ?_
  refine lv_aload_n K.1.1 K.1.2.1 dX4_copyFrom_45 rfl (lv_at hl 1 rfl) ?_
  refine m_getr K hP hb.1 hb.2.1 rfl tuX4 4 (by decide) rfl q_118 dX4_copyFrom_46 ?_
  refine m_cV (n := 1) (As := [.ref (B + (b + 7))]) (rest := []) K hP hS (MX5_copyFrom l G B _ (o + 7) 20 ho.2.2.2.2.2.1 (b + 7) 20 hb.2.2.2.2.2.1 rfl) (Nat.lt_of_succ_lt ho.2.2.2.2.2.1.1) ho.2.2.2.2.2.1.2.1 rfl q_674 q_666 q_667 q_18 q_668 hv_X5_copyFrom ⟨Nat.le_of_ble_eq_true rfl, Nat.le_of_ble_eq_true rfl⟩ rfl hl.1 rfl (Nat.le_of_ble_eq_true rfl) dX4_copyFrom_49 ⟨Nat.zero_le _, Nat.zero_le _⟩ (fun H locs hP hS => ?_)
  refine W.eq (g2 := F0 m 52 ls []) rfl ?_
  refine lv_aload_n K.1.1 K.1.2.1 dX4_copyFrom_52 rfl (lv_at hl 0 rfl) ?_
  refine m_getr K hP ho.1 ho.2.1 rfl tuX4 5 (by decide) rfl q_120 dX4_copyFrom_53 ?_
  refine lv_aload_n K.1.1 K.1.2.1 dX4_copyFrom_56 rfl (lv_at hl 1 rfl) ?_
  refine m_getr K hP hb.1 hb.2.1 rfl tuX4 5 (by decide) rfl q_120 dX4_copyFrom_57 ?_
  refine m_cV (n := 1) (As := [.ref (B + (b + 9))]) (rest := []) K hP hS (MX5_copyFrom l G B _ (o + 9) 20 ho.2.2.2.2.2.2.1 (b + 9) 20 hb.2.2.2.2.2.2.1 rfl) (Nat.lt_of_succ_lt ho.2.2.2.2.2.2.1.1) ho.2.2.2.2.2.2.1.2.1 rfl q_674 q_666 q_667 q_18 q_668 hv_X5_copyFrom ⟨Nat.le_of_ble_eq_true rfl, Nat.le_of_ble_eq_true rfl⟩ rfl hl.1 rfl (Nat.le_of_ble_eq_true rfl) dX4_copyFrom_60 ⟨Nat.zero_le _, Nat.zero_le _⟩ (fun H locs hP hS => ?_)
  refine W.eq (g2 := F0 m 63 ls []) rfl ?_
  refine lv_aload_n K.1.1 K.1.2.1 dX4_copyFrom_63 rfl (lv_at hl 0 rfl) ?_
  refine m_getr K hP ho.1 ho.2.1 rfl tuX4 6 (by decide) rfl q_123 dX4_copyFrom_64 ?_
  refine lv_aload_n K.1.1 K.1.2.1 dX4_copyFrom_67 rfl (lv_at hl 1 rfl) ?_
  refine m_getr K hP hb.1 hb.2.1 rfl tuX4 6 (by decide) rfl q_123 dX4_copyFrom_68 ?_
  refine m_cV (n := 1) (As := [.ref (B + (b + 11))]) (rest := []) K hP hS (MX5_copyFrom l G B _ (o + 11) 20 ho.2.2.2.2.2.2.2 (b + 11) 20 hb.2.2.2.2.2.2.2 rfl) (Nat.lt_of_succ_lt ho.2.2.2.2.2.2.2.1) ho.2.2.2.2.2.2.2.2.1 rfl q_674 q_666 q_667 q_18 q_668 hv_X5_copyFrom ⟨Nat.le_of_ble_eq_true rfl, Nat.le_of_ble_eq_true rfl⟩ rfl hl.1 rfl (Nat.le_of_ble_eq_true rfl) dX4_copyFrom_71 ⟨Nat.zero_le _, Nat.zero_le _⟩ (fun H locs hP hS => ?_)
  refine W.eq (g2 := F0 m 74 ls []) rfl ?_
  exact m_vret K hr hlocks hP hS dX4_copyFrom_74 rfl (by subst eg_1; rfl)
