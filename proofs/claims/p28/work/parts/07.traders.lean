/-! traders at o: side o+1, value o+3, kind o+5, amount o+7, traded o+9, gains o+11, money o+13; trades at o: bought o+1, sold o+3, units o+5, buyer o+7, seller o+9 -/
def T_has (μ : Mm) (o : Nat) (t : Int32) : Int32 := if t < 0 then 0 else if μ o 0 ≤ t then 0 else 1
def T_faultOfNumber (μ : Mm) (o : Nat) (t : Int32) : Int32 := if T_has μ o t = 0 then 1 else 0
def T_shadeBy (μ : Mm) (o : Nat) (t k a : Int32) : Mm := R_put (R_put μ (o + 5) 8 t k) (o + 7) 8 t a
def T_join (μ : Mm) (o : Nat) (sd v : Int32) : Mm :=
  let t := μ o 0
  let μ1 := R_put μ (o + 1) 8 t sd
  let μ2 := R_put μ1 (o + 3) 8 t v
  let μ3 := T_shadeBy μ2 o t 0 0
  let μ4 := R_put μ3 (o + 9) 8 t 0
  let μ5 := R_put μ4 (o + 11) 8 t 0
  let μ6 := R_put μ5 (o + 13) 8 t 0
  up2 μ6 o 0 (μ6 o 0 + 1)
def T_shadeOf (μ : Mm) (o : Nat) (t : Int32) : Int32 :=
  if R_get μ (o + 5) 8 t = 1 then R_get μ (o + 7) 8 t else if R_get μ (o + 5) 8 t = 2 then R_get μ (o + 3) 8 t * R_get μ (o + 7) 8 t / 100 else if R_get μ (o + 5) 8 t = 3 then R_get μ (o + 7) 8 t else 0
def T_bidWith (μ : Mm) (o : Nat) (t h : Int32) : Int32 :=
  if R_get μ (o + 1) 8 t = 0 then mxI 1 (R_get μ (o + 3) 8 t - h) else mnI 120 (R_get μ (o + 3) 8 t + h)
def T_bidOf (μ : Mm) (o : Nat) (t : Int32) : Int32 := T_bidWith μ o t (T_shadeOf μ o t)
def T_gain (μ : Mm) (o : Nat) (t pr : Int32) : Int32 := if R_get μ (o + 1) 8 t = 0 then R_get μ (o + 3) 8 t - pr else pr - R_get μ (o + 3) 8 t
def T_book (μ : Mm) (o : Nat) (t u pr : Int32) : Mm :=
  let μ1 := R_add μ (o + 9) 8 t u
  let μ2 := R_add μ1 (o + 11) 8 t (T_gain μ1 o t pr * u)
  R_add μ2 (o + 13) 8 t ((if R_get μ2 (o + 1) 8 t = 0 then -pr else pr) * u)
def T_learn (μ : Mm) (o : Nat) (t held taken : Int32) : Mm :=
  if R_get μ (o + 5) 8 t = 3 then
    if held = 0 then μ
    else if taken = held then R_put μ (o + 7) 8 t (mnI 50 (R_get μ (o + 7) 8 t + 1))
    else if taken = 0 then R_put μ (o + 7) 8 t (mxI 0 (R_get μ (o + 7) 8 t - 1))
    else μ
  else μ
def T_copy (μ : Mm) (o b : Nat) : Mm :=
  R_copy (R_copy (R_copy (R_copy (R_copy (R_copy (R_copy (up2 μ o 0 (μ b 0)) (o + 1) 8 (b + 1)) (o + 3) 8 (b + 3)) (o + 5) 8 (b + 5)) (o + 7) 8 (b + 7)) (o + 9) 8 (b + 9)) (o + 11) 8 (b + 11)) (o + 13) 8 (b + 13)
def S_append (μ : Mm) (o b : Nat) (i j u : Int32) : Mm :=
  let μ1 := R_put μ (o + 1) 20 (μ o 0) (R_get μ (b + 1) 20 i)
  let μ2 := R_put μ1 (o + 3) 20 (μ1 o 0) (R_get μ1 (b + 1) 20 j)
  let μ3 := R_put μ2 (o + 5) 20 (μ2 o 0) u
  let μ4 := R_put μ3 (o + 7) 20 (μ3 o 0) (R_get μ3 (b + 3) 20 i)
  let μ5 := R_put μ4 (o + 9) 20 (μ4 o 0) (R_get μ4 (b + 3) 20 j)
  up2 μ5 o 0 (μ5 o 0 + 1)
def S_valueOf (μ : Mm) (o : Nat) (i w : Int32) : Int32 :=
  if i < μ o 0 then
    if w = 0 then R_get μ (o + 1) 20 i else if w = 1 then R_get μ (o + 3) 20 i else if w = 2 then R_get μ (o + 5) 20 i else if w = 3 then R_get μ (o + 7) 20 i else R_get μ (o + 9) 20 i
  else -10000
def S_copy (μ : Mm) (o b : Nat) : Mm :=
  R_copy (R_copy (R_copy (R_copy (R_copy (up2 μ o 0 (μ b 0)) (o + 1) 20 (b + 1)) (o + 3) 20 (b + 3)) (o + 5) 20 (b + 5)) (o + 7) 20 (b + 7)) (o + 9) 20 (b + 9)
set_option maxHeartbeats 4000000 in
set_option maxRecDepth 100000 in
theorem MX6_has (l : Launch) (G : GG) (B : Nat) (μ : Mm) (o : Nat) (ho : isT o) (t : Int32) : CM l yX6_has (.code yX6_has cX6_has 2 (Option.some FieldType.boolean)) 0 0 G B [.ref (B + o), .int t] μ (some (.int (T_has μ o t))) μ := by
  refine CM.of (by decide) (Nat.le_of_ble_eq_true rfl) ?_
  intro p e s m below meth c ls K hr hlocks hP hl
  have hS : va_S (AA B) s.heap s.heap [] := va_S.rf
  have hl : lv_has ls 2 [(0, .ref (B + o)), (1, .int t)] := hl
  refine lv_iload_n K.1.1 K.1.2.1 dX6_has_0 rfl (lv_at hl 1 rfl) ?_
  refine lv_if_lt (tgt := 16) K.1.1 K.1.2.1 dX6_has_1 (by decide) (fun c_1 => ?_) (fun c_1 => ?_)
  · refine lv_iconst (v := 0) K.1.1 K.1.2.1 dX6_has_16 (by decide) ?_
    exact m_zret K hr hlocks hP hS dX6_has_17 (by first | rfl | (skip; rfl)) (by skip; first | (simp only [T_has, c_1, Int32.not_le.mpr c_1, if_true, if_false, ite_true, ite_false, reduceIte, not_true, not_false_iff]; done) | simp [T_has, c_1, Int32.not_le.mpr c_1]) rfl
  · refine lv_iload_n K.1.1 K.1.2.1 dX6_has_4 rfl (lv_at hl 1 rfl) ?_
    refine lv_aload_n K.1.1 K.1.2.1 dX6_has_5 rfl (lv_at hl 0 rfl) ?_
    refine m_geti K hP ho.1 ho.2.1 rfl tuX6 0 (by decide) rfl q_62 dX6_has_6 ?_
    refine lv_topi (fun g_1 eg_1 => ?_)
    refine lv_icmp_ge (tgt := 16) K.1.1 K.1.2.1 dX6_has_9 (by decide) (fun c_9 => ?_) (fun c_9 => ?_)
    · refine lv_iconst (v := 0) K.1.1 K.1.2.1 dX6_has_16 (by decide) ?_
      exact m_zret K hr hlocks hP hS dX6_has_17 (by first | rfl | (subst eg_1; rfl)) (by subst eg_1; first | (simp only [T_has, c_1, Int32.not_lt.mp c_1, c_9, Int32.not_lt.mpr c_9, if_true, if_false, ite_true, ite_false, reduceIte, not_true, not_false_iff]; done) | simp [T_has, c_1, Int32.not_lt.mp c_1, c_9, Int32.not_lt.mpr c_9]) rfl
    · refine lv_iconst (v := 1) K.1.1 K.1.2.1 dX6_has_12 (by decide) ?_
      refine lv_goto (tgt := 17) K.1.1 K.1.2.1 dX6_has_13 (by decide) ?_
      exact m_zret K hr hlocks hP hS dX6_has_17 (by first | rfl | (subst eg_1; rfl)) (by subst eg_1; first | (simp only [T_has, c_1, Int32.not_lt.mp c_1, c_9, Int32.not_le.mp c_9, if_true, if_false, ite_true, ite_false, reduceIte, not_true, not_false_iff]; done) | simp [T_has, c_1, Int32.not_lt.mp c_1, c_9, Int32.not_le.mp c_9]) rfl

set_option maxHeartbeats 4000000 in
set_option maxRecDepth 100000 in
theorem MX6_faultOfNumber (l : Launch) (G : GG) (B : Nat) (μ : Mm) (o : Nat) (ho : isT o) (t : Int32) : CM l yX6_faultOfNumber (.code yX6_faultOfNumber cX6_faultOfNumber 2 (Option.some FieldType.int)) 1 21 G B [.ref (B + o), .int t] μ (some (.int (T_faultOfNumber μ o t))) μ := by
  refine CM.of (by decide) (Nat.le_of_ble_eq_true rfl) ?_
  intro p e s m below meth c ls K hr hlocks hP hl
  have hS : va_S (AA B) s.heap s.heap [] := va_S.rf
  have hl : lv_has ls 2 [(0, .ref (B + o)), (1, .int t)] := hl
  refine lv_aload_n K.1.1 K.1.2.1 dX6_faultOfNumber_0 rfl (lv_at hl 0 rfl) ?_
  refine lv_iload_n K.1.1 K.1.2.1 dX6_faultOfNumber_1 rfl (lv_at hl 1 rfl) ?_
  refine m_cV (n := 1) (As := [.int t]) (rest := []) K hP hS (MX6_has l G B _ o ho t ) ho.1 ho.2.1 rfl q_597 q_598 q_599 q_17 q_600 hv_X6_has ⟨Nat.le_of_ble_eq_true rfl, Nat.le_of_ble_eq_true rfl⟩ rfl hl.1 rfl (Nat.le_of_ble_eq_true rfl) dX6_faultOfNumber_2 ⟨Nat.zero_le _, Nat.zero_le _⟩ (fun H locs hP hS => ?_)
  refine lv_topi (fun r_1 er_1 => ?_)
  refine lv_if_eq (tgt := 12) K.1.1 K.1.2.1 dX6_faultOfNumber_5 (by decide) (fun c_5 => ?_) (fun c_5 => ?_)
  · refine lv_iconst (v := 1) K.1.1 K.1.2.1 dX6_faultOfNumber_12 (by decide) ?_
    exact m_iret K hr hlocks hP hS dX6_faultOfNumber_13 (by subst er_1; first | (simp only [T_faultOfNumber, c_5, if_true, if_false, ite_true, ite_false, reduceIte, not_true, not_false_iff]; done) | simp [T_faultOfNumber, c_5]) rfl
  · refine lv_iconst (v := 0) K.1.1 K.1.2.1 dX6_faultOfNumber_8 (by decide) ?_
    refine lv_goto (tgt := 13) K.1.1 K.1.2.1 dX6_faultOfNumber_9 (by decide) ?_
    exact m_iret K hr hlocks hP hS dX6_faultOfNumber_13 (by subst er_1; first | (simp only [T_faultOfNumber, c_5, if_true, if_false, ite_true, ite_false, reduceIte, not_true, not_false_iff]; done) | simp [T_faultOfNumber, c_5]) rfl

set_option maxHeartbeats 4000000 in
set_option maxRecDepth 100000 in
theorem MX6_shadeBy (l : Launch) (G : GG) (B : Nat) (μ : Mm) (o : Nat) (ho : isT o) (t : Int32) (k : Int32) (a : Int32) : CM l yX6_shadeBy (.code yX6_shadeBy cX6_shadeBy 4 Option.none) 1 22 G B [.ref (B + o), .int t, .int k, .int a] μ none (T_shadeBy μ o t k a) := by
  refine CM.of (by decide) (Nat.le_of_ble_eq_true rfl) ?_
  intro p e s m below meth c ls K hr hlocks hP hl
  have hS : va_S (AA B) s.heap s.heap [] := va_S.rf
  have hl : lv_has ls 4 [(0, .ref (B + o)), (1, .int t), (2, .int k), (3, .int a)] := hl
  refine lv_aload_n K.1.1 K.1.2.1 dX6_shadeBy_0 rfl (lv_at hl 0 rfl) ?_
  refine m_getr K hP ho.1 ho.2.1 rfl tuX6 3 (by decide) rfl q_71 dX6_shadeBy_1 ?_
  refine lv_iload_n K.1.1 K.1.2.1 dX6_shadeBy_4 rfl (lv_at hl 1 rfl) ?_
  refine lv_iload_n K.1.1 K.1.2.1 dX6_shadeBy_5 rfl (lv_at hl 2 rfl) ?_
  refine m_cV (n := 2) (As := [.int t, .int k]) (rest := []) K hP hS (MX5_put l G B _ (o + 5) 8 ho.2.2.2.2.1 t k ) (Nat.lt_of_succ_lt ho.2.2.2.2.1.1) ho.2.2.2.2.1.2.1 rfl q_684 q_469 q_470 q_18 q_471 hv_X5_put ⟨Nat.le_of_ble_eq_true rfl, Nat.le_of_ble_eq_true rfl⟩ rfl hl.1 rfl (Nat.le_of_ble_eq_true rfl) dX6_shadeBy_6 ⟨Nat.zero_le _, Nat.zero_le _⟩ (fun H locs hP hS => ?_)
  refine W.eq (g2 := F0 m 9 ls []) rfl ?_
  refine lv_aload_n K.1.1 K.1.2.1 dX6_shadeBy_9 rfl (lv_at hl 0 rfl) ?_
  refine m_getr K hP ho.1 ho.2.1 rfl tuX6 4 (by decide) rfl q_73 dX6_shadeBy_10 ?_
  refine lv_iload_n K.1.1 K.1.2.1 dX6_shadeBy_13 rfl (lv_at hl 1 rfl) ?_
  refine lv_iload_n K.1.1 K.1.2.1 dX6_shadeBy_14 rfl (lv_at hl 3 rfl) ?_
  refine m_cV (n := 2) (As := [.int t, .int a]) (rest := []) K hP hS (MX5_put l G B _ (o + 7) 8 ho.2.2.2.2.2.1 t a ) (Nat.lt_of_succ_lt ho.2.2.2.2.2.1.1) ho.2.2.2.2.2.1.2.1 rfl q_684 q_469 q_470 q_18 q_471 hv_X5_put ⟨Nat.le_of_ble_eq_true rfl, Nat.le_of_ble_eq_true rfl⟩ rfl hl.1 rfl (Nat.le_of_ble_eq_true rfl) dX6_shadeBy_15 ⟨Nat.zero_le _, Nat.zero_le _⟩ (fun H locs hP hS => ?_)
  refine W.eq (g2 := F0 m 18 ls []) rfl ?_
  exact m_vret K hr hlocks hP hS dX6_shadeBy_18 rfl (by skip; rfl)

set_option maxHeartbeats 4000000 in
set_option maxRecDepth 100000 in
theorem MX6_join (l : Launch) (G : GG) (B : Nat) (μ : Mm) (o : Nat) (ho : isT o) (sd : Int32) (v : Int32) : CM l yX6_join (.code yX6_join cX6_join 4 (Option.some FieldType.int)) 2 45 G B [.ref (B + o), .int sd, .int v] μ (some (.int (μ o 0))) (T_join μ o sd v) := by
  refine CM.of (by decide) (Nat.le_of_ble_eq_true rfl) ?_
  intro p e s m below meth c ls K hr hlocks hP hl
  have hS : va_S (AA B) s.heap s.heap [] := va_S.rf
  have hl : lv_has ls 4 [(0, .ref (B + o)), (1, .int sd), (2, .int v)] := hl
  refine lv_aload_n K.1.1 K.1.2.1 dX6_join_0 rfl (lv_at hl 0 rfl) ?_
  refine m_geti K hP ho.1 ho.2.1 rfl tuX6 0 (by decide) rfl q_62 dX6_join_1 ?_
  refine lv_topi (fun g_1 eg_1 => ?_)
  refine lv_istore_n (lv' := [(3, .int g_1), (0, .ref (B + o)), (1, .int sd), (2, .int v)]) K.1.1 K.1.2.1 dX6_join_4 rfl hl (by decide) rfl (fun ls hl => ?_)
  refine lv_aload_n K.1.1 K.1.2.1 dX6_join_5 rfl (lv_at hl 1 rfl) ?_
  refine m_getr K hP ho.1 ho.2.1 rfl tuX6 1 (by decide) rfl q_65 dX6_join_6 ?_
  refine lv_iload_n K.1.1 K.1.2.1 dX6_join_9 rfl (lv_at hl 0 rfl) ?_
  refine lv_iload_n K.1.1 K.1.2.1 dX6_join_10 rfl (lv_at hl 2 rfl) ?_
  refine m_cV (n := 2) (As := [.int g_1, .int sd]) (rest := []) K hP hS (MX5_put l G B _ (o + 1) 8 ho.2.2.1 g_1 sd ) (Nat.lt_of_succ_lt ho.2.2.1.1) ho.2.2.1.2.1 rfl q_684 q_469 q_470 q_18 q_471 hv_X5_put ⟨Nat.le_of_ble_eq_true rfl, Nat.le_of_ble_eq_true rfl⟩ rfl hl.1 rfl (Nat.le_of_ble_eq_true rfl) dX6_join_11 ⟨Nat.zero_le _, Nat.zero_le _⟩ (fun H locs hP hS => ?_)
  refine W.eq (g2 := F0 m 14 ls []) rfl ?_
  refine lv_aload_n K.1.1 K.1.2.1 dX6_join_14 rfl (lv_at hl 1 rfl) ?_
  refine m_getr K hP ho.1 ho.2.1 rfl tuX6 2 (by decide) rfl q_67 dX6_join_15 ?_
  refine lv_iload_n K.1.1 K.1.2.1 dX6_join_18 rfl (lv_at hl 0 rfl) ?_
  refine lv_iload_n K.1.1 K.1.2.1 dX6_join_19 rfl (lv_at hl 3 rfl) ?_
  refine m_cV (n := 2) (As := [.int g_1, .int v]) (rest := []) K hP hS (MX5_put l G B _ (o + 3) 8 ho.2.2.2.1 g_1 v ) (Nat.lt_of_succ_lt ho.2.2.2.1.1) ho.2.2.2.1.2.1 rfl q_684 q_469 q_470 q_18 q_471 hv_X5_put ⟨Nat.le_of_ble_eq_true rfl, Nat.le_of_ble_eq_true rfl⟩ rfl hl.1 rfl (Nat.le_of_ble_eq_true rfl) dX6_join_20 ⟨Nat.zero_le _, Nat.zero_le _⟩ (fun H locs hP hS => ?_)
  refine W.eq (g2 := F0 m 23 ls []) rfl ?_
  refine lv_aload_n K.1.1 K.1.2.1 dX6_join_23 rfl (lv_at hl 1 rfl) ?_
  refine lv_iload_n K.1.1 K.1.2.1 dX6_join_24 rfl (lv_at hl 0 rfl) ?_
  refine lv_iconst (v := 0) K.1.1 K.1.2.1 dX6_join_25 (by decide) ?_
  refine lv_iconst (v := 0) K.1.1 K.1.2.1 dX6_join_26 (by decide) ?_
  refine m_cV (n := 3) (As := [.int g_1, .int 0, .int 0]) (rest := []) K hP hS (MX6_shadeBy l G B _ o ho g_1 0 0 ) ho.1 ho.2.1 rfl q_685 q_686 q_687 q_17 q_688 hv_X6_shadeBy ⟨Nat.le_of_ble_eq_true rfl, Nat.le_of_ble_eq_true rfl⟩ rfl hl.1 rfl (Nat.le_of_ble_eq_true rfl) dX6_join_27 ⟨Nat.zero_le _, Nat.zero_le _⟩ (fun H locs hP hS => ?_)
  refine W.eq (g2 := F0 m 30 ls []) rfl ?_
  refine lv_aload_n K.1.1 K.1.2.1 dX6_join_30 rfl (lv_at hl 1 rfl) ?_
  refine m_getr K hP ho.1 ho.2.1 rfl tuX6 5 (by decide) rfl q_75 dX6_join_31 ?_
  refine lv_iload_n K.1.1 K.1.2.1 dX6_join_34 rfl (lv_at hl 0 rfl) ?_
  refine lv_iconst (v := 0) K.1.1 K.1.2.1 dX6_join_35 (by decide) ?_
  refine m_cV (n := 2) (As := [.int g_1, .int 0]) (rest := []) K hP hS (MX5_put l G B _ (o + 9) 8 ho.2.2.2.2.2.2.1 g_1 0 ) (Nat.lt_of_succ_lt ho.2.2.2.2.2.2.1.1) ho.2.2.2.2.2.2.1.2.1 rfl q_684 q_469 q_470 q_18 q_471 hv_X5_put ⟨Nat.le_of_ble_eq_true rfl, Nat.le_of_ble_eq_true rfl⟩ rfl hl.1 rfl (Nat.le_of_ble_eq_true rfl) dX6_join_36 ⟨Nat.zero_le _, Nat.zero_le _⟩ (fun H locs hP hS => ?_)
  refine W.eq (g2 := F0 m 39 ls []) rfl ?_
  refine lv_aload_n K.1.1 K.1.2.1 dX6_join_39 rfl (lv_at hl 1 rfl) ?_
  refine m_getr K hP ho.1 ho.2.1 rfl tuX6 6 (by decide) rfl q_77 dX6_join_40 ?_
  refine lv_iload_n K.1.1 K.1.2.1 dX6_join_43 rfl (lv_at hl 0 rfl) ?_
  refine lv_iconst (v := 0) K.1.1 K.1.2.1 dX6_join_44 (by decide) ?_
  refine m_cV (n := 2) (As := [.int g_1, .int 0]) (rest := []) K hP hS (MX5_put l G B _ (o + 11) 8 ho.2.2.2.2.2.2.2.1 g_1 0 ) (Nat.lt_of_succ_lt ho.2.2.2.2.2.2.2.1.1) ho.2.2.2.2.2.2.2.1.2.1 rfl q_684 q_469 q_470 q_18 q_471 hv_X5_put ⟨Nat.le_of_ble_eq_true rfl, Nat.le_of_ble_eq_true rfl⟩ rfl hl.1 rfl (Nat.le_of_ble_eq_true rfl) dX6_join_45 ⟨Nat.zero_le _, Nat.zero_le _⟩ (fun H locs hP hS => ?_)
  refine W.eq (g2 := F0 m 48 ls []) rfl ?_
  refine lv_aload_n K.1.1 K.1.2.1 dX6_join_48 rfl (lv_at hl 1 rfl) ?_
  refine m_getr K hP ho.1 ho.2.1 rfl tuX6 7 (by decide) rfl q_79 dX6_join_49 ?_
  refine lv_iload_n K.1.1 K.1.2.1 dX6_join_52 rfl (lv_at hl 0 rfl) ?_
  refine lv_iconst (v := 0) K.1.1 K.1.2.1 dX6_join_53 (by decide) ?_
  refine m_cV (n := 2) (As := [.int g_1, .int 0]) (rest := []) K hP hS (MX5_put l G B _ (o + 13) 8 ho.2.2.2.2.2.2.2.2 g_1 0 ) (Nat.lt_of_succ_lt ho.2.2.2.2.2.2.2.2.1) ho.2.2.2.2.2.2.2.2.2.1 rfl q_684 q_469 q_470 q_18 q_471 hv_X5_put ⟨Nat.le_of_ble_eq_true rfl, Nat.le_of_ble_eq_true rfl⟩ rfl hl.1 rfl (Nat.le_of_ble_eq_true rfl) dX6_join_54 ⟨Nat.zero_le _, Nat.zero_le _⟩ (fun H locs hP hS => ?_)
  refine W.eq (g2 := F0 m 57 ls []) rfl ?_
  refine lv_aload_n K.1.1 K.1.2.1 dX6_join_57 rfl (lv_at hl 1 rfl) ?_
  refine lv_dup K.1.1 K.1.2.1 dX6_join_58 rfl ?_
  refine m_geti K hP ho.1 ho.2.1 rfl tuX6 0 (by decide) rfl q_62 dX6_join_59 ?_
  refine lv_topi (fun g_2 eg_2 => ?_)
  refine lv_iconst (v := 1) K.1.1 K.1.2.1 dX6_join_62 (by decide) ?_
  refine lv_iadd K.1.1 K.1.2.1 dX6_join_63 ?_
  refine m_puti K hP hS ho.1 ho.2.1 rfl tuX6 tyX6 tyX6_ok nmX6 0 (by decide) rfl rfl (by decide +kernel) q_62 dX6_join_64 (fun H locs hP hS => ?_)
  refine lv_iload_n K.1.1 K.1.2.1 dX6_join_67 rfl (lv_at hl 0 rfl) ?_
  exact m_iret K hr hlocks hP hS dX6_join_68 (by subst eg_1 eg_2; rfl) (by subst eg_1 eg_2; rfl)

set_option maxHeartbeats 4000000 in
set_option maxRecDepth 100000 in
theorem MX6_shadeOf (l : Launch) (G : GG) (B : Nat) (μ : Mm) (o : Nat) (ho : isT o) (t : Int32) : CM l yX6_shadeOf (.code yX6_shadeOf cX6_shadeOf 2 (Option.some FieldType.int)) 1 21 G B [.ref (B + o), .int t] μ (some (.int (T_shadeOf μ o t))) μ := by
  refine CM.of (by decide) (Nat.le_of_ble_eq_true rfl) ?_
  intro p e s m below meth c ls K hr hlocks hP hl
  have hS : va_S (AA B) s.heap s.heap [] := va_S.rf
  have hl : lv_has ls 2 [(0, .ref (B + o)), (1, .int t)] := hl
  refine lv_aload_n K.1.1 K.1.2.1 dX6_shadeOf_0 rfl (lv_at hl 0 rfl) ?_
  refine m_getr K hP ho.1 ho.2.1 rfl tuX6 3 (by decide) rfl q_71 dX6_shadeOf_1 ?_
  refine lv_iload_n K.1.1 K.1.2.1 dX6_shadeOf_4 rfl (lv_at hl 1 rfl) ?_
  refine m_cV (n := 1) (As := [.int t]) (rest := []) K hP hS (MX5_get l G B _ (o + 5) 8 ho.2.2.2.2.1 t ) (Nat.lt_of_succ_lt ho.2.2.2.2.1.1) ho.2.2.2.2.1.2.1 rfl q_536 q_460 q_461 q_18 q_462 hv_X5_get ⟨Nat.le_of_ble_eq_true rfl, Nat.le_of_ble_eq_true rfl⟩ rfl hl.1 rfl (Nat.le_of_ble_eq_true rfl) dX6_shadeOf_5 ⟨Nat.zero_le _, Nat.zero_le _⟩ (fun H locs hP hS => ?_)
  refine lv_topi (fun r_1 er_1 => ?_)
  by_cases w_2 : r_1 = 1
  · refine lv_tableIn (off := 28) (tgt := 36) K.1.1 K.1.2.1 dX6_shadeOf_8 (by rw [w_2]; decide) (by rw [w_2]; decide) (by rw [w_2]; rfl) (by decide) ?_
    refine lv_aload_n K.1.1 K.1.2.1 dX6_shadeOf_36 rfl (lv_at hl 0 rfl) ?_
    refine m_getr K hP ho.1 ho.2.1 rfl tuX6 4 (by decide) rfl q_73 dX6_shadeOf_37 ?_
    refine lv_iload_n K.1.1 K.1.2.1 dX6_shadeOf_40 rfl (lv_at hl 1 rfl) ?_
    refine m_cV (n := 1) (As := [.int t]) (rest := []) K hP hS (MX5_get l G B _ (o + 7) 8 ho.2.2.2.2.2.1 t ) (Nat.lt_of_succ_lt ho.2.2.2.2.2.1.1) ho.2.2.2.2.2.1.2.1 rfl q_536 q_460 q_461 q_18 q_462 hv_X5_get ⟨Nat.le_of_ble_eq_true rfl, Nat.le_of_ble_eq_true rfl⟩ rfl hl.1 rfl (Nat.le_of_ble_eq_true rfl) dX6_shadeOf_41 ⟨Nat.zero_le _, Nat.zero_le _⟩ (fun H locs hP hS => ?_)
    refine lv_topi (fun r_3 er_3 => ?_)
    exact m_iret K hr hlocks hP hS dX6_shadeOf_44 (by subst er_1 er_3; first | (simp only [T_shadeOf, w_2, if_true, if_false, ite_true, ite_false, reduceIte, not_true, not_false_iff]; done) | simp [T_shadeOf, w_2]) rfl
  by_cases w_4 : r_1 = 2
  · refine lv_tableIn (off := 37) (tgt := 45) K.1.1 K.1.2.1 dX6_shadeOf_8 (by rw [w_4]; decide) (by rw [w_4]; decide) (by rw [w_4]; rfl) (by decide) ?_
    refine lv_aload_n K.1.1 K.1.2.1 dX6_shadeOf_45 rfl (lv_at hl 0 rfl) ?_
    refine m_getr K hP ho.1 ho.2.1 rfl tuX6 2 (by decide) rfl q_67 dX6_shadeOf_46 ?_
    refine lv_iload_n K.1.1 K.1.2.1 dX6_shadeOf_49 rfl (lv_at hl 1 rfl) ?_
    refine m_cV (n := 1) (As := [.int t]) (rest := []) K hP hS (MX5_get l G B _ (o + 3) 8 ho.2.2.2.1 t ) (Nat.lt_of_succ_lt ho.2.2.2.1.1) ho.2.2.2.1.2.1 rfl q_536 q_460 q_461 q_18 q_462 hv_X5_get ⟨Nat.le_of_ble_eq_true rfl, Nat.le_of_ble_eq_true rfl⟩ rfl hl.1 rfl (Nat.le_of_ble_eq_true rfl) dX6_shadeOf_50 ⟨Nat.zero_le _, Nat.zero_le _⟩ (fun H locs hP hS => ?_)
    refine lv_topi (fun r_5 er_5 => ?_)
    refine lv_aload_n K.1.1 K.1.2.1 dX6_shadeOf_53 rfl (lv_at hl 0 rfl) ?_
    refine m_getr K hP ho.1 ho.2.1 rfl tuX6 4 (by decide) rfl q_73 dX6_shadeOf_54 ?_
    refine lv_iload_n K.1.1 K.1.2.1 dX6_shadeOf_57 rfl (lv_at hl 1 rfl) ?_
    refine m_cV (n := 1) (As := [.int t]) (rest := [.int r_5]) K hP hS (MX5_get l G B _ (o + 7) 8 ho.2.2.2.2.2.1 t ) (Nat.lt_of_succ_lt ho.2.2.2.2.2.1.1) ho.2.2.2.2.2.1.2.1 rfl q_536 q_460 q_461 q_18 q_462 hv_X5_get ⟨Nat.le_of_ble_eq_true rfl, Nat.le_of_ble_eq_true rfl⟩ rfl hl.1 rfl (Nat.le_of_ble_eq_true rfl) dX6_shadeOf_58 ⟨Nat.zero_le _, Nat.zero_le _⟩ (fun H locs hP hS => ?_)
    refine lv_topi (fun r_6 er_6 => ?_)
    refine lv_imul K.1.1 K.1.2.1 dX6_shadeOf_61 ?_
    refine lv_bipush (v := 100) K.1.1 K.1.2.1 dX6_shadeOf_62 (by decide) ?_
    refine lv_idiv K.1.1 K.1.2.1 dX6_shadeOf_64 (by decide) ?_
    exact m_iret K hr hlocks hP hS dX6_shadeOf_65 (by subst er_1 er_5 er_6; first | (simp only [T_shadeOf, w_2, w_4, if_true, if_false, ite_true, ite_false, reduceIte, not_true, not_false_iff]; done) | simp [T_shadeOf, w_2, w_4]) rfl
  by_cases w_7 : r_1 = 3
  · refine lv_tableIn (off := 28) (tgt := 36) K.1.1 K.1.2.1 dX6_shadeOf_8 (by rw [w_7]; decide) (by rw [w_7]; decide) (by rw [w_7]; rfl) (by decide) ?_
    refine lv_aload_n K.1.1 K.1.2.1 dX6_shadeOf_36 rfl (lv_at hl 0 rfl) ?_
    refine m_getr K hP ho.1 ho.2.1 rfl tuX6 4 (by decide) rfl q_73 dX6_shadeOf_37 ?_
    refine lv_iload_n K.1.1 K.1.2.1 dX6_shadeOf_40 rfl (lv_at hl 1 rfl) ?_
    refine m_cV (n := 1) (As := [.int t]) (rest := []) K hP hS (MX5_get l G B _ (o + 7) 8 ho.2.2.2.2.2.1 t ) (Nat.lt_of_succ_lt ho.2.2.2.2.2.1.1) ho.2.2.2.2.2.1.2.1 rfl q_536 q_460 q_461 q_18 q_462 hv_X5_get ⟨Nat.le_of_ble_eq_true rfl, Nat.le_of_ble_eq_true rfl⟩ rfl hl.1 rfl (Nat.le_of_ble_eq_true rfl) dX6_shadeOf_41 ⟨Nat.zero_le _, Nat.zero_le _⟩ (fun H locs hP hS => ?_)
    refine lv_topi (fun r_8 er_8 => ?_)
    exact m_iret K hr hlocks hP hS dX6_shadeOf_44 (by subst er_1 er_8; first | (simp only [T_shadeOf, w_2, w_4, w_7, if_true, if_false, ite_true, ite_false, reduceIte, not_true, not_false_iff]; done) | simp [T_shadeOf, w_2, w_4, w_7]) rfl
  refine lv_tableOut (tgt := 66) K.1.1 K.1.2.1 dX6_shadeOf_8 (sw_out_1_3 w_2 w_4 w_7) (by decide) ?_
  refine lv_iconst (v := 0) K.1.1 K.1.2.1 dX6_shadeOf_66 (by decide) ?_
  exact m_iret K hr hlocks hP hS dX6_shadeOf_67 (by subst er_1; first | (simp only [T_shadeOf, w_2, w_4, w_7, if_true, if_false, ite_true, ite_false, reduceIte, not_true, not_false_iff]; done) | simp [T_shadeOf, w_2, w_4, w_7]) rfl

set_option maxHeartbeats 4000000 in
set_option maxRecDepth 100000 in
theorem MX6_bidWith (l : Launch) (G : GG) (B : Nat) (μ : Mm) (o : Nat) (ho : isT o) (t : Int32) (h : Int32) : CM l yX6_bidWith (.code yX6_bidWith cX6_bidWith 3 (Option.some FieldType.int)) 1 21 G B [.ref (B + o), .int t, .int h] μ (some (.int (T_bidWith μ o t h))) μ := by
  refine CM.of (by decide) (Nat.le_of_ble_eq_true rfl) ?_
  intro p e s m below meth c ls K hr hlocks hP hl
  have hS : va_S (AA B) s.heap s.heap [] := va_S.rf
  have hl : lv_has ls 3 [(0, .ref (B + o)), (1, .int t), (2, .int h)] := hl
  refine lv_aload_n K.1.1 K.1.2.1 dX6_bidWith_0 rfl (lv_at hl 0 rfl) ?_
  refine m_getr K hP ho.1 ho.2.1 rfl tuX6 1 (by decide) rfl q_65 dX6_bidWith_1 ?_
  refine lv_iload_n K.1.1 K.1.2.1 dX6_bidWith_4 rfl (lv_at hl 1 rfl) ?_
  refine m_cV (n := 1) (As := [.int t]) (rest := []) K hP hS (MX5_get l G B _ (o + 1) 8 ho.2.2.1 t ) (Nat.lt_of_succ_lt ho.2.2.1.1) ho.2.2.1.2.1 rfl q_536 q_460 q_461 q_18 q_462 hv_X5_get ⟨Nat.le_of_ble_eq_true rfl, Nat.le_of_ble_eq_true rfl⟩ rfl hl.1 rfl (Nat.le_of_ble_eq_true rfl) dX6_bidWith_5 ⟨Nat.zero_le _, Nat.zero_le _⟩ (fun H locs hP hS => ?_)
  refine lv_topi (fun r_1 er_1 => ?_)
  refine lv_if_ne (tgt := 26) K.1.1 K.1.2.1 dX6_bidWith_8 (by decide) (fun c_8 => ?_) (fun c_8 => ?_)
  · refine lv_bipush (v := 120) K.1.1 K.1.2.1 dX6_bidWith_26 (by decide) ?_
    refine lv_aload_n K.1.1 K.1.2.1 dX6_bidWith_28 rfl (lv_at hl 0 rfl) ?_
    refine m_getr K hP ho.1 ho.2.1 rfl tuX6 2 (by decide) rfl q_67 dX6_bidWith_29 ?_
    refine lv_iload_n K.1.1 K.1.2.1 dX6_bidWith_32 rfl (lv_at hl 1 rfl) ?_
    refine m_cV (n := 1) (As := [.int t]) (rest := [.int 120]) K hP hS (MX5_get l G B _ (o + 3) 8 ho.2.2.2.1 t ) (Nat.lt_of_succ_lt ho.2.2.2.1.1) ho.2.2.2.1.2.1 rfl q_536 q_460 q_461 q_18 q_462 hv_X5_get ⟨Nat.le_of_ble_eq_true rfl, Nat.le_of_ble_eq_true rfl⟩ rfl hl.1 rfl (Nat.le_of_ble_eq_true rfl) dX6_bidWith_33 ⟨Nat.zero_le _, Nat.zero_le _⟩ (fun H locs hP hS => ?_)
    refine lv_topi (fun r_2 er_2 => ?_)
    refine lv_iload_n K.1.1 K.1.2.1 dX6_bidWith_36 rfl (lv_at hl 2 rfl) ?_
    refine lv_iadd K.1.1 K.1.2.1 dX6_bidWith_37 ?_
    refine va_mmin K.1.1 K.1.2.1 (K.1.2.2.1.trans hl.1.symm) K.1.2.2.2.1 (own := RX6) (K.w q_544) (K.w q_489) (K.w q_30) (K.w q_490) (Nat.le_of_ble_eq_true rfl) (Nat.le_of_ble_eq_true rfl) (Nat.zero_le _) (Nat.zero_le _) dX6_bidWith_38 ?_
    refine lv_topi (fun r_3 er_3 => ?_)
    have er_3 : r_3 = mnI 120 (r_2 + h) := er_3
    exact m_iret K hr hlocks hP hS dX6_bidWith_41 (by subst er_1 er_2 er_3; first | (simp only [T_bidWith, c_8, if_true, if_false, ite_true, ite_false, reduceIte, not_true, not_false_iff]; done) | simp [T_bidWith, c_8]) rfl
  · refine lv_iconst (v := 1) K.1.1 K.1.2.1 dX6_bidWith_11 (by decide) ?_
    refine lv_aload_n K.1.1 K.1.2.1 dX6_bidWith_12 rfl (lv_at hl 0 rfl) ?_
    refine m_getr K hP ho.1 ho.2.1 rfl tuX6 2 (by decide) rfl q_67 dX6_bidWith_13 ?_
    refine lv_iload_n K.1.1 K.1.2.1 dX6_bidWith_16 rfl (lv_at hl 1 rfl) ?_
    refine m_cV (n := 1) (As := [.int t]) (rest := [.int 1]) K hP hS (MX5_get l G B _ (o + 3) 8 ho.2.2.2.1 t ) (Nat.lt_of_succ_lt ho.2.2.2.1.1) ho.2.2.2.1.2.1 rfl q_536 q_460 q_461 q_18 q_462 hv_X5_get ⟨Nat.le_of_ble_eq_true rfl, Nat.le_of_ble_eq_true rfl⟩ rfl hl.1 rfl (Nat.le_of_ble_eq_true rfl) dX6_bidWith_17 ⟨Nat.zero_le _, Nat.zero_le _⟩ (fun H locs hP hS => ?_)
    refine lv_topi (fun r_4 er_4 => ?_)
    refine lv_iload_n K.1.1 K.1.2.1 dX6_bidWith_20 rfl (lv_at hl 2 rfl) ?_
    refine lv_isub K.1.1 K.1.2.1 dX6_bidWith_21 ?_
    refine va_mmax K.1.1 K.1.2.1 (K.1.2.2.1.trans hl.1.symm) K.1.2.2.2.1 (own := RX6) (K.w q_541) (K.w q_542) (K.w q_30) (K.w q_543) (Nat.le_of_ble_eq_true rfl) (Nat.le_of_ble_eq_true rfl) (Nat.zero_le _) (Nat.zero_le _) dX6_bidWith_22 ?_
    refine lv_topi (fun r_5 er_5 => ?_)
    have er_5 : r_5 = mxI 1 (r_4 - h) := er_5
    exact m_iret K hr hlocks hP hS dX6_bidWith_25 (by subst er_1 er_4 er_5; first | (simp only [T_bidWith, c_8, if_true, if_false, ite_true, ite_false, reduceIte, not_true, not_false_iff]; done) | simp [T_bidWith, c_8]) rfl

set_option maxHeartbeats 4000000 in
set_option maxRecDepth 100000 in
theorem MX6_bidOf (l : Launch) (G : GG) (B : Nat) (μ : Mm) (o : Nat) (ho : isT o) (t : Int32) : CM l yX6_bidOf (.code yX6_bidOf cX6_bidOf 2 (Option.some FieldType.int)) 2 43 G B [.ref (B + o), .int t] μ (some (.int (T_bidOf μ o t))) μ := by
  refine CM.of (by decide) (Nat.le_of_ble_eq_true rfl) ?_
  intro p e s m below meth c ls K hr hlocks hP hl
  have hS : va_S (AA B) s.heap s.heap [] := va_S.rf
  have hl : lv_has ls 2 [(0, .ref (B + o)), (1, .int t)] := hl
  refine lv_aload_n K.1.1 K.1.2.1 dX6_bidOf_0 rfl (lv_at hl 0 rfl) ?_
  refine lv_iload_n K.1.1 K.1.2.1 dX6_bidOf_1 rfl (lv_at hl 1 rfl) ?_
  refine lv_aload_n K.1.1 K.1.2.1 dX6_bidOf_2 rfl (lv_at hl 0 rfl) ?_
  refine lv_iload_n K.1.1 K.1.2.1 dX6_bidOf_3 rfl (lv_at hl 1 rfl) ?_
  refine m_cV (n := 1) (As := [.int t]) (rest := [.int t, .ref (B + o)]) K hP hS (MX6_shadeOf l G B _ o ho t ) ho.1 ho.2.1 rfl q_532 q_534 q_10 q_17 q_535 hv_X6_shadeOf ⟨Nat.le_of_ble_eq_true rfl, Nat.le_of_ble_eq_true rfl⟩ rfl hl.1 rfl (Nat.le_of_ble_eq_true rfl) dX6_bidOf_4 ⟨Nat.zero_le _, Nat.zero_le _⟩ (fun H locs hP hS => ?_)
  refine lv_topi (fun r_1 er_1 => ?_)
  refine m_cV (n := 2) (As := [.int t, .int r_1]) (rest := []) K hP hS (MX6_bidWith l G B _ o ho t r_1 ) ho.1 ho.2.1 rfl q_537 q_538 q_539 q_17 q_540 hv_X6_bidWith ⟨Nat.le_of_ble_eq_true rfl, Nat.le_of_ble_eq_true rfl⟩ rfl hl.1 rfl (Nat.le_of_ble_eq_true rfl) dX6_bidOf_7 ⟨Nat.zero_le _, Nat.zero_le _⟩ (fun H locs hP hS => ?_)
  refine lv_topi (fun r_2 er_2 => ?_)
  exact m_iret K hr hlocks hP hS dX6_bidOf_10 (by subst er_1 er_2; rfl) rfl

set_option maxHeartbeats 4000000 in
set_option maxRecDepth 100000 in
theorem MX6_gainPerUnit (l : Launch) (G : GG) (B : Nat) (μ : Mm) (o : Nat) (ho : isT o) (t : Int32) (pr : Int32) : CM l yX6_gainPerUnit (.code yX6_gainPerUnit cX6_gainPerUnit 3 (Option.some FieldType.int)) 1 21 G B [.ref (B + o), .int t, .int pr] μ (some (.int (T_gain μ o t pr))) μ := by
  refine CM.of (by decide) (Nat.le_of_ble_eq_true rfl) ?_
  intro p e s m below meth c ls K hr hlocks hP hl
  have hS : va_S (AA B) s.heap s.heap [] := va_S.rf
  have hl : lv_has ls 3 [(0, .ref (B + o)), (1, .int t), (2, .int pr)] := hl
  refine lv_aload_n K.1.1 K.1.2.1 dX6_gainPerUnit_0 rfl (lv_at hl 0 rfl) ?_
  refine m_getr K hP ho.1 ho.2.1 rfl tuX6 1 (by decide) rfl q_65 dX6_gainPerUnit_1 ?_
  refine lv_iload_n K.1.1 K.1.2.1 dX6_gainPerUnit_4 rfl (lv_at hl 1 rfl) ?_
  refine m_cV (n := 1) (As := [.int t]) (rest := []) K hP hS (MX5_get l G B _ (o + 1) 8 ho.2.2.1 t ) (Nat.lt_of_succ_lt ho.2.2.1.1) ho.2.2.1.2.1 rfl q_536 q_460 q_461 q_18 q_462 hv_X5_get ⟨Nat.le_of_ble_eq_true rfl, Nat.le_of_ble_eq_true rfl⟩ rfl hl.1 rfl (Nat.le_of_ble_eq_true rfl) dX6_gainPerUnit_5 ⟨Nat.zero_le _, Nat.zero_le _⟩ (fun H locs hP hS => ?_)
  refine lv_topi (fun r_1 er_1 => ?_)
  refine lv_if_ne (tgt := 24) K.1.1 K.1.2.1 dX6_gainPerUnit_8 (by decide) (fun c_8 => ?_) (fun c_8 => ?_)
  · refine lv_iload_n K.1.1 K.1.2.1 dX6_gainPerUnit_24 rfl (lv_at hl 2 rfl) ?_
    refine lv_aload_n K.1.1 K.1.2.1 dX6_gainPerUnit_25 rfl (lv_at hl 0 rfl) ?_
    refine m_getr K hP ho.1 ho.2.1 rfl tuX6 2 (by decide) rfl q_67 dX6_gainPerUnit_26 ?_
    refine lv_iload_n K.1.1 K.1.2.1 dX6_gainPerUnit_29 rfl (lv_at hl 1 rfl) ?_
    refine m_cV (n := 1) (As := [.int t]) (rest := [.int pr]) K hP hS (MX5_get l G B _ (o + 3) 8 ho.2.2.2.1 t ) (Nat.lt_of_succ_lt ho.2.2.2.1.1) ho.2.2.2.1.2.1 rfl q_536 q_460 q_461 q_18 q_462 hv_X5_get ⟨Nat.le_of_ble_eq_true rfl, Nat.le_of_ble_eq_true rfl⟩ rfl hl.1 rfl (Nat.le_of_ble_eq_true rfl) dX6_gainPerUnit_30 ⟨Nat.zero_le _, Nat.zero_le _⟩ (fun H locs hP hS => ?_)
    refine lv_topi (fun r_2 er_2 => ?_)
    refine lv_isub K.1.1 K.1.2.1 dX6_gainPerUnit_33 ?_
    exact m_iret K hr hlocks hP hS dX6_gainPerUnit_34 (by subst er_1 er_2; first | (simp only [T_gain, c_8, if_true, if_false, ite_true, ite_false, reduceIte, not_true, not_false_iff]; done) | simp [T_gain, c_8]) rfl
  · refine lv_aload_n K.1.1 K.1.2.1 dX6_gainPerUnit_11 rfl (lv_at hl 0 rfl) ?_
    refine m_getr K hP ho.1 ho.2.1 rfl tuX6 2 (by decide) rfl q_67 dX6_gainPerUnit_12 ?_
    refine lv_iload_n K.1.1 K.1.2.1 dX6_gainPerUnit_15 rfl (lv_at hl 1 rfl) ?_
    refine m_cV (n := 1) (As := [.int t]) (rest := []) K hP hS (MX5_get l G B _ (o + 3) 8 ho.2.2.2.1 t ) (Nat.lt_of_succ_lt ho.2.2.2.1.1) ho.2.2.2.1.2.1 rfl q_536 q_460 q_461 q_18 q_462 hv_X5_get ⟨Nat.le_of_ble_eq_true rfl, Nat.le_of_ble_eq_true rfl⟩ rfl hl.1 rfl (Nat.le_of_ble_eq_true rfl) dX6_gainPerUnit_16 ⟨Nat.zero_le _, Nat.zero_le _⟩ (fun H locs hP hS => ?_)
    refine lv_topi (fun r_3 er_3 => ?_)
    refine lv_iload_n K.1.1 K.1.2.1 dX6_gainPerUnit_19 rfl (lv_at hl 2 rfl) ?_
    refine lv_isub K.1.1 K.1.2.1 dX6_gainPerUnit_20 ?_
    refine lv_goto (tgt := 34) K.1.1 K.1.2.1 dX6_gainPerUnit_21 (by decide) ?_
    exact m_iret K hr hlocks hP hS dX6_gainPerUnit_34 (by subst er_1 er_3; first | (simp only [T_gain, c_8, if_true, if_false, ite_true, ite_false, reduceIte, not_true, not_false_iff]; done) | simp [T_gain, c_8]) rfl

set_option maxHeartbeats 4000000 in
set_option maxRecDepth 100000 in
theorem MX6_book (l : Launch) (G : GG) (B : Nat) (μ : Mm) (o : Nat) (ho : isT o) (t : Int32) (u : Int32) (pr : Int32) : CM l yX6_book (.code yX6_book cX6_book 4 Option.none) 2 43 G B [.ref (B + o), .int t, .int u, .int pr] μ none (T_book μ o t u pr) := by
  refine CM.of (by decide) (Nat.le_of_ble_eq_true rfl) ?_
  intro p e s m below meth c ls K hr hlocks hP hl
  have hS : va_S (AA B) s.heap s.heap [] := va_S.rf
  have hl : lv_has ls 4 [(0, .ref (B + o)), (1, .int t), (2, .int u), (3, .int pr)] := hl
  refine lv_aload_n K.1.1 K.1.2.1 dX6_book_0 rfl (lv_at hl 0 rfl) ?_
  refine m_getr K hP ho.1 ho.2.1 rfl tuX6 5 (by decide) rfl q_75 dX6_book_1 ?_
  refine lv_iload_n K.1.1 K.1.2.1 dX6_book_4 rfl (lv_at hl 1 rfl) ?_
  refine lv_iload_n K.1.1 K.1.2.1 dX6_book_5 rfl (lv_at hl 2 rfl) ?_
  refine m_cV (n := 2) (As := [.int t, .int u]) (rest := []) K hP hS (MX5_add l G B _ (o + 9) 8 ho.2.2.2.2.2.2.1 t u ) (Nat.lt_of_succ_lt ho.2.2.2.2.2.2.1.1) ho.2.2.2.2.2.2.1.2.1 rfl q_797 q_485 q_486 q_18 q_487 hv_X5_add ⟨Nat.le_of_ble_eq_true rfl, Nat.le_of_ble_eq_true rfl⟩ rfl hl.1 rfl (Nat.le_of_ble_eq_true rfl) dX6_book_6 ⟨Nat.zero_le _, Nat.zero_le _⟩ (fun H locs hP hS => ?_)
  refine W.eq (g2 := F0 m 9 ls []) rfl ?_
  refine lv_aload_n K.1.1 K.1.2.1 dX6_book_9 rfl (lv_at hl 0 rfl) ?_
  refine m_getr K hP ho.1 ho.2.1 rfl tuX6 6 (by decide) rfl q_77 dX6_book_10 ?_
  refine lv_iload_n K.1.1 K.1.2.1 dX6_book_13 rfl (lv_at hl 1 rfl) ?_
  refine lv_aload_n K.1.1 K.1.2.1 dX6_book_14 rfl (lv_at hl 0 rfl) ?_
  refine lv_iload_n K.1.1 K.1.2.1 dX6_book_15 rfl (lv_at hl 1 rfl) ?_
  refine lv_iload_n K.1.1 K.1.2.1 dX6_book_16 rfl (lv_at hl 3 rfl) ?_
  refine m_cV (n := 2) (As := [.int t, .int pr]) (rest := [.int t, .ref (B + (o + 11))]) K hP hS (MX6_gainPerUnit l G B _ o ho t pr ) ho.1 ho.2.1 rfl q_798 q_799 q_800 q_17 q_801 hv_X6_gainPerUnit ⟨Nat.le_of_ble_eq_true rfl, Nat.le_of_ble_eq_true rfl⟩ rfl hl.1 rfl (Nat.le_of_ble_eq_true rfl) dX6_book_17 ⟨Nat.zero_le _, Nat.zero_le _⟩ (fun H locs hP hS => ?_)
  refine lv_topi (fun r_1 er_1 => ?_)
  refine lv_iload_n K.1.1 K.1.2.1 dX6_book_20 rfl (lv_at hl 2 rfl) ?_
  refine lv_imul K.1.1 K.1.2.1 dX6_book_21 ?_
  refine m_cV (n := 2) (As := [.int t, .int (r_1 * u)]) (rest := []) K hP hS (MX5_add l G B _ (o + 11) 8 ho.2.2.2.2.2.2.2.1 t (r_1 * u) ) (Nat.lt_of_succ_lt ho.2.2.2.2.2.2.2.1.1) ho.2.2.2.2.2.2.2.1.2.1 rfl q_797 q_485 q_486 q_18 q_487 hv_X5_add ⟨Nat.le_of_ble_eq_true rfl, Nat.le_of_ble_eq_true rfl⟩ rfl hl.1 rfl (Nat.le_of_ble_eq_true rfl) dX6_book_22 ⟨Nat.zero_le _, Nat.zero_le _⟩ (fun H locs hP hS => ?_)
  refine W.eq (g2 := F0 m 25 ls []) rfl ?_
  refine lv_aload_n K.1.1 K.1.2.1 dX6_book_25 rfl (lv_at hl 0 rfl) ?_
  refine m_getr K hP ho.1 ho.2.1 rfl tuX6 7 (by decide) rfl q_79 dX6_book_26 ?_
  refine lv_iload_n K.1.1 K.1.2.1 dX6_book_29 rfl (lv_at hl 1 rfl) ?_
  refine lv_aload_n K.1.1 K.1.2.1 dX6_book_30 rfl (lv_at hl 0 rfl) ?_
  refine m_getr K hP ho.1 ho.2.1 rfl tuX6 1 (by decide) rfl q_65 dX6_book_31 ?_
  refine lv_iload_n K.1.1 K.1.2.1 dX6_book_34 rfl (lv_at hl 1 rfl) ?_
  refine m_cV (n := 1) (As := [.int t]) (rest := [.int t, .ref (B + (o + 13))]) K hP hS (MX5_get l G B _ (o + 1) 8 ho.2.2.1 t ) (Nat.lt_of_succ_lt ho.2.2.1.1) ho.2.2.1.2.1 rfl q_536 q_460 q_461 q_18 q_462 hv_X5_get ⟨Nat.le_of_ble_eq_true rfl, Nat.le_of_ble_eq_true rfl⟩ rfl hl.1 rfl (Nat.le_of_ble_eq_true rfl) dX6_book_35 ⟨Nat.zero_le _, Nat.zero_le _⟩ (fun H locs hP hS => ?_)
  refine lv_topi (fun r_2 er_2 => ?_)
  refine lv_if_ne (tgt := 46) K.1.1 K.1.2.1 dX6_book_38 (by decide) (fun c_38 => ?_) (fun c_38 => ?_)
  · refine lv_iload_n K.1.1 K.1.2.1 dX6_book_46 rfl (lv_at hl 3 rfl) ?_
    refine lv_iload_n K.1.1 K.1.2.1 dX6_book_47 rfl (lv_at hl 2 rfl) ?_
    refine lv_imul K.1.1 K.1.2.1 dX6_book_48 ?_
    refine m_cV (n := 2) (As := [.int t, .int (pr * u)]) (rest := []) K hP hS (MX5_add l G B _ (o + 13) 8 ho.2.2.2.2.2.2.2.2 t (pr * u) ) (Nat.lt_of_succ_lt ho.2.2.2.2.2.2.2.2.1) ho.2.2.2.2.2.2.2.2.2.1 rfl q_797 q_485 q_486 q_18 q_487 hv_X5_add ⟨Nat.le_of_ble_eq_true rfl, Nat.le_of_ble_eq_true rfl⟩ rfl hl.1 rfl (Nat.le_of_ble_eq_true rfl) dX6_book_49 ⟨Nat.zero_le _, Nat.zero_le _⟩ (fun H locs hP hS => ?_)
    refine W.eq (g2 := F0 m 52 ls []) rfl ?_
    exact m_vret K hr hlocks hP hS dX6_book_52 rfl (by subst er_1 er_2; first | (simp only [T_book, c_38, if_true, if_false, ite_true, ite_false, reduceIte, not_true, not_false_iff]; done) | simp [T_book, c_38])
  · refine lv_iload_n K.1.1 K.1.2.1 dX6_book_41 rfl (lv_at hl 3 rfl) ?_
    refine lv_ineg K.1.1 K.1.2.1 dX6_book_42 ?_
    refine lv_goto (tgt := 47) K.1.1 K.1.2.1 dX6_book_43 (by decide) ?_
    refine lv_iload_n K.1.1 K.1.2.1 dX6_book_47 rfl (lv_at hl 2 rfl) ?_
    refine lv_imul K.1.1 K.1.2.1 dX6_book_48 ?_
    refine m_cV (n := 2) (As := [.int t, .int ((-pr) * u)]) (rest := []) K hP hS (MX5_add l G B _ (o + 13) 8 ho.2.2.2.2.2.2.2.2 t ((-pr) * u) ) (Nat.lt_of_succ_lt ho.2.2.2.2.2.2.2.2.1) ho.2.2.2.2.2.2.2.2.2.1 rfl q_797 q_485 q_486 q_18 q_487 hv_X5_add ⟨Nat.le_of_ble_eq_true rfl, Nat.le_of_ble_eq_true rfl⟩ rfl hl.1 rfl (Nat.le_of_ble_eq_true rfl) dX6_book_49 ⟨Nat.zero_le _, Nat.zero_le _⟩ (fun H locs hP hS => ?_)
    refine W.eq (g2 := F0 m 52 ls []) rfl ?_
    exact m_vret K hr hlocks hP hS dX6_book_52 rfl (by subst er_1 er_2; first | (simp only [T_book, c_38, if_true, if_false, ite_true, ite_false, reduceIte, not_true, not_false_iff]; done) | simp [T_book, c_38])

set_option maxHeartbeats 4000000 in
set_option maxRecDepth 100000 in
theorem MX6_learn (l : Launch) (G : GG) (B : Nat) (μ : Mm) (o : Nat) (ho : isT o) (t : Int32) (held : Int32) (taken : Int32) : CM l yX6_learn (.code yX6_learn cX6_learn 4 Option.none) 1 22 G B [.ref (B + o), .int t, .int held, .int taken] μ none (T_learn μ o t held taken) := by
  refine CM.of (by decide) (Nat.le_of_ble_eq_true rfl) ?_
  intro p e s m below meth c ls K hr hlocks hP hl
  have hS : va_S (AA B) s.heap s.heap [] := va_S.rf
  have hl : lv_has ls 4 [(0, .ref (B + o)), (1, .int t), (2, .int held), (3, .int taken)] := hl
  refine lv_aload_n K.1.1 K.1.2.1 dX6_learn_0 rfl (lv_at hl 0 rfl) ?_
  refine m_getr K hP ho.1 ho.2.1 rfl tuX6 3 (by decide) rfl q_71 dX6_learn_1 ?_
  refine lv_iload_n K.1.1 K.1.2.1 dX6_learn_4 rfl (lv_at hl 1 rfl) ?_
  refine m_cV (n := 1) (As := [.int t]) (rest := []) K hP hS (MX5_get l G B _ (o + 5) 8 ho.2.2.2.2.1 t ) (Nat.lt_of_succ_lt ho.2.2.2.2.1.1) ho.2.2.2.2.1.2.1 rfl q_536 q_460 q_461 q_18 q_462 hv_X5_get ⟨Nat.le_of_ble_eq_true rfl, Nat.le_of_ble_eq_true rfl⟩ rfl hl.1 rfl (Nat.le_of_ble_eq_true rfl) dX6_learn_5 ⟨Nat.zero_le _, Nat.zero_le _⟩ (fun H locs hP hS => ?_)
  refine lv_topi (fun r_1 er_1 => ?_)
  refine lv_iconst (v := 3) K.1.1 K.1.2.1 dX6_learn_8 (by decide) ?_
  refine lv_icmp_ne (tgt := 16) K.1.1 K.1.2.1 dX6_learn_9 (by decide) (fun c_9 => ?_) (fun c_9 => ?_)
  · exact m_vret K hr hlocks hP hS dX6_learn_16 rfl (by subst er_1; first | (simp only [T_learn, c_9, if_true, if_false, ite_true, ite_false, reduceIte, not_true, not_false_iff]; done) | simp [T_learn, c_9])
  · refine lv_iload_n K.1.1 K.1.2.1 dX6_learn_12 rfl (lv_at hl 2 rfl) ?_
    refine lv_if_ne (tgt := 17) K.1.1 K.1.2.1 dX6_learn_13 (by decide) (fun c_13 => ?_) (fun c_13 => ?_)
    · refine lv_iload_n K.1.1 K.1.2.1 dX6_learn_17 rfl (lv_at hl 3 rfl) ?_
      refine lv_iload_n K.1.1 K.1.2.1 dX6_learn_18 rfl (lv_at hl 2 rfl) ?_
      refine lv_icmp_ne (tgt := 48) K.1.1 K.1.2.1 dX6_learn_19 (by decide) (fun c_19 => ?_) (fun c_19 => ?_)
      · refine lv_iload_n K.1.1 K.1.2.1 dX6_learn_48 rfl (lv_at hl 3 rfl) ?_
        refine lv_if_ne (tgt := 74) K.1.1 K.1.2.1 dX6_learn_49 (by decide) (fun c_49 => ?_) (fun c_49 => ?_)
        · exact m_vret K hr hlocks hP hS dX6_learn_74 rfl (by subst er_1; first | (simp [T_learn, c_9, c_13, c_19, c_49]; done) | (rw [T_learn, if_pos c_9, if_neg c_13, if_neg c_19, if_pos c_49]))
        · refine lv_aload_n K.1.1 K.1.2.1 dX6_learn_52 rfl (lv_at hl 0 rfl) ?_
          refine m_getr K hP ho.1 ho.2.1 rfl tuX6 4 (by decide) rfl q_73 dX6_learn_53 ?_
          refine lv_iload_n K.1.1 K.1.2.1 dX6_learn_56 rfl (lv_at hl 1 rfl) ?_
          refine lv_iconst (v := 0) K.1.1 K.1.2.1 dX6_learn_57 (by decide) ?_
          refine lv_aload_n K.1.1 K.1.2.1 dX6_learn_58 rfl (lv_at hl 0 rfl) ?_
          refine m_getr K hP ho.1 ho.2.1 rfl tuX6 4 (by decide) rfl q_73 dX6_learn_59 ?_
          refine lv_iload_n K.1.1 K.1.2.1 dX6_learn_62 rfl (lv_at hl 1 rfl) ?_
          refine m_cV (n := 1) (As := [.int t]) (rest := [.int 0, .int t, .ref (B + (o + 7))]) K hP hS (MX5_get l G B _ (o + 7) 8 ho.2.2.2.2.2.1 t ) (Nat.lt_of_succ_lt ho.2.2.2.2.2.1.1) ho.2.2.2.2.2.1.2.1 rfl q_536 q_460 q_461 q_18 q_462 hv_X5_get ⟨Nat.le_of_ble_eq_true rfl, Nat.le_of_ble_eq_true rfl⟩ rfl hl.1 rfl (Nat.le_of_ble_eq_true rfl) dX6_learn_63 ⟨Nat.zero_le _, Nat.zero_le _⟩ (fun H locs hP hS => ?_)
          refine lv_topi (fun r_2 er_2 => ?_)
          refine lv_iconst (v := 1) K.1.1 K.1.2.1 dX6_learn_66 (by decide) ?_
          refine lv_isub K.1.1 K.1.2.1 dX6_learn_67 ?_
          refine va_mmax K.1.1 K.1.2.1 (K.1.2.2.1.trans hl.1.symm) K.1.2.2.2.1 (own := RX6) (K.w q_541) (K.w q_542) (K.w q_30) (K.w q_543) (Nat.le_of_ble_eq_true rfl) (Nat.le_of_ble_eq_true rfl) (Nat.zero_le _) (Nat.zero_le _) dX6_learn_68 ?_
          refine lv_topi (fun r_3 er_3 => ?_)
          have er_3 : r_3 = mxI 0 (r_2 - 1) := er_3
          refine m_cV (n := 2) (As := [.int t, .int r_3]) (rest := []) K hP hS (MX5_put l G B _ (o + 7) 8 ho.2.2.2.2.2.1 t r_3 ) (Nat.lt_of_succ_lt ho.2.2.2.2.2.1.1) ho.2.2.2.2.2.1.2.1 rfl q_684 q_469 q_470 q_18 q_471 hv_X5_put ⟨Nat.le_of_ble_eq_true rfl, Nat.le_of_ble_eq_true rfl⟩ rfl hl.1 rfl (Nat.le_of_ble_eq_true rfl) dX6_learn_71 ⟨Nat.zero_le _, Nat.zero_le _⟩ (fun H locs hP hS => ?_)
          refine W.eq (g2 := F0 m 74 ls []) rfl ?_
          exact m_vret K hr hlocks hP hS dX6_learn_74 rfl (by subst er_1 er_2 er_3; first | (simp [T_learn, c_9, c_13, c_19, c_49]; done) | (rw [T_learn, if_pos c_9, if_neg c_13, if_neg c_19, if_pos c_49]))
      · refine lv_aload_n K.1.1 K.1.2.1 dX6_learn_22 rfl (lv_at hl 0 rfl) ?_
        refine m_getr K hP ho.1 ho.2.1 rfl tuX6 4 (by decide) rfl q_73 dX6_learn_23 ?_
        refine lv_iload_n K.1.1 K.1.2.1 dX6_learn_26 rfl (lv_at hl 1 rfl) ?_
        refine lv_bipush (v := 50) K.1.1 K.1.2.1 dX6_learn_27 (by decide) ?_
        refine lv_aload_n K.1.1 K.1.2.1 dX6_learn_29 rfl (lv_at hl 0 rfl) ?_
        refine m_getr K hP ho.1 ho.2.1 rfl tuX6 4 (by decide) rfl q_73 dX6_learn_30 ?_
        refine lv_iload_n K.1.1 K.1.2.1 dX6_learn_33 rfl (lv_at hl 1 rfl) ?_
        refine m_cV (n := 1) (As := [.int t]) (rest := [.int 50, .int t, .ref (B + (o + 7))]) K hP hS (MX5_get l G B _ (o + 7) 8 ho.2.2.2.2.2.1 t ) (Nat.lt_of_succ_lt ho.2.2.2.2.2.1.1) ho.2.2.2.2.2.1.2.1 rfl q_536 q_460 q_461 q_18 q_462 hv_X5_get ⟨Nat.le_of_ble_eq_true rfl, Nat.le_of_ble_eq_true rfl⟩ rfl hl.1 rfl (Nat.le_of_ble_eq_true rfl) dX6_learn_34 ⟨Nat.zero_le _, Nat.zero_le _⟩ (fun H locs hP hS => ?_)
        refine lv_topi (fun r_4 er_4 => ?_)
        refine lv_iconst (v := 1) K.1.1 K.1.2.1 dX6_learn_37 (by decide) ?_
        refine lv_iadd K.1.1 K.1.2.1 dX6_learn_38 ?_
        refine va_mmin K.1.1 K.1.2.1 (K.1.2.2.1.trans hl.1.symm) K.1.2.2.2.1 (own := RX6) (K.w q_544) (K.w q_489) (K.w q_30) (K.w q_490) (Nat.le_of_ble_eq_true rfl) (Nat.le_of_ble_eq_true rfl) (Nat.zero_le _) (Nat.zero_le _) dX6_learn_39 ?_
        refine lv_topi (fun r_5 er_5 => ?_)
        have er_5 : r_5 = mnI 50 (r_4 + 1) := er_5
        refine m_cV (n := 2) (As := [.int t, .int r_5]) (rest := []) K hP hS (MX5_put l G B _ (o + 7) 8 ho.2.2.2.2.2.1 t r_5 ) (Nat.lt_of_succ_lt ho.2.2.2.2.2.1.1) ho.2.2.2.2.2.1.2.1 rfl q_684 q_469 q_470 q_18 q_471 hv_X5_put ⟨Nat.le_of_ble_eq_true rfl, Nat.le_of_ble_eq_true rfl⟩ rfl hl.1 rfl (Nat.le_of_ble_eq_true rfl) dX6_learn_42 ⟨Nat.zero_le _, Nat.zero_le _⟩ (fun H locs hP hS => ?_)
        refine W.eq (g2 := F0 m 45 ls []) rfl ?_
        refine lv_goto (tgt := 74) K.1.1 K.1.2.1 dX6_learn_45 (by decide) ?_
        exact m_vret K hr hlocks hP hS dX6_learn_74 rfl (by subst er_1 er_4 er_5; first | (simp [T_learn, c_9, c_13, c_19]; done) | (rw [T_learn, if_pos c_9, if_neg c_13, if_neg c_19, if_pos c_49]))
    · exact m_vret K hr hlocks hP hS dX6_learn_16 rfl (by subst er_1; first | (simp only [T_learn, c_9, c_13, if_true, if_false, ite_true, ite_false, reduceIte, not_true, not_false_iff]; done) | simp [T_learn, c_9, c_13])

set_option maxHeartbeats 4000000 in
set_option maxRecDepth 100000 in
theorem MX6_copyFrom (l : Launch) (G : GG) (B : Nat) (μ : Mm) (o : Nat) (ho : isT o) (b : Nat) (hb : isT b) : CM l yX6_copyFrom (.code yX6_copyFrom cX6_copyFrom 2 Option.none) 2 43 G B [.ref (B + o), .ref (B + b)] μ none (T_copy μ o b) := by
  refine CM.of (by decide) (Nat.le_of_ble_eq_true rfl) ?_
  intro p e s m below meth c ls K hr hlocks hP hl
  have hS : va_S (AA B) s.heap s.heap [] := va_S.rf
  have hl : lv_has ls 2 [(0, .ref (B + o)), (1, .ref (B + b))] := hl
  refine lv_aload_n K.1.1 K.1.2.1 dX6_copyFrom_0 rfl (lv_at hl 0 rfl) ?_
  refine lv_aload_n K.1.1 K.1.2.1 dX6_copyFrom_1 rfl (lv_at hl 1 rfl) ?_
  refine m_geti K hP hb.1 hb.2.1 rfl tuX6 0 (by decide) rfl q_62 dX6_copyFrom_2 ?_
  refine lv_topi (fun g_1 eg_1 => ?_)
  refine m_puti K hP hS ho.1 ho.2.1 rfl tuX6 tyX6 tyX6_ok nmX6 0 (by decide) rfl rfl (by decide +kernel) q_62 dX6_copyFrom_5 (fun H locs hP hS => ?_)
  refine lv_aload_n K.1.1 K.1.2.1 dX6_copyFrom_8 rfl (lv_at hl 0 rfl) ?_
  refine m_getr K hP ho.1 ho.2.1 rfl tuX6 1 (by decide) rfl q_65 dX6_copyFrom_9 ?_
  refine lv_aload_n K.1.1 K.1.2.1 dX6_copyFrom_12 rfl (lv_at hl 1 rfl) ?_
  refine m_getr K hP hb.1 hb.2.1 rfl tuX6 1 (by decide) rfl q_65 dX6_copyFrom_13 ?_
  refine m_cV (n := 1) (As := [.ref (B + (b + 1))]) (rest := []) K hP hS (MX5_copyFrom l G B _ (o + 1) 8 ho.2.2.1 (b + 1) 8 hb.2.2.1 rfl) (Nat.lt_of_succ_lt ho.2.2.1.1) ho.2.2.1.2.1 rfl q_665 q_666 q_667 q_18 q_668 hv_X5_copyFrom ⟨Nat.le_of_ble_eq_true rfl, Nat.le_of_ble_eq_true rfl⟩ rfl hl.1 rfl (Nat.le_of_ble_eq_true rfl) dX6_copyFrom_16 ⟨Nat.zero_le _, Nat.zero_le _⟩ (fun H locs hP hS => ?_)
  refine W.eq (g2 := F0 m 19 ls []) rfl ?_
  refine lv_aload_n K.1.1 K.1.2.1 dX6_copyFrom_19 rfl (lv_at hl 0 rfl) ?_
  refine m_getr K hP ho.1 ho.2.1 rfl tuX6 2 (by decide) rfl q_67 dX6_copyFrom_20 ?_
  refine lv_aload_n K.1.1 K.1.2.1 dX6_copyFrom_23 rfl (lv_at hl 1 rfl) ?_
  refine m_getr K hP hb.1 hb.2.1 rfl tuX6 2 (by decide) rfl q_67 dX6_copyFrom_24 ?_
  refine m_cV (n := 1) (As := [.ref (B + (b + 3))]) (rest := []) K hP hS (MX5_copyFrom l G B _ (o + 3) 8 ho.2.2.2.1 (b + 3) 8 hb.2.2.2.1 rfl) (Nat.lt_of_succ_lt ho.2.2.2.1.1) ho.2.2.2.1.2.1 rfl q_665 q_666 q_667 q_18 q_668 hv_X5_copyFrom ⟨Nat.le_of_ble_eq_true rfl, Nat.le_of_ble_eq_true rfl⟩ rfl hl.1 rfl (Nat.le_of_ble_eq_true rfl) dX6_copyFrom_27 ⟨Nat.zero_le _, Nat.zero_le _⟩ (fun H locs hP hS => ?_)
  refine W.eq (g2 := F0 m 30 ls []) rfl ?_
  refine lv_aload_n K.1.1 K.1.2.1 dX6_copyFrom_30 rfl (lv_at hl 0 rfl) ?_
  refine m_getr K hP ho.1 ho.2.1 rfl tuX6 3 (by decide) rfl q_71 dX6_copyFrom_31 ?_
  refine lv_aload_n K.1.1 K.1.2.1 dX6_copyFrom_34 rfl (lv_at hl 1 rfl) ?_
  refine m_getr K hP hb.1 hb.2.1 rfl tuX6 3 (by decide) rfl q_71 dX6_copyFrom_35 ?_
  refine m_cV (n := 1) (As := [.ref (B + (b + 5))]) (rest := []) K hP hS (MX5_copyFrom l G B _ (o + 5) 8 ho.2.2.2.2.1 (b + 5) 8 hb.2.2.2.2.1 rfl) (Nat.lt_of_succ_lt ho.2.2.2.2.1.1) ho.2.2.2.2.1.2.1 rfl q_665 q_666 q_667 q_18 q_668 hv_X5_copyFrom ⟨Nat.le_of_ble_eq_true rfl, Nat.le_of_ble_eq_true rfl⟩ rfl hl.1 rfl (Nat.le_of_ble_eq_true rfl) dX6_copyFrom_38 ⟨Nat.zero_le _, Nat.zero_le _⟩ (fun H locs hP hS => ?_)
  refine W.eq (g2 := F0 m 41 ls []) rfl ?_
  refine lv_aload_n K.1.1 K.1.2.1 dX6_copyFrom_41 rfl (lv_at hl 0 rfl) ?_
  refine m_getr K hP ho.1 ho.2.1 rfl tuX6 4 (by decide) rfl q_73 dX6_copyFrom_42 ?_
  refine lv_aload_n K.1.1 K.1.2.1 dX6_copyFrom_45 rfl (lv_at hl 1 rfl) ?_
  refine m_getr K hP hb.1 hb.2.1 rfl tuX6 4 (by decide) rfl q_73 dX6_copyFrom_46 ?_
  refine m_cV (n := 1) (As := [.ref (B + (b + 7))]) (rest := []) K hP hS (MX5_copyFrom l G B _ (o + 7) 8 ho.2.2.2.2.2.1 (b + 7) 8 hb.2.2.2.2.2.1 rfl) (Nat.lt_of_succ_lt ho.2.2.2.2.2.1.1) ho.2.2.2.2.2.1.2.1 rfl q_665 q_666 q_667 q_18 q_668 hv_X5_copyFrom ⟨Nat.le_of_ble_eq_true rfl, Nat.le_of_ble_eq_true rfl⟩ rfl hl.1 rfl (Nat.le_of_ble_eq_true rfl) dX6_copyFrom_49 ⟨Nat.zero_le _, Nat.zero_le _⟩ (fun H locs hP hS => ?_)
  refine W.eq (g2 := F0 m 52 ls []) rfl ?_
  refine lv_aload_n K.1.1 K.1.2.1 dX6_copyFrom_52 rfl (lv_at hl 0 rfl) ?_
  refine m_getr K hP ho.1 ho.2.1 rfl tuX6 5 (by decide) rfl q_75 dX6_copyFrom_53 ?_
  refine lv_aload_n K.1.1 K.1.2.1 dX6_copyFrom_56 rfl (lv_at hl 1 rfl) ?_
  refine m_getr K hP hb.1 hb.2.1 rfl tuX6 5 (by decide) rfl q_75 dX6_copyFrom_57 ?_
  refine m_cV (n := 1) (As := [.ref (B + (b + 9))]) (rest := []) K hP hS (MX5_copyFrom l G B _ (o + 9) 8 ho.2.2.2.2.2.2.1 (b + 9) 8 hb.2.2.2.2.2.2.1 rfl) (Nat.lt_of_succ_lt ho.2.2.2.2.2.2.1.1) ho.2.2.2.2.2.2.1.2.1 rfl q_665 q_666 q_667 q_18 q_668 hv_X5_copyFrom ⟨Nat.le_of_ble_eq_true rfl, Nat.le_of_ble_eq_true rfl⟩ rfl hl.1 rfl (Nat.le_of_ble_eq_true rfl) dX6_copyFrom_60 ⟨Nat.zero_le _, Nat.zero_le _⟩ (fun H locs hP hS => ?_)
  refine W.eq (g2 := F0 m 63 ls []) rfl ?_
  refine lv_aload_n K.1.1 K.1.2.1 dX6_copyFrom_63 rfl (lv_at hl 0 rfl) ?_
  refine m_getr K hP ho.1 ho.2.1 rfl tuX6 6 (by decide) rfl q_77 dX6_copyFrom_64 ?_
  refine lv_aload_n K.1.1 K.1.2.1 dX6_copyFrom_67 rfl (lv_at hl 1 rfl) ?_
  refine m_getr K hP hb.1 hb.2.1 rfl tuX6 6 (by decide) rfl q_77 dX6_copyFrom_68 ?_
  refine m_cV (n := 1) (As := [.ref (B + (b + 11))]) (rest := []) K hP hS (MX5_copyFrom l G B _ (o + 11) 8 ho.2.2.2.2.2.2.2.1 (b + 11) 8 hb.2.2.2.2.2.2.2.1 rfl) (Nat.lt_of_succ_lt ho.2.2.2.2.2.2.2.1.1) ho.2.2.2.2.2.2.2.1.2.1 rfl q_665 q_666 q_667 q_18 q_668 hv_X5_copyFrom ⟨Nat.le_of_ble_eq_true rfl, Nat.le_of_ble_eq_true rfl⟩ rfl hl.1 rfl (Nat.le_of_ble_eq_true rfl) dX6_copyFrom_71 ⟨Nat.zero_le _, Nat.zero_le _⟩ (fun H locs hP hS => ?_)
  refine W.eq (g2 := F0 m 74 ls []) rfl ?_
  refine lv_aload_n K.1.1 K.1.2.1 dX6_copyFrom_74 rfl (lv_at hl 0 rfl) ?_
  refine m_getr K hP ho.1 ho.2.1 rfl tuX6 7 (by decide) rfl q_79 dX6_copyFrom_75 ?_
  refine lv_aload_n K.1.1 K.1.2.1 dX6_copyFrom_78 rfl (lv_at hl 1 rfl) ?_
  refine m_getr K hP hb.1 hb.2.1 rfl tuX6 7 (by decide) rfl q_79 dX6_copyFrom_79 ?_
  refine m_cV (n := 1) (As := [.ref (B + (b + 13))]) (rest := []) K hP hS (MX5_copyFrom l G B _ (o + 13) 8 ho.2.2.2.2.2.2.2.2 (b + 13) 8 hb.2.2.2.2.2.2.2.2 rfl) (Nat.lt_of_succ_lt ho.2.2.2.2.2.2.2.2.1) ho.2.2.2.2.2.2.2.2.2.1 rfl q_665 q_666 q_667 q_18 q_668 hv_X5_copyFrom ⟨Nat.le_of_ble_eq_true rfl, Nat.le_of_ble_eq_true rfl⟩ rfl hl.1 rfl (Nat.le_of_ble_eq_true rfl) dX6_copyFrom_82 ⟨Nat.zero_le _, Nat.zero_le _⟩ (fun H locs hP hS => ?_)
  refine W.eq (g2 := F0 m 85 ls []) rfl ?_
  exact m_vret K hr hlocks hP hS dX6_copyFrom_85 rfl (by subst eg_1; rfl)

set_option maxHeartbeats 4000000 in
set_option maxRecDepth 100000 in
theorem MX7_append (l : Launch) (G : GG) (B : Nat) (μ : Mm) (o : Nat) (ho : isS o) (b : Nat) (hb : isO b) (i : Int32) (j : Int32) (u : Int32) : CM l yX7_append (.code yX7_append cX7_append 5 Option.none) 1 22 G B [.ref (B + o), .ref (B + b), .int i, .int j, .int u] μ none (S_append μ o b i j u) := by
  refine CM.of (by decide) (Nat.le_of_ble_eq_true rfl) ?_
  intro p e s m below meth c ls K hr hlocks hP hl
  have hS : va_S (AA B) s.heap s.heap [] := va_S.rf
  have hl : lv_has ls 5 [(0, .ref (B + o)), (1, .ref (B + b)), (2, .int i), (3, .int j), (4, .int u)] := hl
  refine lv_aload_n K.1.1 K.1.2.1 dX7_append_0 rfl (lv_at hl 0 rfl) ?_
  refine m_getr K hP ho.1 ho.2.1 rfl tuX7 1 (by decide) rfl q_151 dX7_append_1 ?_
  refine lv_aload_n K.1.1 K.1.2.1 dX7_append_4 rfl (lv_at hl 0 rfl) ?_
  refine m_geti K hP ho.1 ho.2.1 rfl tuX7 0 (by decide) rfl q_147 dX7_append_5 ?_
  refine lv_topi (fun g_1 eg_1 => ?_)
  refine lv_aload_n K.1.1 K.1.2.1 dX7_append_8 rfl (lv_at hl 1 rfl) ?_
  refine m_getr K hP hb.1 hb.2.1 rfl tuX4 1 (by decide) rfl q_111 dX7_append_9 ?_
  refine lv_iload_n K.1.1 K.1.2.1 dX7_append_12 rfl (lv_at hl 2 rfl) ?_
  refine m_cV (n := 1) (As := [.int i]) (rest := [.int g_1, .ref (B + (o + 1))]) K hP hS (MX5_get l G B _ (b + 1) 20 hb.2.2.1 i ) (Nat.lt_of_succ_lt hb.2.2.1.1) hb.2.2.1.2.1 rfl q_575 q_460 q_461 q_18 q_462 hv_X5_get ⟨Nat.le_of_ble_eq_true rfl, Nat.le_of_ble_eq_true rfl⟩ rfl hl.1 rfl (Nat.le_of_ble_eq_true rfl) dX7_append_13 ⟨Nat.zero_le _, Nat.zero_le _⟩ (fun H locs hP hS => ?_)
  refine lv_topi (fun r_2 er_2 => ?_)
  refine m_cV (n := 2) (As := [.int g_1, .int r_2]) (rest := []) K hP hS (MX5_put l G B _ (o + 1) 20 ho.2.2.1 g_1 r_2 ) (Nat.lt_of_succ_lt ho.2.2.1.1) ho.2.2.1.2.1 rfl q_788 q_469 q_470 q_18 q_471 hv_X5_put ⟨Nat.le_of_ble_eq_true rfl, Nat.le_of_ble_eq_true rfl⟩ rfl hl.1 rfl (Nat.le_of_ble_eq_true rfl) dX7_append_16 ⟨Nat.zero_le _, Nat.zero_le _⟩ (fun H locs hP hS => ?_)
  refine W.eq (g2 := F0 m 19 ls []) rfl ?_
  refine lv_aload_n K.1.1 K.1.2.1 dX7_append_19 rfl (lv_at hl 0 rfl) ?_
  refine m_getr K hP ho.1 ho.2.1 rfl tuX7 2 (by decide) rfl q_152 dX7_append_20 ?_
  refine lv_aload_n K.1.1 K.1.2.1 dX7_append_23 rfl (lv_at hl 0 rfl) ?_
  refine m_geti K hP ho.1 ho.2.1 rfl tuX7 0 (by decide) rfl q_147 dX7_append_24 ?_
  refine lv_topi (fun g_3 eg_3 => ?_)
  refine lv_aload_n K.1.1 K.1.2.1 dX7_append_27 rfl (lv_at hl 1 rfl) ?_
  refine m_getr K hP hb.1 hb.2.1 rfl tuX4 1 (by decide) rfl q_111 dX7_append_28 ?_
  refine lv_iload_n K.1.1 K.1.2.1 dX7_append_31 rfl (lv_at hl 3 rfl) ?_
  refine m_cV (n := 1) (As := [.int j]) (rest := [.int g_3, .ref (B + (o + 3))]) K hP hS (MX5_get l G B _ (b + 1) 20 hb.2.2.1 j ) (Nat.lt_of_succ_lt hb.2.2.1.1) hb.2.2.1.2.1 rfl q_575 q_460 q_461 q_18 q_462 hv_X5_get ⟨Nat.le_of_ble_eq_true rfl, Nat.le_of_ble_eq_true rfl⟩ rfl hl.1 rfl (Nat.le_of_ble_eq_true rfl) dX7_append_32 ⟨Nat.zero_le _, Nat.zero_le _⟩ (fun H locs hP hS => ?_)
  refine lv_topi (fun r_4 er_4 => ?_)
  refine m_cV (n := 2) (As := [.int g_3, .int r_4]) (rest := []) K hP hS (MX5_put l G B _ (o + 3) 20 ho.2.2.2.1 g_3 r_4 ) (Nat.lt_of_succ_lt ho.2.2.2.1.1) ho.2.2.2.1.2.1 rfl q_788 q_469 q_470 q_18 q_471 hv_X5_put ⟨Nat.le_of_ble_eq_true rfl, Nat.le_of_ble_eq_true rfl⟩ rfl hl.1 rfl (Nat.le_of_ble_eq_true rfl) dX7_append_35 ⟨Nat.zero_le _, Nat.zero_le _⟩ (fun H locs hP hS => ?_)
  refine W.eq (g2 := F0 m 38 ls []) rfl ?_
  refine lv_aload_n K.1.1 K.1.2.1 dX7_append_38 rfl (lv_at hl 0 rfl) ?_
  refine m_getr K hP ho.1 ho.2.1 rfl tuX7 3 (by decide) rfl q_153 dX7_append_39 ?_
  refine lv_aload_n K.1.1 K.1.2.1 dX7_append_42 rfl (lv_at hl 0 rfl) ?_
  refine m_geti K hP ho.1 ho.2.1 rfl tuX7 0 (by decide) rfl q_147 dX7_append_43 ?_
  refine lv_topi (fun g_5 eg_5 => ?_)
  refine lv_iload K.1.1 K.1.2.1 dX7_append_46 (lv_at hl 4 rfl) ?_
  refine m_cV (n := 2) (As := [.int g_5, .int u]) (rest := []) K hP hS (MX5_put l G B _ (o + 5) 20 ho.2.2.2.2.1 g_5 u ) (Nat.lt_of_succ_lt ho.2.2.2.2.1.1) ho.2.2.2.2.1.2.1 rfl q_788 q_469 q_470 q_18 q_471 hv_X5_put ⟨Nat.le_of_ble_eq_true rfl, Nat.le_of_ble_eq_true rfl⟩ rfl hl.1 rfl (Nat.le_of_ble_eq_true rfl) dX7_append_48 ⟨Nat.zero_le _, Nat.zero_le _⟩ (fun H locs hP hS => ?_)
  refine W.eq (g2 := F0 m 51 ls []) rfl ?_
  refine lv_aload_n K.1.1 K.1.2.1 dX7_append_51 rfl (lv_at hl 0 rfl) ?_
  refine m_getr K hP ho.1 ho.2.1 rfl tuX7 4 (by decide) rfl q_154 dX7_append_52 ?_
  refine lv_aload_n K.1.1 K.1.2.1 dX7_append_55 rfl (lv_at hl 0 rfl) ?_
  refine m_geti K hP ho.1 ho.2.1 rfl tuX7 0 (by decide) rfl q_147 dX7_append_56 ?_
  refine lv_topi (fun g_6 eg_6 => ?_)
  refine lv_aload_n K.1.1 K.1.2.1 dX7_append_59 rfl (lv_at hl 1 rfl) ?_
  refine m_getr K hP hb.1 hb.2.1 rfl tuX4 2 (by decide) rfl q_114 dX7_append_60 ?_
  refine lv_iload_n K.1.1 K.1.2.1 dX7_append_63 rfl (lv_at hl 2 rfl) ?_
  refine m_cV (n := 1) (As := [.int i]) (rest := [.int g_6, .ref (B + (o + 7))]) K hP hS (MX5_get l G B _ (b + 3) 20 hb.2.2.2.1 i ) (Nat.lt_of_succ_lt hb.2.2.2.1.1) hb.2.2.2.1.2.1 rfl q_575 q_460 q_461 q_18 q_462 hv_X5_get ⟨Nat.le_of_ble_eq_true rfl, Nat.le_of_ble_eq_true rfl⟩ rfl hl.1 rfl (Nat.le_of_ble_eq_true rfl) dX7_append_64 ⟨Nat.zero_le _, Nat.zero_le _⟩ (fun H locs hP hS => ?_)
  refine lv_topi (fun r_7 er_7 => ?_)
  refine m_cV (n := 2) (As := [.int g_6, .int r_7]) (rest := []) K hP hS (MX5_put l G B _ (o + 7) 20 ho.2.2.2.2.2.1 g_6 r_7 ) (Nat.lt_of_succ_lt ho.2.2.2.2.2.1.1) ho.2.2.2.2.2.1.2.1 rfl q_788 q_469 q_470 q_18 q_471 hv_X5_put ⟨Nat.le_of_ble_eq_true rfl, Nat.le_of_ble_eq_true rfl⟩ rfl hl.1 rfl (Nat.le_of_ble_eq_true rfl) dX7_append_67 ⟨Nat.zero_le _, Nat.zero_le _⟩ (fun H locs hP hS => ?_)
  refine W.eq (g2 := F0 m 70 ls []) rfl ?_
  refine lv_aload_n K.1.1 K.1.2.1 dX7_append_70 rfl (lv_at hl 0 rfl) ?_
  refine m_getr K hP ho.1 ho.2.1 rfl tuX7 5 (by decide) rfl q_155 dX7_append_71 ?_
  refine lv_aload_n K.1.1 K.1.2.1 dX7_append_74 rfl (lv_at hl 0 rfl) ?_
  refine m_geti K hP ho.1 ho.2.1 rfl tuX7 0 (by decide) rfl q_147 dX7_append_75 ?_
  refine lv_topi (fun g_8 eg_8 => ?_)
  refine lv_aload_n K.1.1 K.1.2.1 dX7_append_78 rfl (lv_at hl 1 rfl) ?_
  refine m_getr K hP hb.1 hb.2.1 rfl tuX4 2 (by decide) rfl q_114 dX7_append_79 ?_
  refine lv_iload_n K.1.1 K.1.2.1 dX7_append_82 rfl (lv_at hl 3 rfl) ?_
  refine m_cV (n := 1) (As := [.int j]) (rest := [.int g_8, .ref (B + (o + 9))]) K hP hS (MX5_get l G B _ (b + 3) 20 hb.2.2.2.1 j ) (Nat.lt_of_succ_lt hb.2.2.2.1.1) hb.2.2.2.1.2.1 rfl q_575 q_460 q_461 q_18 q_462 hv_X5_get ⟨Nat.le_of_ble_eq_true rfl, Nat.le_of_ble_eq_true rfl⟩ rfl hl.1 rfl (Nat.le_of_ble_eq_true rfl) dX7_append_83 ⟨Nat.zero_le _, Nat.zero_le _⟩ (fun H locs hP hS => ?_)
  refine lv_topi (fun r_9 er_9 => ?_)
  refine m_cV (n := 2) (As := [.int g_8, .int r_9]) (rest := []) K hP hS (MX5_put l G B _ (o + 9) 20 ho.2.2.2.2.2.2 g_8 r_9 ) (Nat.lt_of_succ_lt ho.2.2.2.2.2.2.1) ho.2.2.2.2.2.2.2.1 rfl q_788 q_469 q_470 q_18 q_471 hv_X5_put ⟨Nat.le_of_ble_eq_true rfl, Nat.le_of_ble_eq_true rfl⟩ rfl hl.1 rfl (Nat.le_of_ble_eq_true rfl) dX7_append_86 ⟨Nat.zero_le _, Nat.zero_le _⟩ (fun H locs hP hS => ?_)
  refine W.eq (g2 := F0 m 89 ls []) rfl ?_
  refine lv_aload_n K.1.1 K.1.2.1 dX7_append_89 rfl (lv_at hl 0 rfl) ?_
  refine lv_dup K.1.1 K.1.2.1 dX7_append_90 rfl ?_
  refine m_geti K hP ho.1 ho.2.1 rfl tuX7 0 (by decide) rfl q_147 dX7_append_91 ?_
  refine lv_topi (fun g_10 eg_10 => ?_)
  refine lv_iconst (v := 1) K.1.1 K.1.2.1 dX7_append_94 (by decide) ?_
  refine lv_iadd K.1.1 K.1.2.1 dX7_append_95 ?_
  refine m_puti K hP hS ho.1 ho.2.1 rfl tuX7 tyX7 tyX7_ok nmX7 0 (by decide) rfl rfl (by decide +kernel) q_147 dX7_append_96 (fun H locs hP hS => ?_)
  exact m_vret K hr hlocks hP hS dX7_append_99 rfl (by subst eg_1 er_2 eg_3 er_4 eg_5 eg_6 er_7 eg_8 er_9 eg_10; rfl)

set_option maxHeartbeats 4000000 in
set_option maxRecDepth 100000 in
theorem MX7_valueOf (l : Launch) (G : GG) (B : Nat) (μ : Mm) (o : Nat) (ho : isS o) (i : Int32) (w : Int32) : CM l yX7_valueOf (.code yX7_valueOf cX7_valueOf 3 (Option.some FieldType.int)) 1 21 G B [.ref (B + o), .int i, .int w] μ (some (.int (S_valueOf μ o i w))) μ := by
  refine CM.of (by decide) (Nat.le_of_ble_eq_true rfl) ?_
  intro p e s m below meth c ls K hr hlocks hP hl
  have hS : va_S (AA B) s.heap s.heap [] := va_S.rf
  have hl : lv_has ls 3 [(0, .ref (B + o)), (1, .int i), (2, .int w)] := hl
  refine lv_iload_n K.1.1 K.1.2.1 dX7_valueOf_0 rfl (lv_at hl 1 rfl) ?_
  refine lv_aload_n K.1.1 K.1.2.1 dX7_valueOf_1 rfl (lv_at hl 0 rfl) ?_
  refine m_geti K hP ho.1 ho.2.1 rfl tuX7 0 (by decide) rfl q_147 dX7_valueOf_2 ?_
  refine lv_topi (fun g_1 eg_1 => ?_)
  refine lv_icmp_lt (tgt := 12) K.1.1 K.1.2.1 dX7_valueOf_5 (by decide) (fun c_5 => ?_) (fun c_5 => ?_)
  · refine lv_iload_n K.1.1 K.1.2.1 dX7_valueOf_12 rfl (lv_at hl 2 rfl) ?_
    by_cases w_2 : w = 0
    · refine lv_tableIn (off := 31) (tgt := 44) K.1.1 K.1.2.1 dX7_valueOf_13 (by rw [w_2]; decide) (by rw [w_2]; decide) (by rw [w_2]; rfl) (by decide) ?_
      refine lv_aload_n K.1.1 K.1.2.1 dX7_valueOf_44 rfl (lv_at hl 0 rfl) ?_
      refine m_getr K hP ho.1 ho.2.1 rfl tuX7 1 (by decide) rfl q_151 dX7_valueOf_45 ?_
      refine lv_iload_n K.1.1 K.1.2.1 dX7_valueOf_48 rfl (lv_at hl 1 rfl) ?_
      refine m_cV (n := 1) (As := [.int i]) (rest := []) K hP hS (MX5_get l G B _ (o + 1) 20 ho.2.2.1 i ) (Nat.lt_of_succ_lt ho.2.2.1.1) ho.2.2.1.2.1 rfl q_575 q_460 q_461 q_18 q_462 hv_X5_get ⟨Nat.le_of_ble_eq_true rfl, Nat.le_of_ble_eq_true rfl⟩ rfl hl.1 rfl (Nat.le_of_ble_eq_true rfl) dX7_valueOf_49 ⟨Nat.zero_le _, Nat.zero_le _⟩ (fun H locs hP hS => ?_)
      refine lv_topi (fun r_3 er_3 => ?_)
      exact m_iret K hr hlocks hP hS dX7_valueOf_52 (by subst eg_1 er_3; first | (simp only [S_valueOf, c_5, Int32.not_le.mpr c_5, w_2, if_true, if_false, ite_true, ite_false, reduceIte, not_true, not_false_iff]; done) | simp [S_valueOf, c_5, Int32.not_le.mpr c_5, w_2]) rfl
    by_cases w_4 : w = 1
    · refine lv_tableIn (off := 40) (tgt := 53) K.1.1 K.1.2.1 dX7_valueOf_13 (by rw [w_4]; decide) (by rw [w_4]; decide) (by rw [w_4]; rfl) (by decide) ?_
      refine lv_aload_n K.1.1 K.1.2.1 dX7_valueOf_53 rfl (lv_at hl 0 rfl) ?_
      refine m_getr K hP ho.1 ho.2.1 rfl tuX7 2 (by decide) rfl q_152 dX7_valueOf_54 ?_
      refine lv_iload_n K.1.1 K.1.2.1 dX7_valueOf_57 rfl (lv_at hl 1 rfl) ?_
      refine m_cV (n := 1) (As := [.int i]) (rest := []) K hP hS (MX5_get l G B _ (o + 3) 20 ho.2.2.2.1 i ) (Nat.lt_of_succ_lt ho.2.2.2.1.1) ho.2.2.2.1.2.1 rfl q_575 q_460 q_461 q_18 q_462 hv_X5_get ⟨Nat.le_of_ble_eq_true rfl, Nat.le_of_ble_eq_true rfl⟩ rfl hl.1 rfl (Nat.le_of_ble_eq_true rfl) dX7_valueOf_58 ⟨Nat.zero_le _, Nat.zero_le _⟩ (fun H locs hP hS => ?_)
      refine lv_topi (fun r_5 er_5 => ?_)
      exact m_iret K hr hlocks hP hS dX7_valueOf_61 (by subst eg_1 er_5; first | (simp only [S_valueOf, c_5, Int32.not_le.mpr c_5, w_2, w_4, if_true, if_false, ite_true, ite_false, reduceIte, not_true, not_false_iff]; done) | simp [S_valueOf, c_5, Int32.not_le.mpr c_5, w_2, w_4]) rfl
    by_cases w_6 : w = 2
    · refine lv_tableIn (off := 49) (tgt := 62) K.1.1 K.1.2.1 dX7_valueOf_13 (by rw [w_6]; decide) (by rw [w_6]; decide) (by rw [w_6]; rfl) (by decide) ?_
      refine lv_aload_n K.1.1 K.1.2.1 dX7_valueOf_62 rfl (lv_at hl 0 rfl) ?_
      refine m_getr K hP ho.1 ho.2.1 rfl tuX7 3 (by decide) rfl q_153 dX7_valueOf_63 ?_
      refine lv_iload_n K.1.1 K.1.2.1 dX7_valueOf_66 rfl (lv_at hl 1 rfl) ?_
      refine m_cV (n := 1) (As := [.int i]) (rest := []) K hP hS (MX5_get l G B _ (o + 5) 20 ho.2.2.2.2.1 i ) (Nat.lt_of_succ_lt ho.2.2.2.2.1.1) ho.2.2.2.2.1.2.1 rfl q_575 q_460 q_461 q_18 q_462 hv_X5_get ⟨Nat.le_of_ble_eq_true rfl, Nat.le_of_ble_eq_true rfl⟩ rfl hl.1 rfl (Nat.le_of_ble_eq_true rfl) dX7_valueOf_67 ⟨Nat.zero_le _, Nat.zero_le _⟩ (fun H locs hP hS => ?_)
      refine lv_topi (fun r_7 er_7 => ?_)
      exact m_iret K hr hlocks hP hS dX7_valueOf_70 (by subst eg_1 er_7; first | (simp only [S_valueOf, c_5, Int32.not_le.mpr c_5, w_2, w_4, w_6, if_true, if_false, ite_true, ite_false, reduceIte, not_true, not_false_iff]; done) | simp [S_valueOf, c_5, Int32.not_le.mpr c_5, w_2, w_4, w_6]) rfl
    by_cases w_8 : w = 3
    · refine lv_tableIn (off := 58) (tgt := 71) K.1.1 K.1.2.1 dX7_valueOf_13 (by rw [w_8]; decide) (by rw [w_8]; decide) (by rw [w_8]; rfl) (by decide) ?_
      refine lv_aload_n K.1.1 K.1.2.1 dX7_valueOf_71 rfl (lv_at hl 0 rfl) ?_
      refine m_getr K hP ho.1 ho.2.1 rfl tuX7 4 (by decide) rfl q_154 dX7_valueOf_72 ?_
      refine lv_iload_n K.1.1 K.1.2.1 dX7_valueOf_75 rfl (lv_at hl 1 rfl) ?_
      refine m_cV (n := 1) (As := [.int i]) (rest := []) K hP hS (MX5_get l G B _ (o + 7) 20 ho.2.2.2.2.2.1 i ) (Nat.lt_of_succ_lt ho.2.2.2.2.2.1.1) ho.2.2.2.2.2.1.2.1 rfl q_575 q_460 q_461 q_18 q_462 hv_X5_get ⟨Nat.le_of_ble_eq_true rfl, Nat.le_of_ble_eq_true rfl⟩ rfl hl.1 rfl (Nat.le_of_ble_eq_true rfl) dX7_valueOf_76 ⟨Nat.zero_le _, Nat.zero_le _⟩ (fun H locs hP hS => ?_)
      refine lv_topi (fun r_9 er_9 => ?_)
      exact m_iret K hr hlocks hP hS dX7_valueOf_79 (by subst eg_1 er_9; first | (simp only [S_valueOf, c_5, Int32.not_le.mpr c_5, w_2, w_4, w_6, w_8, if_true, if_false, ite_true, ite_false, reduceIte, not_true, not_false_iff]; done) | simp [S_valueOf, c_5, Int32.not_le.mpr c_5, w_2, w_4, w_6, w_8]) rfl
    refine lv_tableOut (tgt := 80) K.1.1 K.1.2.1 dX7_valueOf_13 (sw_out_0_3 w_2 w_4 w_6 w_8) (by decide) ?_
    refine lv_aload_n K.1.1 K.1.2.1 dX7_valueOf_80 rfl (lv_at hl 0 rfl) ?_
    refine m_getr K hP ho.1 ho.2.1 rfl tuX7 5 (by decide) rfl q_155 dX7_valueOf_81 ?_
    refine lv_iload_n K.1.1 K.1.2.1 dX7_valueOf_84 rfl (lv_at hl 1 rfl) ?_
    refine m_cV (n := 1) (As := [.int i]) (rest := []) K hP hS (MX5_get l G B _ (o + 9) 20 ho.2.2.2.2.2.2 i ) (Nat.lt_of_succ_lt ho.2.2.2.2.2.2.1) ho.2.2.2.2.2.2.2.1 rfl q_575 q_460 q_461 q_18 q_462 hv_X5_get ⟨Nat.le_of_ble_eq_true rfl, Nat.le_of_ble_eq_true rfl⟩ rfl hl.1 rfl (Nat.le_of_ble_eq_true rfl) dX7_valueOf_85 ⟨Nat.zero_le _, Nat.zero_le _⟩ (fun H locs hP hS => ?_)
    refine lv_topi (fun r_10 er_10 => ?_)
    exact m_iret K hr hlocks hP hS dX7_valueOf_88 (by subst eg_1 er_10; first | (simp only [S_valueOf, c_5, Int32.not_le.mpr c_5, w_2, w_4, w_6, w_8, if_true, if_false, ite_true, ite_false, reduceIte, not_true, not_false_iff]; done) | simp [S_valueOf, c_5, Int32.not_le.mpr c_5, w_2, w_4, w_6, w_8]) rfl
  · refine lv_sipush (v := (-10000)) K.1.1 K.1.2.1 dX7_valueOf_8 (by decide) ?_
    exact m_iret K hr hlocks hP hS dX7_valueOf_11 (by subst eg_1; first | (simp only [S_valueOf, c_5, Int32.not_lt.mp c_5, if_true, if_false, ite_true, ite_false, reduceIte, not_true, not_false_iff]; done) | simp [S_valueOf, c_5, Int32.not_lt.mp c_5]) rfl

set_option maxHeartbeats 4000000 in
set_option maxRecDepth 100000 in
theorem MX7_copyFrom (l : Launch) (G : GG) (B : Nat) (μ : Mm) (o : Nat) (ho : isS o) (b : Nat) (hb : isS b) : CM l yX7_copyFrom (.code yX7_copyFrom cX7_copyFrom 2 Option.none) 2 43 G B [.ref (B + o), .ref (B + b)] μ none (S_copy μ o b) := by
  refine CM.of (by decide) (Nat.le_of_ble_eq_true rfl) ?_
  intro p e s m below meth c ls K hr hlocks hP hl
  have hS : va_S (AA B) s.heap s.heap [] := va_S.rf
  have hl : lv_has ls 2 [(0, .ref (B + o)), (1, .ref (B + b))] := hl
  refine lv_aload_n K.1.1 K.1.2.1 dX7_copyFrom_0 rfl (lv_at hl 0 rfl) ?_
  refine lv_aload_n K.1.1 K.1.2.1 dX7_copyFrom_1 rfl (lv_at hl 1 rfl) ?_
  refine m_geti K hP hb.1 hb.2.1 rfl tuX7 0 (by decide) rfl q_147 dX7_copyFrom_2 ?_
  refine lv_topi (fun g_1 eg_1 => ?_)
  refine m_puti K hP hS ho.1 ho.2.1 rfl tuX7 tyX7 tyX7_ok nmX7 0 (by decide) rfl rfl (by decide +kernel) q_147 dX7_copyFrom_5 (fun H locs hP hS => ?_)
  refine lv_aload_n K.1.1 K.1.2.1 dX7_copyFrom_8 rfl (lv_at hl 0 rfl) ?_
  refine m_getr K hP ho.1 ho.2.1 rfl tuX7 1 (by decide) rfl q_151 dX7_copyFrom_9 ?_
  refine lv_aload_n K.1.1 K.1.2.1 dX7_copyFrom_12 rfl (lv_at hl 1 rfl) ?_
  refine m_getr K hP hb.1 hb.2.1 rfl tuX7 1 (by decide) rfl q_151 dX7_copyFrom_13 ?_
  refine m_cV (n := 1) (As := [.ref (B + (b + 1))]) (rest := []) K hP hS (MX5_copyFrom l G B _ (o + 1) 20 ho.2.2.1 (b + 1) 20 hb.2.2.1 rfl) (Nat.lt_of_succ_lt ho.2.2.1.1) ho.2.2.1.2.1 rfl q_679 q_666 q_667 q_18 q_668 hv_X5_copyFrom ⟨Nat.le_of_ble_eq_true rfl, Nat.le_of_ble_eq_true rfl⟩ rfl hl.1 rfl (Nat.le_of_ble_eq_true rfl) dX7_copyFrom_16 ⟨Nat.zero_le _, Nat.zero_le _⟩ (fun H locs hP hS => ?_)
  refine W.eq (g2 := F0 m 19 ls []) rfl ?_
  refine lv_aload_n K.1.1 K.1.2.1 dX7_copyFrom_19 rfl (lv_at hl 0 rfl) ?_
  refine m_getr K hP ho.1 ho.2.1 rfl tuX7 2 (by decide) rfl q_152 dX7_copyFrom_20 ?_
  refine lv_aload_n K.1.1 K.1.2.1 dX7_copyFrom_23 rfl (lv_at hl 1 rfl) ?_
  refine m_getr K hP hb.1 hb.2.1 rfl tuX7 2 (by decide) rfl q_152 dX7_copyFrom_24 ?_
  refine m_cV (n := 1) (As := [.ref (B + (b + 3))]) (rest := []) K hP hS (MX5_copyFrom l G B _ (o + 3) 20 ho.2.2.2.1 (b + 3) 20 hb.2.2.2.1 rfl) (Nat.lt_of_succ_lt ho.2.2.2.1.1) ho.2.2.2.1.2.1 rfl q_679 q_666 q_667 q_18 q_668 hv_X5_copyFrom ⟨Nat.le_of_ble_eq_true rfl, Nat.le_of_ble_eq_true rfl⟩ rfl hl.1 rfl (Nat.le_of_ble_eq_true rfl) dX7_copyFrom_27 ⟨Nat.zero_le _, Nat.zero_le _⟩ (fun H locs hP hS => ?_)
  refine W.eq (g2 := F0 m 30 ls []) rfl ?_
  refine lv_aload_n K.1.1 K.1.2.1 dX7_copyFrom_30 rfl (lv_at hl 0 rfl) ?_
  refine m_getr K hP ho.1 ho.2.1 rfl tuX7 3 (by decide) rfl q_153 dX7_copyFrom_31 ?_
  refine lv_aload_n K.1.1 K.1.2.1 dX7_copyFrom_34 rfl (lv_at hl 1 rfl) ?_
  refine m_getr K hP hb.1 hb.2.1 rfl tuX7 3 (by decide) rfl q_153 dX7_copyFrom_35 ?_
  refine m_cV (n := 1) (As := [.ref (B + (b + 5))]) (rest := []) K hP hS (MX5_copyFrom l G B _ (o + 5) 20 ho.2.2.2.2.1 (b + 5) 20 hb.2.2.2.2.1 rfl) (Nat.lt_of_succ_lt ho.2.2.2.2.1.1) ho.2.2.2.2.1.2.1 rfl q_679 q_666 q_667 q_18 q_668 hv_X5_copyFrom ⟨Nat.le_of_ble_eq_true rfl, Nat.le_of_ble_eq_true rfl⟩ rfl hl.1 rfl (Nat.le_of_ble_eq_true rfl) dX7_copyFrom_38 ⟨Nat.zero_le _, Nat.zero_le _⟩ (fun H locs hP hS => ?_)
  refine W.eq (g2 := F0 m 41 ls []) rfl ?_
  refine lv_aload_n K.1.1 K.1.2.1 dX7_copyFrom_41 rfl (lv_at hl 0 rfl) ?_
  refine m_getr K hP ho.1 ho.2.1 rfl tuX7 4 (by decide) rfl q_154 dX7_copyFrom_42 ?_
  refine lv_aload_n K.1.1 K.1.2.1 dX7_copyFrom_45 rfl (lv_at hl 1 rfl) ?_
  refine m_getr K hP hb.1 hb.2.1 rfl tuX7 4 (by decide) rfl q_154 dX7_copyFrom_46 ?_
  refine m_cV (n := 1) (As := [.ref (B + (b + 7))]) (rest := []) K hP hS (MX5_copyFrom l G B _ (o + 7) 20 ho.2.2.2.2.2.1 (b + 7) 20 hb.2.2.2.2.2.1 rfl) (Nat.lt_of_succ_lt ho.2.2.2.2.2.1.1) ho.2.2.2.2.2.1.2.1 rfl q_679 q_666 q_667 q_18 q_668 hv_X5_copyFrom ⟨Nat.le_of_ble_eq_true rfl, Nat.le_of_ble_eq_true rfl⟩ rfl hl.1 rfl (Nat.le_of_ble_eq_true rfl) dX7_copyFrom_49 ⟨Nat.zero_le _, Nat.zero_le _⟩ (fun H locs hP hS => ?_)
  refine W.eq (g2 := F0 m 52 ls []) rfl ?_
  refine lv_aload_n K.1.1 K.1.2.1 dX7_copyFrom_52 rfl (lv_at hl 0 rfl) ?_
  refine m_getr K hP ho.1 ho.2.1 rfl tuX7 5 (by decide) rfl q_155 dX7_copyFrom_53 ?_
  refine lv_aload_n K.1.1 K.1.2.1 dX7_copyFrom_56 rfl (lv_at hl 1 rfl) ?_
  refine m_getr K hP hb.1 hb.2.1 rfl tuX7 5 (by decide) rfl q_155 dX7_copyFrom_57 ?_
  refine m_cV (n := 1) (As := [.ref (B + (b + 9))]) (rest := []) K hP hS (MX5_copyFrom l G B _ (o + 9) 20 ho.2.2.2.2.2.2 (b + 9) 20 hb.2.2.2.2.2.2 rfl) (Nat.lt_of_succ_lt ho.2.2.2.2.2.2.1) ho.2.2.2.2.2.2.2.1 rfl q_679 q_666 q_667 q_18 q_668 hv_X5_copyFrom ⟨Nat.le_of_ble_eq_true rfl, Nat.le_of_ble_eq_true rfl⟩ rfl hl.1 rfl (Nat.le_of_ble_eq_true rfl) dX7_copyFrom_60 ⟨Nat.zero_le _, Nat.zero_le _⟩ (fun H locs hP hS => ?_)
  refine W.eq (g2 := F0 m 63 ls []) rfl ?_
  exact m_vret K hr hlocks hP hS dX7_copyFrom_63 rfl (by subst eg_1; rfl)
