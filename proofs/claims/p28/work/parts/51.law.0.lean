noncomputable section
/-! pure words of the law's own methods -/
def LV_up (x n : Int32) : Int32 := rmI (x &&& 2147483647) n
def LV_act (w b : Int32) : Int32 := if w < 12 then 1 else if w ≤ 14 then 0 else if 6 ≤ b &&& 7 then 0 else 1
def LV_cell (L : Nat) (xs : Nat → Int32) (k : Int32) : Int32 := if nI L ≤ k then 763049417 * (k + 3) else xs (cn k)
def LV_units (μ : Mm) (n : Int32) : Int32 := if O_faultOfNumber μ (1 + 16) n = 0 then O_valueOf μ (1 + 16) (O_indexOf μ (1 + 16) n) 2 else -1
def V_add (v : Int64) (x : Int32) : Int64 := 31 * v + x.toInt64
def V_1 (μ : Mm) (k : Nat) : Int64 := itr (fun w v => V_add v (X_whole μ (nI w))) 7 k
def V_2 (μ : Mm) (k : Nat) : Mm × Int64 := itr (fun w s => (C_valueM (C_settle s.1 1) 1 (nI w), V_add s.2 (C_valueOf (C_settle s.1 1) 1 (nI w)))) (μ, V_1 μ (NN 11)) k
def V_M (μ : Mm) : Mm := (V_2 μ (NN 7)).1
def V_v2 (μ : Mm) : Int64 := (V_2 μ (NN 7)).2
def V_3t (μ : Mm) (t : Nat) (v : Int64) (k : Nat) : Int64 := itr (fun w v => V_add v (A_traderValue μ 1 (nI t) (nI w))) v k
def V_3 (μ : Mm) (v : Int64) (n : Nat) : Int64 := itr (fun t v => V_3t μ t v (NN 10)) v n
def V_4o (μ : Mm) (i : Nat) (v : Int64) (k : Nat) : Int64 := itr (fun w v => V_add v (O_valueOf μ (1 + 16) (O_indexOf μ (1 + 16) (nI i)) (nI w))) v k
def V_4 (μ : Mm) (v : Int64) (n : Nat) : Int64 := itr (fun i v => if LV_units μ (nI i) ≤ 0 then v else V_4o μ i v (NN 5)) v n
def V_5t (μ : Mm) (i : Nat) (v : Int64) (k : Nat) : Int64 := itr (fun w v => V_add v (S_valueOf μ (1 + 29) (nI i) (nI w))) v k
def V_5 (μ : Mm) (v : Int64) (n : Nat) : Int64 := itr (fun i v => V_5t μ i v (NN 5)) v n
def V_e3 (μ : Mm) (v : Int64) : Int64 := V_3 μ v (cn (X_whole μ 0))
def V_e4 (μ : Mm) (v : Int64) : Int64 := V_4 μ v (cn (X_whole μ 5))
def V_e5 (μ : Mm) (v : Int64) : Int64 := V_5 μ v (cn (X_whole μ 9))
def LV_view (μ : Mm) : Int64 := V_e5 (V_M μ) (V_e4 (V_M μ) (V_e3 (V_M μ) (V_v2 μ)))
def LV_sum (μ : Mm) (w : Int32) (n : Nat) : Int32 := sumI (fun t => A_traderValue μ 1 (nI t) w) n
def LV_there (μ : Mm) (n : Nat) : Int32 := sumI (fun k => if LV_units μ (nI k) ≤ 0 then 0 else 1) n
/-! what the calls of the law's methods need -/
theorem lt_31 {i : Nat} {x : Int32} (h : i < cn x) : i < 2 ^ 31 := Nat.lt_trans h (cn_lt x)
theorem what_ok {w n : Nat} (h : w < n) (hn : n < 1000) : X_what (nI w) (nI n) = 0 := by
  unfold X_what wI
  obtain ⟨m, rfl⟩ : ∃ m, n = m + 1 := ⟨n - 1, by omega⟩
  rw [nI_pred, if_neg (nI_pos (by omega)), if_neg (fun z => absurd (nI_lt_of (x := w) (y := m) (by omega) (by omega) z) (by omega)), if_neg (by decide)]
theorem has_ok {μ : Mm} {t : Nat} (h : t < cn (X_whole μ 0)) : T_faultOfNumber μ (1 + 1) (nI t) = 0 := by
  have e : X_whole μ 0 = μ (1 + 1) 0 := rfl
  have h1 : ¬ X_whole μ 0 ≤ nI t := cn_in h
  rw [e] at h1
  unfold T_faultOfNumber T_has
  rw [if_neg (nI_pos (lt_31 h)), if_neg h1, if_neg (by decide)]
theorem units_ok {μ : Mm} {n : Int32} (h : ¬ LV_units μ n ≤ 0) : O_faultOfNumber μ (1 + 16) n = 0 := by
  unfold LV_units at h
  by_cases c : O_faultOfNumber μ (1 + 16) n = 0
  · exact c
  · rw [if_neg c] at h
    exact absurd (by decide) h
theorem fault_1 {μ : Mm} {n : Int32} (h : ¬ O_faultOfNumber μ (1 + 16) n = 0) : O_faultOfNumber μ (1 + 16) n = 1 := by
  unfold O_faultOfNumber at h ⊢
  split
  · rfl
  · rename_i c
    rw [if_neg c] at h
    exact absurd rfl h
theorem cmp_rfl (x : Int64) : lg_cmp x x = 0 := by
  unfold lg_cmp
  rw [if_neg (by exact Int64.lt_irrefl), if_pos rfl]
end
