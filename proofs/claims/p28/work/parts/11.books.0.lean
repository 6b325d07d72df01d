noncomputable section
/-! the object at 0: auction 1, trial 41, clearing 81, undo 92, text 254 -/
def X_what (w k : Int32) : Int32 := if wI w 0 (k - 1) = 0 then 2 else 0
def X_price (p : Int32) : Int32 := if wI p 1 120 = 0 then 2 else 0
def X_whole (μ : Mm) (w : Int32) : Int32 := if w = 11 then μ 254 0 else A_wholeValue μ 1 w
def X_withM (μ : Mm) (t p : Int32) : Mm := C_settle (A_placeM (A_copy μ 41 1) 41 t p 1) 41
def X_gainWith (μ : Mm) (t p : Int32) : Int32 := if O_full μ (1 + 16) = 0 then C_gainOf (X_withM μ t p) 41 t (X_withM μ t p 81 2) else -10000
def X_gainWithM (μ : Mm) (t p : Int32) : Mm := if O_full μ (1 + 16) = 0 then X_withM μ t p else μ
def BS_mem (t last : Int32) (k : Nat) (μ : Mm) : Mm := C_settle (R_put μ (41 + 16 + 7) 20 last (T_bidWith μ (41 + 1) t (nI k))) 41
def BS_gain (t last : Int32) (k : Nat) (μ : Mm) : Int32 := C_gainOf (BS_mem t last k μ) 41 t (BS_mem t last k μ 81 2)
/-- memory, best, most -/
def BS_step (t last : Int32) (k : Nat) (s : Mm × Int32 × Int32) : Mm × Int32 × Int32 :=
  (BS_mem t last k s.1, if nI k = 0 then nI k else if s.2.2 < BS_gain t last k s.1 then nI k else s.2.1, if nI k = 0 then BS_gain t last k s.1 else if s.2.2 < BS_gain t last k s.1 then BS_gain t last k s.1 else s.2.2)
def BS_run (μ : Mm) (t : Int32) (k : Nat) : Mm × Int32 × Int32 := itr (BS_step t (μ (41 + 16) 0 - 1)) (μ, 0, 0) k
theorem BS_run_s (μ : Mm) (t : Int32) (k : Nat) : BS_run μ t (k + 1) = BS_step t (μ (41 + 16) 0 - 1) k (BS_run μ t k) := rfl
def X_bestLast (μ : Mm) (t : Int32) : Int32 := (BS_run μ t (NN 51)).2.1
def X_bestLastM (μ : Mm) (t : Int32) : Mm := (BS_run μ t (NN 51)).1
def X_bestShade (μ : Mm) (t : Int32) : Int32 := if O_full μ (1 + 16) = 0 then X_bestLast (A_placeM (A_copy μ 41 1) 41 t 1 1) t else -10000
def X_bestShadeM (μ : Mm) (t : Int32) : Mm := if O_full μ (1 + 16) = 0 then X_bestLastM (A_placeM (A_copy μ 41 1) 41 t 1 1) t else μ
def SP_gain (μ : Mm) (t : Int32) (k : Nat) : Int32 := C_gainOf μ 1 t (C_priceWith μ (nI k))
/-- best, most -/
def SP_run (μ : Mm) (t : Int32) (k : Nat) : Int32 × Int32 := itr (fun k s => if s.2 < SP_gain μ t (k + 1) then (nI (k + 1), SP_gain μ t (k + 1)) else s) (0, C_gainOf μ 1 t (C_priceWith μ 0)) k
theorem SP_run_s (μ : Mm) (t : Int32) (k : Nat) : SP_run μ t (k + 1) = if (SP_run μ t k).2 < SP_gain μ t (k + 1) then (nI (k + 1), SP_gain μ t (k + 1)) else SP_run μ t k := rfl
def X_bestSplit (μ : Mm) (t : Int32) : Int32 := if C_settle μ 1 81 3 = 0 then -10000 else (SP_run (C_settle μ 1) t (NN 10)).1
/-- rounds are cleared in the trial until the order is gone; n rounds are left to play, k was the last -/
def GI (x : Int32) : Nat → Mm → Int32 → Mm × Int32
  | 0, μ, _ => (μ, 9)
  | n + 1, μ, k => if O_indexOf (A_endM μ 41) (41 + 16) x < 0 then (A_endM μ 41, k) else GI x n (A_endM μ 41) (k + 1)
def X_goneIn (μ : Mm) (x : Int32) : Mm × Int32 := GI x (NN 8) (A_copy μ 41 1) 1
def X_mix (h v : Int64) : Int64 := 31 * h + v
def sumJ (g : Nat → Int64 → Int64) (h : Int64) (k : Nat) : Int64 := itr g h k
def X_mixTr (μ : Mm) (t : Nat) (h : Int64) (k : Nat) : Int64 := itr (fun w h => X_mix h (A_traderValue μ 1 (nI t) (nI w)).toInt64) h k
def X_mixTraders (μ : Mm) (h : Int64) (k : Nat) : Int64 := itr (fun t h => X_mixTr μ t h (NN 10)) h k
def X_mixOr (μ : Mm) (i : Nat) (h : Int64) (k : Nat) : Int64 := itr (fun w h => X_mix h (O_valueOf μ (1 + 16) (nI i) (nI w)).toInt64) h k
def X_mixOrders (μ : Mm) (h : Int64) (k : Nat) : Int64 := itr (fun i h => X_mix (X_mixOr μ i (X_mix h (R_get μ (1 + 16 + 1) 20 (nI i)).toInt64) (NN 5)) (R_get μ 82 20 (nI i)).toInt64) h k
def X_mixTd (μ : Mm) (i : Nat) (h : Int64) (k : Nat) : Int64 := itr (fun w h => X_mix h (S_valueOf μ (1 + 29) (nI i) (nI w)).toInt64) h k
def X_mixTrades (μ : Mm) (h : Int64) (k : Nat) : Int64 := itr (fun i h => X_mixTd μ i h (NN 5)) h k
def X_dg1 (μ : Mm) (k : Nat) : Int64 := itr (fun w h => X_mix h (X_whole μ (nI w)).toInt64) (X_mix 43616 (μ 92 0).toInt64) k
def X_dg2 (μ : Mm) (k : Nat) : Mm × Int64 := itr (fun w s => (C_valueM s.1 1 (nI w), X_mix s.2 (C_valueOf s.1 1 (nI w)).toInt64)) (C_settle μ 1, X_dg1 μ (NN 12)) k
def X_digestM (μ : Mm) : Mm := (X_dg2 μ (NN 7)).1
def X_digest (μ : Mm) : Int64 :=
  let ν := X_digestM μ
  X_mixTrades ν (X_mixOrders ν (X_mixTraders ν (X_dg2 μ (NN 7)).2 (cn (ν (1 + 1) 0))) (cn (ν (1 + 16) 0))) (cn (ν (1 + 29) 0))
/-! what the reader of commands leaves as it was -/
def KD (μ ν : Mm) : Prop := (∀ k', k' ≠ 254 → k' ≠ 256 → ν k' = μ k') ∧ (∀ i, i ≠ 4 → i ≠ 5 → ν 254 i = μ 254 i)
theorem KD.refl (μ : Mm) : KD μ μ := ⟨fun _ _ _ => rfl, fun _ _ _ => rfl⟩
theorem KD.trans {μ ν ρ : Mm} (h : KD μ ν) (g : KD ν ρ) : KD μ ρ := ⟨fun k a b => (g.1 k a b).trans (h.1 k a b), fun i a b => (g.2 i a b).trans (h.2 i a b)⟩
theorem KD_4 (μ : Mm) (v : Int32) : KD μ (up2 μ 254 4 v) := ⟨fun k a _ => up2_k _ _ a, fun i a _ => by simp [up2, a]⟩
theorem KD_5 (μ : Mm) (v : Int32) : KD μ (up2 μ 254 5 v) := ⟨fun k a _ => up2_k _ _ a, fun i _ b => by simp [up2, b]⟩
theorem KD_num (μ : Mm) (i v : Int32) : KD μ (R_put μ 255 3 i v) := ⟨fun k _ b => R_put_ne _ b, fun i _ _ => by rw [R_put_ne _ (by decide)]⟩
/-- .. the word apart -/
def KP (μ ν : Mm) : Prop := (∀ k', k' ≠ 254 → k' ≠ 256 → ν k' = μ k') ∧ (∀ i, i ≠ 1 → i ≠ 4 → i ≠ 5 → ν 254 i = μ 254 i)
theorem KD.kp {μ ν : Mm} (h : KD μ ν) : KP μ ν := ⟨h.1, fun i _ b c => h.2 i b c⟩
theorem KP.refl (μ : Mm) : KP μ μ := (KD.refl μ).kp
theorem KP.trans {μ ν ρ : Mm} (h : KP μ ν) (g : KP ν ρ) : KP μ ρ := ⟨fun k a b => (g.1 k a b).trans (h.1 k a b), fun i a b c => (g.2 i a b c).trans (h.2 i a b c)⟩
theorem KP_1 (μ : Mm) (v : Int32) : KP μ (up2 μ 254 1 v) := ⟨fun k a _ => up2_k _ _ a, fun i a _ _ => by simp [up2, a]⟩
/-! counts that stay 0 or more -/
theorem O_ruL_nn {o : Nat} {r : Int32} : ∀ (n : Nat) (μ : Mm), ¬ μ o 0 < 0 → ¬ (O_ruL o r n μ) o 0 < 0
  | 0, μ, h => h
  | n + 1, μ, h => by
    unfold O_ruL
    refine O_ruL_nn n _ ?_
    split
    · exact O_removeAt_nn h
    · exact h
theorem A_endM_nn {μ : Mm} {a : Nat} (ho : isO (a + 16)) (h : ¬ μ (a + 16) 0 < 0) : ¬ A_endM μ a (a + 16) 0 < 0 := by
  rw [A_endM_eq]
  unfold A_endM0 O_ruM
  try dsimp only
  rw [up2_k _ _ (by omega)]
  exact O_ruL_nn _ _ (A_end4_nn ho h)
theorem T_join_ne {μ : Mm} {o k' : Nat} {sd v : Int32} (h0 : k' < o ∨ o + 14 < k') : T_join μ o sd v k' = μ k' := by
  unfold T_join T_shadeBy
  try dsimp only
  rw [up2_k _ _ (by omega), R_put_ne _ (by omega), R_put_ne _ (by omega), R_put_ne _ (by omega), R_put_ne _ (by omega), R_put_ne _ (by omega), R_put_ne _ (by omega), R_put_ne _ (by omega)]
theorem T_shadeBy_ne {μ : Mm} {o k' : Nat} {t a v : Int32} (h0 : k' < o ∨ o + 14 < k') : T_shadeBy μ o t a v k' = μ k' := by
  unfold T_shadeBy
  rw [R_put_ne _ (by omega), R_put_ne _ (by omega)]
theorem O_append_cnt {μ : Mm} {o : Nat} {a b c d e f : Int32} : O_append μ o a b c d e f o 0 = μ o 0 + 1 := by
  unfold O_append
  try dsimp only
  rw [up2_s, R_put_ne _ (by omega), R_put_ne _ (by omega), R_put_ne _ (by omega), R_put_ne _ (by omega), R_put_ne _ (by omega), R_put_ne _ (by omega)]
theorem A_placeM_cnt {μ : Mm} {a : Nat} {t pr u : Int32} : A_placeM μ a t pr u (a + 16) 0 = μ (a + 16) 0 + 1 := by
  unfold A_placeM
  try dsimp only
  rw [up2_k _ _ (by omega), O_append_cnt]
theorem full_nn {μ : Mm} {a : Nat} {t pr u : Int32} (h : ¬ μ (a + 16) 0 < 0) (hf : A_faultOfOrder μ a t pr u = 0) : ¬ μ (a + 16) 0 + 1 < 0 := by
  have hc : μ (a + 16) 0 < 20 := by
    unfold A_faultOfOrder at hf
    split at hf
    · exact absurd hf (by decide)
    · split at hf
      · exact absurd hf (by decide)
      · split at hf
        · exact absurd hf (by decide)
        · split at hf
          · rename_i hq
            unfold O_full at hq
            split at hq
            · assumption
            · exact absurd hq (by decide)
          · exact absurd hf (by decide)
  obtain ⟨j, hj, e⟩ := nI_of h
  rw [e] at hc ⊢
  have := nI_lt_of (x := 20) (y := j) (by decide) hj hc
  rw [nI_1]
  exact nI_pos (by omega)
theorem T_copy_ne {μ : Mm} {o b k' : Nat} (h : k' < o ∨ o + 14 < k') : T_copy μ o b k' = μ k' := by
  unfold T_copy
  rw [R_copy_ne _ (by omega), R_copy_ne _ (by omega), R_copy_ne _ (by omega), R_copy_ne _ (by omega), R_copy_ne _ (by omega), R_copy_ne _ (by omega), R_copy_ne _ (by omega), up2_k _ _ (by omega)]
theorem O_copy_ne {μ : Mm} {o b k' : Nat} (h : k' < o ∨ o + 12 < k') : O_copy μ o b k' = μ k' := by
  unfold O_copy
  rw [R_copy_ne _ (by omega), R_copy_ne _ (by omega), R_copy_ne _ (by omega), R_copy_ne _ (by omega), R_copy_ne _ (by omega), R_copy_ne _ (by omega), up2_k _ _ (by omega)]
theorem S_copy_ne {μ : Mm} {o b k' : Nat} (h : k' < o ∨ o + 10 < k') : S_copy μ o b k' = μ k' := by
  unfold S_copy
  rw [R_copy_ne _ (by omega), R_copy_ne _ (by omega), R_copy_ne _ (by omega), R_copy_ne _ (by omega), R_copy_ne _ (by omega), up2_k _ _ (by omega)]
theorem A_copy_ne {μ : Mm} {a b k' : Nat} (h : k' < a ∨ a + 39 < k') : A_copy μ a b k' = μ k' := by
  unfold A_copy
  try dsimp only
  rw [up2_k _ _ (by omega), up2_k _ _ (by omega), up2_k _ _ (by omega), up2_k _ _ (by omega), up2_k _ _ (by omega), up2_k _ _ (by omega), up2_k _ _ (by omega), up2_k _ _ (by omega), S_copy_ne (by omega), O_copy_ne (by omega), T_copy_ne (by omega)]
theorem U_drop_ne {μ : Mm} {k' : Nat} (h : k' ≠ 92) : U_drop μ k' = μ k' := by
  unfold U_drop
  split
  · try dsimp only
    rw [up2_k _ _ h, up2_k _ _ h]
  · rfl
theorem U_push_ne {μ : Mm} {b k' : Nat} (h : k' < 92) : U_push μ b k' = μ k' := by
  unfold U_push
  try dsimp only
  rw [up2_k _ _ (by omega), A_copy_ne (by unfold U_at; omega), U_drop_ne (by omega)]
theorem U_push_17 (μ : Mm) : U_push μ 1 (1 + 16) = μ (1 + 16) := U_push_ne (by decide)
end
