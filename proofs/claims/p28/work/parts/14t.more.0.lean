/-! behind a further order that is taken away again -/
theorem plM_1 {μ : Mm} {t pr u : Int32} (hk : vp_in (μ 260 1) 20) : M_placesM μ t pr u 260 1 = μ 260 1 + 1 := by
  unfold M_placesM
  try dsimp only
  rw [show ∀ ν : Mm, ∀ v, up2 ν 260 5 v 260 1 = ν 260 1 from fun ν v => by simp [up2], setO_1 hk (vpd rfl) (by decide), setO_1 hk (vpd rfl) (by decide), setO_1 hk (vpd rfl) (by decide), setO_1 hk (vpd rfl) (by decide), setO_1 hk (vpd rfl) (by decide), up2_s]
theorem gainM_1 {μ : Mm} {t pr : Int32} (hk : vp_in (μ 260 1) 20) : M_gainM μ t pr 260 1 = μ 260 1 := by
  obtain ⟨j, hj, e⟩ := vp_nI hk (by decide)
  unfold M_gainM
  try dsimp only
  rw [show ∀ ν : Mm, ∀ v, up2 ν 260 5 v 260 1 = ν 260 1 from fun ν v => by simp [up2], up2_s, M_finds_260, plM_1 hk, e, nI_1, nI_pred]
theorem MI_gain {μ : Mm} {t pr : Int32} (h : MI μ) (ht : vp_in t 8) (hk : vp_in (μ 260 1) 20) : MI (M_gainM μ t pr) := by
  obtain ⟨j, hj, e⟩ := vp_nI hk (by decide)
  have h1 : MI (M_finds (M_placesM μ t pr 1)) := MI_finds (MI_places h ht hk)
  unfold M_gainM
  try dsimp only
  refine MI_up (MI_1 h1 ?_) (by decide) (by decide) (by decide) (fun k _ => by omega)
  rw [M_finds_260, plM_1 hk, e, nI_1, nI_pred]
  exact vp_in_nI (by omega) (by decide)
theorem MS_inv {μ : Mm} {t : Int32} (h : MI μ) (ht : vp_in t 8) (hk : vp_in (μ 260 1) 20) : ∀ k, MI (MS_run μ t k).1 ∧ vp_in ((MS_run μ t k).1 260 1) 20
  | 0 => ⟨MI_gain h ht hk, by rw [show (MS_run μ t 0).1 = M_gainM μ t (M_bidBy μ t 0) from rfl, gainM_1 hk]; exact hk⟩
  | k + 1 => by
    obtain ⟨h1, h2⟩ := MS_inv h ht hk k
    exact ⟨MI_gain h1 ht h2, by rw [show (MS_run μ t (k + 1)).1 = M_gainM (MS_run μ t k).1 t (M_bidBy (MS_run μ t k).1 t (nI (k + 1))) from rfl, gainM_1 h2]; exact h2⟩
theorem MI_MP {μ : Mm} {t : Int32} (h : MI μ) : ∀ k, MI (MP_run μ t k).1
  | 0 => h
  | k + 1 => MI_finds (MI_up (MI_MP h k) (by decide) (by decide) (by decide) (fun k _ => by omega))
theorem MP_s (μ : Mm) (t : Int32) (k : Nat) : MP_run μ t (k + 1) = (MP_mem k (MP_run μ t k).1, if MP_take t k (MP_run μ t k) then nI k else (MP_run μ t k).2.1, if MP_take t k (MP_run μ t k) then M_gainsOf (MP_mem k (MP_run μ t k).1) t else (MP_run μ t k).2.2) := rfl
theorem MP_t1 {t : Int32} {k : Nat} {s : Mm × Int32 × Int32} (h : 0 < MP_mem k s.1 259 7) (h1 : s.2.1 = -10000) : MP_take t k s = true := by rw [MP_take, if_pos h, if_pos h1]
theorem MP_t2 {t : Int32} {k : Nat} {s : Mm × Int32 × Int32} (h : 0 < MP_mem k s.1 259 7) (h1 : ¬ s.2.1 = -10000) (h2 : s.2.2 < M_gainsOf (MP_mem k s.1) t) : MP_take t k s = true := by rw [MP_take, if_pos h, if_neg h1]; exact decide_eq_true h2
theorem MP_f1 {t : Int32} {k : Nat} {s : Mm × Int32 × Int32} (h : ¬ 0 < MP_mem k s.1 259 7) : MP_take t k s = false := by rw [MP_take, if_neg h]
theorem MP_f2 {t : Int32} {k : Nat} {s : Mm × Int32 × Int32} (h : 0 < MP_mem k s.1 259 7) (h1 : ¬ s.2.1 = -10000) (h2 : ¬ s.2.2 < M_gainsOf (MP_mem k s.1) t) : MP_take t k s = false := by rw [MP_take, if_pos h, if_neg h1]; exact decide_eq_false h2
theorem MP_st {μ : Mm} {t : Int32} {k : Nat} (h : MP_take t k (MP_run μ t k) = true) : MP_run μ t (k + 1) = (MP_mem k (MP_run μ t k).1, nI k, M_gainsOf (MP_mem k (MP_run μ t k).1) t) := by rw [MP_s, h]; rfl
theorem MP_sf {μ : Mm} {t : Int32} {k : Nat} (h : MP_take t k (MP_run μ t k) = false) : MP_run μ t (k + 1) = (MP_mem k (MP_run μ t k).1, (MP_run μ t k).2.1, (MP_run μ t k).2.2) := by rw [MP_s, h]; rfl
theorem isErr_0 {μ : Mm} {t : Int32} (h : ¬ M_isTrader μ t = 0) : M_isErr μ t = 0 := if_neg h
theorem isErr_1 {μ : Mm} {t : Int32} (h : M_isTrader μ t = 0) : M_isErr μ t = 1 := if_pos h
/-! the text: the cursor's range through a command -/
theorem MC_of {μ ν : Mm} (h : MC μ) (h9 : ν 259 9 = μ 259 9) (h10 : ν 259 10 = μ 259 10) : MC ν := by unfold MC; rw [h9, h10]; exact h
theorem MC_word {μ : Mm} (h : MC μ) : MC (M_word μ).1 := by rw [M_word_eq]; exact MC_RW _ _ _ _ h
theorem MC_dg : ∀ (n : Nat) (μ : Mm) (v : Int32), MC μ → MC (M_dg n μ v).1
  | 0, μ, _, h => h
  | n + 1, μ, v, h => by
    unfold M_dg
    split
    · exact h
    · exact MC_dg n _ _ (MC_nx h (isHere_lt (by assumption)))
theorem MC_num {μ : Mm} (h : MC μ) : MC (M_num μ).1 := by rw [M_num_eq]; exact MC_dg _ _ _ (MC_spaces h)
theorem MC_pn {μ : Mm} {n : Int32} (h : MC μ) : MC (M_passesNumber μ n).1 := by
  unfold M_passesNumber
  split
  · exact h
  · split
    · exact MC_spaces h
    · exact MC_of (MC_num h) (by simp [up2]) (by simp [up2])
theorem MC_cmdK {μ : Mm} (h : MC μ) : MC (M_cmdK μ) := MC_of (MC_word h) (by simp [M_cmdK, up2]) (by simp [M_cmdK, up2])
theorem MC_0 {μ : Mm} (h : vp_in (μ 259 9) 151) : MC (up2 μ 259 10 0) := by
  have e : up2 μ 259 10 0 259 9 = μ 259 9 := by simp [up2]
  refine ⟨by rw [up2_s]; decide, by rw [e]; exact h⟩
theorem MC_back {μ ν : Mm} (h : MC ν) (h2 : MC μ) : MC (up2 ν 259 10 (μ 259 10)) := by
  have e : up2 ν 259 10 (μ 259 10) 259 9 = ν 259 9 := by simp [up2]
  exact ⟨by rw [up2_s]; exact h2.1, by rw [e]; exact h.2⟩
theorem MC_nums : ∀ (n : Nat) (μ : Mm) (i : Int32), MC μ → MC (M_nums n μ i).1
  | 0, _, _, h => h
  | n + 1, μ, i, h => by
    unfold M_nums
    split
    · exact MC_pn h
    · exact MC_nums n _ _ (MC_pn h)
theorem MC_cmdN {μ : Mm} (h : MC μ) : MC (M_cmdN μ).1 := by rw [M_cmdN_eq]; exact MC_nums _ _ _ (MC_cmdK h)
theorem MC_pc {μ : Mm} (h : MC μ) : MC (M_passesCommand μ).1 := by
  unfold M_passesCommand
  split
  · exact MC_back (MC_cmdK h) h
  · split
    · exact MC_cmdN h
    · split
      · exact MC_spaces (MC_cmdN h)
      · exact MC_spaces (MC_nx (MC_spaces (MC_cmdN h)) (isHere_lt (by assumption)))
/-! nothing but the cursor, the kind and the numbers changes -/
theorem nx_ne {μ : Mm} {i : Nat} (h : i ≠ 10) : M_nx μ 259 i = μ 259 i := by simp [M_nx, up2, h]
theorem nx_k {μ : Mm} {k : Nat} (h : k ≠ 259) : M_nx μ k = μ k := up2_k _ _ h
theorem skip_ne : ∀ (n : Nat) (μ : Mm), (∀ i, i ≠ 10 → M_skip n μ 259 i = μ 259 i) ∧ ∀ k, k ≠ 259 → M_skip n μ k = μ k
  | 0, _ => ⟨fun _ _ => rfl, fun _ _ => rfl⟩
  | n + 1, μ => by
    unfold M_skip
    split
    · exact ⟨fun _ _ => rfl, fun _ _ => rfl⟩
    · exact ⟨fun i h => ((skip_ne n _).1 i h).trans (nx_ne h), fun k h => ((skip_ne n _).2 k h).trans (nx_k h)⟩
theorem spaces_ne {μ : Mm} {i : Nat} (h : i ≠ 10) : M_spaces μ 259 i = μ 259 i := by rw [M_spaces_eq]; exact (skip_ne _ _).1 i h
theorem spaces_k {μ : Mm} {k : Nat} (h : k ≠ 259) : M_spaces μ k = μ k := by rw [M_spaces_eq]; exact (skip_ne _ _).2 k h
theorem RW_ne : ∀ (n : Nat) (μ : Mm) (c l : Int32), (∀ i, i ≠ 10 → (RW n μ c l).1 259 i = μ 259 i) ∧ ∀ k, k ≠ 259 → (RW n μ c l).1 k = μ k
  | 0, _, _, _ => ⟨fun _ _ => rfl, fun _ _ => rfl⟩
  | n + 1, μ, c, l => by
    unfold RW
    split
    · exact ⟨fun _ _ => rfl, fun _ _ => rfl⟩
    · exact ⟨fun i h => ((RW_ne n _ _ _).1 i h).trans (nx_ne h), fun k h => ((RW_ne n _ _ _).2 k h).trans (nx_k h)⟩
theorem word_ne {μ : Mm} {i : Nat} (h : i ≠ 10) : (M_word μ).1 259 i = μ 259 i := by rw [M_word_eq]; exact (RW_ne _ _ _ _).1 i h
theorem word_k {μ : Mm} {k : Nat} (h : k ≠ 259) : (M_word μ).1 k = μ k := by rw [M_word_eq]; exact (RW_ne _ _ _ _).2 k h
theorem dg_ne : ∀ (n : Nat) (μ : Mm) (v : Int32), (∀ i, i ≠ 10 → (M_dg n μ v).1 259 i = μ 259 i) ∧ ∀ k, k ≠ 259 → (M_dg n μ v).1 k = μ k
  | 0, _, _ => ⟨fun _ _ => rfl, fun _ _ => rfl⟩
  | n + 1, μ, v => by
    unfold M_dg
    split
    · exact ⟨fun _ _ => rfl, fun _ _ => rfl⟩
    · exact ⟨fun i h => ((dg_ne n _ _).1 i h).trans (nx_ne h), fun k h => ((dg_ne n _ _).2 k h).trans (nx_k h)⟩
theorem num_ne {μ : Mm} {i : Nat} (h : i ≠ 10) : (M_num μ).1 259 i = μ 259 i := by rw [M_num_eq]; exact ((dg_ne _ _ _).1 i h).trans (spaces_ne h)
theorem num_k {μ : Mm} {k : Nat} (h : k ≠ 259) : (M_num μ).1 k = μ k := by rw [M_num_eq]; exact ((dg_ne _ _ _).2 k h).trans (spaces_k h)
theorem pn_ne {μ : Mm} {n : Int32} {i : Nat} (h : i ≠ 10) : (M_passesNumber μ n).1 259 i = μ 259 i := by
  unfold M_passesNumber
  split
  · rfl
  · split
    · exact spaces_ne h
    · show up2 (M_num μ).1 263 (cn n) (M_num μ).2 259 i = _
      rw [show up2 (M_num μ).1 263 (cn n) (M_num μ).2 259 i = (M_num μ).1 259 i from by simp [up2]]
      exact num_ne h
theorem pn_k {μ : Mm} {n : Int32} {k : Nat} (h : k ≠ 259) (h2 : k ≠ 263) : (M_passesNumber μ n).1 k = μ k := by
  unfold M_passesNumber
  split
  · rfl
  · split
    · exact spaces_k h
    · show up2 (M_num μ).1 263 (cn n) (M_num μ).2 k = _
      rw [up2_k _ _ h2]
      exact num_k h
theorem nums_ne : ∀ (n : Nat) (μ : Mm) (x : Int32), (∀ i, i ≠ 10 → (M_nums n μ x).1 259 i = μ 259 i) ∧ ∀ k, k ≠ 259 → k ≠ 263 → (M_nums n μ x).1 k = μ k
  | 0, _, _ => ⟨fun _ _ => rfl, fun _ _ _ => rfl⟩
  | n + 1, μ, x => by
    unfold M_nums
    split
    · exact ⟨fun i h => pn_ne h, fun k h h2 => pn_k h h2⟩
    · exact ⟨fun i h => ((nums_ne n _ _).1 i h).trans (pn_ne h), fun k h h2 => ((nums_ne n _ _).2 k h h2).trans (pn_k h h2)⟩
theorem cmdK_ne {μ : Mm} {i : Nat} (h : i ≠ 10) (h2 : i ≠ 11) : M_cmdK μ 259 i = μ 259 i := by
  rw [show M_cmdK μ 259 i = (M_word μ).1 259 i from by simp [M_cmdK, up2, h2]]
  exact word_ne h
theorem cmdK_k {μ : Mm} {k : Nat} (h : k ≠ 259) : M_cmdK μ k = μ k := (up2_k _ _ h).trans (word_k h)
theorem cmdN_ne {μ : Mm} {i : Nat} (h : i ≠ 10) : (M_cmdN μ).1 259 i = M_cmdK μ 259 i := by rw [M_cmdN_eq]; exact (nums_ne _ _ _).1 i h
theorem cmdN_k {μ : Mm} {k : Nat} (h : k ≠ 259) (h2 : k ≠ 263) : (M_cmdN μ).1 k = μ k := by rw [M_cmdN_eq]; exact ((nums_ne _ _ _).2 k h h2).trans (cmdK_k h)
theorem pc_ne {μ : Mm} {i : Nat} (h : i ≠ 10) : (M_passesCommand μ).1 259 i = M_cmdK μ 259 i := by
  unfold M_passesCommand
  split
  · simp [up2, h]
  · split
    · exact cmdN_ne h
    · split
      · exact (spaces_ne h).trans (cmdN_ne h)
      · exact (spaces_ne h).trans ((nx_ne h).trans ((spaces_ne h).trans (cmdN_ne h)))
theorem pc_k {μ : Mm} {k : Nat} (h : k ≠ 259) (h2 : k ≠ 263) : (M_passesCommand μ).1 k = μ k := by
  unfold M_passesCommand
  split
  · exact (up2_k _ _ h).trans (cmdK_k h)
  · split
    · exact cmdN_k h h2
    · split
      · exact (spaces_k h).trans (cmdN_k h h2)
      · exact (spaces_k h).trans ((nx_k h).trans ((spaces_k h).trans (cmdN_k h h2)))
theorem many_e (k : Int32) : ∃ j, j ≤ 3 ∧ M_manyOf k = nI j := by
  unfold M_manyOf
  split
  · exact ⟨3, by decide, rfl⟩
  · split
    · exact ⟨3, by decide, rfl⟩
    · split
      · exact ⟨2, by decide, rfl⟩
      · split
        · exact ⟨2, by decide, rfl⟩
        · split
          · exact ⟨0, by decide, rfl⟩
          · exact ⟨1, by decide, rfl⟩
theorem FA_ne : ∀ (n : Nat) (μ : Mm), (∀ i, i ≠ 10 → i ≠ 11 → (FA n μ).1 259 i = μ 259 i) ∧ ∀ k, k ≠ 259 → k ≠ 263 → (FA n μ).1 k = μ k
  | 0, _ => ⟨fun _ _ _ => rfl, fun _ _ _ => rfl⟩
  | n + 1, μ => by
    unfold FA
    split
    · split
      · exact ⟨fun _ _ _ => rfl, fun _ _ _ => rfl⟩
      · split
        · exact ⟨fun i h h2 => (pc_ne h).trans (cmdK_ne h h2), fun k h h2 => pc_k h h2⟩
        · exact ⟨fun i h h2 => ((FA_ne n _).1 i h h2).trans ((pc_ne h).trans (cmdK_ne h h2)), fun k h h2 => ((FA_ne n _).2 k h h2).trans (pc_k h h2)⟩
    · exact ⟨fun _ _ _ => rfl, fun _ _ _ => rfl⟩
theorem fault_ne {μ : Mm} {i : Nat} (h : i ≠ 10) (h2 : i ≠ 11) : (M_faultOf μ).1 259 i = μ 259 i := by
  unfold M_faultOf
  rw [(FA_ne _ _).1 i h h2, spaces_ne h]
  simp [up2, h]
theorem fault_k {μ : Mm} {k : Nat} (h : k ≠ 259) (h2 : k ≠ 263) : (M_faultOf μ).1 k = μ k := by
  unfold M_faultOf
  rw [(FA_ne _ _).2 k h h2, spaces_k h, up2_k _ _ h]
theorem runS_k {μ : Mm} {k : Nat} (h : k ≠ 259) (h1 : k ≠ 261) (h2 : k ≠ 263) : M_runS μ k = μ k := by
  unfold M_runS
  rw [spaces_k h, up2_k _ _ h, M_records_ne h h1, fault_k h h2]
  exact up2_k _ _ h
theorem runS_9 (μ : Mm) : M_runS μ 259 9 = μ 259 9 := by
  unfold M_runS
  rw [spaces_ne (by decide), show ∀ ν : Mm, ∀ v, up2 ν 259 10 v 259 9 = ν 259 9 from fun ν v => by simp [up2], M_records_259 _ _ (by decide), fault_ne (by decide) (by decide)]
  simp [M_thr, up2]
/-! a command's steps -/
theorem trE_vp {μ : Mm} {sd v : Int32} (hI : MI μ) (h : M_traderError μ sd v = 0) : vp_in (μ 260 0) 8 := by
  unfold M_traderError at h
  split at h
  · exact absurd h (by decide)
  · split at h
    · exact absurd h (by decide)
    · split at h
      · exact lt_vp hI.1 (by decide) (by assumption)
      · exact absurd h (by decide)
theorem RC_a {μ : Mm} {n : Nat} {k : Int32} (h : (M_passesCommand μ).2 = 0) : RC (n + 1) μ k = ((M_passesCommand μ).1, k) := by rw [RC, if_pos h]
theorem does_0 {μ : Mm} (h : M_err μ = 0) : M_does μ = M_deed μ := if_pos h
theorem does_1 {μ : Mm} (h : ¬ M_err μ = 0) : M_does μ = μ := if_neg h
theorem RC_b {μ : Mm} {n : Nat} {k : Int32} (h : ¬ (M_passesCommand μ).2 = 0) (h2 : ¬ M_err (M_passesCommand μ).1 = 0) : RC (n + 1) μ k = (M_does (M_passesCommand μ).1, k) := by rw [RC, if_neg h, if_neg h2, does_1 h2]
theorem RC_c {μ : Mm} {n : Nat} {k : Int32} (h : ¬ (M_passesCommand μ).2 = 0) (h2 : M_err (M_passesCommand μ).1 = 0) (h3 : M_does (M_passesCommand μ).1 259 10 < M_does (M_passesCommand μ).1 259 9) : RC (n + 1) μ k = RC n (M_does (M_passesCommand μ).1) (k + 1) := by
  rw [does_0 h2] at h3 ⊢
  rw [RC, if_neg h, if_pos h2, if_pos h3]
theorem RC_d {μ : Mm} {n : Nat} {k : Int32} (h : ¬ (M_passesCommand μ).2 = 0) (h2 : M_err (M_passesCommand μ).1 = 0) (h3 : ¬ M_does (M_passesCommand μ).1 259 10 < M_does (M_passesCommand μ).1 259 9) : RC (n + 1) μ k = (M_does (M_passesCommand μ).1, k + 1) := by
  rw [does_0 h2] at h3 ⊢
  rw [RC, if_neg h, if_pos h2, if_neg h3]
theorem RCok_c {μ : Mm} {n : Nat} (ok : RCok (n + 1) μ) (h : ¬ (M_passesCommand μ).2 = 0) (h2 : M_err (M_passesCommand μ).1 = 0) (h3 : M_does (M_passesCommand μ).1 259 10 < M_does (M_passesCommand μ).1 259 9) : RCok n (M_does (M_passesCommand μ).1) := by
  rw [does_0 h2] at h3 ⊢
  exact (ok.2.2 h h2).2 h3
/-! the digest -/
theorem MI_dg2 {μ : Mm} (h : MI μ) : ∀ k, MI (M_dg2 μ k).1
  | 0 => MI_ne h (by decide)
  | k + 1 => MI_finds (MI_dg2 h k)
theorem MI_dgM {μ : Mm} (h : MI μ) : MI (M_dgM μ) := MI_dg2 h _
theorem five {x : Int32} (h : vp_in x 21) : 5 * x = nI (5 * cn x) := by
  obtain ⟨j, hj, rfl⟩ := vp_nI h (by decide)
  rw [cn_nI (by omega), show (5 : Int32) = nI 5 from rfl, nI_mul]
theorem at167 {k : Nat} : (167 : Int32) + nI k = nI (167 + k) := by rw [show (167 : Int32) = nI 167 from rfl, nI_add]
theorem MS_s (μ : Mm) (t : Int32) (k : Nat) : MS_run μ t (k + 1) = ((M_gainBy (MS_run μ t k).1 t (M_bidBy (MS_run μ t k).1 t (nI (k + 1)))).1, if (MS_run μ t k).2.2 < (M_gainBy (MS_run μ t k).1 t (M_bidBy (MS_run μ t k).1 t (nI (k + 1)))).2 then nI (k + 1) else (MS_run μ t k).2.1, if (MS_run μ t k).2.2 < (M_gainBy (MS_run μ t k).1 t (M_bidBy (MS_run μ t k).1 t (nI (k + 1)))).2 then (M_gainBy (MS_run μ t k).1 t (M_bidBy (MS_run μ t k).1 t (nI (k + 1)))).2 else (MS_run μ t k).2.2) := rfl
theorem MS_0 (μ : Mm) (t : Int32) : MS_run μ t 0 = ((M_gainBy μ t (M_bidBy μ t 0)).1, 0, (M_gainBy μ t (M_bidBy μ t 0)).2) := rfl
theorem MP_0 (μ : Mm) (t : Int32) : MP_run μ t 0 = (μ, -10000, 0) := rfl
