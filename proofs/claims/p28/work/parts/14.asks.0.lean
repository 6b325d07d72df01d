noncomputable section
/-! questions -/
def M_ordersOf (μ : Mm) (t u : Int32) : Int32 := sumI (fun k => if M_o μ (nI k) 1 = t then (if u = 0 then 1 else M_o μ (nI k) 3) else 0) (cn (μ 260 1))
def M_tellsTrader (μ : Mm) (t w : Int32) : Int32 :=
  if w < 4 then M_t μ t w else if 6 < w then M_t μ t (w - 3) else if w = 4 then M_bidOf μ t else M_ordersOf μ t (if w = 6 then 1 else 0)
def M_trErr (μ : Mm) (t w : Int32) : Int32 := if M_isTrader μ t = 0 then 1 else if wI w 0 9 = 0 then 2 else 0
def M_trader (μ : Mm) (t w : Int32) : Mm × Int32 := M_ask μ (M_trErr μ t w) (fun ν => (ν, M_tellsTrader ν t w))
def M_tellsOrder (μ : Mm) (k w : Int32) : Int32 := if w = 4 then M_placeOf μ k else M_o μ k (w + 1)
def M_orErr (μ : Mm) (x w : Int32) : Int32 := if M_find μ x < 0 then 1 else if wI w 0 4 = 0 then 2 else 0
def M_orderOf (μ : Mm) (x w : Int32) : Mm × Int32 := M_ask μ (M_orErr μ x w) (fun ν => (ν, M_tellsOrder ν (M_find ν x) w))
def M_tdErr (i w : Int32) : Int32 := if i < 0 then 1 else if wI w 0 4 = 0 then 1 else 0
def M_tells_td (μ : Mm) (i w : Int32) : Int32 := if i < μ 260 9 then μ 260 (cn (167 + 5 * i + w)) else -10000
def M_trade (μ : Mm) (i w : Int32) : Mm × Int32 := M_ask μ (M_tdErr i w) (fun ν => (ν, M_tells_td ν i w))
def M_atErr (p w : Int32) : Int32 := if wI p 1 120 = 0 then 1 else if wI w 0 2 = 0 then 1 else 0
def M_tellsAt (μ : Mm) (p w : Int32) : Int32 := if w = 2 then M_volumeAt μ p else M_unitsAt μ w p
def M_at (μ : Mm) (p w : Int32) : Mm × Int32 := M_ask μ (M_atErr p w) (fun ν => (ν, M_tellsAt ν p w))
def M_share (s m : Int32) : Int32 := if s < 0 then 0 else if m = 0 then 100 else s * 100 / m
def M_nowVal (μ : Mm) (w : Int32) : Int32 :=
  if w = 0 then μ 259 4 else if w = 1 then μ 259 5 else if w = 2 then μ 259 6 else if w = 3 then μ 259 7 else if w = 4 then M_surplusNow μ else if w = 5 then M_greatest μ else M_share (M_surplusNow μ) (M_greatest μ)
def M_tellsNow (μ : Mm) (w : Int32) : Mm × Int32 := (M_finds μ, M_nowVal (M_finds μ) w)
def M_now (μ : Mm) (w : Int32) : Mm × Int32 := M_ask μ (if wI w 0 6 = 0 then 1 else 0) (fun ν => M_tellsNow ν w)
def M_tellsWhole (μ : Mm) (w : Int32) : Int32 := if w = 11 then μ 259 9 else μ 260 (cn w)
def M_whole (μ : Mm) (w : Int32) : Mm × Int32 := M_ask μ (if wI w 0 11 = 0 then 1 else 0) (fun ν => (ν, M_tellsWhole ν w))
def M_fdErr (μ : Mm) (x : Int32) : Int32 := if M_find μ x < 0 then 1 else 0
def M_filled (μ : Mm) (x : Int32) : Mm × Int32 := M_ask μ (M_fdErr μ x) (fun ν => (M_finds ν, M_fillOf (M_finds ν) (M_find ν x)))
def M_whyOf (μ : Mm) (k : Int32) : Int32 := if M_fillOf μ k = M_o μ k 3 then 0 else if μ 259 7 = 0 then 1 else if M_isGood μ k (μ 259 6) = 0 then 2 else 3
def M_reason (μ : Mm) (x : Int32) : Mm × Int32 := M_ask μ (M_fdErr μ x) (fun ν => (M_finds ν, M_whyOf (M_finds ν) (M_find μ x)))
def M_gainM (μ : Mm) (t p : Int32) : Mm :=
  let μ1 := M_finds (M_placesM μ t p 1)
  let μ2 := up2 μ1 260 1 (μ1 260 1 - 1)
  up2 μ2 260 5 (μ2 260 5 - 1)
def M_gainBy (μ : Mm) (t p : Int32) : Mm × Int32 := (M_gainM μ t p, M_gainsOf (M_finds (M_placesM μ t p 1)) t)
def M_gwErr (μ : Mm) (t p : Int32) : Int32 := if M_isTrader μ t = 0 then 1 else if wI p 1 120 = 0 then 2 else 0
def M_gainWith (μ : Mm) (t p : Int32) : Mm × Int32 := M_ask μ (M_gwErr μ t p) (fun ν => if ν 260 1 = 20 then (ν, -10000) else M_gainBy ν t p)
/-- memory, best, most -/
def MS_run (μ : Mm) (t : Int32) (k : Nat) : Mm × Int32 × Int32 :=
  itr (fun k s => ((M_gainBy s.1 t (M_bidBy s.1 t (nI (k + 1)))).1, if s.2.2 < (M_gainBy s.1 t (M_bidBy s.1 t (nI (k + 1)))).2 then nI (k + 1) else s.2.1, if s.2.2 < (M_gainBy s.1 t (M_bidBy s.1 t (nI (k + 1)))).2 then (M_gainBy s.1 t (M_bidBy s.1 t (nI (k + 1)))).2 else s.2.2))
    ((M_gainBy μ t (M_bidBy μ t 0)).1, 0, (M_gainBy μ t (M_bidBy μ t 0)).2) k
def M_isErr (μ : Mm) (t : Int32) : Int32 := if M_isTrader μ t = 0 then 1 else 0
def M_bestShade (μ : Mm) (t : Int32) : Mm × Int32 := M_ask μ (M_isErr μ t) (fun ν => if ν 260 1 = 20 then (ν, -10000) else ((MS_run ν t (NN 50)).1, (MS_run ν t (NN 50)).2.1))
/-- memory, best, most -/
def MP_mem (k : Nat) (μ : Mm) : Mm := M_finds (up2 μ 260 3 (nI k))
def MP_take (t : Int32) (k : Nat) (s : Mm × Int32 × Int32) : Bool :=
  if 0 < MP_mem k s.1 259 7 then (if s.2.1 = -10000 then true else decide (s.2.2 < M_gainsOf (MP_mem k s.1) t)) else false
def MP_run (μ : Mm) (t : Int32) (k : Nat) : Mm × Int32 × Int32 :=
  itr (fun k s => (MP_mem k s.1, if MP_take t k s then nI k else s.2.1, if MP_take t k s then M_gainsOf (MP_mem k s.1) t else s.2.2)) (μ, -10000, 0) k
def M_bestSplit (μ : Mm) (t : Int32) : Mm × Int32 := M_ask μ (M_isErr μ t) (fun ν => (up2 (MP_run ν t (NN 11)).1 260 3 (ν 260 3), (MP_run ν t (NN 11)).2.1))
/-- rounds until the order is gone -/
def GN (x : Int32) : Nat → Mm → Int32 → Mm × Int32
  | 0, μ, k => (μ, k)
  | n + 1, μ, k => if M_find μ x < 0 then (μ, k) else GN x n (M_clears μ).1 (k + 1)
def GNok (x : Int32) : Nat → Mm → Prop
  | 0, μ => M_find μ x < 0
  | n + 1, μ => ¬ M_find μ x < 0 → M_clok μ ∧ GNok x n (M_clears μ).1
def M_goneIn (μ : Mm) (x : Int32) : Mm × Int32 := M_ask μ (M_fdErr μ x) (fun ν => (M_brings (GN x (NN 12) (M_keeps ν 4) 0).1 4, (GN x (NN 12) (M_keeps ν 4) 0).2))
/-! the text -/
def M_tyErr (μ : Mm) (v : Int32) : Int32 := if wI v 0 127 = 0 then 1 else if μ 259 9 < 150 then 0 else 2
def M_typeM (μ : Mm) (v : Int32) : Mm := up2 (up2 μ 262 (cn (μ 259 9)) v) 259 9 (up2 μ 262 (cn (μ 259 9)) v 259 9 + 1)
def M_type (μ : Mm) (v : Int32) : Mm × Int32 := M_ask μ (M_tyErr μ v) (fun ν => (M_typeM ν v, M_typeM ν v 259 9))
def M_clearCommands (μ : Mm) : Mm × Int32 := (up2 (M_thr μ 0) 259 9 0, M_thr μ 0 259 9)
/-- the cursor and the length are in their ranges -/
def MC (μ : Mm) : Prop := ¬ μ 259 10 < 0 ∧ vp_in (μ 259 9) 151
theorem MC_at {μ : Mm} (h : MC μ) (hlt : μ 259 10 < μ 259 9) : vp_in (μ 259 10) 150 := by
  obtain ⟨j, hj, e⟩ := nI_of h.1
  obtain ⟨n, hn, e2⟩ := vp_nI h.2 (by decide)
  rw [e, e2] at hlt
  rw [e]
  exact vp_in_nI (by have := nI_lt_of (by omega) hj hlt; omega) (by decide)
def M_here (μ : Mm) : Int32 := μ 262 (cn (μ 259 10))
def M_isHere (μ : Mm) (lo hi : Int32) : Int32 := if μ 259 10 < μ 259 9 then (if wI (M_here μ) lo hi = 0 then 0 else 1) else 0
def M_nx (μ : Mm) : Mm := up2 μ 259 10 (μ 259 10 + 1)
theorem isHere_lt {μ : Mm} {lo hi : Int32} (h : ¬ M_isHere μ lo hi = 0) : μ 259 10 < μ 259 9 := by
  unfold M_isHere at h
  split at h
  · assumption
  · exact absurd rfl h
theorem nx_9 (μ : Mm) : M_nx μ 259 9 = μ 259 9 := by simp [M_nx, up2]
theorem nx_10 (μ : Mm) : M_nx μ 259 10 = μ 259 10 + 1 := by simp [M_nx, up2]
theorem MC_nx {μ : Mm} (h : MC μ) (hlt : μ 259 10 < μ 259 9) : MC (M_nx μ) := by
  refine ⟨?_, by rw [nx_9]; exact h.2⟩
  obtain ⟨j, hj, e⟩ := vp_nI (MC_at h hlt) (by decide)
  rw [nx_10, e, nI_1]
  exact nI_pos (by omega)
theorem nx_fuel {μ : Mm} {n : Nat} (h : MC μ) (hlt : μ 259 10 < μ 259 9) (hn : cn (μ 259 9) ≤ cn (μ 259 10) + (n + 1)) : cn (M_nx μ 259 9) ≤ cn (M_nx μ 259 10) + n := by
  rw [nx_9, nx_10]
  exact cur_step hn hlt h.1
theorem here_end {μ : Mm} {lo hi : Int32} (h : MC μ) (hn : cn (μ 259 9) ≤ cn (μ 259 10) + 0) : M_isHere μ lo hi = 0 := by
  unfold M_isHere
  split
  · rename_i c
    exact absurd (cur_end hn c h.1) id
  · rfl
def M_skip : Nat → Mm → Mm
  | 0, μ => μ
  | n + 1, μ => if M_isHere μ 32 32 = 0 then μ else M_skip n (M_nx μ)
def M_spaces (μ : Mm) : Mm := opq (M_skip (cn (μ 259 9)) μ)
theorem M_spaces_eq (μ : Mm) : M_spaces μ = M_skip (cn (μ 259 9)) μ := opq_eq _
theorem MC_skip : ∀ (n : Nat) (μ : Mm), MC μ → MC (M_skip n μ)
  | 0, μ, h => h
  | n + 1, μ, h => by
    unfold M_skip
    split
    · exact h
    · exact MC_skip n _ (MC_nx h (isHere_lt (by assumption)))
theorem MC_spaces {μ : Mm} (h : MC μ) : MC (M_spaces μ) := by rw [M_spaces_eq]; exact MC_skip _ _ h
/-- memory, code, letters -/
def RW : Nat → Mm → Int32 → Int32 → Mm × Int32 × Int32
  | 0, μ, c, l => (μ, c, l)
  | n + 1, μ, c, l => if M_isHere μ 97 122 = 0 then (μ, c, l) else RW n (M_nx μ) (if l < 6 then 27 * c + M_here μ - 97 + 1 else 0) (l + 1)
def M_word (μ : Mm) : Mm × Int32 × Int32 := opq (RW (cn (μ 259 9)) μ 0 0)
theorem M_word_eq (μ : Mm) : M_word μ = RW (cn (μ 259 9)) μ 0 0 := opq_eq _
def M_readsWord (μ : Mm) : Int32 := if 6 < (M_word μ).2.2 then 0 else (M_word μ).2.1
theorem MC_RW : ∀ (n : Nat) (μ : Mm) (c l : Int32), MC μ → MC (RW n μ c l).1
  | 0, μ, _, _, h => h
  | n + 1, μ, c, l, h => by
    unfold RW
    split
    · exact h
    · exact MC_RW n _ _ _ (MC_nx h (isHere_lt (by assumption)))
def lt27 (c x : Int32) : Int32 := 27 * c + x - 97 + 1
def M_codeOf (a b c d e f : Int32) : Int32 :=
  let x := 27 * (27 * (a - 97 + 1) + b - 97 + 1) + c - 97 + 1
  let y := if d = 32 then x else 27 * x + d - 97 + 1
  let z := if e = 32 then y else 27 * y + e - 97 + 1
  if f = 32 then z else 27 * z + f - 97 + 1
def M_kindOf (w : Int32) : Int32 :=
  if w = M_codeOf 98 117 121 101 114 32 then 0 else if w = M_codeOf 115 101 108 108 101 114 then 1 else if w = M_codeOf 115 104 97 100 101 32 then 2 else if w = M_codeOf 98 105 100 32 32 32 then 3
  else if w = M_codeOf 111 114 100 101 114 32 then 4 else if w = M_codeOf 99 97 110 99 101 108 then 5 else if w = M_codeOf 115 101 116 32 32 32 then 6 else if w = M_codeOf 99 108 101 97 114 32 then 7 else -1
def M_manyOf (k : Int32) : Int32 := if k = 2 then 3 else if k = 4 then 3 else if k = 3 then 2 else if k = 6 then 2 else if k = 7 then 0 else 1
def M_dg : Nat → Mm → Int32 → Mm × Int32
  | 0, μ, v => (μ, v)
  | n + 1, μ, v => if M_isHere μ 48 57 = 0 then (μ, v) else M_dg n (M_nx μ) (10 * v + M_here μ - 48)
def M_num (μ : Mm) : Mm × Int32 := opq (M_dg 3 (M_spaces μ) 0)
theorem M_num_eq (μ : Mm) : M_num μ = M_dg 3 (M_spaces μ) 0 := opq_eq _
def M_passesNumber (μ : Mm) (n : Int32) : Mm × Int32 :=
  if M_isHere μ 32 32 = 0 then (μ, 0) else if M_isHere (M_spaces μ) 48 57 = 0 then (M_spaces μ, 0) else (up2 (M_num μ).1 263 (cn n) (M_num μ).2, 1)
def M_nums : Nat → Mm → Int32 → Mm × Int32
  | 0, μ, _ => (μ, 1)
  | n + 1, μ, i => if (M_passesNumber μ i).2 = 0 then ((M_passesNumber μ i).1, 0) else M_nums n (M_passesNumber μ i).1 (i + 1)
def M_cmdK (μ : Mm) : Mm := up2 (M_word μ).1 259 11 (M_kindOf (M_readsWord μ))
def M_cmdN (μ : Mm) : Mm × Int32 := opq (M_nums (cn (M_manyOf (M_cmdK μ 259 11))) (M_cmdK μ) 0)
theorem M_cmdN_eq (μ : Mm) : M_cmdN μ = M_nums (cn (M_manyOf (M_cmdK μ 259 11))) (M_cmdK μ) 0 := opq_eq _
def M_passesCommand (μ : Mm) : Mm × Int32 :=
  if M_cmdK μ 259 11 = -1 then (up2 (M_cmdK μ) 259 10 (μ 259 10), 0)
  else if (M_cmdN μ).2 = 0 then M_cmdN μ
  else if M_isHere (M_spaces (M_cmdN μ).1) 59 59 = 0 then (M_spaces (M_cmdN μ).1, 0)
  else (M_spaces (M_nx (M_spaces (M_cmdN μ).1)), 1)
/-- where the text cannot go on; n commands at most -/
def FA : Nat → Mm → Mm × Int32
  | 0, μ => (μ, -1)
  | n + 1, μ =>
    if μ 259 10 < μ 259 9 then
      if M_isHere μ 97 122 = 0 then (μ, μ 259 10)
      else if (M_passesCommand μ).2 = 0 then ((M_passesCommand μ).1, (M_passesCommand μ).1 259 10)
      else FA n (M_passesCommand μ).1
    else (μ, -1)
def FAok : Nat → Mm → Prop
  | 0, μ => ¬ μ 259 10 < μ 259 9
  | n + 1, μ => μ 259 10 < μ 259 9 → ¬ M_isHere μ 97 122 = 0 → ¬ (M_passesCommand μ).2 = 0 → FAok n (M_passesCommand μ).1
def M_faultOf (μ : Mm) : Mm × Int32 := FA (NN 151) (M_spaces (up2 μ 259 10 0))
def M_faok (μ : Mm) : Prop := FAok (NN 151) (M_spaces (up2 μ 259 10 0))
/-! what a command does: its error, and the deed if there is none -/
def M_n (μ : Mm) (i : Nat) : Int32 := μ 263 i
def M_err (μ : Mm) : Int32 :=
  if μ 259 11 = 0 then M_traderError μ (μ 259 11) (M_n μ 0) else if μ 259 11 = 1 then M_traderError μ (μ 259 11) (M_n μ 0)
  else if μ 259 11 = 2 then M_shadeError μ (M_n μ 0) (M_n μ 1) (M_n μ 2) else if μ 259 11 = 3 then M_orderError μ (M_n μ 0) 1 (M_n μ 1)
  else if μ 259 11 = 4 then M_orderError μ (M_n μ 0) (M_n μ 1) (M_n μ 2) else if μ 259 11 = 5 then (if M_find μ (M_n μ 0) < 0 then 1 else 0)
  else if μ 259 11 = 6 then M_settingError (M_n μ 0) (M_n μ 1) else M_clearError μ
def M_deed (μ : Mm) : Mm :=
  if μ 259 11 = 0 then M_addsTrader μ (μ 259 11) (M_n μ 0) else if μ 259 11 = 1 then M_addsTrader μ (μ 259 11) (M_n μ 0)
  else if μ 259 11 = 2 then M_shadesM μ (M_n μ 0) (M_n μ 1) (M_n μ 2) else if μ 259 11 = 3 then M_placesM μ (M_n μ 0) (M_bidOf μ (M_n μ 0)) (M_n μ 1)
  else if μ 259 11 = 4 then M_placesM μ (M_n μ 0) (M_n μ 1) (M_n μ 2) else if μ 259 11 = 5 then M_removes μ (M_find μ (M_n μ 0))
  else if μ 259 11 = 6 then M_setsM μ (M_n μ 0) (M_n μ 1) else (M_clears μ).1
def M_does (μ : Mm) : Mm := if M_err μ = 0 then M_deed μ else μ
/-- commands, n at most: memory, done -/
def RC : Nat → Mm → Int32 → Mm × Int32
  | 0, μ, k => (μ, k)
  | n + 1, μ, k =>
    if (M_passesCommand μ).2 = 0 then ((M_passesCommand μ).1, k)
    else if M_err (M_passesCommand μ).1 = 0 then
      (if M_deed (M_passesCommand μ).1 259 10 < M_deed (M_passesCommand μ).1 259 9 then RC n (M_deed (M_passesCommand μ).1) (k + 1) else (M_deed (M_passesCommand μ).1, k + 1))
    else ((M_passesCommand μ).1, k)
def RCok : Nat → Mm → Prop
  | 0, _ => False
  | n + 1, μ =>
    MI μ ∧ MC μ ∧ (¬ (M_passesCommand μ).2 = 0 → M_err (M_passesCommand μ).1 = 0 → M_clok (M_passesCommand μ).1 ∧
      (M_deed (M_passesCommand μ).1 259 10 < M_deed (M_passesCommand μ).1 259 9 → RCok n (M_deed (M_passesCommand μ).1)))
def M_runS (μ : Mm) : Mm := M_spaces (up2 (M_records (M_faultOf (M_thr μ 0)).1) 259 10 0)
def M_run (μ : Mm) : Mm × Int32 :=
  if (M_faultOf (M_thr μ 0)).2 < 0 then
    (if M_runS μ 259 10 < M_runS μ 259 9 then RC (NN 151) (M_runS μ) 0 else (M_runS μ, 0))
  else ((M_faultOf (M_thr μ 0)).1, -10 - (M_faultOf (M_thr μ 0)).2)
/-! the digest -/
def M_mix (h v : Int64) : Int64 := 31 * h + v
def M_dgT (μ : Mm) (t : Int32) (h : Int64) (k : Nat) : Int64 := itr (fun w h => M_mix h (M_tellsTrader μ t (nI w)).toInt64) h k
def M_dgO1 (μ : Mm) (i : Int32) (h : Int64) (k : Nat) : Int64 := itr (fun w h => M_mix h (M_tellsOrder μ i (nI w)).toInt64) (M_mix h (M_o μ i 0).toInt64) k
def M_dgO (μ : Mm) (i : Int32) (h : Int64) : Int64 := M_mix (M_dgO1 μ i h (NN 5)) (M_fillOf μ i).toInt64
def M_dg1 (μ : Mm) (k : Nat) : Int64 := itr (fun w h => M_mix h (M_tellsWhole (M_thr μ 0) (nI w)).toInt64) (M_mix 43616 (M_thr μ 0 259 2).toInt64) k
def M_dg2 (μ : Mm) (k : Nat) : Mm × Int64 := itr (fun w s => ((M_tellsNow s.1 (nI w)).1, M_mix s.2 (M_tellsNow s.1 (nI w)).2.toInt64)) (M_thr μ 0, M_dg1 μ (NN 12)) k
def M_dgM (μ : Mm) : Mm := (M_dg2 μ (NN 7)).1
def M_dg3 (μ : Mm) (k : Nat) : Int64 := itr (fun t h => M_dgT (M_dgM μ) (nI t) h (NN 10)) (M_dg2 μ (NN 7)).2 k
def M_dg4 (μ : Mm) (k : Nat) : Int64 := itr (fun i h => M_dgO (M_dgM μ) (nI i) h) (M_dg3 μ (cn (M_dgM μ 260 0))) k
def M_dg5 (μ : Mm) (k : Nat) : Int64 := itr (fun i h => M_mix h (M_dgM μ 260 (167 + i)).toInt64) (M_dg4 μ (cn (M_dgM μ 260 1))) k
def M_digest (μ : Mm) : Int64 := M_dg5 μ (5 * cn (M_dgM μ 260 9))
/-! ranges -/
theorem wI_vp {w : Int32} {n : Nat} (h : ¬ wI w 0 (nI n) = 0) (hn : n + 1 < 2 ^ 31 := by decide) : vp_in w (n + 1) := by
  unfold wI at h
  have h1 : ¬ w < 0 := fun e => h (if_pos e)
  rw [if_neg h1] at h
  have h2 : ¬ nI n < w := fun e => h (if_pos e)
  obtain ⟨j, hj, rfl⟩ := nI_of h1
  have : j ≤ n := Nat.le_of_not_lt (fun hlt => h2 (nI_lt hlt hj))
  exact vp_in_nI (by omega) hn
theorem tt_lo {w : Int32} (hw : vp_in w 10) (h : ¬ 4 ≤ w) : vp_in w 7 := by
  have := lt_vp (m := 4) hw (by decide) (Int32.not_le.mp h)
  obtain ⟨j, hj, rfl⟩ := vp_nI this (by decide)
  exact vp_in_nI (by omega) (by decide)
theorem tt_hi {w : Int32} (hw : vp_in w 10) (h : ¬ w ≤ 6) : vp_in (w - 3) 7 := by
  obtain ⟨j, hj, rfl⟩ := vp_nI hw (by decide)
  have h6 : 6 < j := Nat.lt_of_not_le (fun e => h (nI_le (b := 6) e (by decide)))
  rw [show j = j - 3 + 1 + 1 + 1 by omega, show nI (j - 3 + 1 + 1 + 1) - 3 = nI (j - 3 + 1 + 1 + 1) - 1 - 1 - 1 by rw [Int32.sub_sub, Int32.sub_sub]; rfl, nI_pred, nI_pred, nI_pred]
  exact vp_in_nI (by omega) (by decide)
theorem to_w {w : Int32} (hw : vp_in w 5) (h : ¬ w = 4) : vp_in (w + 1) 5 := by
  obtain ⟨j, hj, rfl⟩ := vp_nI hw (by decide)
  have : j ≠ 4 := fun e => h (by rw [e]; rfl)
  rw [nI_1]
  exact vp_in_nI (by omega) (by decide)
theorem tw_vp {w : Int32} (hw : vp_in w 12) : vp_in w 267 := by
  obtain ⟨j, hj, rfl⟩ := vp_nI hw (by decide)
  exact vp_in_nI (by omega) (by decide)
theorem MI_1 {μ : Mm} {v : Int32} (h : MI μ) (hv : vp_in v 21) : MI (up2 μ 260 1 v) := by
  have e : ∀ j, j ≠ 1 → up2 μ 260 1 v 260 j = μ 260 j := fun j hj => by simp [up2, hj]
  refine ⟨?_, ?_, ?_, fun k hk => ?_⟩
  · rw [e 0 (by decide)]; exact h.1
  · rw [up2_s]; exact hv
  · rw [e 9 (by decide)]; exact h.2.2.1
  · rw [e _ (by omega)]; exact h.2.2.2 k hk
theorem MI_setO1 {μ : Mm} {k t : Int32} (h : MI μ) (hk : vp_in k 20) (ht : vp_in t 8) : MI (M_setO μ k 1 t) := by
  obtain ⟨a, ha, rfl⟩ := vp_nI hk (by decide)
  unfold M_setO
  rw [show (1 : Int32) = nI 1 from rfl, idxO, cn_nI (by omega)]
  have e : ∀ j, j ≠ 67 + 5 * a + 1 → up2 μ 260 (67 + 5 * a + 1) t 260 j = μ 260 j := fun j hj => by simp [up2, hj]
  refine ⟨?_, ?_, ?_, fun k hk => ?_⟩
  · rw [e 0 (by omega)]; exact h.1
  · rw [e 1 (by omega)]; exact h.2.1
  · rw [e 9 (by omega)]; exact h.2.2.1
  · by_cases c : k = a
    · subst c
      rw [show 67 + 5 * k + 1 = 68 + 5 * k by omega, up2_s]
      exact ht
    · rw [e _ (by omega)]; exact h.2.2.2 k hk
theorem MI_places {μ : Mm} {t pr u : Int32} (h : MI μ) (ht : vp_in t 8) (hk : vp_in (μ 260 1) 20) : MI (M_placesM μ t pr u) := by
  unfold M_placesM
  try dsimp only
  have h1 := MI_1 (v := μ 260 1 + 1) h (succ_vp hk (by decide))
  exact MI_up (MI_setO (MI_setO (MI_setO (MI_setO1 (MI_setO h1 hk (vpd rfl) (by decide)) hk ht) hk (vpd rfl) (by decide)) hk (vpd rfl) (by decide)) hk (vpd rfl) (by decide)) (by decide) (by decide) (by decide) (fun k _ => by omega)
theorem td_vp {μ : Mm} (h : MI μ) {i w : Int32} (h1 : ¬ i < 0) (h2 : ¬ μ 260 9 ≤ i) (h3 : ¬ wI w 0 4 = 0) : vp_in (167 + 5 * i + w) 267 := by
  obtain ⟨j, hj, rfl⟩ := nI_of h1
  obtain ⟨n, hn, e⟩ := vp_nI h.2.2.1 (by decide)
  rw [e] at h2
  have := nI_lt_of (x := n) (y := j) (by omega) hj (Int32.not_le.mp h2)
  exact loD (vp_in_nI (by omega) (by decide)) (wI_vp (n := 4) h3)
theorem ne_vp {x : Int32} (h : vp_in x 21) (hx : ¬ x = 20) : vp_in x 20 := by
  obtain ⟨j, hj, rfl⟩ := vp_nI h (by decide)
  have : j ≠ 20 := fun e => hx (by rw [e]; rfl)
  exact vp_in_nI (by omega) (by decide)
theorem up2k_9 (μ : Mm) (v : Int32) : up2 μ 259 3 v 259 9 = μ 259 9 := by simp [up2]
end
