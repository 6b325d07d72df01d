noncomputable section
section TROW
variable {p : Program} {l : Launch} {e : Env} {R : Room} {s : State} {m : MethodId} {args : Array Value} {below : List Frame} {meth : Method} {c : Code} {H : Heap} {locs : List Loc} {cells slots : Nat} {Q : State → Prop}
variable {cc : ByteArray} {pc : Nat} {ls : Array Slot} {rest : List Value} {G : GG} {B nL : Nat} {μ : Mm} {own : String} {c1 : Cond}
theorem m_topw {x : Int32} (k : ∀ y : Int32, y = x → W p l e R s m args below meth c H locs cells slots Q (F0 m pc ls (wv G y :: rest))) : W p l e R s m args below meth c H locs cells slots Q (F0 m pc ls (wv G x :: rest)) := k x rfl
theorem m_putw (K : KK p m c cc nL s args c1 own G B) (hP : MP G B μ H) (hS : va_S (AA B) s.heap H locs) {C E : String} {T : u_T} {N ci index k : Nat} {fs : List Fc} (hk : k < 265) (hsh : sh k = (1, ci, fs)) (hc : vwCl[ci]? = some (C, T, N)) (hin : ∀ w ∈ u_ws C T N, w ∈ TBL) (ty0 : Nat → FieldType) (hty : ∀ k, k < N → parseFieldDescriptor (T k).2.2.1 = some (ty0 k)) (hnm : ∀ a, a < N → ∀ b, b < N → a ≠ b → (T a).2.1 ≠ (T b).2.1)
    (j : Nat) (hj : j < N) (hf : fs[j]? = some (some none)) (hfin : (T j).2.2.2 = false) (hd : parseFieldDescriptor (T j).2.2.1 = some (.object E)) (hlink : Cond.fieldLink own index (T j).1 (T j).2.1 (T j).2.2.1 ∈ TBL) {x : Int32} (hdg : decode cc pc = .ok (.putfield index, 3))
    (kk : ∀ (H1 : Heap) (locs1 : List Loc), MP G B (up2 μ k j x) H1 → va_S (AA B) s.heap H1 locs1 → W p l e R s m args below meth c H1 locs1 cells slots Q (F0 m (pc + 3) ls rest)) : W p l e R s m args below meth c H locs cells slots Q (F0 m pc ls (wv G x :: .ref (B + k) :: rest)) := by
  have hP0 := mL_get G B μ hk
  rw [ce_obj G B hsh] at hP0
  have he : ce G B k (up2 μ k j x k) = .inr (ci, (fL G B fs (μ k)).set j (wv G x)) := by
    rw [ce_obj G B hsh, up2_upd, fL_set G B _ x hf]
    rfl
  have hnw : narrow (.object E) (wv G x) = wv G x := by
    unfold wv
    split <;> rfl
  have hft : fits (.object E) (wv G x) = true := by
    unfold wv
    split <;> rfl
  exact va_put K.1.1 K.1.2.1 (own := own) (ref := (T j).1) (Ts := c1 :: TBL) K.1.2.2.2.2 (fun w h => List.mem_cons_of_mem _ (hin w h)) ty0 hty hnm K.1.2.2.2.1 K.2.1 hP (mD G B μ) hS k hP0 hc j hj (K.w hlink) (fun _ h => h) hfin (v := wv G x) hd hnw hft (by rw [fL_len]; exact (List.getElem?_eq_some_iff.mp hf).1) hdg
    (fun H1 locs1 a _ b => kk H1 locs1 (by rw [mL_set G B μ hk j x he] at a; exact a) b)
theorem m_getw (K : KK p m c cc nL s args c1 own G B) (hP : MP G B μ H) {C : String} {T : u_T} {N ci index k : Nat} {fs : List Fc} (hk : k < 265) (hsh : sh k = (1, ci, fs)) (hc : vwCl[ci]? = some (C, T, N)) (hin : ∀ w ∈ u_ws C T N, w ∈ TBL) (j : Nat) (hj : j < N) (hf : fs[j]? = some (some none)) (hlink : Cond.fieldLink own index (T j).1 (T j).2.1 (T j).2.2.1 ∈ TBL) (hdg : decode cc pc = .ok (.getfield index, 3))
    (kk : W p l e R s m args below meth c H locs cells slots Q (F0 m (pc + 3) ls (wv G (μ k j) :: rest))) : W p l e R s m args below meth c H locs cells slots Q (F0 m pc ls (.ref (B + k) :: rest)) := m_get K hP hk hsh hc hin j hj hf hlink hdg kk
theorem m_nret {v : Option Value} {μ' : Mm} {ty : FieldType} (K : KK p m c cc nL s args c1 own G B) (hr : meth.sig.returnType = some ty) (hlocks : meth.locks = false) (hP : MP G B μ H) (hS : va_S (AA B) s.heap H locs) {x : Int32} (hdg : decode cc pc = .ok (.ireturn, 1)) (hn : narrow ty (.int x) = .int x) (hv : v = some (.int x)) (hm : μ' = μ) : W p l e R s m args below meth c H locs 0 0 (MF below G B v μ' args s) (F0 m pc ls [.int x]) := by
  subst hv; subst hm
  exact W.zret K.1.1 K.1.2.1 hr hn (fun t ht _ => ⟨rfl, by rw [ht]; exact hP, hS.F ht⟩) hS.2.2 hdg
/-- a call on an object that is none of the memory's -/
theorem m_cVR {y : MethodName} {bytes : ByteArray} {maxL n index fr lo a : Nat} {ret : Option FieldType} {C : String} {v : Option Value} {μ' : Mm} {As st0 : List Value} (K : KK p m c cc nL s args c1 own G B) (hP : MP G B μ H) (hS : va_S (AA B) s.heap H locs)
    (hM : CM l y (.code y bytes maxL ret) fr lo G B (.ref a :: As) μ v μ') (hrc : ∃ cell : Cell, H[a]? = some cell ∧ cell.vm.isStatics = false ∧ s.vm.findClass C = some cell.cls)
    (q1 : Cond.methodLink own index y ∈ TBL) (q2 : Cond.instanceMethod y ∈ TBL) (q3 : Cond.selects C y y ∈ TBL) (q4 : Cond.initialized C ∈ TBL) (q5 : Cond.code y bytes maxL ret ∈ TBL)
    (hd : y.cls = C ∧ y.cls ≠ "java/lang/invoke/MethodHandle" ∧ y.cls ≠ "java/lang/invoke/VarHandle" ∧ (parseMethodDescriptor y.desc).map (fun d => d.parameters.length) = some n) (hR : fr + 1 ≤ R.frames ∧ 8 + (maxL + 11) + lo ≤ R.locals)
    (hn : As.length = n) (hsize : ls.size = nL) (hst : st0 = As.reverse ++ .ref a :: rest) (hW : (rest.map fun v => v.category).sum ≤ 8) (hdg : decode cc pc = .ok (.invokevirtual index, 3)) (hf : cells ≤ R.cells ∧ slots ≤ R.slots)
    (kk : ∀ (H1 : Heap) (locs1 : List Loc), MP G B μ' H1 → va_S (AA B) s.heap H1 locs1 → W p l e R s m args below meth c H1 locs1 cells slots Q (F0 m (pc + 3) ls (v.toList ++ rest))) : W p l e R s m args below meth c H locs cells slots Q (F0 m pc ls st0) := by
  obtain ⟨hbl, hpre⟩ := m_pre hP hS K.2 (.ref a :: As)
  exact m_back (va_runV (As := As) (rest := rest) K.1 hM (cwV n K.1.2.2.2.2 (m_goodV q1 q2 q3 q4 q5) rfl rfl rfl hd hR) ⟨hbl, hrc, hpre⟩ rfl hn hsize hst (lv_room hW) hdg hf) hS kk
theorem w_recv {E : String} {a : Nat} (h : va_O E a (AA B) s s.heap) (hS : va_S (AA B) s.heap H locs) : ∃ cell : Cell, H[a]? = some cell ∧ cell.vm.isStatics = false ∧ s.vm.findClass E = some cell.cls := by
  obtain ⟨cell, h1, h2, h3, -⟩ := h.kept hS.2.1
  exact ⟨cell, h1, h2, h3⟩
/-- how many numbers a word's command has -/
theorem m_wnum (K : KK p m c cc nL s args c1 RX3 G B) (hS : va_S (AA B) s.heap H locs) {i : Nat} (hi : i < 8) (hdg : decode cc pc = .ok (.getfield 58, 3))
    (kk : W p l e R s m args below meth c H locs cells slots Q (F0 m (pc + 3) ls (.int (wdN.getD i 0) :: rest))) : W p l e R s m args below meth c H locs cells slots Q (F0 m pc ls (.ref (G.2.2.2 i) :: rest)) := by
  obtain ⟨cf, k, fi, f, cell, h1, h2, h3, h4, h5, h6⟩ := (K.2.2.2.2.2.1 i hi).2.1.kept hS.2.1
  exact va_Wgetf K.1.1 K.1.2.1 K.1.2.2.2.1 (va_Nw.use rfl K.2.2.1.2.2.1) h1 h2 h3 h4 (v := .int (wdN.getD i 0)) h5 rfl rfl hdg kk
end TROW
/-! words: their bytes; String.length and charAt over them -/
def W_byte (i k : Nat) : Int32 := (wdB.getD i []).getD k 0
theorem W_len (i : Nat) (hi : i < 8) : wdL.getD i 0 < 2 ^ 31 ∧ wdL.getD i 0 ≤ 6 := by
  revert i
  decide
theorem W_len_sh (i : Nat) (hi : i < 8) : nI (wdL.getD i 0) >>> ((0 : Int32) &&& 31) = nI (wdL.getD i 0) := by
  revert i
  decide
theorem W_ch (i k : Nat) (hi : i < 8) (hk : k < wdL.getD i 0) : ((W_byte i k &&& 255).toUInt32 % 65536).toInt32 = W_byte i k := by
  have h6 := (W_len i hi).2
  have : ∀ i, i < 8 → ∀ k, k < 6 → ((W_byte i k &&& 255).toUInt32 % 65536).toInt32 = W_byte i k := by decide +kernel
  exact this i hi k (by omega)
theorem W_nar (i k : Nat) (hi : i < 8) (hk : k < wdL.getD i 0) : narrow .char (.int (W_byte i k)) = .int (W_byte i k) := by
  have h6 := (W_len i hi).2
  have : ∀ i, i < 8 → ∀ k, k < 6 → narrow .char (.int (W_byte i k)) = .int (W_byte i k) := by decide +kernel
  exact this i hi k (by omega)
def W_stands (μ : Mm) (q n_q i : Nat) (st ln : Int32) : Int32 :=
  if ln = nI (wdL.getD i 0) then (if ∀ j, j < wdL.getD i 0 → R_get μ q n_q (st + nI j) = W_byte i j then 1 else 0) else 0
def W_of (μ : Mm) (q n_q : Nat) (st ln : Int32) : Int32 := fstI (fun k => decide (¬ W_stands μ q n_q k st ln = 0)) 8
theorem fst_lt {f : Nat → Bool} : ∀ {n k : Nat}, fst f n = some k → k < n ∧ f k = true
  | 0, k, h => by cases h
  | n + 1, k, h => by
    unfold fst at h
    split at h
    · rename_i j e
      cases h
      exact ⟨Nat.lt_succ_of_lt (fst_lt e).1, (fst_lt e).2⟩
    · split at h
      · cases h
        exact ⟨Nat.lt_succ_self _, by assumption⟩
      · cases h
theorem W_of_lt {μ : Mm} {q n_q : Nat} {st ln : Int32} (h : ¬ W_of μ q n_q st ln < 0) : ∃ k, k < 8 ∧ W_of μ q n_q st ln = nI k := by
  unfold W_of fstI at h ⊢
  split
  · rename_i k e
    exact ⟨k, (fst_lt e).1, rfl⟩
  · rename_i e
    rw [e] at h
    exact absurd (by decide) h
/-! the text at 254: length 0, word 1, cursor 4, fault 5; numbers 255, bytes 257 -/
def D_faultOfByte (μ : Mm) (v : Int32) : Int32 := if wI v 0 127 = 0 then 2 else if μ 254 0 < 150 then 0 else 3
def D_appendM (μ : Mm) (v : Int32) : Mm := up2 (R_put μ 257 150 (μ 254 0) v) 254 0 (R_put μ 257 150 (μ 254 0) v 254 0 + 1)
def D_rewind (μ : Mm) : Mm := up2 (up2 μ 254 4 0) 254 5 (-1)
def D_byteAt (μ : Mm) (i : Int32) : Int32 := if i < μ 254 0 then R_get μ 257 150 i else -1
def D_next (μ : Mm) : Mm := up2 μ 254 4 (μ 254 4 + 1)
def D_skip : Nat → Mm → Mm
  | 0, μ => μ
  | n + 1, μ => if μ 254 4 < μ 254 0 then if D_byteAt μ (μ 254 4) = 32 then D_skip n (D_next μ) else μ else μ
def D_skipSpaces (μ : Mm) : Mm := opq (D_skip (cn (μ 254 0)) μ)
theorem D_skipSpaces_eq (μ : Mm) : D_skipSpaces μ = D_skip (cn (μ 254 0)) μ := opq_eq _
def D_readByte (μ : Mm) (w : Int32) : Int32 := if D_byteAt μ (μ 254 4) = w then 1 else 0
def D_readByteM (μ : Mm) (w : Int32) : Mm := if D_byteAt μ (μ 254 4) = w then D_next μ else up2 μ 254 5 (μ 254 4)
def D_let : Nat → Mm → Mm
  | 0, μ => μ
  | n + 1, μ => if μ 254 4 < μ 254 0 then if wI (D_byteAt μ (μ 254 4)) 97 122 = 0 then μ else D_let n (D_next μ) else μ
def D_letters (μ : Mm) : Mm := opq (D_let (cn (μ 254 0)) μ)
theorem D_letters_eq (μ : Mm) : D_letters μ = D_let (cn (μ 254 0)) μ := opq_eq _
def D_word (μ : Mm) : Int32 := opq (W_of (D_letters μ) 257 150 (μ 254 4) (D_letters μ 254 4 - μ 254 4))
theorem D_word_eq (μ : Mm) : D_word μ = W_of (D_letters μ) 257 150 (μ 254 4) (D_letters μ 254 4 - μ 254 4) := opq_eq _
def D_readWord (μ : Mm) : Int32 := if D_word μ < 0 then 0 else 1
def D_readWordM (μ : Mm) : Mm := if D_word μ < 0 then up2 (up2 (D_letters μ) 254 1 (D_word μ)) 254 5 (μ 254 4) else up2 (D_letters μ) 254 1 (D_word μ)
def D_dig : Nat → Mm → Int32 → Int32 → Mm × Int32 × Int32
  | 0, μ, v, d => (μ, v, d)
  | n + 1, μ, v, d => if wI (D_byteAt μ (μ 254 4)) 48 57 = 0 then (μ, v, d) else D_dig n (D_next μ) (v * 10 + D_byteAt μ (μ 254 4) - 48) (d + 1)
def D_numAt (μ : Mm) : Mm × Int32 × Int32 := opq (D_dig 3 (D_skipSpaces (D_readByteM μ 32)) 0 0)
theorem D_numAt_eq (μ : Mm) : D_numAt μ = D_dig 3 (D_skipSpaces (D_readByteM μ 32)) 0 0 := opq_eq _
def D_readNumber (μ : Mm) : Int32 := if D_readByte μ 32 = 0 then 0 else if 0 < (D_numAt μ).2.2 then 1 else 0
def D_readNumberM (μ : Mm) (i : Int32) : Mm :=
  if D_readByte μ 32 = 0 then D_readByteM μ 32
  else
    let μ1 := R_put (D_numAt μ).1 255 3 i (D_numAt μ).2.1
    if (D_numAt μ).2.2 = 0 then up2 μ1 254 5 (μ1 254 4) else μ1
def D_nums : Nat → Mm → Int32 → Mm × Int32
  | 0, μ, _ => (μ, 1)
  | n + 1, μ, i => if D_readNumber μ = 0 then (D_readNumberM μ i, 0) else D_nums n (D_readNumberM μ i) (i + 1)
def D_wanted (w : Int32) : Int32 := wdN.getD (cn w) 0
def D_cmd3 (μ : Mm) : Mm × Int32 := opq (D_nums (cn (D_wanted (D_readWordM μ 254 1))) (D_readWordM μ) 0)
theorem D_cmd3_eq (μ : Mm) : D_cmd3 μ = D_nums (cn (D_wanted (D_readWordM μ 254 1))) (D_readWordM μ) 0 := opq_eq _
def D_cmd2 (μ : Mm) : Mm × Int32 :=
  if D_readWord μ = 0 then (D_readWordM μ, 0)
  else if (D_cmd3 μ).2 = 0 then D_cmd3 μ
  else (D_readByteM (D_skipSpaces (D_cmd3 μ).1) 59, D_readByte (D_skipSpaces (D_cmd3 μ).1) 59)
def D_readCommand (μ : Mm) : Mm × Int32 := if D_skipSpaces μ 254 4 = D_skipSpaces μ 254 0 then (D_skipSpaces μ, 0) else D_cmd2 (D_skipSpaces μ)
def D_ff : Nat → Mm → Mm
  | 0, μ => μ
  | n + 1, μ => if (D_readCommand μ).2 = 0 then (D_readCommand μ).1 else D_ff n (D_readCommand μ).1
def D_findFault (μ : Mm) : Mm := D_ff (NN 150) (D_rewind μ)
theorem cur_end {L x : Int32} (h : cn L ≤ cn x) (h1 : x < L) (h2 : ¬ x < 0) : False := by
  obtain ⟨j, hj, rfl⟩ := nI_of h2
  have := nI_lt_cn hj h1
  rw [cn_nI hj] at h
  omega
theorem cur_step {L x : Int32} {n : Nat} (h : cn L ≤ cn x + (n + 1)) (h1 : x < L) (h2 : ¬ x < 0) : cn L ≤ cn (x + 1) + n := by
  obtain ⟨j, hj, rfl⟩ := nI_of h2
  have h3 := nI_lt_cn hj h1
  have h4 := cn_lt L
  rw [cn_nI hj] at h
  rw [nI_1, cn_nI (by omega)]
  omega
theorem R_get_neg {μ : Mm} {k n : Nat} {i : Int32} (h : i < 0) : R_get μ k n i = 0 := by
  unfold R_get rg
  rw [if_pos h]
theorem byte_neg {μ : Mm} {i : Int32} (h : i < 0) : D_byteAt μ i = 0 ∨ D_byteAt μ i = -1 := by
  unfold D_byteAt
  split
  · exact Or.inl (R_get_neg h)
  · exact Or.inr rfl
theorem byte_nn {μ : Mm} {i v : Int32} (h : D_byteAt μ i = v) (hv : 0 < v) : ¬ i < 0 := fun hi => by
  rcases byte_neg (μ := μ) hi with e | e
  · rw [e] at h
    subst h
    exact absurd hv (by decide)
  · rw [e] at h
    subst h
    exact absurd hv (by decide)
theorem byte_wnn {μ : Mm} {i lo hi : Int32} (h : ¬ wI (D_byteAt μ i) lo hi = 0) (hv : 0 < lo) : ¬ i < 0 := fun hn => by
  apply h
  unfold wI
  rw [if_pos]
  rcases byte_neg (μ := μ) hn with e | e
  · rw [e]; exact hv
  · rw [e]
    exact Int32.lt_trans (by decide) hv
theorem D_next_0 (μ : Mm) : D_next μ 254 0 = μ 254 0 := by simp [D_next, up2]
theorem D_next_4 (μ : Mm) : D_next μ 254 4 = μ 254 4 + 1 := by simp [D_next, up2]
theorem rw_word {μ : Mm} (h : ¬ D_readWord μ = 0) : ∃ k, k < 8 ∧ D_readWordM μ 254 1 = nI k := by
  unfold D_readWord at h
  by_cases c : D_word μ < 0
  · rw [if_pos c] at h
    exact absurd rfl h
  · unfold D_readWordM
    rw [if_neg c, up2_s]
    rw [D_word_eq] at c ⊢
    exact W_of_lt c
theorem wdN_le (k : Nat) (hk : k < 8) : ∃ j, j ≤ 3 ∧ wdN.getD k 0 = nI j := by
  have : ∀ k, k < 8 → (wdN.getD k 0 = nI 0 ∨ wdN.getD k 0 = nI 1 ∨ wdN.getD k 0 = nI 2 ∨ wdN.getD k 0 = nI 3) := by decide
  rcases this k hk with h | h | h | h
  · exact ⟨0, by omega, h⟩
  · exact ⟨1, by omega, h⟩
  · exact ⟨2, by omega, h⟩
  · exact ⟨3, by omega, h⟩
theorem vp_cn {k : Int32} {n : Nat} (h : vp_in k n) : cn k < n := Nat.lt_of_not_le (fun e => h (Or.inr e))
theorem ck_lt {k : Int32} {n : Nat} (hn : n < 2 ^ 31) (h : vp_in k n) : k < nI n := by
  have h1 : ¬ k < 0 := fun e => h (Or.inl e)
  have h2 := vp_cn h
  obtain ⟨j, hj, rfl⟩ := nI_of h1
  rw [cn_nI hj] at h2
  exact nI_lt h2 hn
theorem wv_nI {G : GG} {k : Nat} (hk : k < 8) : wv G (nI k) = .ref (G.2.2.2 k) := by
  unfold wv
  rw [if_neg (nI_pos (by omega)), nI_clamp (by omega)]
theorem rcmd_end {μ : Mm} (h : D_skipSpaces μ 254 4 = D_skipSpaces μ 254 0) : D_readCommand μ = (D_skipSpaces μ, 0) := if_pos h
theorem rcmd_w {μ : Mm} (h : ¬ D_skipSpaces μ 254 4 = D_skipSpaces μ 254 0) (h2 : D_readWord (D_skipSpaces μ) = 0) : D_readCommand μ = (D_readWordM (D_skipSpaces μ), 0) := (if_neg h).trans (if_pos h2)
theorem rcmd_no {μ ν : Mm} (h : ¬ D_skipSpaces μ 254 4 = D_skipSpaces μ 254 0) (h2 : ¬ D_readWord (D_skipSpaces μ) = 0) (h3 : D_cmd3 (D_skipSpaces μ) = (ν, 0)) : D_readCommand μ = (ν, 0) :=
  (if_neg h).trans ((if_neg h2).trans ((if_pos (by rw [h3])).trans h3))
theorem rcmd_ok {μ ν : Mm} (h : ¬ D_skipSpaces μ 254 4 = D_skipSpaces μ 254 0) (h2 : ¬ D_readWord (D_skipSpaces μ) = 0) (h3 : D_cmd3 (D_skipSpaces μ) = (ν, 1)) : D_readCommand μ = (D_readByteM (D_skipSpaces ν) 59, D_readByte (D_skipSpaces ν) 59) := by
  refine (if_neg h).trans ((if_neg h2).trans ((if_neg (by rw [h3]; exact (by decide : ¬ (1 : Int32) = 0))).trans ?_))
  rw [h3]
theorem rcmd_endM {μ : Mm} (h : D_skipSpaces μ 254 4 = D_skipSpaces μ 254 0) : (D_readCommand μ).1 = D_skipSpaces μ := by rw [rcmd_end h]
theorem rcmd_endV {μ : Mm} (h : D_skipSpaces μ 254 4 = D_skipSpaces μ 254 0) : (D_readCommand μ).2 = 0 := by rw [rcmd_end h]
theorem rcmd_wM {μ : Mm} (h : ¬ D_skipSpaces μ 254 4 = D_skipSpaces μ 254 0) (h2 : D_readWord (D_skipSpaces μ) = 0) : (D_readCommand μ).1 = D_readWordM (D_skipSpaces μ) := by rw [rcmd_w h h2]
theorem rcmd_wV {μ : Mm} (h : ¬ D_skipSpaces μ 254 4 = D_skipSpaces μ 254 0) (h2 : D_readWord (D_skipSpaces μ) = 0) : (D_readCommand μ).2 = 0 := by rw [rcmd_w h h2]
theorem rcmd_noM {μ ν : Mm} (h : ¬ D_skipSpaces μ 254 4 = D_skipSpaces μ 254 0) (h2 : ¬ D_readWord (D_skipSpaces μ) = 0) (h3 : D_cmd3 (D_skipSpaces μ) = (ν, 0)) : (D_readCommand μ).1 = ν := by rw [rcmd_no h h2 h3]
theorem rcmd_noV {μ ν : Mm} (h : ¬ D_skipSpaces μ 254 4 = D_skipSpaces μ 254 0) (h2 : ¬ D_readWord (D_skipSpaces μ) = 0) (h3 : D_cmd3 (D_skipSpaces μ) = (ν, 0)) : (D_readCommand μ).2 = 0 := by rw [rcmd_no h h2 h3]
theorem rcmd_okM {μ ν : Mm} (h : ¬ D_skipSpaces μ 254 4 = D_skipSpaces μ 254 0) (h2 : ¬ D_readWord (D_skipSpaces μ) = 0) (h3 : D_cmd3 (D_skipSpaces μ) = (ν, 1)) : (D_readCommand μ).1 = D_readByteM (D_skipSpaces ν) 59 := by rw [rcmd_ok h h2 h3]
theorem rcmd_okV {μ ν : Mm} (h : ¬ D_skipSpaces μ 254 4 = D_skipSpaces μ 254 0) (h2 : ¬ D_readWord (D_skipSpaces μ) = 0) (h3 : D_cmd3 (D_skipSpaces μ) = (ν, 1)) : (D_readCommand μ).2 = D_readByte (D_skipSpaces ν) 59 := by rw [rcmd_ok h h2 h3]
theorem cmd3_ok {μ ν : Mm} {i : Int32} (h : D_nums (cn (D_wanted (D_readWordM μ 254 1))) (D_readWordM μ) 0 = D_nums 0 ν i) : D_cmd3 μ = (ν, 1) := (D_cmd3_eq μ).trans h
theorem cmd3_no {μ ν : Mm} {i : Int32} {n : Nat} (h : D_nums (cn (D_wanted (D_readWordM μ 254 1))) (D_readWordM μ) 0 = D_nums (n + 1) ν i) (hc : D_readNumber ν = 0) : D_cmd3 μ = (D_readNumberM ν i, 0) := (D_cmd3_eq μ).trans (h.trans (if_pos hc))
end
