noncomputable section
section TROW
variable {p : Program} {l : Launch} {e : Env} {R : Room} {s : State} {m : MethodId} {args : Array Value} {below : List Frame} {meth : Method} {c : Code} {H : Heap} {locs : List Loc} {cells slots : Nat} {Q : State → Prop}
variable {cc : ByteArray} {pc : Nat} {ls : Array Slot} {rest : List Value} {G : GG} {B nL : Nat} {μ : Mm} {own : String} {c1 : Cond}
theorem m_topw {x : Int32} (k : ∀ y : Int32, y = x → W p l e R s m args below meth c H locs cells slots Q (F0 m pc ls (wv G y :: rest))) : W p l e R s m args below meth c H locs cells slots Q (F0 m pc ls (wv G x :: rest)) := k x rfl
theorem m_putw (K : KK p m c cc nL s args c1 own G B) (hP : MP G B μ H) (hS : va_S (AA B) s.heap H locs) {C E : String} {T : u_T} {N ci index k : Nat} {fs : List Fc} (hk : k < 265) (hsh : sh k = (1, ci, fs)) (hc : vwCl[ci]? = some (C, T, N)) (hin : ∀ w ∈ u_ws C T N, w ∈ TBL) (ty0 : Nat → FieldType) (hty : ∀ k, k < N → parseFieldDescriptor (T k).2.2.1 = some (ty0 k)) (hnm : ∀ a, a < N → ∀ b, b < N → a ≠ b → (T a).2.1 ≠ (T b).2.1)
    (j : Nat) (hj : j < N) (hf : fs[j]? = some (some none)) (hfin : (T j).2.2.2 = false) (hd : parseFieldDescriptor (T j).2.2.1 = some (.object E)) (hlink : Cond.fieldLink own index (T j).1 (T j).2.1 (T j).2.2.1 ∈ TBL) {x : Int32} (hdg : decode cc pc = .ok (.putfield index, 3))
    (kk : ∀ (H1 : Heap) (locs1 : List Loc), MP G B (up2 μ k j x) H1 → va_S (AA B) s.heap H1 locs1 → W p l e R s m args below meth c H1 locs1 cells slots Q (F0 m (pc + 3) ls rest)) : W p l e R s m args below meth c H locs cells slots Q (F0 m pc ls (wv G x :: .ref (B + k) :: rest)) := by
  have hP0 := mL_get G B μ hk
  rw [ce_obj G B hsh] at hP0
  have he : ce G B k (up2 μ k j x k) = .inr (ci, (fL G B fs (μ k)).set j (wv G x)) := by
    rw [ce_obj G B hsh, up2_upd, fL_set G B _ x hf]
    rfl
  have hnw : narrow (.object E) (wv G x) = wv G x := by
    unfold wv
    split <;> rfl
  have hft : fits (.object E) (wv G x) = true := by
    unfold wv
    split <;> rfl
  exact va_put K.1.1 K.1.2.1 (own := own) (ref := (T j).1) (Ts := c1 :: TBL) K.1.2.2.2.2 (fun w h => List.mem_cons_of_mem _ (hin w h)) ty0 hty hnm K.1.2.2.2.1 K.2.1 hP (mD G B μ) hS k hP0 hc j hj (K.w hlink) (fun _ h => h) hfin (v := wv G x) hd hnw hft (by rw [fL_len]; exact (List.getElem?_eq_some_iff.mp hf).1) hdg
    (fun H1 locs1 a _ b => kk H1 locs1 (by rw [mL_set G B μ hk j x he] at a; exact a) b)
theorem m_nret {v : Option Value} {μ' : Mm} {ty : FieldType} (K : KK p m c cc nL s args c1 own G B) (hr : meth.sig.returnType = some ty) (hlocks : meth.locks = false) (hP : MP G B μ H) (hS : va_S (AA B) s.heap H locs) {x : Int32} (hdg : decode cc pc = .ok (.ireturn, 1)) (hn : narrow ty (.int x) = .int x) (hv : v = some (.int x)) (hm : μ' = μ) : W p l e R s m args below meth c H locs 0 0 (MF below G B v μ' args s) (F0 m pc ls [.int x]) := by
  subst hv; subst hm
  exact W.zret K.1.1 K.1.2.1 hr hn (fun t ht _ => ⟨rfl, by rw [ht]; exact hP, hS.F ht⟩) hS.2.2 hdg
/-- a call on an object that is none of the memory's -/
theorem m_cVR {y : MethodName} {bytes : ByteArray} {maxL n index fr lo a : Nat} {ret : Option FieldType} {C : String} {v : Option Value} {μ' : Mm} {As st0 : List Value} (K : KK p m c cc nL s args c1 own G B) (hP : MP G B μ H) (hS : va_S (AA B) s.heap H locs)
    (hM : CM l y (.code y bytes maxL ret) fr lo G B (.ref a :: As) μ v μ') (hrc : ∃ cell : Cell, H[a]? = some cell ∧ cell.vm.isStatics = false ∧ s.vm.findClass C = some cell.cls)
    (q1 : Cond.methodLink own index y ∈ TBL) (q2 : Cond.instanceMethod y ∈ TBL) (q3 : Cond.selects C y y ∈ TBL) (q4 : Cond.initialized C ∈ TBL) (q5 : Cond.code y bytes maxL ret ∈ TBL)
    (hd : y.cls = C ∧ y.cls ≠ "java/lang/invoke/MethodHandle" ∧ y.cls ≠ "java/lang/invoke/VarHandle" ∧ (parseMethodDescriptor y.desc).map (fun d => d.parameters.length) = some n) (hR : fr + 1 ≤ R.frames ∧ 8 + (maxL + 11) + lo ≤ R.locals)
    (hn : As.length = n) (hsize : ls.size = nL) (hst : st0 = As.reverse ++ .ref a :: rest) (hW : (rest.map fun v => v.category).sum ≤ 8) (hdg : decode cc pc = .ok (.invokevirtual index, 3)) (hf : cells ≤ R.cells ∧ slots ≤ R.slots)
    (kk : ∀ (H1 : Heap) (locs1 : List Loc), MP G B μ' H1 → va_S (AA B) s.heap H1 locs1 → W p l e R s m args below meth c H1 locs1 cells slots Q (F0 m (pc + 3) ls (v.toList ++ rest))) : W p l e R s m args below meth c H locs cells slots Q (F0 m pc ls st0) := by
  obtain ⟨hbl, hpre⟩ := m_pre hP hS K.2 (.ref a :: As)
  exact m_back (va_runV (As := As) (rest := rest) K.1 hM (cwV n K.1.2.2.2.2 (m_goodV q1 q2 q3 q4 q5) rfl rfl rfl hd hR) ⟨hbl, hrc, hpre⟩ rfl hn hsize hst (lv_room hW) hdg hf) hS kk
theorem w_recv {E : String} {a : Nat} (h : va_O E a (AA B) s s.heap) (hS : va_S (AA B) s.heap H locs) : ∃ cell : Cell, H[a]? = some cell ∧ cell.vm.isStatics = false ∧ s.vm.findClass E = some cell.cls := by
  obtain ⟨cell, h1, h2, h3, -⟩ := h.kept hS.2.1
  exact ⟨cell, h1, h2, h3⟩
/-- how many numbers a word's command has -/
theorem m_wnum (K : KK p m c cc nL s args c1 RX3 G B) (hS : va_S (AA B) s.heap H locs) {i : Nat} (hi : i < 8) (hdg : decode cc pc = .ok (.getfield 58, 3))
    (kk : W p l e R s m args below meth c H locs cells slots Q (F0 m (pc + 3) ls (.int (wdN.getD i 0) :: rest))) : W p l e R s m args below meth c H locs cells slots Q (F0 m pc ls (.ref (G.2.2.2 i) :: rest)) := by
  obtain ⟨cf, k, fi, f, cell, h1, h2, h3, h4, h5, h6⟩ := (K.2.2.2.2.2.1 i hi).2.1.kept hS.2.1
  exact va_Wgetf K.1.1 K.1.2.1 K.1.2.2.2.1 (va_Nw.use rfl K.2.2.1.2.2.1) h1 h2 h3 h4 (v := .int (wdN.getD i 0)) h5 rfl rfl hdg kk
end TROW
/-! words: their bytes; String.length and charAt over them -/
def W_byte (i k : Nat) : Int32 := (wdB.getD i []).getD k 0
theorem W_len (i : Nat) (hi : i < 8) : wdL.getD i 0 < 2 ^ 31 ∧ wdL.getD i 0 ≤ 6 := by
  revert i
  decide
theorem W_len_sh (i : Nat) (hi : i < 8) : nI (wdL.getD i 0) >>> ((0 : Int32) &&& 31) = nI (wdL.getD i 0) := by
  revert i
  decide
theorem W_ch (i k : Nat) (hi : i < 8) (hk : k < wdL.getD i 0) : ((W_byte i k &&& 255).toUInt32 % 65536).toInt32 = W_byte i k := by
  have h6 := (W_len i hi).2
  have : ∀ i, i < 8 → ∀ k, k < 6 → ((W_byte i k &&& 255).toUInt32 % 65536).toInt32 = W_byte i k := by decide +kernel
  exact this i hi k (by omega)
theorem W_nar (i k : Nat) (hi : i < 8) (hk : k < wdL.getD i 0) : narrow .char (.int (W_byte i k)) = .int (W_byte i k) := by
  have h6 := (W_len i hi).2
  have : ∀ i, i < 8 → ∀ k, k < 6 → narrow .char (.int (W_byte i k)) = .int (W_byte i k) := by decide +kernel
  exact this i hi k (by omega)
def W_stands (μ : Mm) (q n_q i : Nat) (st ln : Int32) : Int32 :=
  if ln = nI (wdL.getD i 0) then (if ∀ j, j < wdL.getD i 0 → R_get μ q n_q (st + nI j) = W_byte i j then 1 else 0) else 0
def W_of (μ : Mm) (q n_q : Nat) (st ln : Int32) : Int32 := fstI (fun k => decide (¬ W_stands μ q n_q k st ln = 0)) 8
theorem fst_lt {f : Nat → Bool} : ∀ {n k : Nat}, fst f n = some k → k < n ∧ f k = true
  | 0, k, h => by cases h
  | n + 1, k, h => by
    unfold fst at h
    split at h
    · rename_i j e
      cases h
      exact ⟨Nat.lt_succ_of_lt (fst_lt e).1, (fst_lt e).2⟩
    · split at h
      · cases h
        exact ⟨Nat.lt_succ_self _, by assumption⟩
      · cases h
theorem W_of_lt {μ : Mm} {q n_q : Nat} {st ln : Int32} (h : ¬ W_of μ q n_q st ln < 0) : ∃ k, k < 8 ∧ W_of μ q n_q st ln = nI k := by
  unfold W_of fstI at h ⊢
  split
  · rename_i k e
    exact ⟨k, (fst_lt e).1, rfl⟩
  · rename_i e
    rw [e] at h
    exact absurd (by decide) h
/-! the text at 254: length 0, word 1, cursor 4, fault 5; numbers 255, bytes 257 -/
def D_faultOfByte (μ : Mm) (v : Int32) : Int32 := if wI v 0 127 = 0 then 2 else if μ 254 0 < 150 then 0 else 3
def D_appendM (μ : Mm) (v : Int32) : Mm := up2 (R_put μ 257 150 (μ 254 0) v) 254 0 (R_put μ 257 150 (μ 254 0) v 254 0 + 1)
def D_rewind (μ : Mm) : Mm := up2 (up2 μ 254 4 0) 254 5 (-1)
def D_byteAt (μ : Mm) (i : Int32) : Int32 := if i < μ 254 0 then R_get μ 257 150 i else -1
def D_next (μ : Mm) : Mm := up2 μ 254 4 (μ 254 4 + 1)
def D_skip : Nat → Mm → Mm
  | 0, μ => μ
  | n + 1, μ => if μ 254 4 < μ 254 0 then if D_byteAt μ (μ 254 4) = 32 then D_skip n (D_next μ) else μ else μ
def D_skipSpaces (μ : Mm) : Mm := D_skip (cn (μ 254 0)) μ
def D_readByte (μ : Mm) (w : Int32) : Int32 := if D_byteAt μ (μ 254 4) = w then 1 else 0
def D_readByteM (μ : Mm) (w : Int32) : Mm := if D_byteAt μ (μ 254 4) = w then D_next μ else up2 μ 254 5 (μ 254 4)
def D_let : Nat → Mm → Mm
  | 0, μ => μ
  | n + 1, μ => if μ 254 4 < μ 254 0 then if wI (D_byteAt μ (μ 254 4)) 97 122 = 0 then μ else D_let n (D_next μ) else μ
def D_letters (μ : Mm) : Mm := D_let (cn (μ 254 0)) μ
def D_word (μ : Mm) : Int32 := W_of (D_letters μ) 257 150 (μ 254 4) (D_letters μ 254 4 - μ 254 4)
def D_readWord (μ : Mm) : Int32 := if D_word μ < 0 then 0 else 1
def D_readWordM (μ : Mm) : Mm := if D_word μ < 0 then up2 (up2 (D_letters μ) 254 1 (D_word μ)) 254 5 (μ 254 4) else up2 (D_letters μ) 254 1 (D_word μ)
def D_dig : Nat → Mm → Int32 → Int32 → Mm × Int32 × Int32
  | 0, μ, v, d => (μ, v, d)
  | n + 1, μ, v, d => if wI (D_byteAt μ (μ 254 4)) 48 57 = 0 then (μ, v, d) else D_dig n (D_next μ) (v * 10 + D_byteAt μ (μ 254 4) - 48) (d + 1)
def D_numAt (μ : Mm) : Mm × Int32 × Int32 := D_dig 3 (D_skipSpaces (D_readByteM μ 32)) 0 0
def D_readNumber (μ : Mm) : Int32 := if D_readByte μ 32 = 0 then 0 else if 0 < (D_numAt μ).2.2 then 1 else 0
def D_readNumberM (μ : Mm) (i : Int32) : Mm :=
  if D_readByte μ 32 = 0 then D_readByteM μ 32
  else
    let μ1 := R_put (D_numAt μ).1 255 3 i (D_numAt μ).2.1
    if (D_numAt μ).2.2 = 0 then up2 μ1 254 5 (μ1 254 4) else μ1
def D_nums : Nat → Mm → Int32 → Mm × Int32
  | 0, μ, _ => (μ, 1)
  | n + 1, μ, i => if D_readNumber μ = 0 then (D_readNumberM μ i, 0) else D_nums n (D_readNumberM μ i) (i + 1)
def D_wanted (w : Int32) : Int32 := wdN.getD (cn w) 0
def D_cmd3 (μ : Mm) : Mm × Int32 := D_nums (cn (D_wanted (D_readWordM μ 254 1))) (D_readWordM μ) 0
def D_cmd2 (μ : Mm) : Mm × Int32 :=
  if D_readWord μ = 0 then (D_readWordM μ, 0)
  else if (D_cmd3 μ).2 = 0 then D_cmd3 μ
  else (D_readByteM (D_skipSpaces (D_cmd3 μ).1) 59, D_readByte (D_skipSpaces (D_cmd3 μ).1) 59)
def D_readCommand (μ : Mm) : Mm × Int32 := if D_skipSpaces μ 254 4 = D_skipSpaces μ 254 0 then (D_skipSpaces μ, 0) else D_cmd2 (D_skipSpaces μ)
def D_ff : Nat → Mm → Mm
  | 0, μ => μ
  | n + 1, μ => if (D_readCommand μ).2 = 0 then (D_readCommand μ).1 else D_ff n (D_readCommand μ).1
def D_findFault (μ : Mm) : Mm := D_ff (NN 150) (D_rewind μ)
theorem cur_end {L x : Int32} (h : cn L ≤ cn x) (h1 : x < L) (h2 : ¬ x < 0) : False := by
  obtain ⟨j, hj, rfl⟩ := nI_of h2
  have := nI_lt_cn hj h1
  rw [cn_nI hj] at h
  omega
theorem cur_step {L x : Int32} {n : Nat} (h : cn L ≤ cn x + (n + 1)) (h1 : x < L) (h2 : ¬ x < 0) : cn L ≤ cn (x + 1) + n := by
  obtain ⟨j, hj, rfl⟩ := nI_of h2
  have h3 := nI_lt_cn hj h1
  have h4 := cn_lt L
  rw [cn_nI hj] at h
  rw [nI_1, cn_nI (by omega)]
  omega
theorem R_get_neg {μ : Mm} {k n : Nat} {i : Int32} (h : i < 0) : R_get μ k n i = 0 := by
  unfold R_get rg
  rw [if_pos h]
theorem byte_neg {μ : Mm} {i : Int32} (h : i < 0) : D_byteAt μ i = 0 ∨ D_byteAt μ i = -1 := by
  unfold D_byteAt
  split
  · exact Or.inl (R_get_neg h)
  · exact Or.inr rfl
theorem byte_nn {μ : Mm} {i v : Int32} (h : D_byteAt μ i = v) (hv : 0 < v) : ¬ i < 0 := fun hi => by
  rcases byte_neg (μ := μ) hi with e | e
  · rw [e] at h
    subst h
    exact absurd hv (by decide)
  · rw [e] at h
    subst h
    exact absurd hv (by decide)
theorem byte_wnn {μ : Mm} {i lo hi : Int32} (h : ¬ wI (D_byteAt μ i) lo hi = 0) (hv : 0 < lo) : ¬ i < 0 := fun hn => by
  apply h
  unfold wI
  rw [if_pos]
  rcases byte_neg (μ := μ) hn with e | e
  · rw [e]; exact hv
  · rw [e]
    exact Int32.lt_trans (by decide) hv
theorem D_next_0 (μ : Mm) : D_next μ 254 0 = μ 254 0 := by simp [D_next, up2]
theorem D_next_4 (μ : Mm) : D_next μ 254 4 = μ 254 4 + 1 := by simp [D_next, up2]
theorem rw_word {μ : Mm} (h : ¬ D_readWord μ = 0) : ∃ k, k < 8 ∧ D_readWordM μ 254 1 = nI k := by
  unfold D_readWord at h
  by_cases c : D_word μ < 0
  · rw [if_pos c] at h
    exact absurd rfl h
  · unfold D_readWordM
    rw [if_neg c, up2_s]
    exact W_of_lt c
theorem wdN_le (k : Nat) (hk : k < 8) : ∃ j, j ≤ 3 ∧ wdN.getD k 0 = nI j := by
  have : ∀ k, k < 8 → (wdN.getD k 0 = nI 0 ∨ wdN.getD k 0 = nI 1 ∨ wdN.getD k 0 = nI 2 ∨ wdN.getD k 0 = nI 3) := by decide
  rcases this k hk with h | h | h | h
  · exact ⟨0, by omega, h⟩
  · exact ⟨1, by omega, h⟩
  · exact ⟨2, by omega, h⟩
  · exact ⟨3, by omega, h⟩
theorem vp_cn {k : Int32} {n : Nat} (h : vp_in k n) : cn k < n := Nat.lt_of_not_le (fun e => h (Or.inr e))
theorem ck_lt {k : Int32} {n : Nat} (hn : n < 2 ^ 31) (h : vp_in k n) : k < nI n := by
  have h1 : ¬ k < 0 := fun e => h (Or.inl e)
  have h2 := vp_cn h
  obtain ⟨j, hj, rfl⟩ := nI_of h1
  rw [cn_nI hj] at h2
  exact nI_lt h2 hn
theorem wv_nI {G : GG} {k : Nat} (hk : k < 8) : wv G (nI k) = .ref (G.2.2.2 k) := by
  unfold wv
  rw [if_neg (nI_pos (by omega)), nI_clamp (by omega)]
theorem hv_J0_charAt_5068e : yJ0_charAt_5068e.cls = RJ0 ∧ yJ0_charAt_5068e.cls ≠ "java/lang/invoke/MethodHandle" ∧ yJ0_charAt_5068e.cls ≠ "java/lang/invoke/VarHandle" ∧ (parseMethodDescriptor yJ0_charAt_5068e.desc).map (fun d => d.parameters.length) = some 1 := ⟨rfl, by decide, by decide, by decide +kernel⟩

theorem hv_J0_checkIndex_df160 : yJ0_checkIndex_df160.cls = RJ0 ∧ yJ0_checkIndex_df160.cls ≠ "java/lang/invoke/MethodHandle" ∧ yJ0_checkIndex_df160.cls ≠ "java/lang/invoke/VarHandle" ∧ (parseMethodDescriptor yJ0_checkIndex_df160.desc).map (fun d => d.parameters.length) = some 2 := ⟨rfl, by decide, by decide, by decide +kernel⟩

theorem hv_J0_coder_7d493 : yJ0_coder_7d493.cls = RJ0 ∧ yJ0_coder_7d493.cls ≠ "java/lang/invoke/MethodHandle" ∧ yJ0_coder_7d493.cls ≠ "java/lang/invoke/VarHandle" ∧ (parseMethodDescriptor yJ0_coder_7d493.desc).map (fun d => d.parameters.length) = some 0 := ⟨rfl, by decide, by decide, by decide +kernel⟩

theorem hv_J0_isLatin1_aae02 : yJ0_isLatin1_aae02.cls = RJ0 ∧ yJ0_isLatin1_aae02.cls ≠ "java/lang/invoke/MethodHandle" ∧ yJ0_isLatin1_aae02.cls ≠ "java/lang/invoke/VarHandle" ∧ (parseMethodDescriptor yJ0_isLatin1_aae02.desc).map (fun d => d.parameters.length) = some 0 := ⟨rfl, by decide, by decide, by decide +kernel⟩

theorem hv_J0_length_8abf5 : yJ0_length_8abf5.cls = RJ0 ∧ yJ0_length_8abf5.cls ≠ "java/lang/invoke/MethodHandle" ∧ yJ0_length_8abf5.cls ≠ "java/lang/invoke/VarHandle" ∧ (parseMethodDescriptor yJ0_length_8abf5.desc).map (fun d => d.parameters.length) = some 0 := ⟨rfl, by decide, by decide, by decide +kernel⟩

theorem hv_J1_charAt_3b067 : yJ1_charAt_3b067.cls = RJ1 ∧ yJ1_charAt_3b067.cls ≠ "java/lang/invoke/MethodHandle" ∧ yJ1_charAt_3b067.cls ≠ "java/lang/invoke/VarHandle" ∧ (parseMethodDescriptor yJ1_charAt_3b067.desc).map (fun d => d.parameters.length) = some 2 := ⟨rfl, by decide, by decide, by decide +kernel⟩

theorem hv_J3_checkIndex_8e157 : yJ3_checkIndex_8e157.cls = RJ3 ∧ yJ3_checkIndex_8e157.cls ≠ "java/lang/invoke/MethodHandle" ∧ yJ3_checkIndex_8e157.cls ≠ "java/lang/invoke/VarHandle" ∧ (parseMethodDescriptor yJ3_checkIndex_8e157.desc).map (fun d => d.parameters.length) = some 3 := ⟨rfl, by decide, by decide, by decide +kernel⟩

theorem hv_Jx29ce0_ordinal_8abf5 : yJx29ce0_ordinal_8abf5.cls = RJx29ce0 ∧ yJx29ce0_ordinal_8abf5.cls ≠ "java/lang/invoke/MethodHandle" ∧ yJx29ce0_ordinal_8abf5.cls ≠ "java/lang/invoke/VarHandle" ∧ (parseMethodDescriptor yJx29ce0_ordinal_8abf5.desc).map (fun d => d.parameters.length) = some 0 := ⟨rfl, by decide, by decide, by decide +kernel⟩

set_option maxHeartbeats 4000000 in
set_option maxRecDepth 100000 in
theorem MJ0_coder_7d493 (l : Launch) (G : GG) (B : Nat) (μ : Mm) (i : Nat) (hi : i < 8) : CM l yJ0_coder_7d493 (.code yJ0_coder_7d493 cJ0_coder_7d493 1 (Option.some FieldType.byte)) 0 0 G B [.ref (G.2.2.2 (8 + i))] μ (some (.int (0))) μ := by
  refine CM.of (by decide) (Nat.le_of_ble_eq_true rfl) ?_
  intro p e s m below meth c ls K hr hlocks hP hl
  have hS : va_S (AA B) s.heap s.heap [] := va_S.rf
  have hl : lv_has ls 1 [(0, .ref (G.2.2.2 (8 + i)))] := hl
  refine va_gets K.1.1 K.1.2.1 K.2.2.2.2.2.2.2.2.1 hS K.1.2.2.2.1 (K.w q_464) (fun _ h => h) dJ0_coder_7d493_0 ?_
  refine lv_if_eq (tgt := 13) K.1.1 K.1.2.1 dJ0_coder_7d493_3 (by decide) (fun c_3 => ?_) (fun c_3 => ?_)
  · exact absurd c_3 (by decide)
  · refine lv_aload_n K.1.1 K.1.2.1 dJ0_coder_7d493_6 rfl (lv_at hl 0 rfl) ?_
    refine vk_getf K.1.1 K.1.2.1 (K.2.2.2.2.2.2.2.1.1.1 i hi).2.1 hS K.1.2.2.2.1 (K.w q_1553) (fun _ h => h) dJ0_coder_7d493_7 ?_
    refine lv_goto (tgt := 14) K.1.1 K.1.2.1 dJ0_coder_7d493_10 (by decide) ?_
    exact m_nret K hr hlocks hP hS dJ0_coder_7d493_14 rfl (by rfl) rfl

set_option maxHeartbeats 4000000 in
set_option maxRecDepth 100000 in
theorem MJ0_length_8abf5 (l : Launch) (G : GG) (B : Nat) (μ : Mm) (i : Nat) (hi : i < 8) : CM l yJ0_length_8abf5 (.code yJ0_length_8abf5 cJ0_length_8abf5 1 (Option.some FieldType.int)) 1 20 G B [.ref (G.2.2.2 (8 + i))] μ (some (.int (nI (wdL.getD i 0)))) μ := by
  refine CM.of (by decide) (Nat.le_of_ble_eq_true rfl) ?_
  intro p e s m below meth c ls K hr hlocks hP hl
  have hS : va_S (AA B) s.heap s.heap [] := va_S.rf
  have hl : lv_has ls 1 [(0, .ref (G.2.2.2 (8 + i)))] := hl
  refine lv_aload_n K.1.1 K.1.2.1 dJ0_length_8abf5_0 rfl (lv_at hl 0 rfl) ?_
  refine vk_getf K.1.1 K.1.2.1 (K.2.2.2.2.2.2.2.1.1.1 i hi).2.2.1 hS K.1.2.2.2.1 (K.w q_1552) (fun _ h => h) dJ0_length_8abf5_1 ?_
  refine va_tlen K.1.1 K.1.2.1 (K.2.2.2.2.2.2.2.1.1.1 i hi).2.2.2 hS (v := nI (wdL.getD i 0)) rfl dJ0_length_8abf5_4 ?_
  refine lv_aload_n K.1.1 K.1.2.1 dJ0_length_8abf5_5 rfl (lv_at hl 0 rfl) ?_
  refine m_cVR (n := 0) (As := []) (rest := [.int (nI (wdL.getD i 0))]) K hP hS (MJ0_coder_7d493 l G B _ i hi ) (vk_recv (i := i) (adK := fun j => G.2.2.2 (8 + j)) K.2.2.2.2.2.2.2.1.1 hi hS) q_460 q_461 q_462 q_101 q_463 hv_J0_coder_7d493 ⟨Nat.le_of_ble_eq_true rfl, Nat.le_of_ble_eq_true rfl⟩ rfl hl.1 rfl (Nat.le_of_ble_eq_true rfl) dJ0_length_8abf5_6 ⟨Nat.zero_le _, Nat.zero_le _⟩ (fun H locs hP hS => ?_)
  refine lv_topi (fun r_1 er_1 => ?_)
  refine lv_ishr K.1.1 K.1.2.1 dJ0_length_8abf5_9 ?_
  exact m_iret K hr hlocks hP hS dJ0_length_8abf5_10 (by subst er_1; rw [W_len_sh i hi]) rfl

set_option maxHeartbeats 4000000 in
set_option maxRecDepth 100000 in
theorem MJ0_isLatin1_aae02 (l : Launch) (G : GG) (B : Nat) (μ : Mm) (i : Nat) (hi : i < 8) : CM l yJ0_isLatin1_aae02 (.code yJ0_isLatin1_aae02 cJ0_isLatin1_aae02 1 (Option.some FieldType.boolean)) 0 0 G B [.ref (G.2.2.2 (8 + i))] μ (some (.int (1))) μ := by
  refine CM.of (by decide) (Nat.le_of_ble_eq_true rfl) ?_
  intro p e s m below meth c ls K hr hlocks hP hl
  have hS : va_S (AA B) s.heap s.heap [] := va_S.rf
  have hl : lv_has ls 1 [(0, .ref (G.2.2.2 (8 + i)))] := hl
  refine va_gets K.1.1 K.1.2.1 K.2.2.2.2.2.2.2.2.1 hS K.1.2.2.2.1 (K.w q_464) (fun _ h => h) dJ0_isLatin1_aae02_0 ?_
  refine lv_if_eq (tgt := 17) K.1.1 K.1.2.1 dJ0_isLatin1_aae02_3 (by decide) (fun c_3 => ?_) (fun c_3 => ?_)
  · exact absurd c_3 (by decide)
  · refine lv_aload_n K.1.1 K.1.2.1 dJ0_isLatin1_aae02_6 rfl (lv_at hl 0 rfl) ?_
    refine vk_getf K.1.1 K.1.2.1 (K.2.2.2.2.2.2.2.1.1.1 i hi).2.1 hS K.1.2.2.2.1 (K.w q_1553) (fun _ h => h) dJ0_isLatin1_aae02_7 ?_
    refine lv_if_ne (tgt := 17) K.1.1 K.1.2.1 dJ0_isLatin1_aae02_10 (by decide) (fun c_10 => ?_) (fun c_10 => ?_)
    · exact absurd c_10 (not_not_intro rfl)
    · refine lv_iconst (v := 1) K.1.1 K.1.2.1 dJ0_isLatin1_aae02_13 (by decide) ?_
      refine lv_goto (tgt := 18) K.1.1 K.1.2.1 dJ0_isLatin1_aae02_14 (by decide) ?_
      exact m_zret K hr hlocks hP hS dJ0_isLatin1_aae02_18 (by first | rfl | (skip; rfl)) (by rfl) rfl

set_option maxHeartbeats 4000000 in
set_option maxRecDepth 100000 in
theorem MJ3_ckN (l : Launch) (G : GG) (B : Nat) (μ : Mm) (x : Int32) (n : Int32) (h1 : ¬ x < 0) (h2 : x < n) : CM l yJ3_checkIndex_8e157 (.code yJ3_checkIndex_8e157 cJ3_checkIndex_8e157 3 (Option.some FieldType.int)) 0 0 G B [.int x, .int n, .null] μ (some (.int (x))) μ := by
  refine CM.of (by decide) (Nat.le_of_ble_eq_true rfl) ?_
  intro p e s m below meth c ls K hr hlocks hP hl
  have hS : va_S (AA B) s.heap s.heap [] := va_S.rf
  have hl : lv_has ls 3 [(0, .int x), (1, .int n), (2, .null)] := hl
  refine lv_iload_n K.1.1 K.1.2.1 dJ3_checkIndex_8e157_0 rfl (lv_at hl 0 rfl) ?_
  refine lv_if_lt (tgt := 9) K.1.1 K.1.2.1 dJ3_checkIndex_8e157_1 (by decide) (fun c_1 => ?_) (fun c_1 => ?_)
  · exact absurd c_1 (h1)
  · refine lv_iload_n K.1.1 K.1.2.1 dJ3_checkIndex_8e157_4 rfl (lv_at hl 0 rfl) ?_
    refine lv_iload_n K.1.1 K.1.2.1 dJ3_checkIndex_8e157_5 rfl (lv_at hl 1 rfl) ?_
    refine lv_icmp_lt (tgt := 16) K.1.1 K.1.2.1 dJ3_checkIndex_8e157_6 (by decide) (fun c_6 => ?_) (fun c_6 => ?_)
    · refine lv_iload_n K.1.1 K.1.2.1 dJ3_checkIndex_8e157_16 rfl (lv_at hl 0 rfl) ?_
      exact m_iret K hr hlocks hP hS dJ3_checkIndex_8e157_17 (by rfl) rfl
    · exact absurd c_6 (not_not_intro h2)

set_option maxHeartbeats 4000000 in
set_option maxRecDepth 100000 in
theorem MJ3_ckR (l : Launch) (G : GG) (B : Nat) (μ : Mm) (t : Nat) (x : Int32) (n : Int32) (h1 : ¬ x < 0) (h2 : x < n) : CM l yJ3_checkIndex_8e157 (.code yJ3_checkIndex_8e157 cJ3_checkIndex_8e157 3 (Option.some FieldType.int)) 0 0 G B [.int x, .int n, .ref t] μ (some (.int (x))) μ := by
  refine CM.of (by decide) (Nat.le_of_ble_eq_true rfl) ?_
  intro p e s m below meth c ls K hr hlocks hP hl
  have hS : va_S (AA B) s.heap s.heap [] := va_S.rf
  have hl : lv_has ls 3 [(0, .int x), (1, .int n), (2, .ref t)] := hl
  refine lv_iload_n K.1.1 K.1.2.1 dJ3_checkIndex_8e157_0 rfl (lv_at hl 0 rfl) ?_
  refine lv_if_lt (tgt := 9) K.1.1 K.1.2.1 dJ3_checkIndex_8e157_1 (by decide) (fun c_1 => ?_) (fun c_1 => ?_)
  · exact absurd c_1 (h1)
  · refine lv_iload_n K.1.1 K.1.2.1 dJ3_checkIndex_8e157_4 rfl (lv_at hl 0 rfl) ?_
    refine lv_iload_n K.1.1 K.1.2.1 dJ3_checkIndex_8e157_5 rfl (lv_at hl 1 rfl) ?_
    refine lv_icmp_lt (tgt := 16) K.1.1 K.1.2.1 dJ3_checkIndex_8e157_6 (by decide) (fun c_6 => ?_) (fun c_6 => ?_)
    · refine lv_iload_n K.1.1 K.1.2.1 dJ3_checkIndex_8e157_16 rfl (lv_at hl 0 rfl) ?_
      exact m_iret K hr hlocks hP hS dJ3_checkIndex_8e157_17 (by rfl) rfl
    · exact absurd c_6 (not_not_intro h2)

set_option maxHeartbeats 4000000 in
set_option maxRecDepth 100000 in
theorem MJ0_checkIndex_df160 (l : Launch) (G : GG) (B : Nat) (μ : Mm) (x : Int32) (n : Int32) (h1 : ¬ x < 0) (h2 : x < n) : CM l yJ0_checkIndex_df160 (.code yJ0_checkIndex_df160 cJ0_checkIndex_df160 2 Option.none) 1 22 G B [.int x, .int n] μ none μ := by
  refine CM.of (by decide) (Nat.le_of_ble_eq_true rfl) ?_
  intro p e s m below meth c ls K hr hlocks hP hl
  have hS : va_S (AA B) s.heap s.heap [] := va_S.rf
  have hl : lv_has ls 2 [(0, .int x), (1, .int n)] := hl
  refine lv_iload_n K.1.1 K.1.2.1 dJ0_checkIndex_df160_0 rfl (lv_at hl 0 rfl) ?_
  refine lv_iload_n K.1.1 K.1.2.1 dJ0_checkIndex_df160_1 rfl (lv_at hl 1 rfl) ?_
  rcases K.2.2.2.2.2.2.2.2.2.1 with hz | ⟨t, hz⟩
  · refine va_gets K.1.1 K.1.2.1 hz hS K.1.2.2.2.1 (K.w q_481) (fun _ h => h) dJ0_checkIndex_df160_2 ?_
    refine m_cSX (n := 3) (As := [.int x, .int n, .null]) (rest := []) K hP hS (MJ3_ckN l G B _ x n h1 h2) q_483 q_484 q_103 q_485 hv_J3_checkIndex_8e157.2 ⟨Nat.le_of_ble_eq_true rfl, Nat.le_of_ble_eq_true rfl⟩ rfl hl.1 rfl (Nat.le_of_ble_eq_true rfl) dJ0_checkIndex_df160_5 ⟨Nat.zero_le _, Nat.zero_le _⟩ (fun H locs hP hS => ?_)
    refine lv_topi (fun r_1 er_1 => ?_)
    refine lv_pop K.1.1 K.1.2.1 dJ0_checkIndex_df160_8 rfl ?_
    exact m_vret K hr hlocks hP hS dJ0_checkIndex_df160_9 rfl rfl
  · refine va_gets K.1.1 K.1.2.1 hz hS K.1.2.2.2.1 (K.w q_481) (fun _ h => h) dJ0_checkIndex_df160_2 ?_
    refine m_cSX (n := 3) (As := [.int x, .int n, .ref t]) (rest := []) K hP hS (MJ3_ckR l G B _ t x n h1 h2) q_483 q_484 q_103 q_485 hv_J3_checkIndex_8e157.2 ⟨Nat.le_of_ble_eq_true rfl, Nat.le_of_ble_eq_true rfl⟩ rfl hl.1 rfl (Nat.le_of_ble_eq_true rfl) dJ0_checkIndex_df160_5 ⟨Nat.zero_le _, Nat.zero_le _⟩ (fun H locs hP hS => ?_)
    refine lv_topi (fun r_2 er_2 => ?_)
    refine lv_pop K.1.1 K.1.2.1 dJ0_checkIndex_df160_8 rfl ?_
    exact m_vret K hr hlocks hP hS dJ0_checkIndex_df160_9 rfl rfl

set_option maxHeartbeats 4000000 in
set_option maxRecDepth 100000 in
theorem MJ1_charAt_3b067 (l : Launch) (G : GG) (B : Nat) (μ : Mm) (i : Nat) (hi : i < 8) (k : Int32) (hk : vp_in k (wdL.getD i 0)) : CM l yJ1_charAt_3b067 (.code yJ1_charAt_3b067 cJ1_charAt_3b067 2 (Option.some FieldType.char)) 2 43 G B [.ref (G.2.2.2 (16 + i)), .int k] μ (some (.int (W_byte i (cn k)))) μ := by
  refine CM.of (by decide) (Nat.le_of_ble_eq_true rfl) ?_
  intro p e s m below meth c ls K hr hlocks hP hl
  have hS : va_S (AA B) s.heap s.heap [] := va_S.rf
  have hl : lv_has ls 2 [(0, .ref (G.2.2.2 (16 + i))), (1, .int k)] := hl
  refine lv_iload_n K.1.1 K.1.2.1 dJ1_charAt_3b067_0 rfl (lv_at hl 1 rfl) ?_
  refine lv_aload_n K.1.1 K.1.2.1 dJ1_charAt_3b067_1 rfl (lv_at hl 0 rfl) ?_
  refine va_tlen K.1.1 K.1.2.1 (K.2.2.2.2.2.2.2.1.1.1 i hi).2.2.2 hS (v := nI (wdL.getD i 0)) rfl dJ1_charAt_3b067_2 ?_
  refine m_cSX (n := 2) (As := [.int k, .int (nI (wdL.getD i 0))]) (rest := []) K hP hS (MJ0_checkIndex_df160 l G B _ k (nI (wdL.getD i 0)) (fun h => hk (Or.inl h)) (ck_lt (W_len i hi).1 hk)) q_478 q_479 q_101 q_480 hv_J0_checkIndex_df160.2 ⟨Nat.le_of_ble_eq_true rfl, Nat.le_of_ble_eq_true rfl⟩ rfl hl.1 rfl (Nat.le_of_ble_eq_true rfl) dJ1_charAt_3b067_3 ⟨Nat.zero_le _, Nat.zero_le _⟩ (fun H locs hP hS => ?_)
  refine W.eq (g2 := F0 m 6 ls []) rfl ?_
  refine lv_aload_n K.1.1 K.1.2.1 dJ1_charAt_3b067_6 rfl (lv_at hl 0 rfl) ?_
  refine lv_iload_n K.1.1 K.1.2.1 dJ1_charAt_3b067_7 rfl (lv_at hl 1 rfl) ?_
  refine va_tb K.1.1 K.1.2.1 (K.2.2.2.2.2.2.2.1.1.1 i hi).2.2.2 hS hk (v := .int (W_byte i (cn k))) rfl dJ1_charAt_3b067_8 ?_
  refine lv_sipush (v := 255) K.1.1 K.1.2.1 dJ1_charAt_3b067_9 (by decide) ?_
  refine lv_iand K.1.1 K.1.2.1 dJ1_charAt_3b067_12 ?_
  refine lv_i2c K.1.1 K.1.2.1 dJ1_charAt_3b067_13 rfl ?_
  exact m_nret K hr hlocks hP hS dJ1_charAt_3b067_14 (by rw [W_ch i (cn k) hi (vp_cn hk)]; exact W_nar i (cn k) hi (vp_cn hk)) (by rw [W_ch i (cn k) hi (vp_cn hk)]) rfl

set_option maxHeartbeats 4000000 in
set_option maxRecDepth 100000 in
theorem MJ0_charAt_5068e (l : Launch) (G : GG) (B : Nat) (μ : Mm) (i : Nat) (hi : i < 8) (k : Int32) (hk : vp_in k (wdL.getD i 0)) : CM l yJ0_charAt_5068e (.code yJ0_charAt_5068e cJ0_charAt_5068e 2 (Option.some FieldType.char)) 3 64 G B [.ref (G.2.2.2 (8 + i)), .int k] μ (some (.int (W_byte i (cn k)))) μ := by
  refine CM.of (by decide) (Nat.le_of_ble_eq_true rfl) ?_
  intro p e s m below meth c ls K hr hlocks hP hl
  have hS : va_S (AA B) s.heap s.heap [] := va_S.rf
  have hl : lv_has ls 2 [(0, .ref (G.2.2.2 (8 + i))), (1, .int k)] := hl
  refine lv_aload_n K.1.1 K.1.2.1 dJ0_charAt_5068e_0 rfl (lv_at hl 0 rfl) ?_
  refine m_cVR (n := 0) (As := []) (rest := []) K hP hS (MJ0_isLatin1_aae02 l G B _ i hi ) (vk_recv (i := i) (adK := fun j => G.2.2.2 (8 + j)) K.2.2.2.2.2.2.2.1.1 hi hS) q_471 q_472 q_473 q_101 q_474 hv_J0_isLatin1_aae02 ⟨Nat.le_of_ble_eq_true rfl, Nat.le_of_ble_eq_true rfl⟩ rfl hl.1 rfl (Nat.le_of_ble_eq_true rfl) dJ0_charAt_5068e_1 ⟨Nat.zero_le _, Nat.zero_le _⟩ (fun H locs hP hS => ?_)
  refine lv_topi (fun r_1 er_1 => ?_)
  refine lv_if_eq (tgt := 16) K.1.1 K.1.2.1 dJ0_charAt_5068e_4 (by decide) (fun c_4 => ?_) (fun c_4 => ?_)
  · exact absurd c_4 (by subst er_1; decide)
  · refine lv_aload_n K.1.1 K.1.2.1 dJ0_charAt_5068e_7 rfl (lv_at hl 0 rfl) ?_
    refine vk_getf K.1.1 K.1.2.1 (K.2.2.2.2.2.2.2.1.1.1 i hi).2.2.1 hS K.1.2.2.2.1 (K.w q_1552) (fun _ h => h) dJ0_charAt_5068e_8 ?_
    refine lv_iload_n K.1.1 K.1.2.1 dJ0_charAt_5068e_11 rfl (lv_at hl 1 rfl) ?_
    refine m_cSX (n := 2) (As := [.ref (G.2.2.2 (16 + i)), .int k]) (rest := []) K hP hS (MJ1_charAt_3b067 l G B _ i hi k hk) q_475 q_476 q_102 q_477 hv_J1_charAt_3b067.2 ⟨Nat.le_of_ble_eq_true rfl, Nat.le_of_ble_eq_true rfl⟩ rfl hl.1 rfl (Nat.le_of_ble_eq_true rfl) dJ0_charAt_5068e_12 ⟨Nat.zero_le _, Nat.zero_le _⟩ (fun H locs hP hS => ?_)
    refine lv_topi (fun r_2 er_2 => ?_)
    exact m_nret K hr hlocks hP hS dJ0_charAt_5068e_15 (by subst er_1 er_2; exact W_nar i (cn k) hi (vp_cn hk)) (by subst er_1 er_2; rfl) rfl

set_option maxHeartbeats 4000000 in
set_option maxRecDepth 100000 in
theorem MX9_stands (l : Launch) (G : GG) (B : Nat) (μ : Mm) (i : Nat) (hi : i < 8) (q n_q : Nat) (hq : isR q n_q) (st : Int32) (ln : Int32) : CM l yX9_stands (.code yX9_stands cX9_stands 5 (Option.some FieldType.boolean)) 4 85 G B [.ref (G.2.2.2 i), .ref (B + q), .int st, .int ln] μ (some (.int (W_stands μ q n_q i st ln))) μ := by
  refine CM.of (by decide) (Nat.le_of_ble_eq_true rfl) ?_
  intro p e s m below meth c ls K hr hlocks hP hl
  have hS : va_S (AA B) s.heap s.heap [] := va_S.rf
  have hl : lv_has ls 5 [(0, .ref (G.2.2.2 i)), (1, .ref (B + q)), (2, .int st), (3, .int ln)] := hl
  refine lv_iload_n K.1.1 K.1.2.1 dX9_stands_0 rfl (lv_at hl 3 rfl) ?_
  refine lv_aload_n K.1.1 K.1.2.1 dX9_stands_1 rfl (lv_at hl 0 rfl) ?_
  refine vk_getf K.1.1 K.1.2.1 (K.2.2.2.2.2.2.2.1.2 i hi) hS K.1.2.2.2.1 (K.w q_1551) (fun _ h => h) dX9_stands_2 ?_
  refine m_cVR (n := 0) (As := []) (rest := [.int ln]) K hP hS (MJ0_length_8abf5 l G B _ i hi ) (vk_recv (i := i) (adK := fun j => G.2.2.2 (8 + j)) K.2.2.2.2.2.2.2.1.1 hi hS) q_456 q_457 q_458 q_101 q_459 hv_J0_length_8abf5 ⟨Nat.le_of_ble_eq_true rfl, Nat.le_of_ble_eq_true rfl⟩ rfl hl.1 rfl (Nat.le_of_ble_eq_true rfl) dX9_stands_5 ⟨Nat.zero_le _, Nat.zero_le _⟩ (fun H locs hP hS => ?_)
  refine lv_topi (fun r_1 er_1 => ?_)
  refine lv_icmp_eq (tgt := 13) K.1.1 K.1.2.1 dX9_stands_8 (by decide) (fun c_8 => ?_) (fun c_8 => ?_)
  · refine lv_iconst (v := 0) K.1.1 K.1.2.1 dX9_stands_13 (by decide) ?_
    refine lv_istore (lv' := [(4, .int 0), (0, .ref (G.2.2.2 i)), (1, .ref (B + q)), (2, .int st), (3, .int ln)]) K.1.1 K.1.2.1 dX9_stands_14 hl (by decide) rfl (fun ls hl => ?_)
    refine up_to (N := wdL.getD i 0) (P := fun k : Nat => ∀ (v4_16 : Int32) (H : Heap) (locs : List Loc) (ls : Array Slot), (v4_16 = nI k) → (∀ j : Nat, j < k → R_get μ q n_q (st + nI j) = W_byte i j) → MP G B μ H → va_S (AA B) s.heap H locs → lv_has ls 5 [(4, .int v4_16), (0, .ref (G.2.2.2 i)), (1, .ref (B + q)), (2, .int st), (3, .int ln)] → W p l e ({ frames := 4, cells := 0, slots := 0, locals := 85 } : Room) s m ([.ref (G.2.2.2 i), .ref (B + q), .int st, .int ln] : List Value).toArray below meth c H locs 0 0 (MF below G B (some (.int (W_stands μ q n_q i st ln))) μ ([.ref (G.2.2.2 i), .ref (B + q), .int st, .int ln] : List Value).toArray s) (F0 m 16 ls [])) ?_ ?_ _ _ _ _ (by first | rfl | (subst er_1; rfl)) (by intro j hj; exact absurd hj (Nat.not_lt_zero _)) hP hS (lv_sub hl [0, 1, 2, 3, 4] rfl)
    · intro v4_16 H locs ls ev4_16 inv_16 hP hS hl
      refine lv_iload K.1.1 K.1.2.1 dX9_stands_16 (lv_at hl 0 rfl) ?_
      refine lv_aload_n K.1.1 K.1.2.1 dX9_stands_18 rfl (lv_at hl 1 rfl) ?_
      refine vk_getf K.1.1 K.1.2.1 (K.2.2.2.2.2.2.2.1.2 i hi) hS K.1.2.2.2.1 (K.w q_1551) (fun _ h => h) dX9_stands_19 ?_
      refine m_cVR (n := 0) (As := []) (rest := [.int v4_16]) K hP hS (MJ0_length_8abf5 l G B _ i hi ) (vk_recv (i := i) (adK := fun j => G.2.2.2 (8 + j)) K.2.2.2.2.2.2.2.1.1 hi hS) q_456 q_457 q_458 q_101 q_459 hv_J0_length_8abf5 ⟨Nat.le_of_ble_eq_true rfl, Nat.le_of_ble_eq_true rfl⟩ rfl hl.1 rfl (Nat.le_of_ble_eq_true rfl) dX9_stands_22 ⟨Nat.zero_le _, Nat.zero_le _⟩ (fun H locs hP hS => ?_)
      refine lv_topi (fun r_2 er_2 => ?_)
      refine lv_icmp_ge (tgt := 56) K.1.1 K.1.2.1 dX9_stands_25 (by decide) (fun c_25 => ?_) (fun c_25 => ?_)
      · refine lv_iconst (v := 1) K.1.1 K.1.2.1 dX9_stands_56 (by decide) ?_
        exact m_zret K hr hlocks hP hS dX9_stands_57 (by first | rfl | (subst er_1 ev4_16 er_2; rfl)) (by subst er_1 ev4_16 er_2; rw [W_stands, if_pos c_8, if_pos inv_16]) rfl
      · exact absurd c_25 (not_not_intro (by subst er_1 ev4_16 er_2; exact Int32.le_refl _))
    · intro k hk ih_16 v4_16 H locs ls ev4_16 inv_16 hP hS hl
      have hk31 : k < 2 ^ 31 := Nat.lt_trans hk (W_len i hi).1
      refine lv_iload K.1.1 K.1.2.1 dX9_stands_16 (lv_at hl 0 rfl) ?_
      refine lv_aload_n K.1.1 K.1.2.1 dX9_stands_18 rfl (lv_at hl 1 rfl) ?_
      refine vk_getf K.1.1 K.1.2.1 (K.2.2.2.2.2.2.2.1.2 i hi) hS K.1.2.2.2.1 (K.w q_1551) (fun _ h => h) dX9_stands_19 ?_
      refine m_cVR (n := 0) (As := []) (rest := [.int v4_16]) K hP hS (MJ0_length_8abf5 l G B _ i hi ) (vk_recv (i := i) (adK := fun j => G.2.2.2 (8 + j)) K.2.2.2.2.2.2.2.1.1 hi hS) q_456 q_457 q_458 q_101 q_459 hv_J0_length_8abf5 ⟨Nat.le_of_ble_eq_true rfl, Nat.le_of_ble_eq_true rfl⟩ rfl hl.1 rfl (Nat.le_of_ble_eq_true rfl) dX9_stands_22 ⟨Nat.zero_le _, Nat.zero_le _⟩ (fun H locs hP hS => ?_)
      refine lv_topi (fun r_3 er_3 => ?_)
      refine lv_icmp_ge (tgt := 56) K.1.1 K.1.2.1 dX9_stands_25 (by decide) (fun c_25 => ?_) (fun c_25 => ?_)
      · exact absurd c_25 (by subst er_1 ev4_16 er_3; exact nI_ge hk (W_len i hi).1)
      · refine lv_aload_n K.1.1 K.1.2.1 dX9_stands_28 rfl (lv_at hl 2 rfl) ?_
        refine lv_iload_n K.1.1 K.1.2.1 dX9_stands_29 rfl (lv_at hl 3 rfl) ?_
        refine lv_iload K.1.1 K.1.2.1 dX9_stands_30 (lv_at hl 0 rfl) ?_
        refine lv_iadd K.1.1 K.1.2.1 dX9_stands_32 ?_
        refine m_cV (n := 1) (As := [.int (st + v4_16)]) (rest := []) K hP hS (MX5_get l G B _ q n_q hq (st + v4_16) ) (Nat.lt_of_succ_lt hq.1) hq.2.1 rfl q_466 q_436 q_437 q_85 q_438 hv_X5_get ⟨Nat.le_of_ble_eq_true rfl, Nat.le_of_ble_eq_true rfl⟩ rfl hl.1 rfl (Nat.le_of_ble_eq_true rfl) dX9_stands_33 ⟨Nat.zero_le _, Nat.zero_le _⟩ (fun H locs hP hS => ?_)
        refine lv_topi (fun r_4 er_4 => ?_)
        refine lv_aload_n K.1.1 K.1.2.1 dX9_stands_36 rfl (lv_at hl 1 rfl) ?_
        refine vk_getf K.1.1 K.1.2.1 (K.2.2.2.2.2.2.2.1.2 i hi) hS K.1.2.2.2.1 (K.w q_1551) (fun _ h => h) dX9_stands_37 ?_
        refine lv_iload K.1.1 K.1.2.1 dX9_stands_40 (lv_at hl 0 rfl) ?_
        refine m_cVR (n := 1) (As := [.int v4_16]) (rest := [.int r_4]) K hP hS (MJ0_charAt_5068e l G B _ i hi v4_16 (by subst er_1 ev4_16 er_3 er_4; exact vp_ofN (by have := W_len i hi; omega) hk)) (vk_recv (i := i) (adK := fun j => G.2.2.2 (8 + j)) K.2.2.2.2.2.2.2.1.1 hi hS) q_467 q_468 q_469 q_101 q_470 hv_J0_charAt_5068e ⟨Nat.le_of_ble_eq_true rfl, Nat.le_of_ble_eq_true rfl⟩ rfl hl.1 rfl (Nat.le_of_ble_eq_true rfl) dX9_stands_42 ⟨Nat.zero_le _, Nat.zero_le _⟩ (fun H locs hP hS => ?_)
        refine lv_topi (fun r_5 er_5 => ?_)
        refine lv_icmp_eq (tgt := 50) K.1.1 K.1.2.1 dX9_stands_45 (by decide) (fun c_45 => ?_) (fun c_45 => ?_)
        · obtain ⟨x_6, ex_6⟩ : ∃ y : Int32, y = v4_16 + (1) := ⟨_, rfl⟩
          refine lv_iinc (v := x_6) (lv' := [(4, .int x_6), (0, .ref (G.2.2.2 i)), (1, .ref (B + q)), (2, .int st), (3, .int ln)]) K.1.1 K.1.2.1 dX9_stands_50 hl (k := 0) rfl (by rw [ex_6]; rfl) (by decide) rfl (fun ls hl => ?_)
          refine lv_goto (tgt := 16) K.1.1 K.1.2.1 dX9_stands_53 (by decide) ?_
          exact ih_16 _ _ _ _ (by subst er_1 ev4_16 er_3 er_4 er_5 ex_6; exact nI_1 _) (by subst er_1 ev4_16 er_3 er_4 er_5 ex_6; exact lt_s inv_16 (c_45.trans (by rw [cn_nI hk31]))) hP hS (lv_sub hl [0, 1, 2, 3, 4] rfl)
        · refine lv_iconst (v := 0) K.1.1 K.1.2.1 dX9_stands_48 (by decide) ?_
          exact m_zret K hr hlocks hP hS dX9_stands_49 (by first | rfl | (subst er_1 ev4_16 er_3 er_4 er_5; rfl)) (by subst er_1 ev4_16 er_3 er_4 er_5; rw [W_stands, if_pos c_8, if_neg (fun h => c_45 (by rw [cn_nI hk31]; exact h k hk))]) rfl
  · refine lv_iconst (v := 0) K.1.1 K.1.2.1 dX9_stands_11 (by decide) ?_
    exact m_zret K hr hlocks hP hS dX9_stands_12 (by first | rfl | (subst er_1; rfl)) (by subst er_1; rw [W_stands, if_neg c_8]) rfl

set_option maxHeartbeats 4000000 in
set_option maxRecDepth 100000 in
theorem MX9_of (l : Launch) (G : GG) (B : Nat) (μ : Mm) (q n_q : Nat) (hq : isR q n_q) (st : Int32) (ln : Int32) : CM l yX9_of (.code yX9_of cX9_of 5 (Option.some (FieldType.object RX9))) 5 109 G B [.ref (B + q), .int st, .int ln] μ (some (wv G (W_of μ q n_q st ln))) μ := by
  refine CM.of (by decide) (Nat.le_of_ble_eq_true rfl) ?_
  intro p e s m below meth c ls K hr hlocks hP hl
  have hS : va_S (AA B) s.heap s.heap [] := va_S.rf
  have hl : lv_has ls 5 [(0, .ref (B + q)), (1, .int st), (2, .int ln)] := hl
  obtain ⟨t0, hZ0, hT0⟩ := K.2.2.2.1
  refine lv_iconst (v := 0) K.1.1 K.1.2.1 dX9_of_0 (by decide) ?_
  refine lv_istore_n (lv' := [(3, .int 0), (0, .ref (B + q)), (1, .int st), (2, .int ln)]) K.1.1 K.1.2.1 dX9_of_1 rfl hl (by decide) rfl (fun ls hl => ?_)
  refine up_to (N := 8) (P := fun k : Nat => ∀ (v3_2 : Int32) (H : Heap) (locs : List Loc) (ls : Array Slot), (v3_2 = nI k) → (∀ j : Nat, j < k → decide (¬ W_stands μ q n_q j st ln = 0) = false) → MP G B μ H → va_S (AA B) s.heap H locs → lv_has ls 5 [(3, .int v3_2), (0, .ref (B + q)), (1, .int st), (2, .int ln)] → W p l e ({ frames := 5, cells := 0, slots := 0, locals := 109 } : Room) s m ([.ref (B + q), .int st, .int ln] : List Value).toArray below meth c H locs 0 0 (MF below G B (some (wv G (W_of μ q n_q st ln))) μ ([.ref (B + q), .int st, .int ln] : List Value).toArray s) (F0 m 2 ls [])) ?_ ?_ _ _ _ _ (by first | rfl | (skip; rfl)) (by intro j hj; exact absurd hj (Nat.not_lt_zero _)) hP hS (lv_sub hl [0, 1, 2, 3] rfl)
  · intro v3_2 H locs ls ev3_2 inv_2 hP hS hl
    refine lv_iload_n K.1.1 K.1.2.1 dX9_of_2 rfl (lv_at hl 0 rfl) ?_
    refine va_gets K.1.1 K.1.2.1 hZ0 hS K.1.2.2.2.1 (K.w q_449) (fun _ h => h) dX9_of_3 ?_
    refine va_tlen K.1.1 K.1.2.1 hT0 hS (v := nI 8) rfl dX9_of_6 ?_
    refine lv_icmp_ge (tgt := 42) K.1.1 K.1.2.1 dX9_of_7 (by decide) (fun c_7 => ?_) (fun c_7 => ?_)
    · refine lv_null K.1.1 K.1.2.1 dX9_of_42 ?_
      exact m_aret K hr hlocks hP hS (Or.inl rfl) dX9_of_43 (by subst ev3_2; rw [show W_of μ q n_q st ln = -1 from fstI_none inv_2]; rfl) rfl
    · exact absurd c_7 (not_not_intro (by subst ev3_2; exact Int32.le_refl _))
  · intro k hk ih_2 v3_2 H locs ls ev3_2 inv_2 hP hS hl
    refine lv_iload_n K.1.1 K.1.2.1 dX9_of_2 rfl (lv_at hl 0 rfl) ?_
    refine va_gets K.1.1 K.1.2.1 hZ0 hS K.1.2.2.2.1 (K.w q_449) (fun _ h => h) dX9_of_3 ?_
    refine va_tlen K.1.1 K.1.2.1 hT0 hS (v := nI 8) rfl dX9_of_6 ?_
    refine lv_icmp_ge (tgt := 42) K.1.1 K.1.2.1 dX9_of_7 (by decide) (fun c_7 => ?_) (fun c_7 => ?_)
    · exact absurd c_7 (by subst ev3_2; exact nI_ge hk (by decide))
    · refine va_gets K.1.1 K.1.2.1 hZ0 hS K.1.2.2.2.1 (K.w q_449) (fun _ h => h) dX9_of_10 ?_
      refine lv_iload_n K.1.1 K.1.2.1 dX9_of_13 rfl (lv_at hl 0 rfl) ?_
      refine vb_tq K.1.1 K.1.2.1 hT0 hS (i := v3_2) (by subst ev3_2; exact vp_ofN (by omega) hk) (v := .ref (G.2.2.2 k)) (by subst ev3_2; rw [nI_clamp (by omega)]) dX9_of_14 ?_
      refine lv_astore (lv' := [(4, .ref (G.2.2.2 k)), (3, .int v3_2), (0, .ref (B + q)), (1, .int st), (2, .int ln)]) K.1.1 K.1.2.1 dX9_of_15 hl (by decide) rfl (fun ls hl => ?_)
      refine lv_aload K.1.1 K.1.2.1 dX9_of_17 (lv_at hl 0 rfl) ?_
      refine lv_ifnull K.1.1 K.1.2.1 dX9_of_19 ?_
      refine lv_aload K.1.1 K.1.2.1 dX9_of_22 (lv_at hl 0 rfl) ?_
      refine lv_aload_n K.1.1 K.1.2.1 dX9_of_24 rfl (lv_at hl 2 rfl) ?_
      refine lv_iload_n K.1.1 K.1.2.1 dX9_of_25 rfl (lv_at hl 3 rfl) ?_
      refine lv_iload_n K.1.1 K.1.2.1 dX9_of_26 rfl (lv_at hl 4 rfl) ?_
      refine m_cVR (n := 3) (As := [.ref (B + q), .int st, .int ln]) (rest := []) K hP hS (MX9_stands l G B _ k hk q n_q hq st ln ) (w_recv (K.2.2.2.2.2.1 k hk).1 hS) q_451 q_453 q_3 q_100 q_455 hv_X9_stands ⟨Nat.le_of_ble_eq_true rfl, Nat.le_of_ble_eq_true rfl⟩ rfl hl.1 rfl (Nat.le_of_ble_eq_true rfl) dX9_of_27 ⟨Nat.zero_le _, Nat.zero_le _⟩ (fun H locs hP hS => ?_)
      refine lv_topi (fun r_1 er_1 => ?_)
      refine lv_if_eq (tgt := 36) K.1.1 K.1.2.1 dX9_of_30 (by decide) (fun c_30 => ?_) (fun c_30 => ?_)
      · obtain ⟨x_2, ex_2⟩ : ∃ y : Int32, y = v3_2 + (1) := ⟨_, rfl⟩
        refine lv_iinc (v := x_2) (lv' := [(3, .int x_2), (4, .ref (G.2.2.2 k)), (0, .ref (B + q)), (1, .int st), (2, .int ln)]) K.1.1 K.1.2.1 dX9_of_36 hl (k := 1) rfl (by rw [ex_2]; rfl) (by decide) rfl (fun ls hl => ?_)
        refine lv_goto (tgt := 2) K.1.1 K.1.2.1 dX9_of_39 (by decide) ?_
        exact ih_2 _ _ _ _ (by subst ev3_2 er_1 ex_2; exact nI_1 _) (by subst ev3_2 er_1 ex_2; exact lt_s inv_2 (decide_eq_false (not_not_intro c_30))) hP hS (lv_sub hl [0, 2, 3, 4] rfl)
      · refine lv_aload K.1.1 K.1.2.1 dX9_of_33 (lv_at hl 0 rfl) ?_
        exact m_aret K hr hlocks hP hS (Or.inr ⟨_, rfl⟩) dX9_of_35 (by subst ev3_2 er_1; rw [show W_of μ q n_q st ln = nI k from fstI_some hk inv_2 (decide_eq_true c_30)]; exact congrArg some (wv_nI hk)) rfl

set_option maxHeartbeats 4000000 in
set_option maxRecDepth 100000 in
theorem MX3_faultOfByte (l : Launch) (G : GG) (B : Nat) (μ : Mm) (v : Int32) : CM l yX3_faultOfByte (.code yX3_faultOfByte cX3_faultOfByte 2 (Option.some FieldType.int)) 1 22 G B [.ref (B + 254), .int v] μ (some (.int (D_faultOfByte μ v))) μ := by
  refine CM.of (by decide) (Nat.le_of_ble_eq_true rfl) ?_
  intro p e s m below meth c ls K hr hlocks hP hl
  have hS : va_S (AA B) s.heap s.heap [] := va_S.rf
  have hl : lv_has ls 2 [(0, .ref (B + 254)), (1, .int v)] := hl
  refine lv_iload_n K.1.1 K.1.2.1 dX3_faultOfByte_0 rfl (lv_at hl 1 rfl) ?_
  refine lv_iconst (v := 0) K.1.1 K.1.2.1 dX3_faultOfByte_1 (by decide) ?_
  refine lv_bipush (v := 127) K.1.1 K.1.2.1 dX3_faultOfByte_2 (by decide) ?_
  refine m_cSN (n := 3) (As := [.int v, .int 0, .int 127]) (rest := []) K hP hS (MX10_isWithin l G B _ v 0 127 ) K.2.2.1.1 q_444 q_82 q_445 hn_X10_isWithin ⟨Nat.le_of_ble_eq_true rfl, Nat.le_of_ble_eq_true rfl⟩ rfl hl.1 rfl (Nat.le_of_ble_eq_true rfl) dX3_faultOfByte_4 ⟨Nat.zero_le _, Nat.zero_le _⟩ (fun H locs hP hS => ?_)
  refine lv_topi (fun r_1 er_1 => ?_)
  refine lv_if_ne (tgt := 12) K.1.1 K.1.2.1 dX3_faultOfByte_7 (by decide) (fun c_7 => ?_) (fun c_7 => ?_)
  · refine lv_aload_n K.1.1 K.1.2.1 dX3_faultOfByte_12 rfl (lv_at hl 0 rfl) ?_
    refine m_geti K hP (by decide) sh_254 rfl tuX3 0 (by decide) rfl q_365 dX3_faultOfByte_13 ?_
    refine lv_topi (fun g_2 eg_2 => ?_)
    refine lv_sipush (v := 150) K.1.1 K.1.2.1 dX3_faultOfByte_16 (by decide) ?_
    refine lv_icmp_lt (tgt := 26) K.1.1 K.1.2.1 dX3_faultOfByte_19 (by decide) (fun c_19 => ?_) (fun c_19 => ?_)
    · refine lv_iconst (v := 0) K.1.1 K.1.2.1 dX3_faultOfByte_26 (by decide) ?_
      exact m_iret K hr hlocks hP hS dX3_faultOfByte_27 (by subst er_1 eg_2; first | (simp only [D_faultOfByte, c_7, c_19, Int32.not_le.mpr c_19, if_true, if_false, ite_true, ite_false, reduceIte, not_true, not_false_iff]; done) | simp [D_faultOfByte, c_7, c_19, Int32.not_le.mpr c_19]) rfl
    · refine lv_iconst (v := 3) K.1.1 K.1.2.1 dX3_faultOfByte_22 (by decide) ?_
      refine lv_goto (tgt := 27) K.1.1 K.1.2.1 dX3_faultOfByte_23 (by decide) ?_
      exact m_iret K hr hlocks hP hS dX3_faultOfByte_27 (by subst er_1 eg_2; first | (simp only [D_faultOfByte, c_7, c_19, Int32.not_lt.mp c_19, if_true, if_false, ite_true, ite_false, reduceIte, not_true, not_false_iff]; done) | simp [D_faultOfByte, c_7, c_19, Int32.not_lt.mp c_19]) rfl
  · refine lv_iconst (v := 2) K.1.1 K.1.2.1 dX3_faultOfByte_10 (by decide) ?_
    exact m_iret K hr hlocks hP hS dX3_faultOfByte_11 (by subst er_1; first | (simp only [D_faultOfByte, c_7, if_true, if_false, ite_true, ite_false, reduceIte, not_true, not_false_iff]; done) | simp [D_faultOfByte, c_7]) rfl

set_option maxHeartbeats 4000000 in
set_option maxRecDepth 100000 in
theorem MX3_append (l : Launch) (G : GG) (B : Nat) (μ : Mm) (v : Int32) : CM l yX3_append (.code yX3_append cX3_append 2 (Option.some FieldType.int)) 1 22 G B [.ref (B + 254), .int v] μ (some (.int (D_appendM μ v 254 0))) (D_appendM μ v) := by
  refine CM.of (by decide) (Nat.le_of_ble_eq_true rfl) ?_
  intro p e s m below meth c ls K hr hlocks hP hl
  have hS : va_S (AA B) s.heap s.heap [] := va_S.rf
  have hl : lv_has ls 2 [(0, .ref (B + 254)), (1, .int v)] := hl
  refine lv_aload_n K.1.1 K.1.2.1 dX3_append_0 rfl (lv_at hl 0 rfl) ?_
  refine m_getr K hP (by decide) sh_254 rfl tuX3 3 (by decide) rfl q_371 dX3_append_1 ?_
  refine lv_aload_n K.1.1 K.1.2.1 dX3_append_4 rfl (lv_at hl 0 rfl) ?_
  refine m_geti K hP (by decide) sh_254 rfl tuX3 0 (by decide) rfl q_365 dX3_append_5 ?_
  refine lv_topi (fun g_1 eg_1 => ?_)
  refine lv_iload_n K.1.1 K.1.2.1 dX3_append_8 rfl (lv_at hl 1 rfl) ?_
  refine m_cV (n := 2) (As := [.int g_1, .int v]) (rest := []) K hP hS (MX5_put l G B _ 257 150 isR_257 g_1 v ) (Nat.lt_of_succ_lt isR_257.1) isR_257.2.1 rfl q_513 q_514 q_515 q_85 q_516 hv_X5_put ⟨Nat.le_of_ble_eq_true rfl, Nat.le_of_ble_eq_true rfl⟩ rfl hl.1 rfl (Nat.le_of_ble_eq_true rfl) dX3_append_9 ⟨Nat.zero_le _, Nat.zero_le _⟩ (fun H locs hP hS => ?_)
  refine W.eq (g2 := F0 m 12 ls []) rfl ?_
  refine lv_aload_n K.1.1 K.1.2.1 dX3_append_12 rfl (lv_at hl 0 rfl) ?_
  refine lv_dup K.1.1 K.1.2.1 dX3_append_13 rfl ?_
  refine m_geti K hP (by decide) sh_254 rfl tuX3 0 (by decide) rfl q_365 dX3_append_14 ?_
  refine lv_topi (fun g_2 eg_2 => ?_)
  refine lv_iconst (v := 1) K.1.1 K.1.2.1 dX3_append_17 (by decide) ?_
  refine lv_iadd K.1.1 K.1.2.1 dX3_append_18 ?_
  refine m_puti K hP hS (by decide) sh_254 rfl tuX3 tyX3 tyX3_ok nmX3 0 (by decide) rfl rfl (by decide +kernel) q_365 dX3_append_19 (fun H locs hP hS => ?_)
  refine lv_aload_n K.1.1 K.1.2.1 dX3_append_22 rfl (lv_at hl 0 rfl) ?_
  refine m_geti K hP (by decide) sh_254 rfl tuX3 0 (by decide) rfl q_365 dX3_append_23 ?_
  refine lv_topi (fun g_3 eg_3 => ?_)
  exact m_iret K hr hlocks hP hS dX3_append_26 (by subst eg_1 eg_2 eg_3; rfl) (by subst eg_1 eg_2 eg_3; rfl)

set_option maxHeartbeats 4000000 in
set_option maxRecDepth 100000 in
theorem MX3_empty (l : Launch) (G : GG) (B : Nat) (μ : Mm) : CM l yX3_empty (.code yX3_empty cX3_empty 2 (Option.some FieldType.int)) 0 0 G B [.ref (B + 254)] μ (some (.int (μ 254 0))) (up2 μ 254 0 0) := by
  refine CM.of (by decide) (Nat.le_of_ble_eq_true rfl) ?_
  intro p e s m below meth c ls K hr hlocks hP hl
  have hS : va_S (AA B) s.heap s.heap [] := va_S.rf
  have hl : lv_has ls 2 [(0, .ref (B + 254))] := hl
  refine lv_aload_n K.1.1 K.1.2.1 dX3_empty_0 rfl (lv_at hl 0 rfl) ?_
  refine m_geti K hP (by decide) sh_254 rfl tuX3 0 (by decide) rfl q_365 dX3_empty_1 ?_
  refine lv_topi (fun g_1 eg_1 => ?_)
  refine lv_istore_n (lv' := [(1, .int g_1), (0, .ref (B + 254))]) K.1.1 K.1.2.1 dX3_empty_4 rfl hl (by decide) rfl (fun ls hl => ?_)
  refine lv_aload_n K.1.1 K.1.2.1 dX3_empty_5 rfl (lv_at hl 1 rfl) ?_
  refine lv_iconst (v := 0) K.1.1 K.1.2.1 dX3_empty_6 (by decide) ?_
  refine m_puti K hP hS (by decide) sh_254 rfl tuX3 tyX3 tyX3_ok nmX3 0 (by decide) rfl rfl (by decide +kernel) q_365 dX3_empty_7 (fun H locs hP hS => ?_)
  refine lv_iload_n K.1.1 K.1.2.1 dX3_empty_10 rfl (lv_at hl 0 rfl) ?_
  exact m_iret K hr hlocks hP hS dX3_empty_11 (by subst eg_1; rfl) (by subst eg_1; rfl)

set_option maxHeartbeats 4000000 in
set_option maxRecDepth 100000 in
theorem MX3_rewind (l : Launch) (G : GG) (B : Nat) (μ : Mm) : CM l yX3_rewind (.code yX3_rewind cX3_rewind 1 Option.none) 0 0 G B [.ref (B + 254)] μ none (D_rewind μ) := by
  refine CM.of (by decide) (Nat.le_of_ble_eq_true rfl) ?_
  intro p e s m below meth c ls K hr hlocks hP hl
  have hS : va_S (AA B) s.heap s.heap [] := va_S.rf
  have hl : lv_has ls 1 [(0, .ref (B + 254))] := hl
  refine lv_aload_n K.1.1 K.1.2.1 dX3_rewind_0 rfl (lv_at hl 0 rfl) ?_
  refine lv_iconst (v := 0) K.1.1 K.1.2.1 dX3_rewind_1 (by decide) ?_
  refine m_puti K hP hS (by decide) sh_254 rfl tuX3 tyX3 tyX3_ok nmX3 4 (by decide) rfl rfl (by decide +kernel) q_372 dX3_rewind_2 (fun H locs hP hS => ?_)
  refine lv_aload_n K.1.1 K.1.2.1 dX3_rewind_5 rfl (lv_at hl 0 rfl) ?_
  refine lv_iconst (v := (-1)) K.1.1 K.1.2.1 dX3_rewind_6 (by decide) ?_
  refine m_puti K hP hS (by decide) sh_254 rfl tuX3 tyX3 tyX3_ok nmX3 5 (by decide) rfl rfl (by decide +kernel) q_373 dX3_rewind_7 (fun H locs hP hS => ?_)
  exact m_vret K hr hlocks hP hS dX3_rewind_10 rfl (by skip; rfl)

set_option maxHeartbeats 4000000 in
set_option maxRecDepth 100000 in
theorem MX3_byteAt (l : Launch) (G : GG) (B : Nat) (μ : Mm) (i : Int32) : CM l yX3_byteAt (.code yX3_byteAt cX3_byteAt 2 (Option.some FieldType.int)) 1 21 G B [.ref (B + 254), .int i] μ (some (.int (D_byteAt μ i))) μ := by
  refine CM.of (by decide) (Nat.le_of_ble_eq_true rfl) ?_
  intro p e s m below meth c ls K hr hlocks hP hl
  have hS : va_S (AA B) s.heap s.heap [] := va_S.rf
  have hl : lv_has ls 2 [(0, .ref (B + 254)), (1, .int i)] := hl
  refine lv_iload_n K.1.1 K.1.2.1 dX3_byteAt_0 rfl (lv_at hl 1 rfl) ?_
  refine lv_aload_n K.1.1 K.1.2.1 dX3_byteAt_1 rfl (lv_at hl 0 rfl) ?_
  refine m_geti K hP (by decide) sh_254 rfl tuX3 0 (by decide) rfl q_365 dX3_byteAt_2 ?_
  refine lv_topi (fun g_1 eg_1 => ?_)
  refine lv_icmp_ge (tgt := 19) K.1.1 K.1.2.1 dX3_byteAt_5 (by decide) (fun c_5 => ?_) (fun c_5 => ?_)
  · refine lv_iconst (v := (-1)) K.1.1 K.1.2.1 dX3_byteAt_19 (by decide) ?_
    exact m_iret K hr hlocks hP hS dX3_byteAt_20 (by subst eg_1; first | (simp only [D_byteAt, c_5, Int32.not_lt.mpr c_5, if_true, if_false, ite_true, ite_false, reduceIte, not_true, not_false_iff]; done) | simp [D_byteAt, c_5, Int32.not_lt.mpr c_5]) rfl
  · refine lv_aload_n K.1.1 K.1.2.1 dX3_byteAt_8 rfl (lv_at hl 0 rfl) ?_
    refine m_getr K hP (by decide) sh_254 rfl tuX3 3 (by decide) rfl q_371 dX3_byteAt_9 ?_
    refine lv_iload_n K.1.1 K.1.2.1 dX3_byteAt_12 rfl (lv_at hl 1 rfl) ?_
    refine m_cV (n := 1) (As := [.int i]) (rest := []) K hP hS (MX5_get l G B _ 257 150 isR_257 i ) (Nat.lt_of_succ_lt isR_257.1) isR_257.2.1 rfl q_435 q_436 q_437 q_85 q_438 hv_X5_get ⟨Nat.le_of_ble_eq_true rfl, Nat.le_of_ble_eq_true rfl⟩ rfl hl.1 rfl (Nat.le_of_ble_eq_true rfl) dX3_byteAt_13 ⟨Nat.zero_le _, Nat.zero_le _⟩ (fun H locs hP hS => ?_)
    refine lv_topi (fun r_2 er_2 => ?_)
    refine lv_goto (tgt := 20) K.1.1 K.1.2.1 dX3_byteAt_16 (by decide) ?_
    exact m_iret K hr hlocks hP hS dX3_byteAt_20 (by subst eg_1 er_2; first | (simp only [D_byteAt, c_5, Int32.not_le.mp c_5, if_true, if_false, ite_true, ite_false, reduceIte, not_true, not_false_iff]; done) | simp [D_byteAt, c_5, Int32.not_le.mp c_5]) rfl

set_option maxHeartbeats 4000000 in
set_option maxRecDepth 100000 in
theorem MX3_skipSpaces (l : Launch) (G : GG) (B : Nat) (μ : Mm) : CM l yX3_skipSpaces (.code yX3_skipSpaces cX3_skipSpaces 1 Option.none) 2 42 G B [.ref (B + 254)] μ none (D_skipSpaces μ) := by
  refine CM.of (by decide) (Nat.le_of_ble_eq_true rfl) ?_
  intro p e s m below meth c ls K hr hlocks hP hl
  have hS : va_S (AA B) s.heap s.heap [] := va_S.rf
  have hl : lv_has ls 1 [(0, .ref (B + 254))] := hl
  have lp_0 : ∀ n : Nat, ∀ (μ_0 : Mm) (H : Heap) (locs : List Loc) (ls : Array Slot), (cn (μ_0 254 0) ≤ cn (μ_0 254 4) + n) → (D_skip (cn (μ 254 0)) μ = D_skip n μ_0) → MP G B μ_0 H → va_S (AA B) s.heap H locs → lv_has ls 1 [(0, .ref (B + 254))] → W p l e ({ frames := 2, cells := 0, slots := 0, locals := 42 } : Room) s m ([.ref (B + 254)] : List Value).toArray below meth c H locs 0 0 (MF below G B none (D_skipSpaces μ) ([.ref (B + 254)] : List Value).toArray s) (F0 m 0 ls []) := by
    intro n
    induction n with
    | zero =>
      intro μ_0 H locs ls inv0_0 fin0_0 hP hS hl
      refine lv_aload_n K.1.1 K.1.2.1 dX3_skipSpaces_0 rfl (lv_at hl 0 rfl) ?_
      refine m_geti K hP (by decide) sh_254 rfl tuX3 4 (by decide) rfl q_372 dX3_skipSpaces_1 ?_
      refine lv_topi (fun g_1 eg_1 => ?_)
      refine lv_aload_n K.1.1 K.1.2.1 dX3_skipSpaces_4 rfl (lv_at hl 0 rfl) ?_
      refine m_geti K hP (by decide) sh_254 rfl tuX3 0 (by decide) rfl q_365 dX3_skipSpaces_5 ?_
      refine lv_topi (fun g_2 eg_2 => ?_)
      refine lv_icmp_ge (tgt := 37) K.1.1 K.1.2.1 dX3_skipSpaces_8 (by decide) (fun c_8 => ?_) (fun c_8 => ?_)
      · exact m_vret K hr hlocks hP hS dX3_skipSpaces_37 rfl (by subst eg_1 eg_2; rw [D_skipSpaces, fin0_0]; first | rfl | rw [D_skip, if_neg (Int32.not_lt.mpr c_8)] | rw [D_skip, if_pos (Int32.not_le.mp c_8), if_neg c_21])
      · refine lv_aload_n K.1.1 K.1.2.1 dX3_skipSpaces_11 rfl (lv_at hl 0 rfl) ?_
        refine lv_aload_n K.1.1 K.1.2.1 dX3_skipSpaces_12 rfl (lv_at hl 0 rfl) ?_
        refine m_geti K hP (by decide) sh_254 rfl tuX3 4 (by decide) rfl q_372 dX3_skipSpaces_13 ?_
        refine lv_topi (fun g_3 eg_3 => ?_)
        refine m_cV (n := 1) (As := [.int g_3]) (rest := []) K hP hS (MX3_byteAt l G B _ g_3 ) (by decide) sh_254 rfl q_431 q_433 q_1 q_90 q_434 hv_X3_byteAt ⟨Nat.le_of_ble_eq_true rfl, Nat.le_of_ble_eq_true rfl⟩ rfl hl.1 rfl (Nat.le_of_ble_eq_true rfl) dX3_skipSpaces_16 ⟨Nat.zero_le _, Nat.zero_le _⟩ (fun H locs hP hS => ?_)
        refine lv_topi (fun r_4 er_4 => ?_)
        refine lv_bipush (v := 32) K.1.1 K.1.2.1 dX3_skipSpaces_19 (by decide) ?_
        refine lv_icmp_ne (tgt := 37) K.1.1 K.1.2.1 dX3_skipSpaces_21 (by decide) (fun c_21 => ?_) (fun c_21 => ?_)
        · exact m_vret K hr hlocks hP hS dX3_skipSpaces_37 rfl (by subst eg_1 eg_2 eg_3 er_4; rw [D_skipSpaces, fin0_0]; first | rfl | rw [D_skip, if_neg (Int32.not_lt.mpr c_8)] | rw [D_skip, if_pos (Int32.not_le.mp c_8), if_neg c_21])
        · exact absurd c_21 (by subst eg_1 eg_2 eg_3 er_4; exact fun h => cur_end inv0_0 (Int32.not_le.mp c_8) (byte_nn (v := 32) h (by decide)))
    | succ n ih_0 =>
      intro μ_0 H locs ls inv0_0 fin0_0 hP hS hl
      refine lv_aload_n K.1.1 K.1.2.1 dX3_skipSpaces_0 rfl (lv_at hl 0 rfl) ?_
      refine m_geti K hP (by decide) sh_254 rfl tuX3 4 (by decide) rfl q_372 dX3_skipSpaces_1 ?_
      refine lv_topi (fun g_5 eg_5 => ?_)
      refine lv_aload_n K.1.1 K.1.2.1 dX3_skipSpaces_4 rfl (lv_at hl 0 rfl) ?_
      refine m_geti K hP (by decide) sh_254 rfl tuX3 0 (by decide) rfl q_365 dX3_skipSpaces_5 ?_
      refine lv_topi (fun g_6 eg_6 => ?_)
      refine lv_icmp_ge (tgt := 37) K.1.1 K.1.2.1 dX3_skipSpaces_8 (by decide) (fun c_8 => ?_) (fun c_8 => ?_)
      · exact m_vret K hr hlocks hP hS dX3_skipSpaces_37 rfl (by subst eg_5 eg_6; rw [D_skipSpaces, fin0_0]; first | rfl | rw [D_skip, if_neg (Int32.not_lt.mpr c_8)] | rw [D_skip, if_pos (Int32.not_le.mp c_8), if_neg c_21])
      · refine lv_aload_n K.1.1 K.1.2.1 dX3_skipSpaces_11 rfl (lv_at hl 0 rfl) ?_
        refine lv_aload_n K.1.1 K.1.2.1 dX3_skipSpaces_12 rfl (lv_at hl 0 rfl) ?_
        refine m_geti K hP (by decide) sh_254 rfl tuX3 4 (by decide) rfl q_372 dX3_skipSpaces_13 ?_
        refine lv_topi (fun g_7 eg_7 => ?_)
        refine m_cV (n := 1) (As := [.int g_7]) (rest := []) K hP hS (MX3_byteAt l G B _ g_7 ) (by decide) sh_254 rfl q_431 q_433 q_1 q_90 q_434 hv_X3_byteAt ⟨Nat.le_of_ble_eq_true rfl, Nat.le_of_ble_eq_true rfl⟩ rfl hl.1 rfl (Nat.le_of_ble_eq_true rfl) dX3_skipSpaces_16 ⟨Nat.zero_le _, Nat.zero_le _⟩ (fun H locs hP hS => ?_)
        refine lv_topi (fun r_8 er_8 => ?_)
        refine lv_bipush (v := 32) K.1.1 K.1.2.1 dX3_skipSpaces_19 (by decide) ?_
        refine lv_icmp_ne (tgt := 37) K.1.1 K.1.2.1 dX3_skipSpaces_21 (by decide) (fun c_21 => ?_) (fun c_21 => ?_)
        · exact m_vret K hr hlocks hP hS dX3_skipSpaces_37 rfl (by subst eg_5 eg_6 eg_7 er_8; rw [D_skipSpaces, fin0_0]; first | rfl | rw [D_skip, if_neg (Int32.not_lt.mpr c_8)] | rw [D_skip, if_pos (Int32.not_le.mp c_8), if_neg c_21])
        · refine lv_aload_n K.1.1 K.1.2.1 dX3_skipSpaces_24 rfl (lv_at hl 0 rfl) ?_
          refine lv_dup K.1.1 K.1.2.1 dX3_skipSpaces_25 rfl ?_
          refine m_geti K hP (by decide) sh_254 rfl tuX3 4 (by decide) rfl q_372 dX3_skipSpaces_26 ?_
          refine lv_topi (fun g_9 eg_9 => ?_)
          refine lv_iconst (v := 1) K.1.1 K.1.2.1 dX3_skipSpaces_29 (by decide) ?_
          refine lv_iadd K.1.1 K.1.2.1 dX3_skipSpaces_30 ?_
          refine m_puti K hP hS (by decide) sh_254 rfl tuX3 tyX3 tyX3_ok nmX3 4 (by decide) rfl rfl (by decide +kernel) q_372 dX3_skipSpaces_31 (fun H locs hP hS => ?_)
          refine lv_goto (tgt := 0) K.1.1 K.1.2.1 dX3_skipSpaces_34 (by decide) ?_
          exact ih_0  _ _ _ _ (by subst eg_5 eg_6 eg_7 er_8 eg_9; show cn (D_next μ_0 254 0) ≤ cn (D_next μ_0 254 4) + n; rw [D_next_0, D_next_4]; exact cur_step inv0_0 (Int32.not_le.mp c_8) (byte_nn (v := 32) c_21 (by decide))) (by subst eg_5 eg_6 eg_7 er_8 eg_9; rw [fin0_0, D_skip, if_pos (Int32.not_le.mp c_8), if_pos c_21]; rfl) hP hS (lv_sub hl [0] rfl)
  exact lp_0 (cn (μ 254 0))  _ _ _ _ (by exact Nat.le_add_left _ _) (by rfl) hP hS (lv_sub hl [0] rfl)

set_option maxHeartbeats 4000000 in
set_option maxRecDepth 100000 in
theorem MX3_readByte (l : Launch) (G : GG) (B : Nat) (μ : Mm) (w : Int32) : CM l yX3_readByte (.code yX3_readByte cX3_readByte 2 (Option.some FieldType.boolean)) 2 42 G B [.ref (B + 254), .int w] μ (some (.int (D_readByte μ w))) (D_readByteM μ w) := by
  refine CM.of (by decide) (Nat.le_of_ble_eq_true rfl) ?_
  intro p e s m below meth c ls K hr hlocks hP hl
  have hS : va_S (AA B) s.heap s.heap [] := va_S.rf
  have hl : lv_has ls 2 [(0, .ref (B + 254)), (1, .int w)] := hl
  refine lv_aload_n K.1.1 K.1.2.1 dX3_readByte_0 rfl (lv_at hl 0 rfl) ?_
  refine lv_aload_n K.1.1 K.1.2.1 dX3_readByte_1 rfl (lv_at hl 0 rfl) ?_
  refine m_geti K hP (by decide) sh_254 rfl tuX3 4 (by decide) rfl q_372 dX3_readByte_2 ?_
  refine lv_topi (fun g_1 eg_1 => ?_)
  refine m_cV (n := 1) (As := [.int g_1]) (rest := []) K hP hS (MX3_byteAt l G B _ g_1 ) (by decide) sh_254 rfl q_431 q_433 q_1 q_90 q_434 hv_X3_byteAt ⟨Nat.le_of_ble_eq_true rfl, Nat.le_of_ble_eq_true rfl⟩ rfl hl.1 rfl (Nat.le_of_ble_eq_true rfl) dX3_readByte_5 ⟨Nat.zero_le _, Nat.zero_le _⟩ (fun H locs hP hS => ?_)
  refine lv_topi (fun r_2 er_2 => ?_)
  refine lv_iload_n K.1.1 K.1.2.1 dX3_readByte_8 rfl (lv_at hl 1 rfl) ?_
  refine lv_icmp_eq (tgt := 22) K.1.1 K.1.2.1 dX3_readByte_9 (by decide) (fun c_9 => ?_) (fun c_9 => ?_)
  · refine lv_aload_n K.1.1 K.1.2.1 dX3_readByte_22 rfl (lv_at hl 0 rfl) ?_
    refine lv_dup K.1.1 K.1.2.1 dX3_readByte_23 rfl ?_
    refine m_geti K hP (by decide) sh_254 rfl tuX3 4 (by decide) rfl q_372 dX3_readByte_24 ?_
    refine lv_topi (fun g_3 eg_3 => ?_)
    refine lv_iconst (v := 1) K.1.1 K.1.2.1 dX3_readByte_27 (by decide) ?_
    refine lv_iadd K.1.1 K.1.2.1 dX3_readByte_28 ?_
    refine m_puti K hP hS (by decide) sh_254 rfl tuX3 tyX3 tyX3_ok nmX3 4 (by decide) rfl rfl (by decide +kernel) q_372 dX3_readByte_29 (fun H locs hP hS => ?_)
    refine lv_iconst (v := 1) K.1.1 K.1.2.1 dX3_readByte_32 (by decide) ?_
    exact m_zret K hr hlocks hP hS dX3_readByte_33 (by first | rfl | (subst eg_1 er_2 eg_3; rfl)) (by subst eg_1 er_2 eg_3; first | (simp only [D_readByte, D_readByteM, D_next, c_9, if_true, if_false, ite_true, ite_false, reduceIte, not_true, not_false_iff]; done) | simp [D_readByte, D_readByteM, D_next, c_9]) (by subst eg_1 er_2 eg_3; first | (simp only [D_readByte, D_readByteM, D_next, c_9, if_true, if_false, ite_true, ite_false, reduceIte, not_true, not_false_iff]; done) | simp [D_readByte, D_readByteM, D_next, c_9])
  · refine lv_aload_n K.1.1 K.1.2.1 dX3_readByte_12 rfl (lv_at hl 0 rfl) ?_
    refine lv_aload_n K.1.1 K.1.2.1 dX3_readByte_13 rfl (lv_at hl 0 rfl) ?_
    refine m_geti K hP (by decide) sh_254 rfl tuX3 4 (by decide) rfl q_372 dX3_readByte_14 ?_
    refine lv_topi (fun g_4 eg_4 => ?_)
    refine m_puti K hP hS (by decide) sh_254 rfl tuX3 tyX3 tyX3_ok nmX3 5 (by decide) rfl rfl (by decide +kernel) q_373 dX3_readByte_17 (fun H locs hP hS => ?_)
    refine lv_iconst (v := 0) K.1.1 K.1.2.1 dX3_readByte_20 (by decide) ?_
    exact m_zret K hr hlocks hP hS dX3_readByte_21 (by first | rfl | (subst eg_1 er_2 eg_4; rfl)) (by subst eg_1 er_2 eg_4; first | (simp only [D_readByte, D_readByteM, D_next, c_9, if_true, if_false, ite_true, ite_false, reduceIte, not_true, not_false_iff]; done) | simp [D_readByte, D_readByteM, D_next, c_9]) (by subst eg_1 er_2 eg_4; first | (simp only [D_readByte, D_readByteM, D_next, c_9, if_true, if_false, ite_true, ite_false, reduceIte, not_true, not_false_iff]; done) | simp [D_readByte, D_readByteM, D_next, c_9])

set_option maxHeartbeats 4000000 in
set_option maxRecDepth 100000 in
theorem MX3_readWord (l : Launch) (G : GG) (B : Nat) (μ : Mm) : CM l yX3_readWord (.code yX3_readWord cX3_readWord 2 (Option.some FieldType.boolean)) 6 133 G B [.ref (B + 254)] μ (some (.int (D_readWord μ))) (D_readWordM μ) := by
  refine CM.of (by decide) (Nat.le_of_ble_eq_true rfl) ?_
  intro p e s m below meth c ls K hr hlocks hP hl
  have hS : va_S (AA B) s.heap s.heap [] := va_S.rf
  have hl : lv_has ls 2 [(0, .ref (B + 254))] := hl
  refine lv_aload_n K.1.1 K.1.2.1 dX3_readWord_0 rfl (lv_at hl 0 rfl) ?_
  refine m_geti K hP (by decide) sh_254 rfl tuX3 4 (by decide) rfl q_372 dX3_readWord_1 ?_
  refine lv_topi (fun g_1 eg_1 => ?_)
  refine lv_istore_n (lv' := [(1, .int g_1), (0, .ref (B + 254))]) K.1.1 K.1.2.1 dX3_readWord_4 rfl hl (by decide) rfl (fun ls hl => ?_)
  have lp_5 : ∀ n : Nat, ∀ (μ_5 : Mm) (H : Heap) (locs : List Loc) (ls : Array Slot), (cn (μ_5 254 0) ≤ cn (μ_5 254 4) + n) → (D_let (cn (μ 254 0)) μ = D_let n μ_5) → MP G B μ_5 H → va_S (AA B) s.heap H locs → lv_has ls 2 [(1, .int g_1), (0, .ref (B + 254))] → W p l e ({ frames := 6, cells := 0, slots := 0, locals := 133 } : Room) s m ([.ref (B + 254)] : List Value).toArray below meth c H locs 0 0 (MF below G B (some (.int (D_readWord μ))) (D_readWordM μ) ([.ref (B + 254)] : List Value).toArray s) (F0 m 5 ls []) := by
    intro n
    induction n with
    | zero =>
      intro μ_5 H locs ls inv0_5 fin0_5 hP hS hl
      refine lv_aload_n K.1.1 K.1.2.1 dX3_readWord_5 rfl (lv_at hl 1 rfl) ?_
      refine m_geti K hP (by decide) sh_254 rfl tuX3 4 (by decide) rfl q_372 dX3_readWord_6 ?_
      refine lv_topi (fun g_2 eg_2 => ?_)
      refine lv_aload_n K.1.1 K.1.2.1 dX3_readWord_9 rfl (lv_at hl 1 rfl) ?_
      refine m_geti K hP (by decide) sh_254 rfl tuX3 0 (by decide) rfl q_365 dX3_readWord_10 ?_
      refine lv_topi (fun g_3 eg_3 => ?_)
      refine lv_icmp_ge (tgt := 47) K.1.1 K.1.2.1 dX3_readWord_13 (by decide) (fun c_13 => ?_) (fun c_13 => ?_)
      · refine lv_aload_n K.1.1 K.1.2.1 dX3_readWord_47 rfl (lv_at hl 1 rfl) ?_
        refine lv_aload_n K.1.1 K.1.2.1 dX3_readWord_48 rfl (lv_at hl 1 rfl) ?_
        refine m_getr K hP (by decide) sh_254 rfl tuX3 3 (by decide) rfl q_371 dX3_readWord_49 ?_
        refine lv_iload_n K.1.1 K.1.2.1 dX3_readWord_52 rfl (lv_at hl 0 rfl) ?_
        refine lv_aload_n K.1.1 K.1.2.1 dX3_readWord_53 rfl (lv_at hl 1 rfl) ?_
        refine m_geti K hP (by decide) sh_254 rfl tuX3 4 (by decide) rfl q_372 dX3_readWord_54 ?_
        refine lv_topi (fun g_4 eg_4 => ?_)
        refine lv_iload_n K.1.1 K.1.2.1 dX3_readWord_57 rfl (lv_at hl 0 rfl) ?_
        refine lv_isub K.1.1 K.1.2.1 dX3_readWord_58 ?_
        refine m_cSX (n := 3) (As := [.ref (B + 257), .int g_1, .int (g_4 - g_1)]) (rest := [.ref (B + 254)]) K hP hS (MX9_of l G B _ 257 150 isR_257 g_1 (g_4 - g_1) ) q_446 q_447 q_100 q_448 hv_X9_of.2 ⟨Nat.le_of_ble_eq_true rfl, Nat.le_of_ble_eq_true rfl⟩ rfl hl.1 rfl (Nat.le_of_ble_eq_true rfl) dX3_readWord_59 ⟨Nat.zero_le _, Nat.zero_le _⟩ (fun H locs hP hS => ?_)
        refine m_topw (fun r_6 er_6 => ?_)
        refine m_putw (E := "ShadedBooks$Word") K hP hS (by decide) sh_254 rfl tuX3 tyX3 tyX3_ok nmX3 1 (by decide) rfl rfl (by decide +kernel) q_367 dX3_readWord_62 (fun H locs hP hS => ?_)
        refine lv_aload_n K.1.1 K.1.2.1 dX3_readWord_65 rfl (lv_at hl 1 rfl) ?_
        refine m_get K hP (by decide) sh_254 rfl tuX3 1 (by decide) rfl q_367 dX3_readWord_66 ?_
        refine m_topw (fun g_7 eg_7 => ?_)
        by_cases c_69 : g_7 < 0
        · rw [show wv G g_7 = .null from if_pos c_69]
          refine lv_ifnonnullN K.1.1 K.1.2.1 dX3_readWord_69 ?_
          refine lv_aload_n K.1.1 K.1.2.1 dX3_readWord_72 rfl (lv_at hl 1 rfl) ?_
          refine lv_iload_n K.1.1 K.1.2.1 dX3_readWord_73 rfl (lv_at hl 0 rfl) ?_
          refine m_puti K hP hS (by decide) sh_254 rfl tuX3 tyX3 tyX3_ok nmX3 5 (by decide) rfl rfl (by decide +kernel) q_373 dX3_readWord_74 (fun H locs hP hS => ?_)
          refine lv_aload_n K.1.1 K.1.2.1 dX3_readWord_77 rfl (lv_at hl 1 rfl) ?_
          refine m_get K hP (by decide) sh_254 rfl tuX3 1 (by decide) rfl q_367 dX3_readWord_78 ?_
          refine m_topw (fun g_8 eg_8 => ?_)
          by_cases c_81 : g_8 < 0
          · rw [show wv G g_8 = .null from if_pos c_81]
            refine lv_ifnullN (tgt := 88) K.1.1 K.1.2.1 dX3_readWord_81 (by decide) ?_
            refine lv_iconst (v := 0) K.1.1 K.1.2.1 dX3_readWord_88 (by decide) ?_
            exact m_zret K hr hlocks hP hS dX3_readWord_89 (by first | rfl | decide) (by subst eg_1 eg_2 eg_3 eg_4 er_6 eg_7 eg_8; have hD : D_letters μ = μ_5 := (by rw [D_letters, fin0_5]; first | rfl | rw [D_let, if_neg (Int32.not_lt.mpr c_13)] | rw [D_let, if_pos (Int32.not_le.mp c_13), if_pos c_31]); simp only [up2_s, up2, and_self, if_true, and_false, false_and, if_false, Nat.reduceEqDiff, reduceCtorEq] at c_69 c_81; first | exact absurd c_69 c_81 | exact absurd c_81 c_69 | (rw [D_readWord, D_word, hD]; first | rw [if_pos c_69] | rw [if_neg c_69])) (by subst eg_1 eg_2 eg_3 eg_4 er_6 eg_7 eg_8; have hD : D_letters μ = μ_5 := (by rw [D_letters, fin0_5]; first | rfl | rw [D_let, if_neg (Int32.not_lt.mpr c_13)] | rw [D_let, if_pos (Int32.not_le.mp c_13), if_pos c_31]); simp only [up2_s, up2, and_self, if_true, and_false, false_and, if_false, Nat.reduceEqDiff, reduceCtorEq] at c_69 c_81; first | exact absurd c_69 c_81 | exact absurd c_81 c_69 | (rw [D_readWordM, D_word, hD]; first | rw [if_pos c_69] | rw [if_neg c_69]))
          · rw [show wv G g_8 = .ref (G.2.2.2 g_8.toNatClampNeg) from if_neg c_81]
            refine lv_ifnull K.1.1 K.1.2.1 dX3_readWord_81 ?_
            refine lv_iconst (v := 1) K.1.1 K.1.2.1 dX3_readWord_84 (by decide) ?_
            refine lv_goto (tgt := 89) K.1.1 K.1.2.1 dX3_readWord_85 (by decide) ?_
            exact m_zret K hr hlocks hP hS dX3_readWord_89 (by first | rfl | decide) (by subst eg_1 eg_2 eg_3 eg_4 er_6 eg_7 eg_8; have hD : D_letters μ = μ_5 := (by rw [D_letters, fin0_5]; first | rfl | rw [D_let, if_neg (Int32.not_lt.mpr c_13)] | rw [D_let, if_pos (Int32.not_le.mp c_13), if_pos c_31]); simp only [up2_s, up2, and_self, if_true, and_false, false_and, if_false, Nat.reduceEqDiff, reduceCtorEq] at c_69 c_81; first | exact absurd c_69 c_81 | exact absurd c_81 c_69 | (rw [D_readWord, D_word, hD]; first | rw [if_pos c_69] | rw [if_neg c_69])) (by subst eg_1 eg_2 eg_3 eg_4 er_6 eg_7 eg_8; have hD : D_letters μ = μ_5 := (by rw [D_letters, fin0_5]; first | rfl | rw [D_let, if_neg (Int32.not_lt.mpr c_13)] | rw [D_let, if_pos (Int32.not_le.mp c_13), if_pos c_31]); simp only [up2_s, up2, and_self, if_true, and_false, false_and, if_false, Nat.reduceEqDiff, reduceCtorEq] at c_69 c_81; first | exact absurd c_69 c_81 | exact absurd c_81 c_69 | (rw [D_readWordM, D_word, hD]; first | rw [if_pos c_69] | rw [if_neg c_69]))
        · rw [show wv G g_7 = .ref (G.2.2.2 g_7.toNatClampNeg) from if_neg c_69]
          refine lv_ifnonnull (tgt := 77) K.1.1 K.1.2.1 dX3_readWord_69 (by decide) ?_
          refine lv_aload_n K.1.1 K.1.2.1 dX3_readWord_77 rfl (lv_at hl 1 rfl) ?_
          refine m_get K hP (by decide) sh_254 rfl tuX3 1 (by decide) rfl q_367 dX3_readWord_78 ?_
          refine m_topw (fun g_9 eg_9 => ?_)
          by_cases c_81 : g_9 < 0
          · rw [show wv G g_9 = .null from if_pos c_81]
            refine lv_ifnullN (tgt := 88) K.1.1 K.1.2.1 dX3_readWord_81 (by decide) ?_
            refine lv_iconst (v := 0) K.1.1 K.1.2.1 dX3_readWord_88 (by decide) ?_
            exact m_zret K hr hlocks hP hS dX3_readWord_89 (by first | rfl | decide) (by subst eg_1 eg_2 eg_3 eg_4 er_6 eg_7 eg_9; have hD : D_letters μ = μ_5 := (by rw [D_letters, fin0_5]; first | rfl | rw [D_let, if_neg (Int32.not_lt.mpr c_13)] | rw [D_let, if_pos (Int32.not_le.mp c_13), if_pos c_31]); simp only [up2_s, up2, and_self, if_true, and_false, false_and, if_false, Nat.reduceEqDiff, reduceCtorEq] at c_69 c_81; first | exact absurd c_69 c_81 | exact absurd c_81 c_69 | (rw [D_readWord, D_word, hD]; first | rw [if_pos c_69] | rw [if_neg c_69])) (by subst eg_1 eg_2 eg_3 eg_4 er_6 eg_7 eg_9; have hD : D_letters μ = μ_5 := (by rw [D_letters, fin0_5]; first | rfl | rw [D_let, if_neg (Int32.not_lt.mpr c_13)] | rw [D_let, if_pos (Int32.not_le.mp c_13), if_pos c_31]); simp only [up2_s, up2, and_self, if_true, and_false, false_and, if_false, Nat.reduceEqDiff, reduceCtorEq] at c_69 c_81; first | exact absurd c_69 c_81 | exact absurd c_81 c_69 | (rw [D_readWordM, D_word, hD]; first | rw [if_pos c_69] | rw [if_neg c_69]))
          · rw [show wv G g_9 = .ref (G.2.2.2 g_9.toNatClampNeg) from if_neg c_81]
            refine lv_ifnull K.1.1 K.1.2.1 dX3_readWord_81 ?_
            refine lv_iconst (v := 1) K.1.1 K.1.2.1 dX3_readWord_84 (by decide) ?_
            refine lv_goto (tgt := 89) K.1.1 K.1.2.1 dX3_readWord_85 (by decide) ?_
            exact m_zret K hr hlocks hP hS dX3_readWord_89 (by first | rfl | decide) (by subst eg_1 eg_2 eg_3 eg_4 er_6 eg_7 eg_9; have hD : D_letters μ = μ_5 := (by rw [D_letters, fin0_5]; first | rfl | rw [D_let, if_neg (Int32.not_lt.mpr c_13)] | rw [D_let, if_pos (Int32.not_le.mp c_13), if_pos c_31]); simp only [up2_s, up2, and_self, if_true, and_false, false_and, if_false, Nat.reduceEqDiff, reduceCtorEq] at c_69 c_81; first | exact absurd c_69 c_81 | exact absurd c_81 c_69 | (rw [D_readWord, D_word, hD]; first | rw [if_pos c_69] | rw [if_neg c_69])) (by subst eg_1 eg_2 eg_3 eg_4 er_6 eg_7 eg_9; have hD : D_letters μ = μ_5 := (by rw [D_letters, fin0_5]; first | rfl | rw [D_let, if_neg (Int32.not_lt.mpr c_13)] | rw [D_let, if_pos (Int32.not_le.mp c_13), if_pos c_31]); simp only [up2_s, up2, and_self, if_true, and_false, false_and, if_false, Nat.reduceEqDiff, reduceCtorEq] at c_69 c_81; first | exact absurd c_69 c_81 | exact absurd c_81 c_69 | (rw [D_readWordM, D_word, hD]; first | rw [if_pos c_69] | rw [if_neg c_69]))
      · refine lv_aload_n K.1.1 K.1.2.1 dX3_readWord_16 rfl (lv_at hl 1 rfl) ?_
        refine lv_aload_n K.1.1 K.1.2.1 dX3_readWord_17 rfl (lv_at hl 1 rfl) ?_
        refine m_geti K hP (by decide) sh_254 rfl tuX3 4 (by decide) rfl q_372 dX3_readWord_18 ?_
        refine lv_topi (fun g_10 eg_10 => ?_)
        refine m_cV (n := 1) (As := [.int g_10]) (rest := []) K hP hS (MX3_byteAt l G B _ g_10 ) (by decide) sh_254 rfl q_431 q_433 q_1 q_90 q_434 hv_X3_byteAt ⟨Nat.le_of_ble_eq_true rfl, Nat.le_of_ble_eq_true rfl⟩ rfl hl.1 rfl (Nat.le_of_ble_eq_true rfl) dX3_readWord_21 ⟨Nat.zero_le _, Nat.zero_le _⟩ (fun H locs hP hS => ?_)
        refine lv_topi (fun r_11 er_11 => ?_)
        refine lv_bipush (v := 97) K.1.1 K.1.2.1 dX3_readWord_24 (by decide) ?_
        refine lv_bipush (v := 122) K.1.1 K.1.2.1 dX3_readWord_26 (by decide) ?_
        refine m_cSN (n := 3) (As := [.int r_11, .int 97, .int 122]) (rest := []) K hP hS (MX10_isWithin l G B _ r_11 97 122 ) K.2.2.1.1 q_444 q_82 q_445 hn_X10_isWithin ⟨Nat.le_of_ble_eq_true rfl, Nat.le_of_ble_eq_true rfl⟩ rfl hl.1 rfl (Nat.le_of_ble_eq_true rfl) dX3_readWord_28 ⟨Nat.zero_le _, Nat.zero_le _⟩ (fun H locs hP hS => ?_)
        refine lv_topi (fun r_12 er_12 => ?_)
        refine lv_if_eq (tgt := 47) K.1.1 K.1.2.1 dX3_readWord_31 (by decide) (fun c_31 => ?_) (fun c_31 => ?_)
        · refine lv_aload_n K.1.1 K.1.2.1 dX3_readWord_47 rfl (lv_at hl 1 rfl) ?_
          refine lv_aload_n K.1.1 K.1.2.1 dX3_readWord_48 rfl (lv_at hl 1 rfl) ?_
          refine m_getr K hP (by decide) sh_254 rfl tuX3 3 (by decide) rfl q_371 dX3_readWord_49 ?_
          refine lv_iload_n K.1.1 K.1.2.1 dX3_readWord_52 rfl (lv_at hl 0 rfl) ?_
          refine lv_aload_n K.1.1 K.1.2.1 dX3_readWord_53 rfl (lv_at hl 1 rfl) ?_
          refine m_geti K hP (by decide) sh_254 rfl tuX3 4 (by decide) rfl q_372 dX3_readWord_54 ?_
          refine lv_topi (fun g_13 eg_13 => ?_)
          refine lv_iload_n K.1.1 K.1.2.1 dX3_readWord_57 rfl (lv_at hl 0 rfl) ?_
          refine lv_isub K.1.1 K.1.2.1 dX3_readWord_58 ?_
          refine m_cSX (n := 3) (As := [.ref (B + 257), .int g_1, .int (g_13 - g_1)]) (rest := [.ref (B + 254)]) K hP hS (MX9_of l G B _ 257 150 isR_257 g_1 (g_13 - g_1) ) q_446 q_447 q_100 q_448 hv_X9_of.2 ⟨Nat.le_of_ble_eq_true rfl, Nat.le_of_ble_eq_true rfl⟩ rfl hl.1 rfl (Nat.le_of_ble_eq_true rfl) dX3_readWord_59 ⟨Nat.zero_le _, Nat.zero_le _⟩ (fun H locs hP hS => ?_)
          refine m_topw (fun r_15 er_15 => ?_)
          refine m_putw (E := "ShadedBooks$Word") K hP hS (by decide) sh_254 rfl tuX3 tyX3 tyX3_ok nmX3 1 (by decide) rfl rfl (by decide +kernel) q_367 dX3_readWord_62 (fun H locs hP hS => ?_)
          refine lv_aload_n K.1.1 K.1.2.1 dX3_readWord_65 rfl (lv_at hl 1 rfl) ?_
          refine m_get K hP (by decide) sh_254 rfl tuX3 1 (by decide) rfl q_367 dX3_readWord_66 ?_
          refine m_topw (fun g_16 eg_16 => ?_)
          by_cases c_69 : g_16 < 0
          · rw [show wv G g_16 = .null from if_pos c_69]
            refine lv_ifnonnullN K.1.1 K.1.2.1 dX3_readWord_69 ?_
            refine lv_aload_n K.1.1 K.1.2.1 dX3_readWord_72 rfl (lv_at hl 1 rfl) ?_
            refine lv_iload_n K.1.1 K.1.2.1 dX3_readWord_73 rfl (lv_at hl 0 rfl) ?_
            refine m_puti K hP hS (by decide) sh_254 rfl tuX3 tyX3 tyX3_ok nmX3 5 (by decide) rfl rfl (by decide +kernel) q_373 dX3_readWord_74 (fun H locs hP hS => ?_)
            refine lv_aload_n K.1.1 K.1.2.1 dX3_readWord_77 rfl (lv_at hl 1 rfl) ?_
            refine m_get K hP (by decide) sh_254 rfl tuX3 1 (by decide) rfl q_367 dX3_readWord_78 ?_
            refine m_topw (fun g_17 eg_17 => ?_)
            by_cases c_81 : g_17 < 0
            · rw [show wv G g_17 = .null from if_pos c_81]
              refine lv_ifnullN (tgt := 88) K.1.1 K.1.2.1 dX3_readWord_81 (by decide) ?_
              refine lv_iconst (v := 0) K.1.1 K.1.2.1 dX3_readWord_88 (by decide) ?_
              exact m_zret K hr hlocks hP hS dX3_readWord_89 (by first | rfl | decide) (by subst eg_1 eg_2 eg_3 eg_10 er_11 er_12 eg_13 er_15 eg_16 eg_17; have hD : D_letters μ = μ_5 := (by rw [D_letters, fin0_5]; first | rfl | rw [D_let, if_neg (Int32.not_lt.mpr c_13)] | rw [D_let, if_pos (Int32.not_le.mp c_13), if_pos c_31]); simp only [up2_s, up2, and_self, if_true, and_false, false_and, if_false, Nat.reduceEqDiff, reduceCtorEq] at c_69 c_81; first | exact absurd c_69 c_81 | exact absurd c_81 c_69 | (rw [D_readWord, D_word, hD]; first | rw [if_pos c_69] | rw [if_neg c_69])) (by subst eg_1 eg_2 eg_3 eg_10 er_11 er_12 eg_13 er_15 eg_16 eg_17; have hD : D_letters μ = μ_5 := (by rw [D_letters, fin0_5]; first | rfl | rw [D_let, if_neg (Int32.not_lt.mpr c_13)] | rw [D_let, if_pos (Int32.not_le.mp c_13), if_pos c_31]); simp only [up2_s, up2, and_self, if_true, and_false, false_and, if_false, Nat.reduceEqDiff, reduceCtorEq] at c_69 c_81; first | exact absurd c_69 c_81 | exact absurd c_81 c_69 | (rw [D_readWordM, D_word, hD]; first | rw [if_pos c_69] | rw [if_neg c_69]))
            · rw [show wv G g_17 = .ref (G.2.2.2 g_17.toNatClampNeg) from if_neg c_81]
              refine lv_ifnull K.1.1 K.1.2.1 dX3_readWord_81 ?_
              refine lv_iconst (v := 1) K.1.1 K.1.2.1 dX3_readWord_84 (by decide) ?_
              refine lv_goto (tgt := 89) K.1.1 K.1.2.1 dX3_readWord_85 (by decide) ?_
              exact m_zret K hr hlocks hP hS dX3_readWord_89 (by first | rfl | decide) (by subst eg_1 eg_2 eg_3 eg_10 er_11 er_12 eg_13 er_15 eg_16 eg_17; have hD : D_letters μ = μ_5 := (by rw [D_letters, fin0_5]; first | rfl | rw [D_let, if_neg (Int32.not_lt.mpr c_13)] | rw [D_let, if_pos (Int32.not_le.mp c_13), if_pos c_31]); simp only [up2_s, up2, and_self, if_true, and_false, false_and, if_false, Nat.reduceEqDiff, reduceCtorEq] at c_69 c_81; first | exact absurd c_69 c_81 | exact absurd c_81 c_69 | (rw [D_readWord, D_word, hD]; first | rw [if_pos c_69] | rw [if_neg c_69])) (by subst eg_1 eg_2 eg_3 eg_10 er_11 er_12 eg_13 er_15 eg_16 eg_17; have hD : D_letters μ = μ_5 := (by rw [D_letters, fin0_5]; first | rfl | rw [D_let, if_neg (Int32.not_lt.mpr c_13)] | rw [D_let, if_pos (Int32.not_le.mp c_13), if_pos c_31]); simp only [up2_s, up2, and_self, if_true, and_false, false_and, if_false, Nat.reduceEqDiff, reduceCtorEq] at c_69 c_81; first | exact absurd c_69 c_81 | exact absurd c_81 c_69 | (rw [D_readWordM, D_word, hD]; first | rw [if_pos c_69] | rw [if_neg c_69]))
          · rw [show wv G g_16 = .ref (G.2.2.2 g_16.toNatClampNeg) from if_neg c_69]
            refine lv_ifnonnull (tgt := 77) K.1.1 K.1.2.1 dX3_readWord_69 (by decide) ?_
            refine lv_aload_n K.1.1 K.1.2.1 dX3_readWord_77 rfl (lv_at hl 1 rfl) ?_
            refine m_get K hP (by decide) sh_254 rfl tuX3 1 (by decide) rfl q_367 dX3_readWord_78 ?_
            refine m_topw (fun g_18 eg_18 => ?_)
            by_cases c_81 : g_18 < 0
            · rw [show wv G g_18 = .null from if_pos c_81]
              refine lv_ifnullN (tgt := 88) K.1.1 K.1.2.1 dX3_readWord_81 (by decide) ?_
              refine lv_iconst (v := 0) K.1.1 K.1.2.1 dX3_readWord_88 (by decide) ?_
              exact m_zret K hr hlocks hP hS dX3_readWord_89 (by first | rfl | decide) (by subst eg_1 eg_2 eg_3 eg_10 er_11 er_12 eg_13 er_15 eg_16 eg_18; have hD : D_letters μ = μ_5 := (by rw [D_letters, fin0_5]; first | rfl | rw [D_let, if_neg (Int32.not_lt.mpr c_13)] | rw [D_let, if_pos (Int32.not_le.mp c_13), if_pos c_31]); simp only [up2_s, up2, and_self, if_true, and_false, false_and, if_false, Nat.reduceEqDiff, reduceCtorEq] at c_69 c_81; first | exact absurd c_69 c_81 | exact absurd c_81 c_69 | (rw [D_readWord, D_word, hD]; first | rw [if_pos c_69] | rw [if_neg c_69])) (by subst eg_1 eg_2 eg_3 eg_10 er_11 er_12 eg_13 er_15 eg_16 eg_18; have hD : D_letters μ = μ_5 := (by rw [D_letters, fin0_5]; first | rfl | rw [D_let, if_neg (Int32.not_lt.mpr c_13)] | rw [D_let, if_pos (Int32.not_le.mp c_13), if_pos c_31]); simp only [up2_s, up2, and_self, if_true, and_false, false_and, if_false, Nat.reduceEqDiff, reduceCtorEq] at c_69 c_81; first | exact absurd c_69 c_81 | exact absurd c_81 c_69 | (rw [D_readWordM, D_word, hD]; first | rw [if_pos c_69] | rw [if_neg c_69]))
            · rw [show wv G g_18 = .ref (G.2.2.2 g_18.toNatClampNeg) from if_neg c_81]
              refine lv_ifnull K.1.1 K.1.2.1 dX3_readWord_81 ?_
              refine lv_iconst (v := 1) K.1.1 K.1.2.1 dX3_readWord_84 (by decide) ?_
              refine lv_goto (tgt := 89) K.1.1 K.1.2.1 dX3_readWord_85 (by decide) ?_
              exact m_zret K hr hlocks hP hS dX3_readWord_89 (by first | rfl | decide) (by subst eg_1 eg_2 eg_3 eg_10 er_11 er_12 eg_13 er_15 eg_16 eg_18; have hD : D_letters μ = μ_5 := (by rw [D_letters, fin0_5]; first | rfl | rw [D_let, if_neg (Int32.not_lt.mpr c_13)] | rw [D_let, if_pos (Int32.not_le.mp c_13), if_pos c_31]); simp only [up2_s, up2, and_self, if_true, and_false, false_and, if_false, Nat.reduceEqDiff, reduceCtorEq] at c_69 c_81; first | exact absurd c_69 c_81 | exact absurd c_81 c_69 | (rw [D_readWord, D_word, hD]; first | rw [if_pos c_69] | rw [if_neg c_69])) (by subst eg_1 eg_2 eg_3 eg_10 er_11 er_12 eg_13 er_15 eg_16 eg_18; have hD : D_letters μ = μ_5 := (by rw [D_letters, fin0_5]; first | rfl | rw [D_let, if_neg (Int32.not_lt.mpr c_13)] | rw [D_let, if_pos (Int32.not_le.mp c_13), if_pos c_31]); simp only [up2_s, up2, and_self, if_true, and_false, false_and, if_false, Nat.reduceEqDiff, reduceCtorEq] at c_69 c_81; first | exact absurd c_69 c_81 | exact absurd c_81 c_69 | (rw [D_readWordM, D_word, hD]; first | rw [if_pos c_69] | rw [if_neg c_69]))
        · exact absurd c_31 (by subst eg_1 eg_2 eg_3 eg_10 er_11 er_12; exact fun h => cur_end inv0_5 (Int32.not_le.mp c_13) (byte_wnn (lo := 97) (hi := 122) h (by decide)))
    | succ n ih_5 =>
      intro μ_5 H locs ls inv0_5 fin0_5 hP hS hl
      refine lv_aload_n K.1.1 K.1.2.1 dX3_readWord_5 rfl (lv_at hl 1 rfl) ?_
      refine m_geti K hP (by decide) sh_254 rfl tuX3 4 (by decide) rfl q_372 dX3_readWord_6 ?_
      refine lv_topi (fun g_19 eg_19 => ?_)
      refine lv_aload_n K.1.1 K.1.2.1 dX3_readWord_9 rfl (lv_at hl 1 rfl) ?_
      refine m_geti K hP (by decide) sh_254 rfl tuX3 0 (by decide) rfl q_365 dX3_readWord_10 ?_
      refine lv_topi (fun g_20 eg_20 => ?_)
      refine lv_icmp_ge (tgt := 47) K.1.1 K.1.2.1 dX3_readWord_13 (by decide) (fun c_13 => ?_) (fun c_13 => ?_)
      · refine lv_aload_n K.1.1 K.1.2.1 dX3_readWord_47 rfl (lv_at hl 1 rfl) ?_
        refine lv_aload_n K.1.1 K.1.2.1 dX3_readWord_48 rfl (lv_at hl 1 rfl) ?_
        refine m_getr K hP (by decide) sh_254 rfl tuX3 3 (by decide) rfl q_371 dX3_readWord_49 ?_
        refine lv_iload_n K.1.1 K.1.2.1 dX3_readWord_52 rfl (lv_at hl 0 rfl) ?_
        refine lv_aload_n K.1.1 K.1.2.1 dX3_readWord_53 rfl (lv_at hl 1 rfl) ?_
        refine m_geti K hP (by decide) sh_254 rfl tuX3 4 (by decide) rfl q_372 dX3_readWord_54 ?_
        refine lv_topi (fun g_21 eg_21 => ?_)
        refine lv_iload_n K.1.1 K.1.2.1 dX3_readWord_57 rfl (lv_at hl 0 rfl) ?_
        refine lv_isub K.1.1 K.1.2.1 dX3_readWord_58 ?_
        refine m_cSX (n := 3) (As := [.ref (B + 257), .int g_1, .int (g_21 - g_1)]) (rest := [.ref (B + 254)]) K hP hS (MX9_of l G B _ 257 150 isR_257 g_1 (g_21 - g_1) ) q_446 q_447 q_100 q_448 hv_X9_of.2 ⟨Nat.le_of_ble_eq_true rfl, Nat.le_of_ble_eq_true rfl⟩ rfl hl.1 rfl (Nat.le_of_ble_eq_true rfl) dX3_readWord_59 ⟨Nat.zero_le _, Nat.zero_le _⟩ (fun H locs hP hS => ?_)
        refine m_topw (fun r_23 er_23 => ?_)
        refine m_putw (E := "ShadedBooks$Word") K hP hS (by decide) sh_254 rfl tuX3 tyX3 tyX3_ok nmX3 1 (by decide) rfl rfl (by decide +kernel) q_367 dX3_readWord_62 (fun H locs hP hS => ?_)
        refine lv_aload_n K.1.1 K.1.2.1 dX3_readWord_65 rfl (lv_at hl 1 rfl) ?_
        refine m_get K hP (by decide) sh_254 rfl tuX3 1 (by decide) rfl q_367 dX3_readWord_66 ?_
        refine m_topw (fun g_24 eg_24 => ?_)
        by_cases c_69 : g_24 < 0
        · rw [show wv G g_24 = .null from if_pos c_69]
          refine lv_ifnonnullN K.1.1 K.1.2.1 dX3_readWord_69 ?_
          refine lv_aload_n K.1.1 K.1.2.1 dX3_readWord_72 rfl (lv_at hl 1 rfl) ?_
          refine lv_iload_n K.1.1 K.1.2.1 dX3_readWord_73 rfl (lv_at hl 0 rfl) ?_
          refine m_puti K hP hS (by decide) sh_254 rfl tuX3 tyX3 tyX3_ok nmX3 5 (by decide) rfl rfl (by decide +kernel) q_373 dX3_readWord_74 (fun H locs hP hS => ?_)
          refine lv_aload_n K.1.1 K.1.2.1 dX3_readWord_77 rfl (lv_at hl 1 rfl) ?_
          refine m_get K hP (by decide) sh_254 rfl tuX3 1 (by decide) rfl q_367 dX3_readWord_78 ?_
          refine m_topw (fun g_25 eg_25 => ?_)
          by_cases c_81 : g_25 < 0
          · rw [show wv G g_25 = .null from if_pos c_81]
            refine lv_ifnullN (tgt := 88) K.1.1 K.1.2.1 dX3_readWord_81 (by decide) ?_
            refine lv_iconst (v := 0) K.1.1 K.1.2.1 dX3_readWord_88 (by decide) ?_
            exact m_zret K hr hlocks hP hS dX3_readWord_89 (by first | rfl | decide) (by subst eg_1 eg_19 eg_20 eg_21 er_23 eg_24 eg_25; have hD : D_letters μ = μ_5 := (by rw [D_letters, fin0_5]; first | rfl | rw [D_let, if_neg (Int32.not_lt.mpr c_13)] | rw [D_let, if_pos (Int32.not_le.mp c_13), if_pos c_31]); simp only [up2_s, up2, and_self, if_true, and_false, false_and, if_false, Nat.reduceEqDiff, reduceCtorEq] at c_69 c_81; first | exact absurd c_69 c_81 | exact absurd c_81 c_69 | (rw [D_readWord, D_word, hD]; first | rw [if_pos c_69] | rw [if_neg c_69])) (by subst eg_1 eg_19 eg_20 eg_21 er_23 eg_24 eg_25; have hD : D_letters μ = μ_5 := (by rw [D_letters, fin0_5]; first | rfl | rw [D_let, if_neg (Int32.not_lt.mpr c_13)] | rw [D_let, if_pos (Int32.not_le.mp c_13), if_pos c_31]); simp only [up2_s, up2, and_self, if_true, and_false, false_and, if_false, Nat.reduceEqDiff, reduceCtorEq] at c_69 c_81; first | exact absurd c_69 c_81 | exact absurd c_81 c_69 | (rw [D_readWordM, D_word, hD]; first | rw [if_pos c_69] | rw [if_neg c_69]))
          · rw [show wv G g_25 = .ref (G.2.2.2 g_25.toNatClampNeg) from if_neg c_81]
            refine lv_ifnull K.1.1 K.1.2.1 dX3_readWord_81 ?_
            refine lv_iconst (v := 1) K.1.1 K.1.2.1 dX3_readWord_84 (by decide) ?_
            refine lv_goto (tgt := 89) K.1.1 K.1.2.1 dX3_readWord_85 (by decide) ?_
            exact m_zret K hr hlocks hP hS dX3_readWord_89 (by first | rfl | decide) (by subst eg_1 eg_19 eg_20 eg_21 er_23 eg_24 eg_25; have hD : D_letters μ = μ_5 := (by rw [D_letters, fin0_5]; first | rfl | rw [D_let, if_neg (Int32.not_lt.mpr c_13)] | rw [D_let, if_pos (Int32.not_le.mp c_13), if_pos c_31]); simp only [up2_s, up2, and_self, if_true, and_false, false_and, if_false, Nat.reduceEqDiff, reduceCtorEq] at c_69 c_81; first | exact absurd c_69 c_81 | exact absurd c_81 c_69 | (rw [D_readWord, D_word, hD]; first | rw [if_pos c_69] | rw [if_neg c_69])) (by subst eg_1 eg_19 eg_20 eg_21 er_23 eg_24 eg_25; have hD : D_letters μ = μ_5 := (by rw [D_letters, fin0_5]; first | rfl | rw [D_let, if_neg (Int32.not_lt.mpr c_13)] | rw [D_let, if_pos (Int32.not_le.mp c_13), if_pos c_31]); simp only [up2_s, up2, and_self, if_true, and_false, false_and, if_false, Nat.reduceEqDiff, reduceCtorEq] at c_69 c_81; first | exact absurd c_69 c_81 | exact absurd c_81 c_69 | (rw [D_readWordM, D_word, hD]; first | rw [if_pos c_69] | rw [if_neg c_69]))
        · rw [show wv G g_24 = .ref (G.2.2.2 g_24.toNatClampNeg) from if_neg c_69]
          refine lv_ifnonnull (tgt := 77) K.1.1 K.1.2.1 dX3_readWord_69 (by decide) ?_
          refine lv_aload_n K.1.1 K.1.2.1 dX3_readWord_77 rfl (lv_at hl 1 rfl) ?_
          refine m_get K hP (by decide) sh_254 rfl tuX3 1 (by decide) rfl q_367 dX3_readWord_78 ?_
          refine m_topw (fun g_26 eg_26 => ?_)
          by_cases c_81 : g_26 < 0
          · rw [show wv G g_26 = .null from if_pos c_81]
            refine lv_ifnullN (tgt := 88) K.1.1 K.1.2.1 dX3_readWord_81 (by decide) ?_
            refine lv_iconst (v := 0) K.1.1 K.1.2.1 dX3_readWord_88 (by decide) ?_
            exact m_zret K hr hlocks hP hS dX3_readWord_89 (by first | rfl | decide) (by subst eg_1 eg_19 eg_20 eg_21 er_23 eg_24 eg_26; have hD : D_letters μ = μ_5 := (by rw [D_letters, fin0_5]; first | rfl | rw [D_let, if_neg (Int32.not_lt.mpr c_13)] | rw [D_let, if_pos (Int32.not_le.mp c_13), if_pos c_31]); simp only [up2_s, up2, and_self, if_true, and_false, false_and, if_false, Nat.reduceEqDiff, reduceCtorEq] at c_69 c_81; first | exact absurd c_69 c_81 | exact absurd c_81 c_69 | (rw [D_readWord, D_word, hD]; first | rw [if_pos c_69] | rw [if_neg c_69])) (by subst eg_1 eg_19 eg_20 eg_21 er_23 eg_24 eg_26; have hD : D_letters μ = μ_5 := (by rw [D_letters, fin0_5]; first | rfl | rw [D_let, if_neg (Int32.not_lt.mpr c_13)] | rw [D_let, if_pos (Int32.not_le.mp c_13), if_pos c_31]); simp only [up2_s, up2, and_self, if_true, and_false, false_and, if_false, Nat.reduceEqDiff, reduceCtorEq] at c_69 c_81; first | exact absurd c_69 c_81 | exact absurd c_81 c_69 | (rw [D_readWordM, D_word, hD]; first | rw [if_pos c_69] | rw [if_neg c_69]))
          · rw [show wv G g_26 = .ref (G.2.2.2 g_26.toNatClampNeg) from if_neg c_81]
            refine lv_ifnull K.1.1 K.1.2.1 dX3_readWord_81 ?_
            refine lv_iconst (v := 1) K.1.1 K.1.2.1 dX3_readWord_84 (by decide) ?_
            refine lv_goto (tgt := 89) K.1.1 K.1.2.1 dX3_readWord_85 (by decide) ?_
            exact m_zret K hr hlocks hP hS dX3_readWord_89 (by first | rfl | decide) (by subst eg_1 eg_19 eg_20 eg_21 er_23 eg_24 eg_26; have hD : D_letters μ = μ_5 := (by rw [D_letters, fin0_5]; first | rfl | rw [D_let, if_neg (Int32.not_lt.mpr c_13)] | rw [D_let, if_pos (Int32.not_le.mp c_13), if_pos c_31]); simp only [up2_s, up2, and_self, if_true, and_false, false_and, if_false, Nat.reduceEqDiff, reduceCtorEq] at c_69 c_81; first | exact absurd c_69 c_81 | exact absurd c_81 c_69 | (rw [D_readWord, D_word, hD]; first | rw [if_pos c_69] | rw [if_neg c_69])) (by subst eg_1 eg_19 eg_20 eg_21 er_23 eg_24 eg_26; have hD : D_letters μ = μ_5 := (by rw [D_letters, fin0_5]; first | rfl | rw [D_let, if_neg (Int32.not_lt.mpr c_13)] | rw [D_let, if_pos (Int32.not_le.mp c_13), if_pos c_31]); simp only [up2_s, up2, and_self, if_true, and_false, false_and, if_false, Nat.reduceEqDiff, reduceCtorEq] at c_69 c_81; first | exact absurd c_69 c_81 | exact absurd c_81 c_69 | (rw [D_readWordM, D_word, hD]; first | rw [if_pos c_69] | rw [if_neg c_69]))
      · refine lv_aload_n K.1.1 K.1.2.1 dX3_readWord_16 rfl (lv_at hl 1 rfl) ?_
        refine lv_aload_n K.1.1 K.1.2.1 dX3_readWord_17 rfl (lv_at hl 1 rfl) ?_
        refine m_geti K hP (by decide) sh_254 rfl tuX3 4 (by decide) rfl q_372 dX3_readWord_18 ?_
        refine lv_topi (fun g_27 eg_27 => ?_)
        refine m_cV (n := 1) (As := [.int g_27]) (rest := []) K hP hS (MX3_byteAt l G B _ g_27 ) (by decide) sh_254 rfl q_431 q_433 q_1 q_90 q_434 hv_X3_byteAt ⟨Nat.le_of_ble_eq_true rfl, Nat.le_of_ble_eq_true rfl⟩ rfl hl.1 rfl (Nat.le_of_ble_eq_true rfl) dX3_readWord_21 ⟨Nat.zero_le _, Nat.zero_le _⟩ (fun H locs hP hS => ?_)
        refine lv_topi (fun r_28 er_28 => ?_)
        refine lv_bipush (v := 97) K.1.1 K.1.2.1 dX3_readWord_24 (by decide) ?_
        refine lv_bipush (v := 122) K.1.1 K.1.2.1 dX3_readWord_26 (by decide) ?_
        refine m_cSN (n := 3) (As := [.int r_28, .int 97, .int 122]) (rest := []) K hP hS (MX10_isWithin l G B _ r_28 97 122 ) K.2.2.1.1 q_444 q_82 q_445 hn_X10_isWithin ⟨Nat.le_of_ble_eq_true rfl, Nat.le_of_ble_eq_true rfl⟩ rfl hl.1 rfl (Nat.le_of_ble_eq_true rfl) dX3_readWord_28 ⟨Nat.zero_le _, Nat.zero_le _⟩ (fun H locs hP hS => ?_)
        refine lv_topi (fun r_29 er_29 => ?_)
        refine lv_if_eq (tgt := 47) K.1.1 K.1.2.1 dX3_readWord_31 (by decide) (fun c_31 => ?_) (fun c_31 => ?_)
        · refine lv_aload_n K.1.1 K.1.2.1 dX3_readWord_47 rfl (lv_at hl 1 rfl) ?_
          refine lv_aload_n K.1.1 K.1.2.1 dX3_readWord_48 rfl (lv_at hl 1 rfl) ?_
          refine m_getr K hP (by decide) sh_254 rfl tuX3 3 (by decide) rfl q_371 dX3_readWord_49 ?_
          refine lv_iload_n K.1.1 K.1.2.1 dX3_readWord_52 rfl (lv_at hl 0 rfl) ?_
          refine lv_aload_n K.1.1 K.1.2.1 dX3_readWord_53 rfl (lv_at hl 1 rfl) ?_
          refine m_geti K hP (by decide) sh_254 rfl tuX3 4 (by decide) rfl q_372 dX3_readWord_54 ?_
          refine lv_topi (fun g_30 eg_30 => ?_)
          refine lv_iload_n K.1.1 K.1.2.1 dX3_readWord_57 rfl (lv_at hl 0 rfl) ?_
          refine lv_isub K.1.1 K.1.2.1 dX3_readWord_58 ?_
          refine m_cSX (n := 3) (As := [.ref (B + 257), .int g_1, .int (g_30 - g_1)]) (rest := [.ref (B + 254)]) K hP hS (MX9_of l G B _ 257 150 isR_257 g_1 (g_30 - g_1) ) q_446 q_447 q_100 q_448 hv_X9_of.2 ⟨Nat.le_of_ble_eq_true rfl, Nat.le_of_ble_eq_true rfl⟩ rfl hl.1 rfl (Nat.le_of_ble_eq_true rfl) dX3_readWord_59 ⟨Nat.zero_le _, Nat.zero_le _⟩ (fun H locs hP hS => ?_)
          refine m_topw (fun r_32 er_32 => ?_)
          refine m_putw (E := "ShadedBooks$Word") K hP hS (by decide) sh_254 rfl tuX3 tyX3 tyX3_ok nmX3 1 (by decide) rfl rfl (by decide +kernel) q_367 dX3_readWord_62 (fun H locs hP hS => ?_)
          refine lv_aload_n K.1.1 K.1.2.1 dX3_readWord_65 rfl (lv_at hl 1 rfl) ?_
          refine m_get K hP (by decide) sh_254 rfl tuX3 1 (by decide) rfl q_367 dX3_readWord_66 ?_
          refine m_topw (fun g_33 eg_33 => ?_)
          by_cases c_69 : g_33 < 0
          · rw [show wv G g_33 = .null from if_pos c_69]
            refine lv_ifnonnullN K.1.1 K.1.2.1 dX3_readWord_69 ?_
            refine lv_aload_n K.1.1 K.1.2.1 dX3_readWord_72 rfl (lv_at hl 1 rfl) ?_
            refine lv_iload_n K.1.1 K.1.2.1 dX3_readWord_73 rfl (lv_at hl 0 rfl) ?_
            refine m_puti K hP hS (by decide) sh_254 rfl tuX3 tyX3 tyX3_ok nmX3 5 (by decide) rfl rfl (by decide +kernel) q_373 dX3_readWord_74 (fun H locs hP hS => ?_)
            refine lv_aload_n K.1.1 K.1.2.1 dX3_readWord_77 rfl (lv_at hl 1 rfl) ?_
            refine m_get K hP (by decide) sh_254 rfl tuX3 1 (by decide) rfl q_367 dX3_readWord_78 ?_
            refine m_topw (fun g_34 eg_34 => ?_)
            by_cases c_81 : g_34 < 0
            · rw [show wv G g_34 = .null from if_pos c_81]
              refine lv_ifnullN (tgt := 88) K.1.1 K.1.2.1 dX3_readWord_81 (by decide) ?_
              refine lv_iconst (v := 0) K.1.1 K.1.2.1 dX3_readWord_88 (by decide) ?_
              exact m_zret K hr hlocks hP hS dX3_readWord_89 (by first | rfl | decide) (by subst eg_1 eg_19 eg_20 eg_27 er_28 er_29 eg_30 er_32 eg_33 eg_34; have hD : D_letters μ = μ_5 := (by rw [D_letters, fin0_5]; first | rfl | rw [D_let, if_neg (Int32.not_lt.mpr c_13)] | rw [D_let, if_pos (Int32.not_le.mp c_13), if_pos c_31]); simp only [up2_s, up2, and_self, if_true, and_false, false_and, if_false, Nat.reduceEqDiff, reduceCtorEq] at c_69 c_81; first | exact absurd c_69 c_81 | exact absurd c_81 c_69 | (rw [D_readWord, D_word, hD]; first | rw [if_pos c_69] | rw [if_neg c_69])) (by subst eg_1 eg_19 eg_20 eg_27 er_28 er_29 eg_30 er_32 eg_33 eg_34; have hD : D_letters μ = μ_5 := (by rw [D_letters, fin0_5]; first | rfl | rw [D_let, if_neg (Int32.not_lt.mpr c_13)] | rw [D_let, if_pos (Int32.not_le.mp c_13), if_pos c_31]); simp only [up2_s, up2, and_self, if_true, and_false, false_and, if_false, Nat.reduceEqDiff, reduceCtorEq] at c_69 c_81; first | exact absurd c_69 c_81 | exact absurd c_81 c_69 | (rw [D_readWordM, D_word, hD]; first | rw [if_pos c_69] | rw [if_neg c_69]))
            · rw [show wv G g_34 = .ref (G.2.2.2 g_34.toNatClampNeg) from if_neg c_81]
              refine lv_ifnull K.1.1 K.1.2.1 dX3_readWord_81 ?_
              refine lv_iconst (v := 1) K.1.1 K.1.2.1 dX3_readWord_84 (by decide) ?_
              refine lv_goto (tgt := 89) K.1.1 K.1.2.1 dX3_readWord_85 (by decide) ?_
              exact m_zret K hr hlocks hP hS dX3_readWord_89 (by first | rfl | decide) (by subst eg_1 eg_19 eg_20 eg_27 er_28 er_29 eg_30 er_32 eg_33 eg_34; have hD : D_letters μ = μ_5 := (by rw [D_letters, fin0_5]; first | rfl | rw [D_let, if_neg (Int32.not_lt.mpr c_13)] | rw [D_let, if_pos (Int32.not_le.mp c_13), if_pos c_31]); simp only [up2_s, up2, and_self, if_true, and_false, false_and, if_false, Nat.reduceEqDiff, reduceCtorEq] at c_69 c_81; first | exact absurd c_69 c_81 | exact absurd c_81 c_69 | (rw [D_readWord, D_word, hD]; first | rw [if_pos c_69] | rw [if_neg c_69])) (by subst eg_1 eg_19 eg_20 eg_27 er_28 er_29 eg_30 er_32 eg_33 eg_34; have hD : D_letters μ = μ_5 := (by rw [D_letters, fin0_5]; first | rfl | rw [D_let, if_neg (Int32.not_lt.mpr c_13)] | rw [D_let, if_pos (Int32.not_le.mp c_13), if_pos c_31]); simp only [up2_s, up2, and_self, if_true, and_false, false_and, if_false, Nat.reduceEqDiff, reduceCtorEq] at c_69 c_81; first | exact absurd c_69 c_81 | exact absurd c_81 c_69 | (rw [D_readWordM, D_word, hD]; first | rw [if_pos c_69] | rw [if_neg c_69]))
          · rw [show wv G g_33 = .ref (G.2.2.2 g_33.toNatClampNeg) from if_neg c_69]
            refine lv_ifnonnull (tgt := 77) K.1.1 K.1.2.1 dX3_readWord_69 (by decide) ?_
            refine lv_aload_n K.1.1 K.1.2.1 dX3_readWord_77 rfl (lv_at hl 1 rfl) ?_
            refine m_get K hP (by decide) sh_254 rfl tuX3 1 (by decide) rfl q_367 dX3_readWord_78 ?_
            refine m_topw (fun g_35 eg_35 => ?_)
            by_cases c_81 : g_35 < 0
            · rw [show wv G g_35 = .null from if_pos c_81]
              refine lv_ifnullN (tgt := 88) K.1.1 K.1.2.1 dX3_readWord_81 (by decide) ?_
              refine lv_iconst (v := 0) K.1.1 K.1.2.1 dX3_readWord_88 (by decide) ?_
              exact m_zret K hr hlocks hP hS dX3_readWord_89 (by first | rfl | decide) (by subst eg_1 eg_19 eg_20 eg_27 er_28 er_29 eg_30 er_32 eg_33 eg_35; have hD : D_letters μ = μ_5 := (by rw [D_letters, fin0_5]; first | rfl | rw [D_let, if_neg (Int32.not_lt.mpr c_13)] | rw [D_let, if_pos (Int32.not_le.mp c_13), if_pos c_31]); simp only [up2_s, up2, and_self, if_true, and_false, false_and, if_false, Nat.reduceEqDiff, reduceCtorEq] at c_69 c_81; first | exact absurd c_69 c_81 | exact absurd c_81 c_69 | (rw [D_readWord, D_word, hD]; first | rw [if_pos c_69] | rw [if_neg c_69])) (by subst eg_1 eg_19 eg_20 eg_27 er_28 er_29 eg_30 er_32 eg_33 eg_35; have hD : D_letters μ = μ_5 := (by rw [D_letters, fin0_5]; first | rfl | rw [D_let, if_neg (Int32.not_lt.mpr c_13)] | rw [D_let, if_pos (Int32.not_le.mp c_13), if_pos c_31]); simp only [up2_s, up2, and_self, if_true, and_false, false_and, if_false, Nat.reduceEqDiff, reduceCtorEq] at c_69 c_81; first | exact absurd c_69 c_81 | exact absurd c_81 c_69 | (rw [D_readWordM, D_word, hD]; first | rw [if_pos c_69] | rw [if_neg c_69]))
            · rw [show wv G g_35 = .ref (G.2.2.2 g_35.toNatClampNeg) from if_neg c_81]
              refine lv_ifnull K.1.1 K.1.2.1 dX3_readWord_81 ?_
              refine lv_iconst (v := 1) K.1.1 K.1.2.1 dX3_readWord_84 (by decide) ?_
              refine lv_goto (tgt := 89) K.1.1 K.1.2.1 dX3_readWord_85 (by decide) ?_
              exact m_zret K hr hlocks hP hS dX3_readWord_89 (by first | rfl | decide) (by subst eg_1 eg_19 eg_20 eg_27 er_28 er_29 eg_30 er_32 eg_33 eg_35; have hD : D_letters μ = μ_5 := (by rw [D_letters, fin0_5]; first | rfl | rw [D_let, if_neg (Int32.not_lt.mpr c_13)] | rw [D_let, if_pos (Int32.not_le.mp c_13), if_pos c_31]); simp only [up2_s, up2, and_self, if_true, and_false, false_and, if_false, Nat.reduceEqDiff, reduceCtorEq] at c_69 c_81; first | exact absurd c_69 c_81 | exact absurd c_81 c_69 | (rw [D_readWord, D_word, hD]; first | rw [if_pos c_69] | rw [if_neg c_69])) (by subst eg_1 eg_19 eg_20 eg_27 er_28 er_29 eg_30 er_32 eg_33 eg_35; have hD : D_letters μ = μ_5 := (by rw [D_letters, fin0_5]; first | rfl | rw [D_let, if_neg (Int32.not_lt.mpr c_13)] | rw [D_let, if_pos (Int32.not_le.mp c_13), if_pos c_31]); simp only [up2_s, up2, and_self, if_true, and_false, false_and, if_false, Nat.reduceEqDiff, reduceCtorEq] at c_69 c_81; first | exact absurd c_69 c_81 | exact absurd c_81 c_69 | (rw [D_readWordM, D_word, hD]; first | rw [if_pos c_69] | rw [if_neg c_69]))
        · refine lv_aload_n K.1.1 K.1.2.1 dX3_readWord_34 rfl (lv_at hl 1 rfl) ?_
          refine lv_dup K.1.1 K.1.2.1 dX3_readWord_35 rfl ?_
          refine m_geti K hP (by decide) sh_254 rfl tuX3 4 (by decide) rfl q_372 dX3_readWord_36 ?_
          refine lv_topi (fun g_36 eg_36 => ?_)
          refine lv_iconst (v := 1) K.1.1 K.1.2.1 dX3_readWord_39 (by decide) ?_
          refine lv_iadd K.1.1 K.1.2.1 dX3_readWord_40 ?_
          refine m_puti K hP hS (by decide) sh_254 rfl tuX3 tyX3 tyX3_ok nmX3 4 (by decide) rfl rfl (by decide +kernel) q_372 dX3_readWord_41 (fun H locs hP hS => ?_)
          refine lv_goto (tgt := 5) K.1.1 K.1.2.1 dX3_readWord_44 (by decide) ?_
          exact ih_5  _ _ _ _ (by subst eg_1 eg_19 eg_20 eg_27 er_28 er_29 eg_36; show cn (D_next μ_5 254 0) ≤ cn (D_next μ_5 254 4) + n; rw [D_next_0, D_next_4]; exact cur_step inv0_5 (Int32.not_le.mp c_13) (byte_wnn (lo := 97) (hi := 122) c_31 (by decide))) (by subst eg_1 eg_19 eg_20 eg_27 er_28 er_29 eg_36; rw [fin0_5, D_let, if_pos (Int32.not_le.mp c_13), if_neg c_31]; rfl) hP hS (lv_sub hl [0, 1] rfl)
  exact lp_5 (cn (μ 254 0))  _ _ _ _ (by exact Nat.le_add_left _ _) (by rfl) hP hS (lv_sub hl [0, 1] rfl)

set_option maxHeartbeats 4000000 in
set_option maxRecDepth 100000 in
theorem MX3_readNumber (l : Launch) (G : GG) (B : Nat) (μ : Mm) (i : Int32) : CM l yX3_readNumber (.code yX3_readNumber cX3_readNumber 4 (Option.some FieldType.boolean)) 3 63 G B [.ref (B + 254), .int i] μ (some (.int (D_readNumber μ))) (D_readNumberM μ i) := by
  refine CM.of (by decide) (Nat.le_of_ble_eq_true rfl) ?_
  intro p e s m below meth c ls K hr hlocks hP hl
  have hS : va_S (AA B) s.heap s.heap [] := va_S.rf
  have hl : lv_has ls 4 [(0, .ref (B + 254)), (1, .int i)] := hl
  refine lv_aload_n K.1.1 K.1.2.1 dX3_readNumber_0 rfl (lv_at hl 0 rfl) ?_
  refine lv_bipush (v := 32) K.1.1 K.1.2.1 dX3_readNumber_1 (by decide) ?_
  refine m_cV (n := 1) (As := [.int 32]) (rest := []) K hP hS (MX3_readByte l G B _ 32 ) (by decide) sh_254 rfl q_509 q_511 q_5 q_90 q_512 hv_X3_readByte ⟨Nat.le_of_ble_eq_true rfl, Nat.le_of_ble_eq_true rfl⟩ rfl hl.1 rfl (Nat.le_of_ble_eq_true rfl) dX3_readNumber_3 ⟨Nat.zero_le _, Nat.zero_le _⟩ (fun H locs hP hS => ?_)
  refine lv_topi (fun r_1 er_1 => ?_)
  refine lv_if_ne (tgt := 11) K.1.1 K.1.2.1 dX3_readNumber_6 (by decide) (fun c_6 => ?_) (fun c_6 => ?_)
  · refine lv_aload_n K.1.1 K.1.2.1 dX3_readNumber_11 rfl (lv_at hl 0 rfl) ?_
    refine m_cV (n := 0) (As := []) (rest := []) K hP hS (MX3_skipSpaces l G B _  ) (by decide) sh_254 rfl q_427 q_429 q_0 q_90 q_430 hv_X3_skipSpaces ⟨Nat.le_of_ble_eq_true rfl, Nat.le_of_ble_eq_true rfl⟩ rfl hl.1 rfl (Nat.le_of_ble_eq_true rfl) dX3_readNumber_12 ⟨Nat.zero_le _, Nat.zero_le _⟩ (fun H locs hP hS => ?_)
    refine W.eq (g2 := F0 m 15 ls []) rfl ?_
    refine lv_iconst (v := 0) K.1.1 K.1.2.1 dX3_readNumber_15 (by decide) ?_
    refine lv_istore_n (lv' := [(2, .int 0), (0, .ref (B + 254)), (1, .int i)]) K.1.1 K.1.2.1 dX3_readNumber_16 rfl hl (by decide) rfl (fun ls hl => ?_)
    refine lv_iconst (v := 0) K.1.1 K.1.2.1 dX3_readNumber_17 (by decide) ?_
    refine lv_istore_n (lv' := [(3, .int 0), (2, .int 0), (0, .ref (B + 254)), (1, .int i)]) K.1.1 K.1.2.1 dX3_readNumber_18 rfl hl (by decide) rfl (fun ls hl => ?_)
    have lp_19 : ∀ n : Nat, ∀ (v3_19 : Int32) (v2_19 : Int32) (μ_19 : Mm) (H : Heap) (locs : List Loc) (ls : Array Slot), (n ≤ 3) → (v3_19 = nI (3 - n)) → (D_dig 3 (D_skipSpaces (D_readByteM μ 32)) 0 0 = D_dig n μ_19 v2_19 v3_19) → MP G B μ_19 H → va_S (AA B) s.heap H locs → lv_has ls 4 [(3, .int v3_19), (2, .int v2_19), (0, .ref (B + 254)), (1, .int i)] → W p l e ({ frames := 3, cells := 0, slots := 0, locals := 63 } : Room) s m ([.ref (B + 254), .int i] : List Value).toArray below meth c H locs 0 0 (MF below G B (some (.int (D_readNumber μ))) (D_readNumberM μ i) ([.ref (B + 254), .int i] : List Value).toArray s) (F0 m 19 ls []) := by
      intro n
      induction n with
      | zero =>
        intro v3_19 v2_19 μ_19 H locs ls inv0_19 inv1_19 fin0_19 hP hS hl
        refine lv_iload_n K.1.1 K.1.2.1 dX3_readNumber_19 rfl (lv_at hl 0 rfl) ?_
        refine lv_iconst (v := 3) K.1.1 K.1.2.1 dX3_readNumber_20 (by decide) ?_
        refine lv_icmp_ge (tgt := 75) K.1.1 K.1.2.1 dX3_readNumber_21 (by decide) (fun c_21 => ?_) (fun c_21 => ?_)
        · refine lv_aload_n K.1.1 K.1.2.1 dX3_readNumber_75 rfl (lv_at hl 2 rfl) ?_
          refine m_getr K hP (by decide) sh_254 rfl tuX3 2 (by decide) rfl q_369 dX3_readNumber_76 ?_
          refine lv_iload_n K.1.1 K.1.2.1 dX3_readNumber_79 rfl (lv_at hl 3 rfl) ?_
          refine lv_iload_n K.1.1 K.1.2.1 dX3_readNumber_80 rfl (lv_at hl 1 rfl) ?_
          refine m_cV (n := 2) (As := [.int i, .int v2_19]) (rest := []) K hP hS (MX5_put l G B _ 255 3 isR_255 i v2_19 ) (Nat.lt_of_succ_lt isR_255.1) isR_255.2.1 rfl q_513 q_514 q_515 q_85 q_516 hv_X5_put ⟨Nat.le_of_ble_eq_true rfl, Nat.le_of_ble_eq_true rfl⟩ rfl hl.1 rfl (Nat.le_of_ble_eq_true rfl) dX3_readNumber_81 ⟨Nat.zero_le _, Nat.zero_le _⟩ (fun H locs hP hS => ?_)
          refine W.eq (g2 := F0 m 84 ls []) rfl ?_
          refine lv_iload_n K.1.1 K.1.2.1 dX3_readNumber_84 rfl (lv_at hl 0 rfl) ?_
          refine lv_if_ne (tgt := 96) K.1.1 K.1.2.1 dX3_readNumber_85 (by decide) (fun c_85 => ?_) (fun c_85 => ?_)
          · refine lv_iload_n K.1.1 K.1.2.1 dX3_readNumber_96 rfl (lv_at hl 0 rfl) ?_
            refine lv_if_le (tgt := 104) K.1.1 K.1.2.1 dX3_readNumber_97 (by decide) (fun c_97 => ?_) (fun c_97 => ?_)
            · refine lv_iconst (v := 0) K.1.1 K.1.2.1 dX3_readNumber_104 (by decide) ?_
              exact m_zret K hr hlocks hP hS dX3_readNumber_105 (by first | rfl | (subst er_1 inv1_19; rfl)) (by subst er_1 inv1_19; first | (rw [D_readNumber, if_pos c_6]; done) | (have hN : D_numAt μ = (μ_19, v2_19, nI (3 - (n + 1))) := (by rw [D_numAt, fin0_19, D_dig, if_pos c_39]); rw [D_readNumber, if_neg c_6, hN]; dsimp only; first | rw [if_pos (Int32.not_le.mp c_97)] | rw [if_neg (Int32.not_lt.mpr c_97)]) | (have hN : D_numAt μ = (μ_19, v2_19, nI (3 - 0)) := (by rw [D_numAt, fin0_19]; rfl); rw [D_readNumber, if_neg c_6, hN]; dsimp only; first | rw [if_pos (Int32.not_le.mp c_97)] | rw [if_neg (Int32.not_lt.mpr c_97)])) (by subst er_1 inv1_19; first | (rw [D_readNumberM, if_pos c_6]; done) | (have hN : D_numAt μ = (μ_19, v2_19, nI (3 - (n + 1))) := (by rw [D_numAt, fin0_19, D_dig, if_pos c_39]); rw [D_readNumberM, if_neg c_6, hN]; dsimp only; first | rw [if_pos c_85] | rw [if_neg c_85]) | (have hN : D_numAt μ = (μ_19, v2_19, nI (3 - 0)) := (by rw [D_numAt, fin0_19]; rfl); rw [D_readNumberM, if_neg c_6, hN]; dsimp only; first | rw [if_pos c_85] | rw [if_neg c_85]))
            · refine lv_iconst (v := 1) K.1.1 K.1.2.1 dX3_readNumber_100 (by decide) ?_
              refine lv_goto (tgt := 105) K.1.1 K.1.2.1 dX3_readNumber_101 (by decide) ?_
              exact m_zret K hr hlocks hP hS dX3_readNumber_105 (by first | rfl | (subst er_1 inv1_19; rfl)) (by subst er_1 inv1_19; first | (rw [D_readNumber, if_pos c_6]; done) | (have hN : D_numAt μ = (μ_19, v2_19, nI (3 - (n + 1))) := (by rw [D_numAt, fin0_19, D_dig, if_pos c_39]); rw [D_readNumber, if_neg c_6, hN]; dsimp only; first | rw [if_pos (Int32.not_le.mp c_97)] | rw [if_neg (Int32.not_lt.mpr c_97)]) | (have hN : D_numAt μ = (μ_19, v2_19, nI (3 - 0)) := (by rw [D_numAt, fin0_19]; rfl); rw [D_readNumber, if_neg c_6, hN]; dsimp only; first | rw [if_pos (Int32.not_le.mp c_97)] | rw [if_neg (Int32.not_lt.mpr c_97)])) (by subst er_1 inv1_19; first | (rw [D_readNumberM, if_pos c_6]; done) | (have hN : D_numAt μ = (μ_19, v2_19, nI (3 - (n + 1))) := (by rw [D_numAt, fin0_19, D_dig, if_pos c_39]); rw [D_readNumberM, if_neg c_6, hN]; dsimp only; first | rw [if_pos c_85] | rw [if_neg c_85]) | (have hN : D_numAt μ = (μ_19, v2_19, nI (3 - 0)) := (by rw [D_numAt, fin0_19]; rfl); rw [D_readNumberM, if_neg c_6, hN]; dsimp only; first | rw [if_pos c_85] | rw [if_neg c_85]))
          · refine lv_aload_n K.1.1 K.1.2.1 dX3_readNumber_88 rfl (lv_at hl 2 rfl) ?_
            refine lv_aload_n K.1.1 K.1.2.1 dX3_readNumber_89 rfl (lv_at hl 2 rfl) ?_
            refine m_geti K hP (by decide) sh_254 rfl tuX3 4 (by decide) rfl q_372 dX3_readNumber_90 ?_
            refine lv_topi (fun g_2 eg_2 => ?_)
            refine m_puti K hP hS (by decide) sh_254 rfl tuX3 tyX3 tyX3_ok nmX3 5 (by decide) rfl rfl (by decide +kernel) q_373 dX3_readNumber_93 (fun H locs hP hS => ?_)
            refine lv_iload_n K.1.1 K.1.2.1 dX3_readNumber_96 rfl (lv_at hl 0 rfl) ?_
            refine lv_if_le (tgt := 104) K.1.1 K.1.2.1 dX3_readNumber_97 (by decide) (fun c_97 => ?_) (fun c_97 => ?_)
            · refine lv_iconst (v := 0) K.1.1 K.1.2.1 dX3_readNumber_104 (by decide) ?_
              exact m_zret K hr hlocks hP hS dX3_readNumber_105 (by first | rfl | (subst er_1 inv1_19 eg_2; rfl)) (by subst er_1 inv1_19 eg_2; first | (rw [D_readNumber, if_pos c_6]; done) | (have hN : D_numAt μ = (μ_19, v2_19, nI (3 - (n + 1))) := (by rw [D_numAt, fin0_19, D_dig, if_pos c_39]); rw [D_readNumber, if_neg c_6, hN]; dsimp only; first | rw [if_pos (Int32.not_le.mp c_97)] | rw [if_neg (Int32.not_lt.mpr c_97)]) | (have hN : D_numAt μ = (μ_19, v2_19, nI (3 - 0)) := (by rw [D_numAt, fin0_19]; rfl); rw [D_readNumber, if_neg c_6, hN]; dsimp only; first | rw [if_pos (Int32.not_le.mp c_97)] | rw [if_neg (Int32.not_lt.mpr c_97)])) (by subst er_1 inv1_19 eg_2; first | (rw [D_readNumberM, if_pos c_6]; done) | (have hN : D_numAt μ = (μ_19, v2_19, nI (3 - (n + 1))) := (by rw [D_numAt, fin0_19, D_dig, if_pos c_39]); rw [D_readNumberM, if_neg c_6, hN]; dsimp only; first | rw [if_pos c_85] | rw [if_neg c_85]) | (have hN : D_numAt μ = (μ_19, v2_19, nI (3 - 0)) := (by rw [D_numAt, fin0_19]; rfl); rw [D_readNumberM, if_neg c_6, hN]; dsimp only; first | rw [if_pos c_85] | rw [if_neg c_85]))
            · refine lv_iconst (v := 1) K.1.1 K.1.2.1 dX3_readNumber_100 (by decide) ?_
              refine lv_goto (tgt := 105) K.1.1 K.1.2.1 dX3_readNumber_101 (by decide) ?_
              exact m_zret K hr hlocks hP hS dX3_readNumber_105 (by first | rfl | (subst er_1 inv1_19 eg_2; rfl)) (by subst er_1 inv1_19 eg_2; first | (rw [D_readNumber, if_pos c_6]; done) | (have hN : D_numAt μ = (μ_19, v2_19, nI (3 - (n + 1))) := (by rw [D_numAt, fin0_19, D_dig, if_pos c_39]); rw [D_readNumber, if_neg c_6, hN]; dsimp only; first | rw [if_pos (Int32.not_le.mp c_97)] | rw [if_neg (Int32.not_lt.mpr c_97)]) | (have hN : D_numAt μ = (μ_19, v2_19, nI (3 - 0)) := (by rw [D_numAt, fin0_19]; rfl); rw [D_readNumber, if_neg c_6, hN]; dsimp only; first | rw [if_pos (Int32.not_le.mp c_97)] | rw [if_neg (Int32.not_lt.mpr c_97)])) (by subst er_1 inv1_19 eg_2; first | (rw [D_readNumberM, if_pos c_6]; done) | (have hN : D_numAt μ = (μ_19, v2_19, nI (3 - (n + 1))) := (by rw [D_numAt, fin0_19, D_dig, if_pos c_39]); rw [D_readNumberM, if_neg c_6, hN]; dsimp only; first | rw [if_pos c_85] | rw [if_neg c_85]) | (have hN : D_numAt μ = (μ_19, v2_19, nI (3 - 0)) := (by rw [D_numAt, fin0_19]; rfl); rw [D_readNumberM, if_neg c_6, hN]; dsimp only; first | rw [if_pos c_85] | rw [if_neg c_85]))
        · exact absurd c_21 (not_not_intro (by subst er_1 inv1_19; decide))
      | succ n ih_19 =>
        intro v3_19 v2_19 μ_19 H locs ls inv0_19 inv1_19 fin0_19 hP hS hl
        refine lv_iload_n K.1.1 K.1.2.1 dX3_readNumber_19 rfl (lv_at hl 0 rfl) ?_
        refine lv_iconst (v := 3) K.1.1 K.1.2.1 dX3_readNumber_20 (by decide) ?_
        refine lv_icmp_ge (tgt := 75) K.1.1 K.1.2.1 dX3_readNumber_21 (by decide) (fun c_21 => ?_) (fun c_21 => ?_)
        · exact absurd c_21 (by subst er_1 inv1_19; exact nI_ge (a := 3 - (n + 1)) (b := 3) (by omega) (by decide))
        · refine lv_aload_n K.1.1 K.1.2.1 dX3_readNumber_24 rfl (lv_at hl 2 rfl) ?_
          refine lv_aload_n K.1.1 K.1.2.1 dX3_readNumber_25 rfl (lv_at hl 2 rfl) ?_
          refine m_geti K hP (by decide) sh_254 rfl tuX3 4 (by decide) rfl q_372 dX3_readNumber_26 ?_
          refine lv_topi (fun g_3 eg_3 => ?_)
          refine m_cV (n := 1) (As := [.int g_3]) (rest := []) K hP hS (MX3_byteAt l G B _ g_3 ) (by decide) sh_254 rfl q_431 q_433 q_1 q_90 q_434 hv_X3_byteAt ⟨Nat.le_of_ble_eq_true rfl, Nat.le_of_ble_eq_true rfl⟩ rfl hl.1 rfl (Nat.le_of_ble_eq_true rfl) dX3_readNumber_29 ⟨Nat.zero_le _, Nat.zero_le _⟩ (fun H locs hP hS => ?_)
          refine lv_topi (fun r_4 er_4 => ?_)
          refine lv_bipush (v := 48) K.1.1 K.1.2.1 dX3_readNumber_32 (by decide) ?_
          refine lv_bipush (v := 57) K.1.1 K.1.2.1 dX3_readNumber_34 (by decide) ?_
          refine m_cSN (n := 3) (As := [.int r_4, .int 48, .int 57]) (rest := []) K hP hS (MX10_isWithin l G B _ r_4 48 57 ) K.2.2.1.1 q_444 q_82 q_445 hn_X10_isWithin ⟨Nat.le_of_ble_eq_true rfl, Nat.le_of_ble_eq_true rfl⟩ rfl hl.1 rfl (Nat.le_of_ble_eq_true rfl) dX3_readNumber_36 ⟨Nat.zero_le _, Nat.zero_le _⟩ (fun H locs hP hS => ?_)
          refine lv_topi (fun r_5 er_5 => ?_)
          refine lv_if_eq (tgt := 75) K.1.1 K.1.2.1 dX3_readNumber_39 (by decide) (fun c_39 => ?_) (fun c_39 => ?_)
          · refine lv_aload_n K.1.1 K.1.2.1 dX3_readNumber_75 rfl (lv_at hl 2 rfl) ?_
            refine m_getr K hP (by decide) sh_254 rfl tuX3 2 (by decide) rfl q_369 dX3_readNumber_76 ?_
            refine lv_iload_n K.1.1 K.1.2.1 dX3_readNumber_79 rfl (lv_at hl 3 rfl) ?_
            refine lv_iload_n K.1.1 K.1.2.1 dX3_readNumber_80 rfl (lv_at hl 1 rfl) ?_
            refine m_cV (n := 2) (As := [.int i, .int v2_19]) (rest := []) K hP hS (MX5_put l G B _ 255 3 isR_255 i v2_19 ) (Nat.lt_of_succ_lt isR_255.1) isR_255.2.1 rfl q_513 q_514 q_515 q_85 q_516 hv_X5_put ⟨Nat.le_of_ble_eq_true rfl, Nat.le_of_ble_eq_true rfl⟩ rfl hl.1 rfl (Nat.le_of_ble_eq_true rfl) dX3_readNumber_81 ⟨Nat.zero_le _, Nat.zero_le _⟩ (fun H locs hP hS => ?_)
            refine W.eq (g2 := F0 m 84 ls []) rfl ?_
            refine lv_iload_n K.1.1 K.1.2.1 dX3_readNumber_84 rfl (lv_at hl 0 rfl) ?_
            refine lv_if_ne (tgt := 96) K.1.1 K.1.2.1 dX3_readNumber_85 (by decide) (fun c_85 => ?_) (fun c_85 => ?_)
            · refine lv_iload_n K.1.1 K.1.2.1 dX3_readNumber_96 rfl (lv_at hl 0 rfl) ?_
              refine lv_if_le (tgt := 104) K.1.1 K.1.2.1 dX3_readNumber_97 (by decide) (fun c_97 => ?_) (fun c_97 => ?_)
              · refine lv_iconst (v := 0) K.1.1 K.1.2.1 dX3_readNumber_104 (by decide) ?_
                exact m_zret K hr hlocks hP hS dX3_readNumber_105 (by first | rfl | (subst er_1 inv1_19 eg_3 er_4 er_5; rfl)) (by subst er_1 inv1_19 eg_3 er_4 er_5; first | (rw [D_readNumber, if_pos c_6]; done) | (have hN : D_numAt μ = (μ_19, v2_19, nI (3 - (n + 1))) := (by rw [D_numAt, fin0_19, D_dig, if_pos c_39]); rw [D_readNumber, if_neg c_6, hN]; dsimp only; first | rw [if_pos (Int32.not_le.mp c_97)] | rw [if_neg (Int32.not_lt.mpr c_97)]) | (have hN : D_numAt μ = (μ_19, v2_19, nI (3 - 0)) := (by rw [D_numAt, fin0_19]; rfl); rw [D_readNumber, if_neg c_6, hN]; dsimp only; first | rw [if_pos (Int32.not_le.mp c_97)] | rw [if_neg (Int32.not_lt.mpr c_97)])) (by subst er_1 inv1_19 eg_3 er_4 er_5; first | (rw [D_readNumberM, if_pos c_6]; done) | (have hN : D_numAt μ = (μ_19, v2_19, nI (3 - (n + 1))) := (by rw [D_numAt, fin0_19, D_dig, if_pos c_39]); rw [D_readNumberM, if_neg c_6, hN]; dsimp only; first | rw [if_pos c_85] | rw [if_neg c_85]) | (have hN : D_numAt μ = (μ_19, v2_19, nI (3 - 0)) := (by rw [D_numAt, fin0_19]; rfl); rw [D_readNumberM, if_neg c_6, hN]; dsimp only; first | rw [if_pos c_85] | rw [if_neg c_85]))
              · refine lv_iconst (v := 1) K.1.1 K.1.2.1 dX3_readNumber_100 (by decide) ?_
                refine lv_goto (tgt := 105) K.1.1 K.1.2.1 dX3_readNumber_101 (by decide) ?_
                exact m_zret K hr hlocks hP hS dX3_readNumber_105 (by first | rfl | (subst er_1 inv1_19 eg_3 er_4 er_5; rfl)) (by subst er_1 inv1_19 eg_3 er_4 er_5; first | (rw [D_readNumber, if_pos c_6]; done) | (have hN : D_numAt μ = (μ_19, v2_19, nI (3 - (n + 1))) := (by rw [D_numAt, fin0_19, D_dig, if_pos c_39]); rw [D_readNumber, if_neg c_6, hN]; dsimp only; first | rw [if_pos (Int32.not_le.mp c_97)] | rw [if_neg (Int32.not_lt.mpr c_97)]) | (have hN : D_numAt μ = (μ_19, v2_19, nI (3 - 0)) := (by rw [D_numAt, fin0_19]; rfl); rw [D_readNumber, if_neg c_6, hN]; dsimp only; first | rw [if_pos (Int32.not_le.mp c_97)] | rw [if_neg (Int32.not_lt.mpr c_97)])) (by subst er_1 inv1_19 eg_3 er_4 er_5; first | (rw [D_readNumberM, if_pos c_6]; done) | (have hN : D_numAt μ = (μ_19, v2_19, nI (3 - (n + 1))) := (by rw [D_numAt, fin0_19, D_dig, if_pos c_39]); rw [D_readNumberM, if_neg c_6, hN]; dsimp only; first | rw [if_pos c_85] | rw [if_neg c_85]) | (have hN : D_numAt μ = (μ_19, v2_19, nI (3 - 0)) := (by rw [D_numAt, fin0_19]; rfl); rw [D_readNumberM, if_neg c_6, hN]; dsimp only; first | rw [if_pos c_85] | rw [if_neg c_85]))
            · refine lv_aload_n K.1.1 K.1.2.1 dX3_readNumber_88 rfl (lv_at hl 2 rfl) ?_
              refine lv_aload_n K.1.1 K.1.2.1 dX3_readNumber_89 rfl (lv_at hl 2 rfl) ?_
              refine m_geti K hP (by decide) sh_254 rfl tuX3 4 (by decide) rfl q_372 dX3_readNumber_90 ?_
              refine lv_topi (fun g_6 eg_6 => ?_)
              refine m_puti K hP hS (by decide) sh_254 rfl tuX3 tyX3 tyX3_ok nmX3 5 (by decide) rfl rfl (by decide +kernel) q_373 dX3_readNumber_93 (fun H locs hP hS => ?_)
              refine lv_iload_n K.1.1 K.1.2.1 dX3_readNumber_96 rfl (lv_at hl 0 rfl) ?_
              refine lv_if_le (tgt := 104) K.1.1 K.1.2.1 dX3_readNumber_97 (by decide) (fun c_97 => ?_) (fun c_97 => ?_)
              · refine lv_iconst (v := 0) K.1.1 K.1.2.1 dX3_readNumber_104 (by decide) ?_
                exact m_zret K hr hlocks hP hS dX3_readNumber_105 (by first | rfl | (subst er_1 inv1_19 eg_3 er_4 er_5 eg_6; rfl)) (by subst er_1 inv1_19 eg_3 er_4 er_5 eg_6; first | (rw [D_readNumber, if_pos c_6]; done) | (have hN : D_numAt μ = (μ_19, v2_19, nI (3 - (n + 1))) := (by rw [D_numAt, fin0_19, D_dig, if_pos c_39]); rw [D_readNumber, if_neg c_6, hN]; dsimp only; first | rw [if_pos (Int32.not_le.mp c_97)] | rw [if_neg (Int32.not_lt.mpr c_97)]) | (have hN : D_numAt μ = (μ_19, v2_19, nI (3 - 0)) := (by rw [D_numAt, fin0_19]; rfl); rw [D_readNumber, if_neg c_6, hN]; dsimp only; first | rw [if_pos (Int32.not_le.mp c_97)] | rw [if_neg (Int32.not_lt.mpr c_97)])) (by subst er_1 inv1_19 eg_3 er_4 er_5 eg_6; first | (rw [D_readNumberM, if_pos c_6]; done) | (have hN : D_numAt μ = (μ_19, v2_19, nI (3 - (n + 1))) := (by rw [D_numAt, fin0_19, D_dig, if_pos c_39]); rw [D_readNumberM, if_neg c_6, hN]; dsimp only; first | rw [if_pos c_85] | rw [if_neg c_85]) | (have hN : D_numAt μ = (μ_19, v2_19, nI (3 - 0)) := (by rw [D_numAt, fin0_19]; rfl); rw [D_readNumberM, if_neg c_6, hN]; dsimp only; first | rw [if_pos c_85] | rw [if_neg c_85]))
              · refine lv_iconst (v := 1) K.1.1 K.1.2.1 dX3_readNumber_100 (by decide) ?_
                refine lv_goto (tgt := 105) K.1.1 K.1.2.1 dX3_readNumber_101 (by decide) ?_
                exact m_zret K hr hlocks hP hS dX3_readNumber_105 (by first | rfl | (subst er_1 inv1_19 eg_3 er_4 er_5 eg_6; rfl)) (by subst er_1 inv1_19 eg_3 er_4 er_5 eg_6; first | (rw [D_readNumber, if_pos c_6]; done) | (have hN : D_numAt μ = (μ_19, v2_19, nI (3 - (n + 1))) := (by rw [D_numAt, fin0_19, D_dig, if_pos c_39]); rw [D_readNumber, if_neg c_6, hN]; dsimp only; first | rw [if_pos (Int32.not_le.mp c_97)] | rw [if_neg (Int32.not_lt.mpr c_97)]) | (have hN : D_numAt μ = (μ_19, v2_19, nI (3 - 0)) := (by rw [D_numAt, fin0_19]; rfl); rw [D_readNumber, if_neg c_6, hN]; dsimp only; first | rw [if_pos (Int32.not_le.mp c_97)] | rw [if_neg (Int32.not_lt.mpr c_97)])) (by subst er_1 inv1_19 eg_3 er_4 er_5 eg_6; first | (rw [D_readNumberM, if_pos c_6]; done) | (have hN : D_numAt μ = (μ_19, v2_19, nI (3 - (n + 1))) := (by rw [D_numAt, fin0_19, D_dig, if_pos c_39]); rw [D_readNumberM, if_neg c_6, hN]; dsimp only; first | rw [if_pos c_85] | rw [if_neg c_85]) | (have hN : D_numAt μ = (μ_19, v2_19, nI (3 - 0)) := (by rw [D_numAt, fin0_19]; rfl); rw [D_readNumberM, if_neg c_6, hN]; dsimp only; first | rw [if_pos c_85] | rw [if_neg c_85]))
          · refine lv_iload_n K.1.1 K.1.2.1 dX3_readNumber_42 rfl (lv_at hl 1 rfl) ?_
            refine lv_bipush (v := 10) K.1.1 K.1.2.1 dX3_readNumber_43 (by decide) ?_
            refine lv_imul K.1.1 K.1.2.1 dX3_readNumber_45 ?_
            refine lv_aload_n K.1.1 K.1.2.1 dX3_readNumber_46 rfl (lv_at hl 2 rfl) ?_
            refine lv_aload_n K.1.1 K.1.2.1 dX3_readNumber_47 rfl (lv_at hl 2 rfl) ?_
            refine m_geti K hP (by decide) sh_254 rfl tuX3 4 (by decide) rfl q_372 dX3_readNumber_48 ?_
            refine lv_topi (fun g_7 eg_7 => ?_)
            refine m_cV (n := 1) (As := [.int g_7]) (rest := [.int (v2_19 * 10)]) K hP hS (MX3_byteAt l G B _ g_7 ) (by decide) sh_254 rfl q_431 q_433 q_1 q_90 q_434 hv_X3_byteAt ⟨Nat.le_of_ble_eq_true rfl, Nat.le_of_ble_eq_true rfl⟩ rfl hl.1 rfl (Nat.le_of_ble_eq_true rfl) dX3_readNumber_51 ⟨Nat.zero_le _, Nat.zero_le _⟩ (fun H locs hP hS => ?_)
            refine lv_topi (fun r_8 er_8 => ?_)
            refine lv_iadd K.1.1 K.1.2.1 dX3_readNumber_54 ?_
            refine lv_bipush (v := 48) K.1.1 K.1.2.1 dX3_readNumber_55 (by decide) ?_
            refine lv_isub K.1.1 K.1.2.1 dX3_readNumber_57 ?_
            refine lv_topi (fun x_9 ex_9 => ?_)
            refine lv_istore_n (lv' := [(2, .int x_9), (3, .int v3_19), (0, .ref (B + 254)), (1, .int i)]) K.1.1 K.1.2.1 dX3_readNumber_58 rfl hl (by decide) rfl (fun ls hl => ?_)
            obtain ⟨x_10, ex_10⟩ : ∃ y : Int32, y = v3_19 + (1) := ⟨_, rfl⟩
            refine lv_iinc (v := x_10) (lv' := [(3, .int x_10), (2, .int x_9), (0, .ref (B + 254)), (1, .int i)]) K.1.1 K.1.2.1 dX3_readNumber_59 hl (k := 1) rfl (by rw [ex_10]; rfl) (by decide) rfl (fun ls hl => ?_)
            refine lv_aload_n K.1.1 K.1.2.1 dX3_readNumber_62 rfl (lv_at hl 2 rfl) ?_
            refine lv_dup K.1.1 K.1.2.1 dX3_readNumber_63 rfl ?_
            refine m_geti K hP (by decide) sh_254 rfl tuX3 4 (by decide) rfl q_372 dX3_readNumber_64 ?_
            refine lv_topi (fun g_11 eg_11 => ?_)
            refine lv_iconst (v := 1) K.1.1 K.1.2.1 dX3_readNumber_67 (by decide) ?_
            refine lv_iadd K.1.1 K.1.2.1 dX3_readNumber_68 ?_
            refine m_puti K hP hS (by decide) sh_254 rfl tuX3 tyX3 tyX3_ok nmX3 4 (by decide) rfl rfl (by decide +kernel) q_372 dX3_readNumber_69 (fun H locs hP hS => ?_)
            refine lv_goto (tgt := 19) K.1.1 K.1.2.1 dX3_readNumber_72 (by decide) ?_
            exact ih_19 _ _ _ _ _ _ (by omega) (by subst er_1 inv1_19 eg_3 er_4 er_5 eg_7 er_8 ex_9 ex_10 eg_11; rw [nI_1, show 3 - (n + 1) + 1 = 3 - n by omega]) (by subst er_1 inv1_19 eg_3 er_4 er_5 eg_7 er_8 ex_9 ex_10 eg_11; rw [fin0_19, D_dig, if_neg c_39]; rfl) hP hS (lv_sub hl [0, 1, 2, 3] rfl)
    exact lp_19 (3) _ _ _ _ _ _ (by exact Nat.le_refl _) (by rfl) (by rfl) hP hS (lv_sub hl [0, 1, 2, 3] rfl)
  · refine lv_iconst (v := 0) K.1.1 K.1.2.1 dX3_readNumber_9 (by decide) ?_
    exact m_zret K hr hlocks hP hS dX3_readNumber_10 (by first | rfl | (subst er_1; rfl)) (by subst er_1; rw [D_readNumber, if_pos c_6]) (by subst er_1; rw [D_readNumberM, if_pos c_6])

set_option maxHeartbeats 4000000 in
set_option maxRecDepth 100000 in
theorem MX3_readCommand (l : Launch) (G : GG) (B : Nat) (μ : Mm) : CM l yX3_readCommand (.code yX3_readCommand cX3_readCommand 3 (Option.some FieldType.boolean)) 7 154 G B [.ref (B + 254)] μ (some (.int ((D_readCommand μ).2))) ((D_readCommand μ).1) := by
  refine CM.of (by decide) (Nat.le_of_ble_eq_true rfl) ?_
  intro p e s m below meth c ls K hr hlocks hP hl
  have hS : va_S (AA B) s.heap s.heap [] := va_S.rf
  have hl : lv_has ls 3 [(0, .ref (B + 254))] := hl
  refine lv_aload_n K.1.1 K.1.2.1 dX3_readCommand_0 rfl (lv_at hl 0 rfl) ?_
  refine m_cV (n := 0) (As := []) (rest := []) K hP hS (MX3_skipSpaces l G B _  ) (by decide) sh_254 rfl q_427 q_429 q_0 q_90 q_430 hv_X3_skipSpaces ⟨Nat.le_of_ble_eq_true rfl, Nat.le_of_ble_eq_true rfl⟩ rfl hl.1 rfl (Nat.le_of_ble_eq_true rfl) dX3_readCommand_1 ⟨Nat.zero_le _, Nat.zero_le _⟩ (fun H locs hP hS => ?_)
  refine W.eq (g2 := F0 m 4 ls []) rfl ?_
  refine lv_aload_n K.1.1 K.1.2.1 dX3_readCommand_4 rfl (lv_at hl 0 rfl) ?_
  refine m_geti K hP (by decide) sh_254 rfl tuX3 4 (by decide) rfl q_372 dX3_readCommand_5 ?_
  refine lv_topi (fun g_1 eg_1 => ?_)
  refine lv_aload_n K.1.1 K.1.2.1 dX3_readCommand_8 rfl (lv_at hl 0 rfl) ?_
  refine m_geti K hP (by decide) sh_254 rfl tuX3 0 (by decide) rfl q_365 dX3_readCommand_9 ?_
  refine lv_topi (fun g_2 eg_2 => ?_)
  refine lv_icmp_eq (tgt := 22) K.1.1 K.1.2.1 dX3_readCommand_12 (by decide) (fun c_12 => ?_) (fun c_12 => ?_)
  · refine lv_iconst (v := 0) K.1.1 K.1.2.1 dX3_readCommand_22 (by decide) ?_
    exact m_zret K hr hlocks hP hS dX3_readCommand_23 (by first | rfl | (subst eg_1 eg_2; rfl)) (by subst eg_1 eg_2; first | (rw [D_readCommand, if_pos c_12]; done) | (rw [D_readCommand, if_neg c_12, D_cmd2, if_pos c_19]; done)) (by subst eg_1 eg_2; first | (rw [D_readCommand, if_pos c_12]; done) | (rw [D_readCommand, if_neg c_12, D_cmd2, if_pos c_19]; done))
  · refine lv_aload_n K.1.1 K.1.2.1 dX3_readCommand_15 rfl (lv_at hl 0 rfl) ?_
    refine m_cV (n := 0) (As := []) (rest := []) K hP hS (MX3_readWord l G B _  ) (by decide) sh_254 rfl q_439 q_441 q_2 q_90 q_442 hv_X3_readWord ⟨Nat.le_of_ble_eq_true rfl, Nat.le_of_ble_eq_true rfl⟩ rfl hl.1 rfl (Nat.le_of_ble_eq_true rfl) dX3_readCommand_16 ⟨Nat.zero_le _, Nat.zero_le _⟩ (fun H locs hP hS => ?_)
    refine lv_topi (fun r_3 er_3 => ?_)
    refine lv_if_ne (tgt := 24) K.1.1 K.1.2.1 dX3_readCommand_19 (by decide) (fun c_19 => ?_) (fun c_19 => ?_)
    · refine lv_aload_n K.1.1 K.1.2.1 dX3_readCommand_24 rfl (lv_at hl 0 rfl) ?_
      refine m_get K hP (by decide) sh_254 rfl tuX3 1 (by decide) rfl q_367 dX3_readCommand_25 ?_
      refine m_topw (fun g_4 eg_4 => ?_)
      by_cases c_28 : g_4 < 0
      · exact absurd c_28 (by subst eg_1 eg_2 er_3 eg_4; obtain ⟨kw, hk8, hkw⟩ := rw_word (μ := D_skipSpaces μ) c_19; rw [hkw]; exact nI_pos (by omega))
      · rw [show wv G g_4 = .ref (G.2.2.2 g_4.toNatClampNeg) from if_neg c_28]
        refine lv_ifnonnull (tgt := 35) K.1.1 K.1.2.1 dX3_readCommand_28 (by decide) ?_
        refine lv_aload_n K.1.1 K.1.2.1 dX3_readCommand_35 rfl (lv_at hl 0 rfl) ?_
        refine m_get K hP (by decide) sh_254 rfl tuX3 1 (by decide) rfl q_367 dX3_readCommand_36 ?_
        refine m_topw (fun g_5 eg_5 => ?_)
        obtain ⟨kw, hk8, hkw⟩ := rw_word (μ := D_skipSpaces μ) (by subst eg_1 eg_2 er_3 eg_4 eg_5; exact c_19)
        rw [show wv G g_5 = .ref (G.2.2.2 kw) from (by rw [eg_5, hkw]; exact wv_nI hk8)]
        refine m_wnum K hS hk8 dX3_readCommand_39 ?_
        obtain ⟨j3, hj3, ej3⟩ := wdN_le kw hk8
        refine lv_topi (fun xw exw => ?_)
        have hx : xw = nI j3 := exw.trans ej3
        have hw : D_wanted (D_readWordM (D_skipSpaces μ) 254 1) = nI j3 := (by rw [D_wanted, hkw, cn_nI (by omega), ej3])
        refine lv_istore_n (lv' := [(1, .int xw), (0, .ref (B + 254))]) K.1.1 K.1.2.1 dX3_readCommand_42 rfl hl (by decide) rfl (fun ls hl => ?_)
        refine lv_iconst (v := 0) K.1.1 K.1.2.1 dX3_readCommand_43 (by decide) ?_
        refine lv_istore_n (lv' := [(2, .int 0), (1, .int xw), (0, .ref (B + 254))]) K.1.1 K.1.2.1 dX3_readCommand_44 rfl hl (by decide) rfl (fun ls hl => ?_)
        have lp_45 : ∀ n : Nat, ∀ (v2_45 : Int32) (μ_45 : Mm) (H : Heap) (locs : List Loc) (ls : Array Slot), (n ≤ j3) → (v2_45 = nI (j3 - n)) → (D_nums (cn (D_wanted (D_readWordM (D_skipSpaces μ) 254 1))) (D_readWordM (D_skipSpaces μ)) 0 = D_nums n μ_45 v2_45) → MP G B μ_45 H → va_S (AA B) s.heap H locs → lv_has ls 3 [(2, .int v2_45), (1, .int xw), (0, .ref (B + 254))] → W p l e ({ frames := 7, cells := 0, slots := 0, locals := 154 } : Room) s m ([.ref (B + 254)] : List Value).toArray below meth c H locs 0 0 (MF below G B (some (.int ((D_readCommand μ).2))) ((D_readCommand μ).1) ([.ref (B + 254)] : List Value).toArray s) (F0 m 45 ls []) := by
          intro n
          induction n with
          | zero =>
            intro v2_45 μ_45 H locs ls inv0_45 inv1_45 fin0_45 hP hS hl
            refine lv_iload_n K.1.1 K.1.2.1 dX3_readCommand_45 rfl (lv_at hl 0 rfl) ?_
            refine lv_iload_n K.1.1 K.1.2.1 dX3_readCommand_46 rfl (lv_at hl 1 rfl) ?_
            refine lv_icmp_ge (tgt := 66) K.1.1 K.1.2.1 dX3_readCommand_47 (by decide) (fun c_47 => ?_) (fun c_47 => ?_)
            · refine lv_aload_n K.1.1 K.1.2.1 dX3_readCommand_66 rfl (lv_at hl 2 rfl) ?_
              refine m_cV (n := 0) (As := []) (rest := []) K hP hS (MX3_skipSpaces l G B _  ) (by decide) sh_254 rfl q_427 q_429 q_0 q_90 q_430 hv_X3_skipSpaces ⟨Nat.le_of_ble_eq_true rfl, Nat.le_of_ble_eq_true rfl⟩ rfl hl.1 rfl (Nat.le_of_ble_eq_true rfl) dX3_readCommand_67 ⟨Nat.zero_le _, Nat.zero_le _⟩ (fun H locs hP hS => ?_)
              refine W.eq (g2 := F0 m 70 ls []) rfl ?_
              refine lv_aload_n K.1.1 K.1.2.1 dX3_readCommand_70 rfl (lv_at hl 2 rfl) ?_
              refine lv_bipush (v := 59) K.1.1 K.1.2.1 dX3_readCommand_71 (by decide) ?_
              refine m_cV (n := 1) (As := [.int 59]) (rest := []) K hP hS (MX3_readByte l G B _ 59 ) (by decide) sh_254 rfl q_509 q_511 q_5 q_90 q_512 hv_X3_readByte ⟨Nat.le_of_ble_eq_true rfl, Nat.le_of_ble_eq_true rfl⟩ rfl hl.1 rfl (Nat.le_of_ble_eq_true rfl) dX3_readCommand_73 ⟨Nat.zero_le _, Nat.zero_le _⟩ (fun H locs hP hS => ?_)
              refine lv_topi (fun r_6 er_6 => ?_)
              exact m_zret K hr hlocks hP hS dX3_readCommand_76 (by subst_vars; unfold D_readByte; split <;> rfl) (by subst eg_1 eg_2 er_3 eg_4 eg_5 inv1_45 er_6; first | (rw [D_readCommand, if_pos c_12]; done) | (rw [D_readCommand, if_neg c_12, D_cmd2, if_pos c_19]; done) | (rw [D_readCommand, if_neg c_12, D_cmd2, if_neg c_19, show D_cmd3 (D_skipSpaces μ) = (μ_45, 1) from (by rw [D_cmd3, fin0_45, D_nums])]; dsimp only; rw [if_neg (by decide)])) (by subst eg_1 eg_2 er_3 eg_4 eg_5 inv1_45 er_6; first | (rw [D_readCommand, if_pos c_12]; done) | (rw [D_readCommand, if_neg c_12, D_cmd2, if_pos c_19]; done) | (rw [D_readCommand, if_neg c_12, D_cmd2, if_neg c_19, show D_cmd3 (D_skipSpaces μ) = (μ_45, 1) from (by rw [D_cmd3, fin0_45, D_nums])]; dsimp only; rw [if_neg (by decide)]))
            · exact absurd c_47 (not_not_intro (by rw [hx, inv1_45]; exact Int32.le_refl _))
          | succ n ih_45 =>
            intro v2_45 μ_45 H locs ls inv0_45 inv1_45 fin0_45 hP hS hl
            refine lv_iload_n K.1.1 K.1.2.1 dX3_readCommand_45 rfl (lv_at hl 0 rfl) ?_
            refine lv_iload_n K.1.1 K.1.2.1 dX3_readCommand_46 rfl (lv_at hl 1 rfl) ?_
            refine lv_icmp_ge (tgt := 66) K.1.1 K.1.2.1 dX3_readCommand_47 (by decide) (fun c_47 => ?_) (fun c_47 => ?_)
            · exact absurd c_47 (by rw [hx, inv1_45]; exact nI_ge (by omega) (by omega))
            · refine lv_aload_n K.1.1 K.1.2.1 dX3_readCommand_50 rfl (lv_at hl 2 rfl) ?_
              refine lv_iload_n K.1.1 K.1.2.1 dX3_readCommand_51 rfl (lv_at hl 0 rfl) ?_
              refine m_cV (n := 1) (As := [.int v2_45]) (rest := []) K hP hS (MX3_readNumber l G B _ v2_45 ) (by decide) sh_254 rfl q_505 q_507 q_4 q_90 q_508 hv_X3_readNumber ⟨Nat.le_of_ble_eq_true rfl, Nat.le_of_ble_eq_true rfl⟩ rfl hl.1 rfl (Nat.le_of_ble_eq_true rfl) dX3_readCommand_52 ⟨Nat.zero_le _, Nat.zero_le _⟩ (fun H locs hP hS => ?_)
              refine lv_topi (fun r_7 er_7 => ?_)
              refine lv_if_ne (tgt := 60) K.1.1 K.1.2.1 dX3_readCommand_55 (by decide) (fun c_55 => ?_) (fun c_55 => ?_)
              · obtain ⟨x_8, ex_8⟩ : ∃ y : Int32, y = v2_45 + (1) := ⟨_, rfl⟩
                refine lv_iinc (v := x_8) (lv' := [(2, .int x_8), (1, .int xw), (0, .ref (B + 254))]) K.1.1 K.1.2.1 dX3_readCommand_60 hl (k := 0) rfl (by rw [ex_8]; rfl) (by decide) rfl (fun ls hl => ?_)
                refine lv_goto (tgt := 45) K.1.1 K.1.2.1 dX3_readCommand_63 (by decide) ?_
                exact ih_45 _ _ _ _ _ (by omega) (by subst eg_1 eg_2 er_3 eg_4 eg_5 inv1_45 er_7 ex_8; rw [nI_1, show j3 - (n + 1) + 1 = j3 - n by omega]) (by subst eg_1 eg_2 er_3 eg_4 eg_5 inv1_45 er_7 ex_8; rw [fin0_45, D_nums, if_neg c_55, nI_1, show j3 - (n + 1) + 1 = j3 - n by omega]) hP hS (lv_sub hl [0, 1, 2] rfl)
              · refine lv_iconst (v := 0) K.1.1 K.1.2.1 dX3_readCommand_58 (by decide) ?_
                exact m_zret K hr hlocks hP hS dX3_readCommand_59 (by first | rfl | (subst eg_1 eg_2 er_3 eg_4 eg_5 inv1_45 er_7; rfl)) (by subst eg_1 eg_2 er_3 eg_4 eg_5 inv1_45 er_7; first | (rw [D_readCommand, if_pos c_12]; done) | (rw [D_readCommand, if_neg c_12, D_cmd2, if_pos c_19]; done) | (rw [D_readCommand, if_neg c_12, D_cmd2, if_neg c_19, show D_cmd3 (D_skipSpaces μ) = (D_readNumberM μ_45 (nI (j3 - (n + 1))), 0) from (by rw [D_cmd3, fin0_45, D_nums, if_pos c_55])]; dsimp only; rw [if_pos rfl])) (by subst eg_1 eg_2 er_3 eg_4 eg_5 inv1_45 er_7; first | (rw [D_readCommand, if_pos c_12]; done) | (rw [D_readCommand, if_neg c_12, D_cmd2, if_pos c_19]; done) | (rw [D_readCommand, if_neg c_12, D_cmd2, if_neg c_19, show D_cmd3 (D_skipSpaces μ) = (D_readNumberM μ_45 (nI (j3 - (n + 1))), 0) from (by rw [D_cmd3, fin0_45, D_nums, if_pos c_55])]; dsimp only; rw [if_pos rfl]))
        exact lp_45 (j3) _ _ _ _ _ (by exact Nat.le_refl _) (by rw [Nat.sub_self]; rfl) (by rw [hw, cn_nI (by omega)]) hP hS (lv_sub hl [0, 1, 2] rfl)
    · refine lv_iconst (v := 0) K.1.1 K.1.2.1 dX3_readCommand_22 (by decide) ?_
      exact m_zret K hr hlocks hP hS dX3_readCommand_23 (by first | rfl | (subst eg_1 eg_2 er_3; rfl)) (by subst eg_1 eg_2 er_3; first | (rw [D_readCommand, if_pos c_12]; done) | (rw [D_readCommand, if_neg c_12, D_cmd2, if_pos c_19]; done)) (by subst eg_1 eg_2 er_3; first | (rw [D_readCommand, if_pos c_12]; done) | (rw [D_readCommand, if_neg c_12, D_cmd2, if_pos c_19]; done))

set_option maxHeartbeats 4000000 in
set_option maxRecDepth 100000 in
theorem MX3_findFault (l : Launch) (G : GG) (B : Nat) (μ : Mm) : CM l yX3_findFault (.code yX3_findFault cX3_findFault 2 (Option.some FieldType.int)) 8 176 G B [.ref (B + 254)] μ (some (.int (D_findFault μ 254 5))) (D_findFault μ) := by
  refine CM.of (by decide) (Nat.le_of_ble_eq_true rfl) ?_
  intro p e s m below meth c ls K hr hlocks hP hl
  have hS : va_S (AA B) s.heap s.heap [] := va_S.rf
  have hl : lv_has ls 2 [(0, .ref (B + 254))] := hl
  refine lv_aload_n K.1.1 K.1.2.1 dX3_findFault_0 rfl (lv_at hl 0 rfl) ?_
  refine m_cV (n := 0) (As := []) (rest := []) K hP hS (MX3_rewind l G B _  ) (by decide) sh_254 rfl q_419 q_420 q_421 q_90 q_422 hv_X3_rewind ⟨Nat.le_of_ble_eq_true rfl, Nat.le_of_ble_eq_true rfl⟩ rfl hl.1 rfl (Nat.le_of_ble_eq_true rfl) dX3_findFault_1 ⟨Nat.zero_le _, Nat.zero_le _⟩ (fun H locs hP hS => ?_)
  refine W.eq (g2 := F0 m 4 ls []) rfl ?_
  refine lv_iconst (v := 0) K.1.1 K.1.2.1 dX3_findFault_4 (by decide) ?_
  refine lv_istore_n (lv' := [(1, .int 0), (0, .ref (B + 254))]) K.1.1 K.1.2.1 dX3_findFault_5 rfl hl (by decide) rfl (fun ls hl => ?_)
  have lp_6 : ∀ n : Nat, ∀ (v1_6 : Int32) (μ_6 : Mm) (H : Heap) (locs : List Loc) (ls : Array Slot), (n ≤ 150) → (v1_6 = nI (150 - n)) → (D_ff (NN 150) (D_rewind μ) = D_ff n μ_6) → MP G B μ_6 H → va_S (AA B) s.heap H locs → lv_has ls 2 [(1, .int v1_6), (0, .ref (B + 254))] → W p l e ({ frames := 8, cells := 0, slots := 0, locals := 176 } : Room) s m ([.ref (B + 254)] : List Value).toArray below meth c H locs 0 0 (MF below G B (some (.int (D_findFault μ 254 5))) (D_findFault μ) ([.ref (B + 254)] : List Value).toArray s) (F0 m 6 ls []) := by
    intro n
    induction n with
    | zero =>
      intro v1_6 μ_6 H locs ls inv0_6 inv1_6 fin0_6 hP hS hl
      refine lv_iload_n K.1.1 K.1.2.1 dX3_findFault_6 rfl (lv_at hl 0 rfl) ?_
      refine lv_sipush (v := 150) K.1.1 K.1.2.1 dX3_findFault_7 (by decide) ?_
      refine lv_icmp_ge (tgt := 31) K.1.1 K.1.2.1 dX3_findFault_10 (by decide) (fun c_10 => ?_) (fun c_10 => ?_)
      · refine lv_aload_n K.1.1 K.1.2.1 dX3_findFault_31 rfl (lv_at hl 1 rfl) ?_
        refine m_geti K hP (by decide) sh_254 rfl tuX3 5 (by decide) rfl q_373 dX3_findFault_32 ?_
        refine lv_topi (fun g_1 eg_1 => ?_)
        exact m_iret K hr hlocks hP hS dX3_findFault_35 (by subst inv1_6 eg_1; rw [D_findFault, fin0_6]; first | rfl | rw [D_ff, if_pos c_17]) (by subst inv1_6 eg_1; rw [D_findFault, fin0_6]; first | rfl | rw [D_ff, if_pos c_17])
      · exact absurd c_10 (not_not_intro (by subst inv1_6; decide))
    | succ n ih_6 =>
      intro v1_6 μ_6 H locs ls inv0_6 inv1_6 fin0_6 hP hS hl
      refine lv_iload_n K.1.1 K.1.2.1 dX3_findFault_6 rfl (lv_at hl 0 rfl) ?_
      refine lv_sipush (v := 150) K.1.1 K.1.2.1 dX3_findFault_7 (by decide) ?_
      refine lv_icmp_ge (tgt := 31) K.1.1 K.1.2.1 dX3_findFault_10 (by decide) (fun c_10 => ?_) (fun c_10 => ?_)
      · exact absurd c_10 (by subst inv1_6; exact nI_ge (a := 150 - (n + 1)) (b := 150) (by omega) (by decide))
      · refine lv_aload_n K.1.1 K.1.2.1 dX3_findFault_13 rfl (lv_at hl 1 rfl) ?_
        refine m_cV (n := 0) (As := []) (rest := []) K hP hS (MX3_readCommand l G B _  ) (by decide) sh_254 rfl q_423 q_424 q_425 q_90 q_426 hv_X3_readCommand ⟨Nat.le_of_ble_eq_true rfl, Nat.le_of_ble_eq_true rfl⟩ rfl hl.1 rfl (Nat.le_of_ble_eq_true rfl) dX3_findFault_14 ⟨Nat.zero_le _, Nat.zero_le _⟩ (fun H locs hP hS => ?_)
        refine lv_topi (fun r_2 er_2 => ?_)
        refine lv_if_ne (tgt := 25) K.1.1 K.1.2.1 dX3_findFault_17 (by decide) (fun c_17 => ?_) (fun c_17 => ?_)
        · obtain ⟨x_3, ex_3⟩ : ∃ y : Int32, y = v1_6 + (1) := ⟨_, rfl⟩
          refine lv_iinc (v := x_3) (lv' := [(1, .int x_3), (0, .ref (B + 254))]) K.1.1 K.1.2.1 dX3_findFault_25 hl (k := 0) rfl (by rw [ex_3]; rfl) (by decide) rfl (fun ls hl => ?_)
          refine lv_goto (tgt := 6) K.1.1 K.1.2.1 dX3_findFault_28 (by decide) ?_
          exact ih_6 _ _ _ _ _ (by omega) (by subst inv1_6 er_2 ex_3; rw [nI_1, show 150 - (n + 1) + 1 = 150 - n by omega]) (by subst inv1_6 er_2 ex_3; rw [fin0_6, D_ff, if_neg c_17]) hP hS (lv_sub hl [0, 1] rfl)
        · refine lv_aload_n K.1.1 K.1.2.1 dX3_findFault_20 rfl (lv_at hl 1 rfl) ?_
          refine m_geti K hP (by decide) sh_254 rfl tuX3 5 (by decide) rfl q_373 dX3_findFault_21 ?_
          refine lv_topi (fun g_4 eg_4 => ?_)
          exact m_iret K hr hlocks hP hS dX3_findFault_24 (by subst inv1_6 er_2 eg_4; rw [D_findFault, fin0_6]; first | rfl | rw [D_ff, if_pos c_17]) (by subst inv1_6 er_2 eg_4; rw [D_findFault, fin0_6]; first | rfl | rw [D_ff, if_pos c_17])
  exact lp_6 (NN 150) _ _ _ _ _ (by rw [NN_eq]; exact Nat.le_refl _) (by rw [NN_eq]; rfl) (by rfl) hP hS (lv_sub hl [0, 1] rfl)
end
