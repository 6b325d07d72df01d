/-! the one memory: all cells of the class's objects and of the reference's, at fixed places from B on; what they hold: a number by place and index -/
abbrev Mm := Nat → Nat → Int32
def up2 (μ : Mm) (k i : Nat) (v : Int32) : Mm := fun k' i' => if k' = k ∧ i' = i then v else μ k' i'
/-- none: a number; some none: a word or null; some (some t): the cell t -/
abbrev Fc := Option (Option Nat)
/-- (0, n, _): a row of n numbers; (1, ci, fs): an object; (2, n, _): the four kept auctions -/
abbrev Sh := Nat × Nat × List Fc
def shL : List Sh := [(1, 8, [some (some 1), some (some 41), some (some 81), some (some 92), some (some 254)]),
  (1, 0, [some (some 2), some (some 17), some (some 30), none, none, none, none, none, none, none, none]),
  (1, 5, [none, some (some 3), some (some 5), some (some 7), some (some 9), some (some 11), some (some 13), some (some 15)]),
  (1, 4, [some (some 4)]),
  (0, 8, []),
  (1, 4, [some (some 6)]),
  (0, 8, []),
  (1, 4, [some (some 8)]),
  (0, 8, []),
  (1, 4, [some (some 10)]),
  (0, 8, []),
  (1, 4, [some (some 12)]),
  (0, 8, []),
  (1, 4, [some (some 14)]),
  (0, 8, []),
  (1, 4, [some (some 16)]),
  (0, 8, []),
  (1, 3, [none, some (some 18), some (some 20), some (some 22), some (some 24), some (some 26), some (some 28)]),
  (1, 4, [some (some 19)]),
  (0, 20, []),
  (1, 4, [some (some 21)]),
  (0, 20, []),
  (1, 4, [some (some 23)]),
  (0, 20, []),
  (1, 4, [some (some 25)]),
  (0, 20, []),
  (1, 4, [some (some 27)]),
  (0, 20, []),
  (1, 4, [some (some 29)]),
  (0, 20, []),
  (1, 6, [none, some (some 31), some (some 33), some (some 35), some (some 37), some (some 39)]),
  (1, 4, [some (some 32)]),
  (0, 20, []),
  (1, 4, [some (some 34)]),
  (0, 20, []),
  (1, 4, [some (some 36)]),
  (0, 20, []),
  (1, 4, [some (some 38)]),
  (0, 20, []),
  (1, 4, [some (some 40)]),
  (0, 20, []),
  (1, 0, [some (some 42), some (some 57), some (some 70), none, none, none, none, none, none, none, none]),
  (1, 5, [none, some (some 43), some (some 45), some (some 47), some (some 49), some (some 51), some (some 53), some (some 55)]),
  (1, 4, [some (some 44)]),
  (0, 8, []),
  (1, 4, [some (some 46)]),
  (0, 8, []),
  (1, 4, [some (some 48)]),
  (0, 8, []),
  (1, 4, [some (some 50)]),
  (0, 8, []),
  (1, 4, [some (some 52)]),
  (0, 8, []),
  (1, 4, [some (some 54)]),
  (0, 8, []),
  (1, 4, [some (some 56)]),
  (0, 8, []),
  (1, 3, [none, some (some 58), some (some 60), some (some 62), some (some 64), some (some 66), some (some 68)]),
  (1, 4, [some (some 59)]),
  (0, 20, []),
  (1, 4, [some (some 61)]),
  (0, 20, []),
  (1, 4, [some (some 63)]),
  (0, 20, []),
  (1, 4, [some (some 65)]),
  (0, 20, []),
  (1, 4, [some (some 67)]),
  (0, 20, []),
  (1, 4, [some (some 69)]),
  (0, 20, []),
  (1, 6, [none, some (some 71), some (some 73), some (some 75), some (some 77), some (some 79)]),
  (1, 4, [some (some 72)]),
  (0, 20, []),
  (1, 4, [some (some 74)]),
  (0, 20, []),
  (1, 4, [some (some 76)]),
  (0, 20, []),
  (1, 4, [some (some 78)]),
  (0, 20, []),
  (1, 4, [some (some 80)]),
  (0, 20, []),
  (1, 1, [none, none, none, none, none, some (some 82), some (some 84), some (some 86), none, none, some (some 88), some (some 90)]),
  (1, 4, [some (some 83)]),
  (0, 20, []),
  (1, 4, [some (some 85)]),
  (0, 20, []),
  (1, 4, [some (some 87)]),
  (0, 20, []),
  (1, 4, [some (some 89)]),
  (0, 121, []),
  (1, 4, [some (some 91)]),
  (0, 121, []),
  (1, 7, [none, none, some (some 93)]),
  (2, 4, []),
  (1, 0, [some (some 95), some (some 110), some (some 123), none, none, none, none, none, none, none, none]),
  (1, 5, [none, some (some 96), some (some 98), some (some 100), some (some 102), some (some 104), some (some 106), some (some 108)]),
  (1, 4, [some (some 97)]),
  (0, 8, []),
  (1, 4, [some (some 99)]),
  (0, 8, []),
  (1, 4, [some (some 101)]),
  (0, 8, []),
  (1, 4, [some (some 103)]),
  (0, 8, []),
  (1, 4, [some (some 105)]),
  (0, 8, []),
  (1, 4, [some (some 107)]),
  (0, 8, []),
  (1, 4, [some (some 109)]),
  (0, 8, []),
  (1, 3, [none, some (some 111), some (some 113), some (some 115), some (some 117), some (some 119), some (some 121)]),
  (1, 4, [some (some 112)]),
  (0, 20, []),
  (1, 4, [some (some 114)]),
  (0, 20, []),
  (1, 4, [some (some 116)]),
  (0, 20, []),
  (1, 4, [some (some 118)]),
  (0, 20, []),
  (1, 4, [some (some 120)]),
  (0, 20, []),
  (1, 4, [some (some 122)]),
  (0, 20, []),
  (1, 6, [none, some (some 124), some (some 126), some (some 128), some (some 130), some (some 132)]),
  (1, 4, [some (some 125)]),
  (0, 20, []),
  (1, 4, [some (some 127)]),
  (0, 20, []),
  (1, 4, [some (some 129)]),
  (0, 20, []),
  (1, 4, [some (some 131)]),
  (0, 20, []),
  (1, 4, [some (some 133)]),
  (0, 20, []),
  (1, 0, [some (some 135), some (some 150), some (some 163), none, none, none, none, none, none, none, none]),
  (1, 5, [none, some (some 136), some (some 138), some (some 140), some (some 142), some (some 144), some (some 146), some (some 148)]),
  (1, 4, [some (some 137)]),
  (0, 8, []),
  (1, 4, [some (some 139)]),
  (0, 8, []),
  (1, 4, [some (some 141)]),
  (0, 8, []),
  (1, 4, [some (some 143)]),
  (0, 8, []),
  (1, 4, [some (some 145)]),
  (0, 8, []),
  (1, 4, [some (some 147)]),
  (0, 8, []),
  (1, 4, [some (some 149)]),
  (0, 8, []),
  (1, 3, [none, some (some 151), some (some 153), some (some 155), some (some 157), some (some 159), some (some 161)]),
  (1, 4, [some (some 152)]),
  (0, 20, []),
  (1, 4, [some (some 154)]),
  (0, 20, []),
  (1, 4, [some (some 156)]),
  (0, 20, []),
  (1, 4, [some (some 158)]),
  (0, 20, []),
  (1, 4, [some (some 160)]),
  (0, 20, []),
  (1, 4, [some (some 162)]),
  (0, 20, []),
  (1, 6, [none, some (some 164), some (some 166), some (some 168), some (some 170), some (some 172)]),
  (1, 4, [some (some 165)]),
  (0, 20, []),
  (1, 4, [some (some 167)]),
  (0, 20, []),
  (1, 4, [some (some 169)]),
  (0, 20, []),
  (1, 4, [some (some 171)]),
  (0, 20, []),
  (1, 4, [some (some 173)]),
  (0, 20, []),
  (1, 0, [some (some 175), some (some 190), some (some 203), none, none, none, none, none, none, none, none]),
  (1, 5, [none, some (some 176), some (some 178), some (some 180), some (some 182), some (some 184), some (some 186), some (some 188)]),
  (1, 4, [some (some 177)]),
  (0, 8, []),
  (1, 4, [some (some 179)]),
  (0, 8, []),
  (1, 4, [some (some 181)]),
  (0, 8, []),
  (1, 4, [some (some 183)]),
  (0, 8, []),
  (1, 4, [some (some 185)]),
  (0, 8, []),
  (1, 4, [some (some 187)]),
  (0, 8, []),
  (1, 4, [some (some 189)]),
  (0, 8, []),
  (1, 3, [none, some (some 191), some (some 193), some (some 195), some (some 197), some (some 199), some (some 201)]),
  (1, 4, [some (some 192)]),
  (0, 20, []),
  (1, 4, [some (some 194)]),
  (0, 20, []),
  (1, 4, [some (some 196)]),
  (0, 20, []),
  (1, 4, [some (some 198)]),
  (0, 20, []),
  (1, 4, [some (some 200)]),
  (0, 20, []),
  (1, 4, [some (some 202)]),
  (0, 20, []),
  (1, 6, [none, some (some 204), some (some 206), some (some 208), some (some 210), some (some 212)]),
  (1, 4, [some (some 205)]),
  (0, 20, []),
  (1, 4, [some (some 207)]),
  (0, 20, []),
  (1, 4, [some (some 209)]),
  (0, 20, []),
  (1, 4, [some (some 211)]),
  (0, 20, []),
  (1, 4, [some (some 213)]),
  (0, 20, []),
  (1, 0, [some (some 215), some (some 230), some (some 243), none, none, none, none, none, none, none, none]),
  (1, 5, [none, some (some 216), some (some 218), some (some 220), some (some 222), some (some 224), some (some 226), some (some 228)]),
  (1, 4, [some (some 217)]),
  (0, 8, []),
  (1, 4, [some (some 219)]),
  (0, 8, []),
  (1, 4, [some (some 221)]),
  (0, 8, []),
  (1, 4, [some (some 223)]),
  (0, 8, []),
  (1, 4, [some (some 225)]),
  (0, 8, []),
  (1, 4, [some (some 227)]),
  (0, 8, []),
  (1, 4, [some (some 229)]),
  (0, 8, []),
  (1, 3, [none, some (some 231), some (some 233), some (some 235), some (some 237), some (some 239), some (some 241)]),
  (1, 4, [some (some 232)]),
  (0, 20, []),
  (1, 4, [some (some 234)]),
  (0, 20, []),
  (1, 4, [some (some 236)]),
  (0, 20, []),
  (1, 4, [some (some 238)]),
  (0, 20, []),
  (1, 4, [some (some 240)]),
  (0, 20, []),
  (1, 4, [some (some 242)]),
  (0, 20, []),
  (1, 6, [none, some (some 244), some (some 246), some (some 248), some (some 250), some (some 252)]),
  (1, 4, [some (some 245)]),
  (0, 20, []),
  (1, 4, [some (some 247)]),
  (0, 20, []),
  (1, 4, [some (some 249)]),
  (0, 20, []),
  (1, 4, [some (some 251)]),
  (0, 20, []),
  (1, 4, [some (some 253)]),
  (0, 20, []),
  (1, 2, [none, some none, some (some 255), some (some 257), none, none]),
  (1, 4, [some (some 256)]),
  (0, 3, []),
  (1, 4, [some (some 258)]),
  (0, 150, [])]
def sh (k : Nat) : Sh := shL.getD k (9, 0, [])
/-- the numbers of the classes, of int[], of Auction[], and the words' addresses -/
abbrev GG := va_G × ClassId × ClassId × (Nat → Nat)
def wv (G : GG) (x : Int32) : Value := if x < 0 then .null else .ref (G.2.2.2 x.toNatClampNeg)
def fv (G : GG) (B : Nat) (c : Fc) (x : Int32) : Value := match c with
  | none => .int x
  | some none => wv G x
  | some (some t) => .ref (B + t)
def fL (G : GG) (B : Nat) (fs : List Fc) (f : Nat → Int32) : List Value := (List.range fs.length).map (fun j => fv G B (fs.getD j none) (f j))
def ce (G : GG) (B k : Nat) (f : Nat → Int32) : va_E := match sh k with
  | (0, n, _) => .inl (G.2.1, n, .inl f)
  | (1, ci, fs) => .inr (ci, fL G B fs f)
  | (_, n, _) => .inl (G.2.2.1, n, .inr (.inr (.inr (.inr (fun i => some (B + (94 + 40 * i)))))))
def mL (G : GG) (B : Nat) (μ : Mm) : va_W := (List.range 259).map (fun k => (B + k, ce G B k (μ k)))
def AA (B : Nat) : Nat → Prop := fun q => B ≤ q
def tyL (G : GG) : List (ClassId × FieldType) := [(G.2.1, .int), (G.2.2.1, .object "ShadedBooks$Auction")]
def smN : List Int32 := [1, 2, 3, 4, 5, 6, 7, 0]
/-- what holds of the launch all through -/
def WX (_ : GG) (B : Nat) (U : State) (H : Heap) : Prop :=
  vx_Zq Bundle.tN "UNASSIGNED_STACK" Bundle.steD (AA B) U H ∧ vx_Zq Bundle.tN "SUPPRESSED_SENTINEL" Bundle.listD (AA B) U H
def IOE : String := "java/lang/IndexOutOfBoundsException"
def IAE : String := "java/lang/IllegalArgumentException"
def ISE : String := "java/lang/IllegalStateException"
/-- what the tables say that isn't a good word: nest mates, casts, the exceptions' texts -/
def NX (G : GG) (U : State) : Prop :=
  va_Nw (.methodLinkNest RX1 42 yX10_isWithin RX10) U ∧
  (va_Nw (.castable IOE IOE) U ∧ va_Nw (.castable IAE IAE) U ∧ va_Nw (.castable ISE ISE) U) ∧
  (va_Nc IOE IAE U ∧ va_Nc IOE ISE U ∧ va_Nc IAE IOE U ∧ va_Nc IAE ISE U ∧ va_Nc ISE IOE U ∧ va_Nc ISE IAE U) ∧
  (vk_R RX10 246 "there is no such trader or order" (G.2.2.2 24) U ∧ vk_R RX10 253 "a number is out of its range" (G.2.2.2 25) U ∧ vk_R RX10 258 "this cannot be done now" (G.2.2.2 26) U)
def NW (G : GG) (B : Nat) (U : State) (H : Heap) : Prop := NX G U ∧ WX G B U H
theorem NX.warm {G : GG} {s U : State} (hW : s.WarmedH U.vm) (h : NX G s) : NX G U := by
  obtain ⟨a2, ⟨b1, b2, b3⟩, ⟨c1, c2, c3, c4, c5, c6⟩, d1, d2, d3⟩ := h
  exact ⟨va_Nw.warmM hW a2, ⟨va_Nw.warmC hW b1, va_Nw.warmC hW b2, va_Nw.warmC hW b3⟩, ⟨va_Nc.moved hW.alike c1, va_Nc.moved hW.alike c2, va_Nc.moved hW.alike c3, va_Nc.moved hW.alike c4, va_Nc.moved hW.alike c5, va_Nc.moved hW.alike c6⟩, vk_R.warm hW d1, vk_R.warm hW d2, vk_R.warm hW d3⟩
theorem NX.same {G : GG} {s U : State} (hv : U.vm = s.vm) (h : NX G s) : NX G U := by
  obtain ⟨a2, ⟨b1, b2, b3⟩, ⟨c1, c2, c3, c4, c5, c6⟩, d1, d2, d3⟩ := h
  have hA : s.vm.Alike U.vm := by rw [hv]; exact Vm.Alike.refl s.vm
  exact ⟨va_Nw.same rfl hv.symm a2, ⟨va_Nw.same rfl hv.symm b1, va_Nw.same rfl hv.symm b2, va_Nw.same rfl hv.symm b3⟩, ⟨va_Nc.moved hA c1, va_Nc.moved hA c2, va_Nc.moved hA c3, va_Nc.moved hA c4, va_Nc.moved hA c5, va_Nc.moved hA c6⟩, vk_R.same hv d1, vk_R.same hv d2, vk_R.same hv d3⟩
theorem WX.moved {G : GG} {B : Nat} {u U : State} {H : Heap} (hvm : u.vm.Alike U.vm) (h : WX G B u H) : WX G B U H := ⟨vx_Zq.moved hvm h.1, vx_Zq.moved hvm h.2⟩
theorem WX.kept {G : GG} {B : Nat} {U : State} {H H1 : Heap} (h : WX G B U H) (hq : ∀ a : Nat, a < H.size → ¬ AA B a → H1[a]? = H[a]?) : WX G B U H1 := ⟨h.1.kept hq, h.2.kept hq⟩
theorem NW.go {G : GG} {B : Nat} {s U : State} {H : Heap} {locs : List Loc} (h : NW G B s s.heap) (hS : va_S (AA B) s.heap H locs) (hW : s.WarmedH U.vm) : NW G B U H :=
  ⟨h.1.warm hW, (h.2.moved hW.alike).kept (fun a h1 h2 => hS.2.1 a h1 h2)⟩
theorem NW.calling {G : GG} {B : Nat} {U : State} {H : Heap} {g : JFrame} {mk : MethodId} {a : Array Value} (h : NW G B U H) : NW G B (U.calling g mk a) H :=
  ⟨h.1.same rfl, h.2.moved (Vm.Alike.refl U.vm)⟩
theorem up2_s (μ : Mm) (k i : Nat) (v : Int32) : up2 μ k i v k i = v := by simp [up2]
theorem up2_k (μ : Mm) {k i k' : Nat} (v : Int32) (h : k' ≠ k) : up2 μ k i v k' = μ k' := by
  funext i'
  simp [up2, h]
theorem up2_upd (μ : Mm) (k i : Nat) (v : Int32) : up2 μ k i v k = upd (μ k) i v := by
  funext i'
  simp [up2, upd]
theorem mL_get (G : GG) (B : Nat) (μ : Mm) {k : Nat} (hk : k < 259) : (mL G B μ)[k]? = some (B + k, ce G B k (μ k)) := by
  simp [mL, hk]
theorem mL_of {G : GG} {B : Nat} {μ : Mm} {k : Nat} {q : Nat × va_E} (h : (mL G B μ)[k]? = some q) : k < 259 ∧ q = (B + k, ce G B k (μ k)) := by
  have hk : k < 259 := by
    have := (List.getElem?_eq_some_iff.mp h).1
    simpa [mL] using this
  rw [mL_get G B μ hk] at h
  exact ⟨hk, (Option.some.inj h).symm⟩
theorem mD (G : GG) (B : Nat) (μ : Mm) : va_D (AA B) (mL G B μ) := by
  refine ⟨fun i j p q hi hj hpq => ?_, fun k q hk => ?_⟩
  · obtain ⟨-, rfl⟩ := mL_of hi
    obtain ⟨-, rfl⟩ := mL_of hj
    exact Nat.add_left_cancel hpq
  · obtain ⟨h, rfl⟩ := mL_of hk
    exact Nat.le_add_right _ _
theorem mL_set (G : GG) (B : Nat) (μ : Mm) {k : Nat} (hk : k < 259) (j : Nat) (v : Int32) {e : va_E} (he : ce G B k (up2 μ k j v k) = e) : (mL G B μ).set k (B + k, e) = mL G B (up2 μ k j v) := by
  apply List.ext_getElem?
  intro i
  by_cases hi : i = k
  · subst hi
    rw [List.getElem?_set_self (by simpa [mL] using hk), mL_get G B _ hk, he]
  · rw [List.getElem?_set_ne (Ne.symm hi)]
    by_cases h : i < 259
    · rw [mL_get G B _ h, mL_get G B _ h, up2_k _ _ hi]
    · simp [mL, h]
theorem ce_obj (G : GG) (B : Nat) {k ci : Nat} {fs : List Fc} (h : sh k = (1, ci, fs)) (f : Nat → Int32) : ce G B k f = .inr (ci, fL G B fs f) := by
  unfold ce
  rw [h]
  rfl
theorem ce_arr (G : GG) (B : Nat) {k n : Nat} {fs : List Fc} (h : sh k = (0, n, fs)) (f : Nat → Int32) : ce G B k f = .inl (G.2.1, n, .inl f) := by
  unfold ce
  rw [h]
  rfl
theorem fL_get (G : GG) (B : Nat) {fs : List Fc} (f : Nat → Int32) {j : Nat} {c : Fc} (h : fs[j]? = some c) : (fL G B fs f)[j]? = some (fv G B c (f j)) := by
  have hj := (List.getElem?_eq_some_iff.mp h).1
  simp [fL, hj]
  rw [List.getElem?_eq_getElem hj] at h
  rw [Option.some.inj h]
theorem fL_set (G : GG) (B : Nat) {fs : List Fc} (f : Nat → Int32) {j : Nat} {c : Fc} (v : Int32) (h : fs[j]? = some c) : fL G B fs (upd f j v) = (fL G B fs f).set j (fv G B c v) := by
  have hj := (List.getElem?_eq_some_iff.mp h).1
  apply List.ext_getElem?
  intro i
  by_cases hi : i = j
  · subst hi
    rw [List.getElem?_set_self (by simpa [fL] using hj), fL_get G B _ h]
    simp [upd]
  · rw [List.getElem?_set_ne (Ne.symm hi)]
    by_cases hlt : i < fs.length
    · simp [fL, upd, hi, hlt]
    · simp [fL, hlt]
theorem fL_len (G : GG) (B : Nat) (fs : List Fc) (f : Nat → Int32) : (fL G B fs f).length = fs.length := by simp [fL]
section MROW
variable {p : Program} {l : Launch} {e : Env} {R : Room} {s : State} {m : MethodId} {args : Array Value} {below : List Frame} {meth : Method} {c : Code} {H : Heap} {locs : List Loc} {cells slots : Nat} {Q : State → Prop}
variable {cc : ByteArray} {pc : Nat} {ls : Array Slot} {rest : List Value} {G : GG} {B nL : Nat} {μ : Mm} {own : String} {c1 : Cond}
/-- what holds all through a method: the machine, its code, its class, its words; what is known of the classes -/
abbrev KK (p : Program) (m : MethodId) (c : Code) (cc : ByteArray) (nL : Nat) (s : State) (args : Array Value) (c1 : Cond) (own : String) (G : GG) (B : Nat) : Prop := CallFix p m c cc nL s args (c1 :: TBL) own ∧ va_K G.1 vwCl (tyL G) s ∧ NW G B s s.heap
theorem KK.w (K : KK p m c cc nL s args c1 own G B) {w : Cond} (h : w ∈ TBL) : w.before args s = true := K.1.2.2.2.2 w (List.mem_cons_of_mem _ h)
abbrev MP (G : GG) (B : Nat) (μ : Mm) (H : Heap) : Prop := va_P G.1 vwCl (mL G B μ) H
theorem m_get (K : KK p m c cc nL s args c1 own G B) (hP : MP G B μ H) {C : String} {T : u_T} {N ci index k : Nat} {fs : List Fc} (hk : k < 259) (hsh : sh k = (1, ci, fs)) (hc : vwCl[ci]? = some (C, T, N)) (hin : ∀ w ∈ u_ws C T N, w ∈ TBL) (j : Nat) (hj : j < N) {f : Fc} (hf : fs[j]? = some f) (hlink : Cond.fieldLink own index (T j).1 (T j).2.1 (T j).2.2.1 ∈ TBL) (hdg : decode cc pc = .ok (.getfield index, 3))
    (kk : W p l e R s m args below meth c H locs cells slots Q (F0 m (pc + 3) ls (fv G B f (μ k j) :: rest))) : W p l e R s m args below meth c H locs cells slots Q (F0 m pc ls (.ref (B + k) :: rest)) := by
  have hP0 := mL_get G B μ hk
  rw [ce_obj G B hsh] at hP0
  exact va_get K.1.1 K.1.2.1 (own := own) (ref := (T j).1) (Ts := c1 :: TBL) K.1.2.2.2.2 (fun w h => List.mem_cons_of_mem _ (hin w h)) K.1.2.2.2.1 K.2.1 hP k hP0 hc j hj (K.w hlink) (fun _ h => h) (fL_get G B _ hf) hdg kk
theorem m_geti (K : KK p m c cc nL s args c1 own G B) (hP : MP G B μ H) {C : String} {T : u_T} {N ci index k : Nat} {fs : List Fc} (hk : k < 259) (hsh : sh k = (1, ci, fs)) (hc : vwCl[ci]? = some (C, T, N)) (hin : ∀ w ∈ u_ws C T N, w ∈ TBL) (j : Nat) (hj : j < N) (hf : fs[j]? = some none) (hlink : Cond.fieldLink own index (T j).1 (T j).2.1 (T j).2.2.1 ∈ TBL) (hdg : decode cc pc = .ok (.getfield index, 3))
    (kk : W p l e R s m args below meth c H locs cells slots Q (F0 m (pc + 3) ls (.int (μ k j) :: rest))) : W p l e R s m args below meth c H locs cells slots Q (F0 m pc ls (.ref (B + k) :: rest)) := m_get K hP hk hsh hc hin j hj hf hlink hdg kk
theorem m_getr (K : KK p m c cc nL s args c1 own G B) (hP : MP G B μ H) {C : String} {T : u_T} {N ci index k t : Nat} {fs : List Fc} (hk : k < 259) (hsh : sh k = (1, ci, fs)) (hc : vwCl[ci]? = some (C, T, N)) (hin : ∀ w ∈ u_ws C T N, w ∈ TBL) (j : Nat) (hj : j < N) (hf : fs[j]? = some (some (some t))) (hlink : Cond.fieldLink own index (T j).1 (T j).2.1 (T j).2.2.1 ∈ TBL) (hdg : decode cc pc = .ok (.getfield index, 3))
    (kk : W p l e R s m args below meth c H locs cells slots Q (F0 m (pc + 3) ls (.ref (B + t) :: rest))) : W p l e R s m args below meth c H locs cells slots Q (F0 m pc ls (.ref (B + k) :: rest)) := m_get K hP hk hsh hc hin j hj hf hlink hdg kk
theorem m_puti (K : KK p m c cc nL s args c1 own G B) (hP : MP G B μ H) (hS : va_S (AA B) s.heap H locs) {C : String} {T : u_T} {N ci index k : Nat} {fs : List Fc} (hk : k < 259) (hsh : sh k = (1, ci, fs)) (hc : vwCl[ci]? = some (C, T, N)) (hin : ∀ w ∈ u_ws C T N, w ∈ TBL) (ty0 : Nat → FieldType) (hty : ∀ k, k < N → parseFieldDescriptor (T k).2.2.1 = some (ty0 k)) (hnm : ∀ a, a < N → ∀ b, b < N → a ≠ b → (T a).2.1 ≠ (T b).2.1)
    (j : Nat) (hj : j < N) (hf : fs[j]? = some none) (hfin : (T j).2.2.2 = false) (hd : parseFieldDescriptor (T j).2.2.1 = some .int) (hlink : Cond.fieldLink own index (T j).1 (T j).2.1 (T j).2.2.1 ∈ TBL) {x : Int32} (hdg : decode cc pc = .ok (.putfield index, 3))
    (kk : ∀ (H1 : Heap) (locs1 : List Loc), MP G B (up2 μ k j x) H1 → va_S (AA B) s.heap H1 locs1 → W p l e R s m args below meth c H1 locs1 cells slots Q (F0 m (pc + 3) ls rest)) : W p l e R s m args below meth c H locs cells slots Q (F0 m pc ls (.int x :: .ref (B + k) :: rest)) := by
  have hP0 := mL_get G B μ hk
  rw [ce_obj G B hsh] at hP0
  have he : ce G B k (up2 μ k j x k) = .inr (ci, (fL G B fs (μ k)).set j (.int x)) := by
    rw [ce_obj G B hsh, up2_upd, fL_set G B _ x hf]
    rfl
  exact va_put K.1.1 K.1.2.1 (own := own) (ref := (T j).1) (Ts := c1 :: TBL) K.1.2.2.2.2 (fun w h => List.mem_cons_of_mem _ (hin w h)) ty0 hty hnm K.1.2.2.2.1 K.2.1 hP (mD G B μ) hS k hP0 hc j hj (K.w hlink) (fun _ h => h) hfin (v := .int x) hd rfl rfl (by rw [fL_len]; exact (List.getElem?_eq_some_iff.mp hf).1) hdg
    (fun H1 locs1 a _ b => kk H1 locs1 (by rw [mL_set G B μ hk j x he] at a; exact a) b)
theorem m_iald (K : KK p m c cc nL s args c1 own G B) (hP : MP G B μ H) {k n : Nat} {fs : List Fc} (hk : k < 259) (hsh : sh k = (0, n, fs)) {i : Int32} (hin : vp_in i n) (hdg : decode cc pc = .ok (.iaload, 1))
    (kk : W p l e R s m args below meth c H locs cells slots Q (F0 m (pc + 1) ls (.int (μ k i.toNatClampNeg) :: rest))) : W p l e R s m args below meth c H locs cells slots Q (F0 m pc ls (.int i :: .ref (B + k) :: rest)) := by
  have hP0 := mL_get G B μ hk
  rw [ce_arr G B hsh] at hP0
  exact va_iald K.1.1 K.1.2.1 K.2.1 hP k 0 hP0 rfl hin hdg kk
theorem m_alen (K : KK p m c cc nL s args c1 own G B) (hP : MP G B μ H) {k n : Nat} {fs : List Fc} (hk : k < 259) (hsh : sh k = (0, n, fs)) (hdg : decode cc pc = .ok (.arraylength, 1))
    (kk : W p l e R s m args below meth c H locs cells slots Q (F0 m (pc + 1) ls (.int (nI n) :: rest))) : W p l e R s m args below meth c H locs cells slots Q (F0 m pc ls (.ref (B + k) :: rest)) := by
  have hP0 := mL_get G B μ hk
  rw [ce_arr G B hsh] at hP0
  exact va_alen K.1.1 K.1.2.1 K.2.1 hP k 0 hP0 (ty := .int) rfl (v := nI n) rfl hdg kk
theorem m_iast (K : KK p m c cc nL s args c1 own G B) (hP : MP G B μ H) (hS : va_S (AA B) s.heap H locs) {k n : Nat} {fs : List Fc} (hk : k < 259) (hsh : sh k = (0, n, fs)) {i x : Int32} (hin : vp_in i n) (hdg : decode cc pc = .ok (.iastore, 1))
    (kk : ∀ (H1 : Heap) (locs1 : List Loc), MP G B (up2 μ k i.toNatClampNeg x) H1 → va_S (AA B) s.heap H1 locs1 → W p l e R s m args below meth c H1 locs1 cells slots Q (F0 m (pc + 1) ls rest)) : W p l e R s m args below meth c H locs cells slots Q (F0 m pc ls (.int x :: .int i :: .ref (B + k) :: rest)) := by
  have hP0 := mL_get G B μ hk
  rw [ce_arr G B hsh] at hP0
  have he : ce G B k (up2 μ k i.toNatClampNeg x k) = .inl (G.2.1, n, .inl (upd (μ k) i.toNatClampNeg x)) := by
    rw [ce_arr G B hsh, up2_upd]
  exact va_iast K.1.1 K.1.2.1 K.2.1 hP (mD G B μ) hS k 0 hP0 rfl hin hdg
    (fun H1 locs1 a _ b => kk H1 locs1 (by rw [mL_set G B μ hk _ x he] at a; exact a) b)
/-- one of the four kept auctions -/
theorem m_aald (K : KK p m c cc nL s args c1 own G B) (hP : MP G B μ H) {i : Int32} (hin : vp_in i 4) (hdg : decode cc pc = .ok (.aaload, 1))
    (kk : W p l e R s m args below meth c H locs cells slots Q (F0 m (pc + 1) ls (.ref (B + (94 + 40 * i.toNatClampNeg)) :: rest))) : W p l e R s m args below meth c H locs cells slots Q (F0 m pc ls (.int i :: .ref (B + 93) :: rest)) := by
  have hP0 := mL_get G B μ (k := 93) (by decide)
  have he : ce G B 93 (μ 93) = .inl (G.2.2.1, 4, .inr (.inr (.inr (.inr (fun i => some (B + (94 + 40 * i))))))) := rfl
  rw [he] at hP0
  exact va_aldq K.1.1 K.1.2.1 K.2.1 hP 93 1 hP0 rfl hin hdg kk
theorem m_qlen (K : KK p m c cc nL s args c1 own G B) (hP : MP G B μ H) (hdg : decode cc pc = .ok (.arraylength, 1))
    (kk : W p l e R s m args below meth c H locs cells slots Q (F0 m (pc + 1) ls (.int (nI 4) :: rest))) : W p l e R s m args below meth c H locs cells slots Q (F0 m pc ls (.ref (B + 93) :: rest)) := by
  have hP0 := mL_get G B μ (k := 93) (by decide)
  have he : ce G B 93 (μ 93) = .inl (G.2.2.1, 4, .inr (.inr (.inr (.inr (fun i => some (B + (94 + 40 * i))))))) := rfl
  rw [he] at hP0
  exact va_alen K.1.1 K.1.2.1 K.2.1 hP 93 1 hP0 (ty := .object "ShadedBooks$Auction") rfl (v := nI 4) rfl hdg kk
/-- a contract: the memory before, the answer, the memory behind -/
def QM (G : GG) (B : Nat) (v : Option Value) (μ' : Mm) : Array Value → State → Outcome → State → Prop := fun _ st oc t => oc = .returned v ∧ MP G B μ' t.heap ∧ va_F (AA B) st t
def PM (G : GG) (B : Nat) (μ : Mm) (U : State) : Prop := MP G B μ U.heap ∧ va_K G.1 vwCl (tyL G) U ∧ NW G B U U.heap
abbrev CM (l : Launch) (y : MethodName) (cw : Cond) (fr lo : Nat) (G : GG) (B : Nat) (av : List Value) (μ : Mm) (v : Option Value) (μ' : Mm) : Prop :=
  Met l y (cw :: TBL) ({ frames := fr, cells := 0, slots := 0, locals := lo } : Room) (va_Pc av (PM G B μ)) (QM G B v μ') 0 0 (AA B)
abbrev MF (below : List Frame) (G : GG) (B : Nat) (v : Option Value) (μ' : Mm) (a : Array Value) (s : State) : State → Prop := MQ below (QM G B v μ') a s 0 0 (AA B)
theorem CM.of {y : MethodName} {bytes : ByteArray} {maxL : Nat} {ret : Option FieldType} {fr lo : Nat} {av : List Value} {v : Option Value} {μ' : Mm} (hy : plainName y.cls = true) (hlen : (lg_sl av).length ≤ maxL)
    (body : ∀ (p : Program) (e : Env) (s : State) (m : MethodId) (below : List Frame) (meth : Method) (c : Code) (ls : Array Slot), KK p m c bytes maxL s av.toArray (.code y bytes maxL ret) y.cls G B → meth.sig.returnType = ret → meth.locks = false → MP G B μ s.heap → lv_has ls maxL (lv_args 0 av) →
      W p l e ({ frames := fr, cells := 0, slots := 0, locals := lo } : Room) s m av.toArray below meth c s.heap [] 0 0 (MF below G B v μ' av.toArray s) (F0 m 0 ls [])) : CM l y (.code y bytes maxL ret) fr lo G B av μ v μ' := by
  refine Met.ofW (cc := bytes) (maxL := maxL) (ret := ret) hy rfl ?_
  intro p e s m args below meth c s₁ Bd hml hv
  obtain ⟨rfl, hP, hK, hN⟩ := hv
  have hts := atoms_spec (ws := (.code y bytes maxL ret :: TBL)) Bd.pre
  have hown : s.vm.findClass y.cls = some m.cls := findClass_of_methodNamed Bd.named
  have hl := lv_entry av (n := maxL) hlen
  rw [lg_entry_eq]
  generalize (lg_sl av ++ List.replicate (maxL - (lg_sl av).length) Slot.unset).toArray = ls at hl ⊢
  exact body p e s m below meth c ls ⟨⟨Bd.exec, Bd.bytes, hml, hown, hts⟩, hK, hN⟩ Bd.returns Bd.notSynchronized hP hl
theorem m_iret {v : Option Value} {μ' : Mm} (K : KK p m c cc nL s args c1 own G B) (hr : meth.sig.returnType = some .int) (hlocks : meth.locks = false) (hP : MP G B μ H) (hS : va_S (AA B) s.heap H locs) {x : Int32} (hdg : decode cc pc = .ok (.ireturn, 1)) (hv : v = some (.int x)) (hm : μ' = μ) : W p l e R s m args below meth c H locs 0 0 (MF below G B v μ' args s) (F0 m pc ls [.int x]) := by
  subst hv; subst hm
  exact W.iret K.1.1 K.1.2.1 hr (fun t ht _ => ⟨rfl, by rw [ht]; exact hP, hS.F ht⟩) hS.2.2 hdg
theorem m_zret {v : Option Value} {μ' : Mm} (K : KK p m c cc nL s args c1 own G B) (hr : meth.sig.returnType = some .boolean) (hlocks : meth.locks = false) (hP : MP G B μ H) (hS : va_S (AA B) s.heap H locs) {x : Int32} (hdg : decode cc pc = .ok (.ireturn, 1)) (hn : narrow .boolean (.int x) = .int x) (hv : v = some (.int x)) (hm : μ' = μ) : W p l e R s m args below meth c H locs 0 0 (MF below G B v μ' args s) (F0 m pc ls [.int x]) := by
  subst hv; subst hm
  exact W.zret K.1.1 K.1.2.1 hr hn (fun t ht _ => ⟨rfl, by rw [ht]; exact hP, hS.F ht⟩) hS.2.2 hdg
theorem m_lret {v : Option Value} {μ' : Mm} (K : KK p m c cc nL s args c1 own G B) (hr : meth.sig.returnType = some .long) (hlocks : meth.locks = false) (hP : MP G B μ H) (hS : va_S (AA B) s.heap H locs) {x : Int64} (hdg : decode cc pc = .ok (.lreturn, 1)) (hv : v = some (.long x)) (hm : μ' = μ) : W p l e R s m args below meth c H locs 0 0 (MF below G B v μ' args s) (F0 m pc ls [.long x]) := by
  subst hv; subst hm
  exact W.lret K.1.1 K.1.2.1 hr (fun t ht _ => ⟨rfl, by rw [ht]; exact hP, hS.F ht⟩) hS.2.2 hdg
theorem m_vret {v : Option Value} {μ' : Mm} (K : KK p m c cc nL s args c1 own G B) (hr : meth.sig.returnType = none) (hlocks : meth.locks = false) (hP : MP G B μ H) (hS : va_S (AA B) s.heap H locs) (hdg : decode cc pc = .ok (.return_, 1)) (hv : v = none) (hm : μ' = μ) : W p l e R s m args below meth c H locs 0 0 (MF below G B v μ' args s) (F0 m pc ls []) := by
  subst hv; subst hm
  exact W.vret K.1.1 K.1.2.1 hr (fun t ht _ => ⟨rfl, by rw [ht]; exact hP, hS.F ht⟩) hS.2.2 hdg
theorem m_aret {v : Option Value} {μ' : Mm} {C : String} (K : KK p m c cc nL s args c1 own G B) (hr : meth.sig.returnType = some (.object C)) (hlocks : meth.locks = false) (hP : MP G B μ H) (hS : va_S (AA B) s.heap H locs) {x : Value} (hx : x = .null ∨ ∃ a, x = .ref a) (hdg : decode cc pc = .ok (.areturn, 1)) (hv : v = some x) (hm : μ' = μ) : W p l e R s m args below meth c H locs 0 0 (MF below G B v μ' args s) (F0 m pc ls [x]) := by
  subst hv; subst hm
  exact W.aret K.1.1 K.1.2.1 hr (Or.inl ⟨_, rfl⟩) hx (fun t ht _ => ⟨rfl, by rw [ht]; exact hP, hS.F ht⟩) hS.2.2 hdg
-- calls
theorem m_goodV {y : MethodName} {C : String} {cw : Cond} {index : Nat} (q1 : Cond.methodLink own index y ∈ TBL) (q2 : Cond.instanceMethod y ∈ TBL) (q3 : Cond.selects C y y ∈ TBL) (q4 : Cond.initialized C ∈ TBL) (q5 : cw ∈ TBL) : GoodIn (c1 :: TBL) (wsV own index C y (cw :: TBL)) := by
  intro w hw
  have h : w ∈ TBL := by
    rcases List.mem_append.mp (show w ∈ [Cond.methodLink own index y, .instanceMethod y, .selects C y y, .initialized C] ++ (cw :: TBL) from hw) with h | h
    · simp only [List.mem_cons, List.not_mem_nil, or_false] at h
      rcases h with rfl | rfl | rfl | rfl <;> assumption
    · rcases List.mem_cons.mp h with rfl | h
      · exact q5
      · exact h
  exact ⟨List.mem_cons_of_mem _ h, good_of_word (tb_good h)⟩
theorem m_goodS {y : MethodName} {cw : Cond} {index : Nat} (q1 : Cond.methodLink own index y ∈ TBL) (q2 : Cond.static y ∈ TBL) (q4 : Cond.initialized own ∈ TBL) (q5 : cw ∈ TBL) : GoodIn (c1 :: TBL) (wsS own index y (cw :: TBL)) := by
  intro w hw
  have h : w ∈ TBL := by
    rcases List.mem_append.mp (show w ∈ [Cond.methodLink own index y, .static y, .initialized own] ++ (cw :: TBL) from hw) with h | h
    · simp only [List.mem_cons, List.not_mem_nil, or_false] at h
      rcases h with rfl | rfl | rfl <;> assumption
    · rcases List.mem_cons.mp h with rfl | h
      · exact q5
      · exact h
  exact ⟨List.mem_cons_of_mem _ h, good_of_word (tb_good h)⟩
theorem m_goodT {cw : Cond} (q5 : cw ∈ TBL) : GoodIn (c1 :: TBL) (cw :: TBL) := by
  intro w hw
  have h : w ∈ TBL := by
    rcases List.mem_cons.mp hw with rfl | h
    · exact q5
    · exact h
  exact ⟨List.mem_cons_of_mem _ h, good_of_word (tb_good h)⟩
theorem m_back {v : Option Value} {μ' : Mm} {st0 : List Value} {a : Array Value} (hr : va_Run p l e R s m args below meth c H locs cells slots 0 0 (F0 m pc ls st0) rest (QM G B v μ' a) (AA B)) (hS : va_S (AA B) s.heap H locs)
    (kk : ∀ (H1 : Heap) (locs1 : List Loc), MP G B μ' H1 → va_S (AA B) s.heap H1 locs1 → W p l e R s m args below meth c H1 locs1 cells slots Q (F0 m (pc + 3) ls (v.toList ++ rest))) : W p l e R s m args below meth c H locs cells slots Q (F0 m pc ls st0) := by
  intro T hT X
  obtain ⟨v', st₀, t, T', L, h0, X', hL, e1, e2, ⟨hv, hb, hz, hk⟩, st⟩ := hr T hT X
  cases hv
  rw [h0] at hz hk
  obtain ⟨t2, a1, b1⟩ := kk T'.heap (locs ++ L) (by rw [e1]; exact hb)
    ⟨Nat.le_trans hS.1 (by rw [e1]; exact hz), fun q h1 h2 => by rw [e1, hk q (Nat.lt_of_lt_of_le h1 hS.1) h2]; exact hS.2.1 q h1 h2, fun q hq => by
      rcases List.mem_append.mp hq with h | h
      · exact hS.2.2 q h
      · exact hL q h⟩ T' rfl X'
  exact ⟨t2, st t2 a1, b1⟩
theorem m_pre (hP : MP G B μ H) (hS : va_S (AA B) s.heap H locs) (hK : va_K G.1 vwCl (tyL G) s ∧ NW G B s s.heap) (av : List Value) : FrameBlind (va_Pc av (PM G B μ)) ∧ ∀ U : State, U.heap = H → s.WarmedH U.vm → va_Pc av (PM G B μ) av.toArray U :=
  ⟨fun a U g mk q => ⟨q.1, q.2.1, va_K.moved (u := U) (U := U.calling g mk a) (Vm.Alike.refl U.vm) q.2.2.1, q.2.2.2.calling⟩, fun U hU hW => ⟨rfl, by rw [hU]; exact hP, va_K.moved hW.alike hK.1, by rw [hU]; exact hK.2.go hS hW⟩⟩
theorem m_cV {y : MethodName} {bytes : ByteArray} {maxL n index fr lo k ci N : Nat} {ret : Option FieldType} {C : String} {T : u_T} {fs : List Fc} {v : Option Value} {μ' : Mm} {As st0 : List Value} (K : KK p m c cc nL s args c1 own G B) (hP : MP G B μ H) (hS : va_S (AA B) s.heap H locs)
    (hM : CM l y (.code y bytes maxL ret) fr lo G B (.ref (B + k) :: As) μ v μ') (hk : k < 259) (hsh : sh k = (1, ci, fs)) (hc : vwCl[ci]? = some (C, T, N))
    (q1 : Cond.methodLink own index y ∈ TBL) (q2 : Cond.instanceMethod y ∈ TBL) (q3 : Cond.selects C y y ∈ TBL) (q4 : Cond.initialized C ∈ TBL) (q5 : Cond.code y bytes maxL ret ∈ TBL)
    (hd : y.cls = C ∧ y.cls ≠ "java/lang/invoke/MethodHandle" ∧ y.cls ≠ "java/lang/invoke/VarHandle" ∧ (parseMethodDescriptor y.desc).map (fun d => d.parameters.length) = some n) (hR : fr + 1 ≤ R.frames ∧ 8 + (maxL + 11) + lo ≤ R.locals)
    (hn : As.length = n) (hsize : ls.size = nL) (hst : st0 = As.reverse ++ .ref (B + k) :: rest) (hW : (rest.map fun v => v.category).sum ≤ 8) (hdg : decode cc pc = .ok (.invokevirtual index, 3)) (hf : cells ≤ R.cells ∧ slots ≤ R.slots)
    (kk : ∀ (H1 : Heap) (locs1 : List Loc), MP G B μ' H1 → va_S (AA B) s.heap H1 locs1 → W p l e R s m args below meth c H1 locs1 cells slots Q (F0 m (pc + 3) ls (v.toList ++ rest))) : W p l e R s m args below meth c H locs cells slots Q (F0 m pc ls st0) := by
  have hP0 := mL_get G B μ hk
  rw [ce_obj G B hsh] at hP0
  obtain ⟨hbl, hpre⟩ := m_pre hP hS K.2 (.ref (B + k) :: As)
  exact m_back (va_runV (As := As) (rest := rest) K.1 hM (cwV n K.1.2.2.2.2 (m_goodV q1 q2 q3 q4 q5) rfl rfl rfl hd hR) ⟨hbl, va_recv K.2.1 hP hc hP0, hpre⟩ rfl hn hsize hst (lv_room hW) hdg hf) hS kk
theorem m_cS {y : MethodName} {bytes : ByteArray} {maxL n index fr lo : Nat} {ret : Option FieldType} {v : Option Value} {μ' : Mm} {As st0 : List Value} (K : KK p m c cc nL s args c1 own G B) (hP : MP G B μ H) (hS : va_S (AA B) s.heap H locs)
    (hM : CM l y (.code y bytes maxL ret) fr lo G B As μ v μ')
    (q1 : Cond.methodLink own index y ∈ TBL) (q2 : Cond.static y ∈ TBL) (q4 : Cond.initialized own ∈ TBL) (q5 : Cond.code y bytes maxL ret ∈ TBL)
    (hd : y.cls = own ∧ y.cls ≠ "java/lang/invoke/MethodHandle" ∧ y.cls ≠ "java/lang/invoke/VarHandle" ∧ (parseMethodDescriptor y.desc).map (fun d => d.parameters.length) = some n) (hR : fr + 1 ≤ R.frames ∧ 8 + (maxL + 11) + lo ≤ R.locals)
    (hn : As.length = n) (hsize : ls.size = nL) (hst : st0 = As.reverse ++ rest) (hW : (rest.map fun v => v.category).sum ≤ 8) (hdg : decode cc pc = .ok (.invokestatic index, 3)) (hf : cells ≤ R.cells ∧ slots ≤ R.slots)
    (kk : ∀ (H1 : Heap) (locs1 : List Loc), MP G B μ' H1 → va_S (AA B) s.heap H1 locs1 → W p l e R s m args below meth c H1 locs1 cells slots Q (F0 m (pc + 3) ls (v.toList ++ rest))) : W p l e R s m args below meth c H locs cells slots Q (F0 m pc ls st0) := by
  obtain ⟨hbl, hpre⟩ := m_pre hP hS K.2 As
  exact m_back (va_runS (As := As) (rest := rest) K.1 hM (cwS n K.1.2.2.2.2 (m_goodS q1 q2 q4 q5) rfl rfl rfl hd hR) ⟨hbl, hpre⟩ rfl hn hsize hst (lv_room hW) hdg hf) hS kk
theorem m_cSN {y : MethodName} {host : String} {bytes : ByteArray} {maxL n index fr lo : Nat} {ret : Option FieldType} {v : Option Value} {μ' : Mm} {As st0 : List Value} (K : KK p m c cc nL s args c1 own G B) (hP : MP G B μ H) (hS : va_S (AA B) s.heap H locs)
    (hM : CM l y (.code y bytes maxL ret) fr lo G B As μ v μ')
    (q1 : va_Nw (.methodLinkNest own index y host) s) (q2 : Cond.static y ∈ TBL) (q4 : Cond.initialized y.cls ∈ TBL) (q5 : Cond.code y bytes maxL ret ∈ TBL)
    (hd : y.cls ≠ "java/lang/invoke/MethodHandle" ∧ y.cls ≠ "java/lang/invoke/VarHandle" ∧ (parseMethodDescriptor y.desc).map (fun d => d.parameters.length) = some n) (hR : fr + 1 ≤ R.frames ∧ 8 + (maxL + 11) + lo ≤ R.locals)
    (hn : As.length = n) (hsize : ls.size = nL) (hst : st0 = As.reverse ++ rest) (hW : (rest.map fun v => v.category).sum ≤ 8) (hdg : decode cc pc = .ok (.invokestatic index, 3)) (hf : cells ≤ R.cells ∧ slots ≤ R.slots)
    (kk : ∀ (H1 : Heap) (locs1 : List Loc), MP G B μ' H1 → va_S (AA B) s.heap H1 locs1 → W p l e R s m args below meth c H1 locs1 cells slots Q (F0 m (pc + 3) ls (v.toList ++ rest))) : W p l e R s m args below meth c H locs cells slots Q (F0 m pc ls st0) := by
  obtain ⟨hbl, hpre⟩ := m_pre hP hS K.2 As
  exact m_back (va_runSN (As := As) (rest := rest) K.1 hM ⟨va_cnB n K.1.2.2.2.2 (m_goodT q5) rfl rfl rfl q1 (K.w q4) hd hR, K.w q2, trivial⟩ ⟨hbl, hpre⟩ rfl hn hsize hst (lv_room hW) hdg hf) hS kk
end MROW
theorem up_to {P : Nat → Prop} {N : Nat} (hN : P N) (hs : ∀ k, k < N → P (k + 1) → P k) : P 0 := by
  have h : ∀ j, j ≤ N → P (N - j) := by
    intro j
    induction j with
    | zero => intro _; exact hN
    | succ j ih =>
      intro hj
      have := ih (by omega)
      exact hs _ (by omega) (by rw [show N - (j + 1) + 1 = N - j by omega]; exact this)
  have := h N (Nat.le_refl _)
  rwa [Nat.sub_self] at this
def isR (k n : Nat) : Prop := k + 1 < 259 ∧ sh k = (1, 4, [some (some (k + 1))]) ∧ sh (k + 1) = (0, n, []) ∧ n ≤ 1000
def isT (k : Nat) : Prop := k < 259 ∧ sh k = (1, 5, [none, some (some (k + 1)), some (some (k + 3)), some (some (k + 5)), some (some (k + 7)), some (some (k + 9)), some (some (k + 11)), some (some (k + 13))]) ∧ isR (k + 1) 8 ∧ isR (k + 3) 8 ∧ isR (k + 5) 8 ∧ isR (k + 7) 8 ∧ isR (k + 9) 8 ∧ isR (k + 11) 8 ∧ isR (k + 13) 8
def isO (k : Nat) : Prop := k < 259 ∧ sh k = (1, 3, [none, some (some (k + 1)), some (some (k + 3)), some (some (k + 5)), some (some (k + 7)), some (some (k + 9)), some (some (k + 11))]) ∧ isR (k + 1) 20 ∧ isR (k + 3) 20 ∧ isR (k + 5) 20 ∧ isR (k + 7) 20 ∧ isR (k + 9) 20 ∧ isR (k + 11) 20
def isS (k : Nat) : Prop := k < 259 ∧ sh k = (1, 6, [none, some (some (k + 1)), some (some (k + 3)), some (some (k + 5)), some (some (k + 7)), some (some (k + 9))]) ∧ isR (k + 1) 20 ∧ isR (k + 3) 20 ∧ isR (k + 5) 20 ∧ isR (k + 7) 20 ∧ isR (k + 9) 20
def isA (k : Nat) : Prop := k < 259 ∧ sh k = (1, 0, [some (some (k + 1)), some (some (k + 16)), some (some (k + 29)), none, none, none, none, none, none, none, none]) ∧ isT (k + 1) ∧ isO (k + 16) ∧ isS (k + 29)
def isC (k : Nat) : Prop := k = 81
theorem isA_1 : isA 1 := ⟨by decide +kernel, by decide +kernel, ⟨by decide +kernel, by decide +kernel, (by unfold isR; decide +kernel), (by unfold isR; decide +kernel), (by unfold isR; decide +kernel), (by unfold isR; decide +kernel), (by unfold isR; decide +kernel), (by unfold isR; decide +kernel), (by unfold isR; decide +kernel)⟩, ⟨by decide +kernel, by decide +kernel, (by unfold isR; decide +kernel), (by unfold isR; decide +kernel), (by unfold isR; decide +kernel), (by unfold isR; decide +kernel), (by unfold isR; decide +kernel), (by unfold isR; decide +kernel)⟩, ⟨by decide +kernel, by decide +kernel, (by unfold isR; decide +kernel), (by unfold isR; decide +kernel), (by unfold isR; decide +kernel), (by unfold isR; decide +kernel), (by unfold isR; decide +kernel)⟩⟩
theorem isA_41 : isA 41 := ⟨by decide +kernel, by decide +kernel, ⟨by decide +kernel, by decide +kernel, (by unfold isR; decide +kernel), (by unfold isR; decide +kernel), (by unfold isR; decide +kernel), (by unfold isR; decide +kernel), (by unfold isR; decide +kernel), (by unfold isR; decide +kernel), (by unfold isR; decide +kernel)⟩, ⟨by decide +kernel, by decide +kernel, (by unfold isR; decide +kernel), (by unfold isR; decide +kernel), (by unfold isR; decide +kernel), (by unfold isR; decide +kernel), (by unfold isR; decide +kernel), (by unfold isR; decide +kernel)⟩, ⟨by decide +kernel, by decide +kernel, (by unfold isR; decide +kernel), (by unfold isR; decide +kernel), (by unfold isR; decide +kernel), (by unfold isR; decide +kernel), (by unfold isR; decide +kernel)⟩⟩
theorem isA_94 : isA 94 := ⟨by decide +kernel, by decide +kernel, ⟨by decide +kernel, by decide +kernel, (by unfold isR; decide +kernel), (by unfold isR; decide +kernel), (by unfold isR; decide +kernel), (by unfold isR; decide +kernel), (by unfold isR; decide +kernel), (by unfold isR; decide +kernel), (by unfold isR; decide +kernel)⟩, ⟨by decide +kernel, by decide +kernel, (by unfold isR; decide +kernel), (by unfold isR; decide +kernel), (by unfold isR; decide +kernel), (by unfold isR; decide +kernel), (by unfold isR; decide +kernel), (by unfold isR; decide +kernel)⟩, ⟨by decide +kernel, by decide +kernel, (by unfold isR; decide +kernel), (by unfold isR; decide +kernel), (by unfold isR; decide +kernel), (by unfold isR; decide +kernel), (by unfold isR; decide +kernel)⟩⟩
theorem isA_134 : isA 134 := ⟨by decide +kernel, by decide +kernel, ⟨by decide +kernel, by decide +kernel, (by unfold isR; decide +kernel), (by unfold isR; decide +kernel), (by unfold isR; decide +kernel), (by unfold isR; decide +kernel), (by unfold isR; decide +kernel), (by unfold isR; decide +kernel), (by unfold isR; decide +kernel)⟩, ⟨by decide +kernel, by decide +kernel, (by unfold isR; decide +kernel), (by unfold isR; decide +kernel), (by unfold isR; decide +kernel), (by unfold isR; decide +kernel), (by unfold isR; decide +kernel), (by unfold isR; decide +kernel)⟩, ⟨by decide +kernel, by decide +kernel, (by unfold isR; decide +kernel), (by unfold isR; decide +kernel), (by unfold isR; decide +kernel), (by unfold isR; decide +kernel), (by unfold isR; decide +kernel)⟩⟩
theorem isA_174 : isA 174 := ⟨by decide +kernel, by decide +kernel, ⟨by decide +kernel, by decide +kernel, (by unfold isR; decide +kernel), (by unfold isR; decide +kernel), (by unfold isR; decide +kernel), (by unfold isR; decide +kernel), (by unfold isR; decide +kernel), (by unfold isR; decide +kernel), (by unfold isR; decide +kernel)⟩, ⟨by decide +kernel, by decide +kernel, (by unfold isR; decide +kernel), (by unfold isR; decide +kernel), (by unfold isR; decide +kernel), (by unfold isR; decide +kernel), (by unfold isR; decide +kernel), (by unfold isR; decide +kernel)⟩, ⟨by decide +kernel, by decide +kernel, (by unfold isR; decide +kernel), (by unfold isR; decide +kernel), (by unfold isR; decide +kernel), (by unfold isR; decide +kernel), (by unfold isR; decide +kernel)⟩⟩
theorem isA_214 : isA 214 := ⟨by decide +kernel, by decide +kernel, ⟨by decide +kernel, by decide +kernel, (by unfold isR; decide +kernel), (by unfold isR; decide +kernel), (by unfold isR; decide +kernel), (by unfold isR; decide +kernel), (by unfold isR; decide +kernel), (by unfold isR; decide +kernel), (by unfold isR; decide +kernel)⟩, ⟨by decide +kernel, by decide +kernel, (by unfold isR; decide +kernel), (by unfold isR; decide +kernel), (by unfold isR; decide +kernel), (by unfold isR; decide +kernel), (by unfold isR; decide +kernel), (by unfold isR; decide +kernel)⟩, ⟨by decide +kernel, by decide +kernel, (by unfold isR; decide +kernel), (by unfold isR; decide +kernel), (by unfold isR; decide +kernel), (by unfold isR; decide +kernel), (by unfold isR; decide +kernel)⟩⟩
theorem isR_82 : isR 82 20 := by unfold isR; decide +kernel
theorem isR_84 : isR 84 20 := by unfold isR; decide +kernel
theorem isR_86 : isR 86 20 := by unfold isR; decide +kernel
theorem isR_88 : isR 88 121 := by unfold isR; decide +kernel
theorem isR_90 : isR 90 121 := by unfold isR; decide +kernel
theorem isR_255 : isR 255 3 := by unfold isR; decide +kernel
theorem isR_257 : isR 257 150 := by unfold isR; decide +kernel
theorem sh_0 : sh 0 = (1, 8, [some (some 1), some (some 41), some (some 81), some (some 92), some (some 254)]) := by decide +kernel
theorem sh_81 : sh 81 = (1, 1, [none, none, none, none, none, some (some 82), some (some 84), some (some 86), none, none, some (some 88), some (some 90)]) := by decide +kernel
theorem sh_92 : sh 92 = (1, 7, [none, none, some (some 93)]) := by decide +kernel
theorem sh_254 : sh 254 = (1, 2, [none, some none, some (some 255), some (some 257), none, none]) := by decide +kernel
