abbrev EVW (l : Launch) (G : GG) (B : Nat) (μ : Mm) (v : Int64) (μ' : Mm) : Prop := ELM l yL_view (.code yL_view cL_view 6 (Option.some FieldType.long)) 9 154 40 240 G B [.ref (B + 0)] μ (some (.long v)) μ'
abbrev CDG (l : Launch) (G : GG) (B : Nat) (μ : Mm) (v : Int64) (μ' : Mm) : Prop := CM l yX10_digest (.code yX10_digest cX10_digest 4 (Option.some FieldType.long)) 5 115 G B [.ref (B + 0)] μ (some (.long v)) μ'
abbrev ERT (l : Launch) (G : GG) (B : Nat) (μ : Mm) : Prop := ELM l yL_areRight (.code yL_areRight cL_areRight 7 (Option.some FieldType.boolean)) 9 154 40 240 G B [.ref (B + 0)] μ (some (.int 1)) μ
abbrev EUN (l : Launch) (G : GG) (B : Nat) (μ : Mm) (w a b got : Int32) (before : Int64) (μ' : Mm) : Prop := ELM l yL_isUndone (.code yL_isUndone cL_isUndone 9 (Option.some FieldType.boolean)) 11 203 200 1200 G B [.ref (B + 0), .int w, .int a, .int b, .int got, .long before] μ (some (.int 1)) μ'
/-- what must hold behind a turn -/
def FIN (l : Launch) (G : GG) (B : Nat) (C : Int32) (μ : Mm) : Prop := ERT l G B μ ∧ X_whole μ 1 + C + X_whole μ 10 ≤ X_whole μ 5
/-- a turn: what its calls answer and bring -/
def TURNP (l : Launch) (G : GG) (B : Nat) (I : Nat → Int32 → Mm → Prop) (k : Nat) (C : Int32) (μ : Mm) (x a b w bb : Int32) : Prop :=
  ∃ (vb : Int64) (μ1 : Mm) (dg : Int64) (μ2 : Mm) (got : Int32) (μ3 : Mm), EVW l G B μ vb μ1 ∧ CDG l G B μ1 dg μ2 ∧ TOK l G B μ2 w a bb got μ3 ∧
    (((got = -1000000000 ∨ LV_act w b = 0) ∧ ∃ μ4 μ5 : Mm, EVW l G B μ3 vb μ4 ∧ CDG l G B μ4 dg μ5 ∧ FIN l G B C μ5 ∧ I (k + 1) C μ5) ∨
     (¬ got = -1000000000 ∧ ¬ LV_act w b = 0 ∧ ∃ (μ4 : Mm) (C2 : Int32), C2 = C + (if w = 9 then 1 else 0) ∧ EUN l G B μ3 w a bb got vb μ4 ∧
        ∀ ν : Mm, ν = μ3 ∨ ν = μ4 → (¬ w = 10 → ¬ w = 11 → X_whole ν 10 = X_whole μ2 10) ∧ (9 < w → w < 12 → X_whole ν 1 ≤ X_whole μ2 1) ∧ FIN l G B C2 ν ∧ I (k + 1) C2 ν))

set_option maxHeartbeats 4000000 in
set_option maxRecDepth 100000 in
theorem law_282 {p : Program} {l : Launch} {e : Env} {s : State} {m : MethodId} {below : List Frame} {meth : Method} {c : Code} {G : GG} {B b L k : Nat} {c1 : Cond} {xs : Nat → Int32} {Q : State → Prop} {H : Heap} {locs : List Loc} {cells slots : Nat} {ls : Array Slot} {C T : Int32} {μ : Mm} (K : KK p m c cL_law 16 s #[Value.ref b] c1 RL G B) (hD : ND s) (hfl : l.stackTraces = false) (hP : MP G B μ H) (hS : va_S (AA B) s.heap H locs) (hl : lv_has ls 16 [(4, .int (nI k)), (3, .int C), (2, .int T), (1, .ref (B + 0)), (0, .ref b)]) (hF : FIN l G B C μ) (hc : cells + 40 ≤ 600130 ∧ slots + 240 ≤ 7301079) (kk : ∀ (H : Heap) (locs : List Loc) (ls : Array Slot), MP G B μ H → va_S (AA B) s.heap H locs → lv_has ls 16 [(4, .int (nI (k + 1))), (3, .int C), (2, .int T), (1, .ref (B + 0)), (0, .ref b)] → W p l e room_1 s m #[Value.ref b] below meth c H locs (cells + 40) (slots + 240) Q (F0 m 32 ls [])) : W p l e room_1 s m #[Value.ref b] below meth c H locs (cells) (slots) Q (F0 m 282 ls []) := by
  refine lv_aload_n K.1.1 K.1.2.1 dL_law_282 rfl (lv_at hl 3 rfl) ?_
  refine e_cS (n := 1) (As := [.ref (B + 0)]) (rest := []) K hP hS hD hF.1 q_855 q_856 q_14 q_857 hw_areRight ⟨Nat.le_of_ble_eq_true rfl, Nat.le_of_ble_eq_true rfl⟩ rfl hl.1 rfl (Nat.le_of_ble_eq_true rfl) dL_law_283 ⟨by show _ ≤ 600130; omega, by show _ ≤ 7301079; omega⟩ (fun H locs hP hS => ?_)
  refine W.eq (g2 := F0 m 286 ls [.int 1]) rfl ?_
  refine lv_if_eq (tgt := 311) K.1.1 K.1.2.1 dL_law_286 (by decide) (fun c_286 => ?_) (fun c_286 => ?_)
  · exact absurd c_286 (by decide)
  · refine lv_aload_n K.1.1 K.1.2.1 dL_law_289 rfl (lv_at hl 3 rfl) ?_
    refine lv_iconst (v := 1) K.1.1 K.1.2.1 dL_law_290 (by decide) ?_
    refine m_cV (n := 1) (As := [.int 1]) (rest := []) K hP hS (MX10_whole l G B _ 1 rfl) (by decide) sh_0 rfl q_322 q_323 q_324 q_15 q_325 hv_X10_whole ⟨Nat.le_of_ble_eq_true rfl, Nat.le_of_ble_eq_true rfl⟩ rfl hl.1 rfl (Nat.le_of_ble_eq_true rfl) dL_law_291 ⟨by show _ ≤ 600130; omega, by show _ ≤ 7301079; omega⟩ (fun H locs hP hS => ?_)
    refine lv_topi (fun r_1 er_1 => ?_)
    refine lv_iload_n K.1.1 K.1.2.1 dL_law_294 rfl (lv_at hl 1 rfl) ?_
    refine lv_iadd K.1.1 K.1.2.1 dL_law_295 ?_
    refine lv_aload_n K.1.1 K.1.2.1 dL_law_296 rfl (lv_at hl 3 rfl) ?_
    refine lv_bipush (v := 10) K.1.1 K.1.2.1 dL_law_297 (by decide) ?_
    refine m_cV (n := 1) (As := [.int 10]) (rest := [.int (r_1 + C)]) K hP hS (MX10_whole l G B _ 10 rfl) (by decide) sh_0 rfl q_322 q_323 q_324 q_15 q_325 hv_X10_whole ⟨Nat.le_of_ble_eq_true rfl, Nat.le_of_ble_eq_true rfl⟩ rfl hl.1 rfl (Nat.le_of_ble_eq_true rfl) dL_law_299 ⟨by show _ ≤ 600130; omega, by show _ ≤ 7301079; omega⟩ (fun H locs hP hS => ?_)
    refine lv_topi (fun r_2 er_2 => ?_)
    refine lv_iadd K.1.1 K.1.2.1 dL_law_302 ?_
    refine lv_aload_n K.1.1 K.1.2.1 dL_law_303 rfl (lv_at hl 3 rfl) ?_
    refine lv_iconst (v := 5) K.1.1 K.1.2.1 dL_law_304 (by decide) ?_
    refine m_cV (n := 1) (As := [.int 5]) (rest := [.int ((r_1 + C) + r_2)]) K hP hS (MX10_whole l G B _ 5 rfl) (by decide) sh_0 rfl q_322 q_323 q_324 q_15 q_325 hv_X10_whole ⟨Nat.le_of_ble_eq_true rfl, Nat.le_of_ble_eq_true rfl⟩ rfl hl.1 rfl (Nat.le_of_ble_eq_true rfl) dL_law_305 ⟨by show _ ≤ 600130; omega, by show _ ≤ 7301079; omega⟩ (fun H locs hP hS => ?_)
    refine lv_topi (fun r_3 er_3 => ?_)
    refine lv_icmp_le (tgt := 313) K.1.1 K.1.2.1 dL_law_308 (by decide) (fun c_308 => ?_) (fun c_308 => ?_)
    · refine lv_iinc (v := nI (k + 1)) (lv' := [(4, .int (nI (k + 1))), (3, .int C), (2, .int T), (1, .ref (B + 0)), (0, .ref b)]) K.1.1 K.1.2.1 dL_law_313 hl (k := 0) rfl (by rw [← nI_1]; rfl) (by decide) rfl (fun ls hl => ?_)
      refine lv_goto (tgt := 32) K.1.1 K.1.2.1 dL_law_316 (by decide) ?_
      subst er_1 er_2 er_3
      exact kk H locs _ hP hS (lv_sub hl [0, 1, 2, 3, 4] rfl)
    · exact absurd c_308 (not_not_intro (by subst er_1 er_2 er_3; exact hF.2))

set_option maxHeartbeats 4000000 in
set_option maxRecDepth 100000 in
theorem law_231 {p : Program} {l : Launch} {e : Env} {s : State} {m : MethodId} {below : List Frame} {meth : Method} {c : Code} {G : GG} {B b L k : Nat} {c1 : Cond} {xs : Nat → Int32} {Q : State → Prop} {H : Heap} {locs : List Loc} {cells slots : Nat} {ls : Array Slot} {C T : Int32} {μ : Mm} {w ex od : Int32} (K : KK p m c cL_law 16 s #[Value.ref b] c1 RL G B) (hD : ND s) (hfl : l.stackTraces = false) (hP : MP G B μ H) (hS : va_S (AA B) s.heap H locs) (hl : lv_has ls 16 [(4, .int (nI k)), (3, .int C), (2, .int T), (1, .ref (B + 0)), (0, .ref b), (8, .int w), (13, .int ex), (14, .int od)]) (hE : ¬ w = 10 → ¬ w = 11 → X_whole μ 10 = ex) (hO : 9 < w → w < 12 → X_whole μ 1 ≤ od) (hc : cells + 0 ≤ 600130 ∧ slots + 0 ≤ 7301079) (kk : ∀ (H : Heap) (locs : List Loc) (ls : Array Slot), MP G B μ H → va_S (AA B) s.heap H locs → lv_has ls 16 [(4, .int (nI k)), (3, .int C), (2, .int T), (1, .ref (B + 0)), (0, .ref b)] → W p l e room_1 s m #[Value.ref b] below meth c H locs (cells) (slots) Q (F0 m 282 ls [])) : W p l e room_1 s m #[Value.ref b] below meth c H locs (cells) (slots) Q (F0 m 231 ls []) := by
  refine lv_iload K.1.1 K.1.2.1 dL_law_231 (lv_at hl 5 rfl) ?_
  refine lv_bipush (v := 10) K.1.1 K.1.2.1 dL_law_233 (by decide) ?_
  refine lv_icmp_eq (tgt := 256) K.1.1 K.1.2.1 dL_law_235 (by decide) (fun c_235 => ?_) (fun c_235 => ?_)
  · refine lv_iload K.1.1 K.1.2.1 dL_law_256 (lv_at hl 5 rfl) ?_
    refine lv_bipush (v := 9) K.1.1 K.1.2.1 dL_law_258 (by decide) ?_
    refine lv_icmp_le (tgt := 282) K.1.1 K.1.2.1 dL_law_260 (by decide) (fun c_260 => ?_) (fun c_260 => ?_)
    · exact kk H locs _ hP hS (lv_sub hl [0, 1, 2, 3, 4] rfl)
    · refine lv_iload K.1.1 K.1.2.1 dL_law_263 (lv_at hl 5 rfl) ?_
      refine lv_bipush (v := 12) K.1.1 K.1.2.1 dL_law_265 (by decide) ?_
      refine lv_icmp_ge (tgt := 282) K.1.1 K.1.2.1 dL_law_267 (by decide) (fun c_267 => ?_) (fun c_267 => ?_)
      · exact kk H locs _ hP hS (lv_sub hl [0, 1, 2, 3, 4] rfl)
      · refine lv_aload_n K.1.1 K.1.2.1 dL_law_270 rfl (lv_at hl 3 rfl) ?_
        refine lv_iconst (v := 1) K.1.1 K.1.2.1 dL_law_271 (by decide) ?_
        refine m_cV (n := 1) (As := [.int 1]) (rest := []) K hP hS (MX10_whole l G B _ 1 rfl) (by decide) sh_0 rfl q_322 q_323 q_324 q_15 q_325 hv_X10_whole ⟨Nat.le_of_ble_eq_true rfl, Nat.le_of_ble_eq_true rfl⟩ rfl hl.1 rfl (Nat.le_of_ble_eq_true rfl) dL_law_272 ⟨by show _ ≤ 600130; omega, by show _ ≤ 7301079; omega⟩ (fun H locs hP hS => ?_)
        refine lv_topi (fun r_1 er_1 => ?_)
        refine lv_iload K.1.1 K.1.2.1 dL_law_275 (lv_at hl 7 rfl) ?_
        refine lv_icmp_le (tgt := 282) K.1.1 K.1.2.1 dL_law_277 (by decide) (fun c_277 => ?_) (fun c_277 => ?_)
        · subst er_1
          exact kk H locs _ hP hS (lv_sub hl [0, 1, 2, 3, 4] rfl)
        · exact absurd c_277 (not_not_intro (by subst er_1; exact hO (Int32.not_le.mp c_260) (Int32.not_le.mp c_267)))
  · refine lv_iload K.1.1 K.1.2.1 dL_law_238 (lv_at hl 5 rfl) ?_
    refine lv_bipush (v := 11) K.1.1 K.1.2.1 dL_law_240 (by decide) ?_
    refine lv_icmp_eq (tgt := 256) K.1.1 K.1.2.1 dL_law_242 (by decide) (fun c_242 => ?_) (fun c_242 => ?_)
    · refine lv_iload K.1.1 K.1.2.1 dL_law_256 (lv_at hl 5 rfl) ?_
      refine lv_bipush (v := 9) K.1.1 K.1.2.1 dL_law_258 (by decide) ?_
      refine lv_icmp_le (tgt := 282) K.1.1 K.1.2.1 dL_law_260 (by decide) (fun c_260 => ?_) (fun c_260 => ?_)
      · exact kk H locs _ hP hS (lv_sub hl [0, 1, 2, 3, 4] rfl)
      · refine lv_iload K.1.1 K.1.2.1 dL_law_263 (lv_at hl 5 rfl) ?_
        refine lv_bipush (v := 12) K.1.1 K.1.2.1 dL_law_265 (by decide) ?_
        refine lv_icmp_ge (tgt := 282) K.1.1 K.1.2.1 dL_law_267 (by decide) (fun c_267 => ?_) (fun c_267 => ?_)
        · exact kk H locs _ hP hS (lv_sub hl [0, 1, 2, 3, 4] rfl)
        · refine lv_aload_n K.1.1 K.1.2.1 dL_law_270 rfl (lv_at hl 3 rfl) ?_
          refine lv_iconst (v := 1) K.1.1 K.1.2.1 dL_law_271 (by decide) ?_
          refine m_cV (n := 1) (As := [.int 1]) (rest := []) K hP hS (MX10_whole l G B _ 1 rfl) (by decide) sh_0 rfl q_322 q_323 q_324 q_15 q_325 hv_X10_whole ⟨Nat.le_of_ble_eq_true rfl, Nat.le_of_ble_eq_true rfl⟩ rfl hl.1 rfl (Nat.le_of_ble_eq_true rfl) dL_law_272 ⟨by show _ ≤ 600130; omega, by show _ ≤ 7301079; omega⟩ (fun H locs hP hS => ?_)
          refine lv_topi (fun r_2 er_2 => ?_)
          refine lv_iload K.1.1 K.1.2.1 dL_law_275 (lv_at hl 7 rfl) ?_
          refine lv_icmp_le (tgt := 282) K.1.1 K.1.2.1 dL_law_277 (by decide) (fun c_277 => ?_) (fun c_277 => ?_)
          · subst er_2
            exact kk H locs _ hP hS (lv_sub hl [0, 1, 2, 3, 4] rfl)
          · exact absurd c_277 (not_not_intro (by subst er_2; exact hO (Int32.not_le.mp c_260) (Int32.not_le.mp c_267)))
    · refine lv_aload_n K.1.1 K.1.2.1 dL_law_245 rfl (lv_at hl 3 rfl) ?_
      refine lv_bipush (v := 10) K.1.1 K.1.2.1 dL_law_246 (by decide) ?_
      refine m_cV (n := 1) (As := [.int 10]) (rest := []) K hP hS (MX10_whole l G B _ 10 rfl) (by decide) sh_0 rfl q_322 q_323 q_324 q_15 q_325 hv_X10_whole ⟨Nat.le_of_ble_eq_true rfl, Nat.le_of_ble_eq_true rfl⟩ rfl hl.1 rfl (Nat.le_of_ble_eq_true rfl) dL_law_248 ⟨by show _ ≤ 600130; omega, by show _ ≤ 7301079; omega⟩ (fun H locs hP hS => ?_)
      refine lv_topi (fun r_3 er_3 => ?_)
      refine lv_iload K.1.1 K.1.2.1 dL_law_251 (lv_at hl 6 rfl) ?_
      refine lv_icmp_ne (tgt := 280) K.1.1 K.1.2.1 dL_law_253 (by decide) (fun c_253 => ?_) (fun c_253 => ?_)
      · exact absurd c_253 (not_not_intro (by subst er_3; exact hE c_235 c_242))
      · refine lv_iload K.1.1 K.1.2.1 dL_law_256 (lv_at hl 5 rfl) ?_
        refine lv_bipush (v := 9) K.1.1 K.1.2.1 dL_law_258 (by decide) ?_
        refine lv_icmp_le (tgt := 282) K.1.1 K.1.2.1 dL_law_260 (by decide) (fun c_260 => ?_) (fun c_260 => ?_)
        · subst er_3
          exact kk H locs _ hP hS (lv_sub hl [0, 1, 2, 3, 4] rfl)
        · refine lv_iload K.1.1 K.1.2.1 dL_law_263 (lv_at hl 5 rfl) ?_
          refine lv_bipush (v := 12) K.1.1 K.1.2.1 dL_law_265 (by decide) ?_
          refine lv_icmp_ge (tgt := 282) K.1.1 K.1.2.1 dL_law_267 (by decide) (fun c_267 => ?_) (fun c_267 => ?_)
          · subst er_3
            exact kk H locs _ hP hS (lv_sub hl [0, 1, 2, 3, 4] rfl)
          · refine lv_aload_n K.1.1 K.1.2.1 dL_law_270 rfl (lv_at hl 3 rfl) ?_
            refine lv_iconst (v := 1) K.1.1 K.1.2.1 dL_law_271 (by decide) ?_
            refine m_cV (n := 1) (As := [.int 1]) (rest := []) K hP hS (MX10_whole l G B _ 1 rfl) (by decide) sh_0 rfl q_322 q_323 q_324 q_15 q_325 hv_X10_whole ⟨Nat.le_of_ble_eq_true rfl, Nat.le_of_ble_eq_true rfl⟩ rfl hl.1 rfl (Nat.le_of_ble_eq_true rfl) dL_law_272 ⟨by show _ ≤ 600130; omega, by show _ ≤ 7301079; omega⟩ (fun H locs hP hS => ?_)
            refine lv_topi (fun r_4 er_4 => ?_)
            refine lv_iload K.1.1 K.1.2.1 dL_law_275 (lv_at hl 7 rfl) ?_
            refine lv_icmp_le (tgt := 282) K.1.1 K.1.2.1 dL_law_277 (by decide) (fun c_277 => ?_) (fun c_277 => ?_)
            · subst er_3 er_4
              exact kk H locs _ hP hS (lv_sub hl [0, 1, 2, 3, 4] rfl)
            · exact absurd c_277 (not_not_intro (by subst er_3 er_4; exact hO (Int32.not_le.mp c_260) (Int32.not_le.mp c_267)))

set_option maxHeartbeats 4000000 in
set_option maxRecDepth 100000 in
theorem law_178 {p : Program} {l : Launch} {e : Env} {s : State} {m : MethodId} {below : List Frame} {meth : Method} {c : Code} {G : GG} {B b L k : Nat} {c1 : Cond} {xs : Nat → Int32} {Q : State → Prop} {H : Heap} {locs : List Loc} {cells slots : Nat} {ls : Array Slot} {C T : Int32} {μ μ4 : Mm} {x a b7 bb w got ex od C2 : Int32} {vb : Int64} (K : KK p m c cL_law 16 s #[Value.ref b] c1 RL G B) (hD : ND s) (hfl : l.stackTraces = false) (hP : MP G B μ H) (hS : va_S (AA B) s.heap H locs) (hl : lv_has ls 16 [(4, .int (nI k)), (3, .int C), (2, .int T), (1, .ref (B + 0)), (0, .ref b), (5, .int x), (6, .int a), (7, .int b7), (8, .int w), (9, .long vb), (13, .int ex), (14, .int od), (15, .int got)]) (hk : k < 36) (hbb : bb = if k < 2 then nI k else b7) (hC2 : C2 = C + (if w = 9 then 1 else 0)) (hUn : EUN l G B μ w a bb got vb μ4) (hc : cells + 200 ≤ 600130 ∧ slots + 1200 ≤ 7301079) (ka : ∀ (H : Heap) (locs : List Loc) (ls : Array Slot), MP G B μ H → va_S (AA B) s.heap H locs → lv_has ls 16 [(4, .int (nI k)), (3, .int C2), (2, .int T), (1, .ref (B + 0)), (0, .ref b), (8, .int w), (13, .int ex), (14, .int od)] → W p l e room_1 s m #[Value.ref b] below meth c H locs (cells + 200) (slots + 1200) Q (F0 m 231 ls [])) (kb : ∀ (H : Heap) (locs : List Loc) (ls : Array Slot), MP G B μ4 H → va_S (AA B) s.heap H locs → lv_has ls 16 [(4, .int (nI k)), (3, .int C2), (2, .int T), (1, .ref (B + 0)), (0, .ref b), (8, .int w), (13, .int ex), (14, .int od)] → W p l e room_1 s m #[Value.ref b] below meth c H locs (cells + 200) (slots + 1200) Q (F0 m 231 ls [])) : W p l e room_1 s m #[Value.ref b] below meth c H locs (cells) (slots) Q (F0 m 178 ls []) := by
  refine lv_iload_n K.1.1 K.1.2.1 dL_law_178 rfl (lv_at hl 1 rfl) ?_
  refine lv_iload K.1.1 K.1.2.1 dL_law_179 (lv_at hl 8 rfl) ?_
  refine lv_bipush (v := 9) K.1.1 K.1.2.1 dL_law_181 (by decide) ?_
  refine lv_icmp_ne (tgt := 190) K.1.1 K.1.2.1 dL_law_183 (by decide) (fun c_183 => ?_) (fun c_183 => ?_)
  · refine lv_iconst (v := 0) K.1.1 K.1.2.1 dL_law_190 (by decide) ?_
    refine lv_iadd K.1.1 K.1.2.1 dL_law_191 ?_
    rw [show (C + 0) = C2 from (by rw [hC2]; first | rw [if_pos c_183] | rw [if_neg c_183])]
    refine lv_istore_n (lv' := [(3, .int C2), (4, .int (nI k)), (2, .int T), (1, .ref (B + 0)), (0, .ref b), (5, .int x), (6, .int a), (7, .int b7), (8, .int w), (9, .long vb), (13, .int ex), (14, .int od), (15, .int got)]) K.1.1 K.1.2.1 dL_law_192 rfl hl (by decide) rfl (fun ls hl => ?_)
    refine lv_iload K.1.1 K.1.2.1 dL_law_193 (lv_at hl 5 rfl) ?_
    refine lv_bipush (v := 16) K.1.1 K.1.2.1 dL_law_195 (by decide) ?_
    refine lv_iand K.1.1 K.1.2.1 dL_law_197 ?_
    refine lv_if_ne (tgt := 231) K.1.1 K.1.2.1 dL_law_198 (by decide) (fun c_198 => ?_) (fun c_198 => ?_)
    · refine e_wide (cells + 200) (slots + 1200) (by omega) (by omega) ?_
      exact ka H locs _ hP hS (lv_sub hl [1, 0, 2, 3, 4, 8, 10, 11] rfl)
    · refine lv_aload_n K.1.1 K.1.2.1 dL_law_201 rfl (lv_at hl 3 rfl) ?_
      refine lv_iload K.1.1 K.1.2.1 dL_law_202 (lv_at hl 8 rfl) ?_
      refine lv_iload K.1.1 K.1.2.1 dL_law_204 (lv_at hl 6 rfl) ?_
      refine lv_iload K.1.1 K.1.2.1 dL_law_206 (lv_at hl 1 rfl) ?_
      refine lv_iconst (v := 2) K.1.1 K.1.2.1 dL_law_208 (by decide) ?_
      refine lv_icmp_ge (tgt := 217) K.1.1 K.1.2.1 dL_law_209 (by decide) (fun c_209 => ?_) (fun c_209 => ?_)
      · refine lv_iload K.1.1 K.1.2.1 dL_law_217 (lv_at hl 7 rfl) ?_
        refine lv_iload K.1.1 K.1.2.1 dL_law_219 (lv_at hl 12 rfl) ?_
        refine lv_lload K.1.1 K.1.2.1 dL_law_221 (lv_at hl 9 rfl) ?_
        refine e_cS (n := 6) (As := [.ref (B + 0), .int w, .int a, .int b7, .int got, .long vb]) (rest := []) K hP hS hD (by first | exact hUn | (rw [hbb, if_pos (Nat.lt_of_not_le fun z => c_209 ((nI_le_iff (a := 2) (by decide) (by omega)).mpr z))] at hUn; exact hUn) | (rw [hbb, if_neg (fun z => absurd ((nI_le_iff (a := 2) (by decide) (by omega)).mp c_209) (by omega))] at hUn; exact hUn)) q_858 q_859 q_14 q_860 hw_isUndone ⟨Nat.le_of_ble_eq_true rfl, Nat.le_of_ble_eq_true rfl⟩ rfl hl.1 rfl (Nat.le_of_ble_eq_true rfl) dL_law_223 ⟨by show _ ≤ 600130; omega, by show _ ≤ 7301079; omega⟩ (fun H locs hP hS => ?_)
        refine W.eq (g2 := F0 m 226 ls [.int 1]) rfl ?_
        refine lv_if_ne (tgt := 231) K.1.1 K.1.2.1 dL_law_226 (by decide) (fun c_226 => ?_) (fun c_226 => ?_)
        · exact kb H locs _ hP hS (lv_sub hl [1, 0, 2, 3, 4, 8, 10, 11] rfl)
        · exact absurd c_226 (by decide)
      · refine lv_iload K.1.1 K.1.2.1 dL_law_212 (lv_at hl 1 rfl) ?_
        refine lv_goto (tgt := 219) K.1.1 K.1.2.1 dL_law_214 (by decide) ?_
        refine lv_iload K.1.1 K.1.2.1 dL_law_219 (lv_at hl 12 rfl) ?_
        refine lv_lload K.1.1 K.1.2.1 dL_law_221 (lv_at hl 9 rfl) ?_
        refine e_cS (n := 6) (As := [.ref (B + 0), .int w, .int a, .int (nI k), .int got, .long vb]) (rest := []) K hP hS hD (by first | exact hUn | (rw [hbb, if_pos (Nat.lt_of_not_le fun z => c_209 ((nI_le_iff (a := 2) (by decide) (by omega)).mpr z))] at hUn; exact hUn) | (rw [hbb, if_neg (fun z => absurd ((nI_le_iff (a := 2) (by decide) (by omega)).mp c_209) (by omega))] at hUn; exact hUn)) q_858 q_859 q_14 q_860 hw_isUndone ⟨Nat.le_of_ble_eq_true rfl, Nat.le_of_ble_eq_true rfl⟩ rfl hl.1 rfl (Nat.le_of_ble_eq_true rfl) dL_law_223 ⟨by show _ ≤ 600130; omega, by show _ ≤ 7301079; omega⟩ (fun H locs hP hS => ?_)
        refine W.eq (g2 := F0 m 226 ls [.int 1]) rfl ?_
        refine lv_if_ne (tgt := 231) K.1.1 K.1.2.1 dL_law_226 (by decide) (fun c_226 => ?_) (fun c_226 => ?_)
        · exact kb H locs _ hP hS (lv_sub hl [1, 0, 2, 3, 4, 8, 10, 11] rfl)
        · exact absurd c_226 (by decide)
  · refine lv_iconst (v := 1) K.1.1 K.1.2.1 dL_law_186 (by decide) ?_
    refine lv_goto (tgt := 191) K.1.1 K.1.2.1 dL_law_187 (by decide) ?_
    refine lv_iadd K.1.1 K.1.2.1 dL_law_191 ?_
    rw [show (C + 1) = C2 from (by rw [hC2]; first | rw [if_pos c_183] | rw [if_neg c_183])]
    refine lv_istore_n (lv' := [(3, .int C2), (4, .int (nI k)), (2, .int T), (1, .ref (B + 0)), (0, .ref b), (5, .int x), (6, .int a), (7, .int b7), (8, .int w), (9, .long vb), (13, .int ex), (14, .int od), (15, .int got)]) K.1.1 K.1.2.1 dL_law_192 rfl hl (by decide) rfl (fun ls hl => ?_)
    refine lv_iload K.1.1 K.1.2.1 dL_law_193 (lv_at hl 5 rfl) ?_
    refine lv_bipush (v := 16) K.1.1 K.1.2.1 dL_law_195 (by decide) ?_
    refine lv_iand K.1.1 K.1.2.1 dL_law_197 ?_
    refine lv_if_ne (tgt := 231) K.1.1 K.1.2.1 dL_law_198 (by decide) (fun c_198 => ?_) (fun c_198 => ?_)
    · refine e_wide (cells + 200) (slots + 1200) (by omega) (by omega) ?_
      exact ka H locs _ hP hS (lv_sub hl [1, 0, 2, 3, 4, 8, 10, 11] rfl)
    · refine lv_aload_n K.1.1 K.1.2.1 dL_law_201 rfl (lv_at hl 3 rfl) ?_
      refine lv_iload K.1.1 K.1.2.1 dL_law_202 (lv_at hl 8 rfl) ?_
      refine lv_iload K.1.1 K.1.2.1 dL_law_204 (lv_at hl 6 rfl) ?_
      refine lv_iload K.1.1 K.1.2.1 dL_law_206 (lv_at hl 1 rfl) ?_
      refine lv_iconst (v := 2) K.1.1 K.1.2.1 dL_law_208 (by decide) ?_
      refine lv_icmp_ge (tgt := 217) K.1.1 K.1.2.1 dL_law_209 (by decide) (fun c_209 => ?_) (fun c_209 => ?_)
      · refine lv_iload K.1.1 K.1.2.1 dL_law_217 (lv_at hl 7 rfl) ?_
        refine lv_iload K.1.1 K.1.2.1 dL_law_219 (lv_at hl 12 rfl) ?_
        refine lv_lload K.1.1 K.1.2.1 dL_law_221 (lv_at hl 9 rfl) ?_
        refine e_cS (n := 6) (As := [.ref (B + 0), .int w, .int a, .int b7, .int got, .long vb]) (rest := []) K hP hS hD (by first | exact hUn | (rw [hbb, if_pos (Nat.lt_of_not_le fun z => c_209 ((nI_le_iff (a := 2) (by decide) (by omega)).mpr z))] at hUn; exact hUn) | (rw [hbb, if_neg (fun z => absurd ((nI_le_iff (a := 2) (by decide) (by omega)).mp c_209) (by omega))] at hUn; exact hUn)) q_858 q_859 q_14 q_860 hw_isUndone ⟨Nat.le_of_ble_eq_true rfl, Nat.le_of_ble_eq_true rfl⟩ rfl hl.1 rfl (Nat.le_of_ble_eq_true rfl) dL_law_223 ⟨by show _ ≤ 600130; omega, by show _ ≤ 7301079; omega⟩ (fun H locs hP hS => ?_)
        refine W.eq (g2 := F0 m 226 ls [.int 1]) rfl ?_
        refine lv_if_ne (tgt := 231) K.1.1 K.1.2.1 dL_law_226 (by decide) (fun c_226 => ?_) (fun c_226 => ?_)
        · exact kb H locs _ hP hS (lv_sub hl [1, 0, 2, 3, 4, 8, 10, 11] rfl)
        · exact absurd c_226 (by decide)
      · refine lv_iload K.1.1 K.1.2.1 dL_law_212 (lv_at hl 1 rfl) ?_
        refine lv_goto (tgt := 219) K.1.1 K.1.2.1 dL_law_214 (by decide) ?_
        refine lv_iload K.1.1 K.1.2.1 dL_law_219 (lv_at hl 12 rfl) ?_
        refine lv_lload K.1.1 K.1.2.1 dL_law_221 (lv_at hl 9 rfl) ?_
        refine e_cS (n := 6) (As := [.ref (B + 0), .int w, .int a, .int (nI k), .int got, .long vb]) (rest := []) K hP hS hD (by first | exact hUn | (rw [hbb, if_pos (Nat.lt_of_not_le fun z => c_209 ((nI_le_iff (a := 2) (by decide) (by omega)).mpr z))] at hUn; exact hUn) | (rw [hbb, if_neg (fun z => absurd ((nI_le_iff (a := 2) (by decide) (by omega)).mp c_209) (by omega))] at hUn; exact hUn)) q_858 q_859 q_14 q_860 hw_isUndone ⟨Nat.le_of_ble_eq_true rfl, Nat.le_of_ble_eq_true rfl⟩ rfl hl.1 rfl (Nat.le_of_ble_eq_true rfl) dL_law_223 ⟨by show _ ≤ 600130; omega, by show _ ≤ 7301079; omega⟩ (fun H locs hP hS => ?_)
        refine W.eq (g2 := F0 m 226 ls [.int 1]) rfl ?_
        refine lv_if_ne (tgt := 231) K.1.1 K.1.2.1 dL_law_226 (by decide) (fun c_226 => ?_) (fun c_226 => ?_)
        · exact kb H locs _ hP hS (lv_sub hl [1, 0, 2, 3, 4, 8, 10, 11] rfl)
        · exact absurd c_226 (by decide)

set_option maxHeartbeats 4000000 in
set_option maxRecDepth 100000 in
theorem law_139n {p : Program} {l : Launch} {e : Env} {s : State} {m : MethodId} {below : List Frame} {meth : Method} {c : Code} {G : GG} {B b L k : Nat} {c1 : Cond} {xs : Nat → Int32} {Q : State → Prop} {H : Heap} {locs : List Loc} {cells slots : Nat} {ls : Array Slot} {C T : Int32} {μ μ4 μ5 : Mm} {x a b7 w got ex od : Int32} {vb dg : Int64} (K : KK p m c cL_law 16 s #[Value.ref b] c1 RL G B) (hD : ND s) (hfl : l.stackTraces = false) (hP : MP G B μ H) (hS : va_S (AA B) s.heap H locs) (hl : lv_has ls 16 [(4, .int (nI k)), (3, .int C), (2, .int T), (1, .ref (B + 0)), (0, .ref b), (5, .int x), (6, .int a), (7, .int b7), (8, .int w), (9, .long vb), (13, .int ex), (14, .int od), (15, .int got), (11, .long dg)]) (hna : got = -1000000000 ∨ LV_act w b7 = 0) (hV : EVW l G B μ vb μ4) (hG : CDG l G B μ4 dg μ5) (hc : cells + 40 ≤ 600130 ∧ slots + 240 ≤ 7301079) (kk : ∀ (H : Heap) (locs : List Loc) (ls : Array Slot), MP G B μ5 H → va_S (AA B) s.heap H locs → lv_has ls 16 [(4, .int (nI k)), (3, .int C), (2, .int T), (1, .ref (B + 0)), (0, .ref b)] → W p l e room_1 s m #[Value.ref b] below meth c H locs (cells + 40) (slots + 240) Q (F0 m 282 ls [])) : W p l e room_1 s m #[Value.ref b] below meth c H locs (cells) (slots) Q (F0 m 139 ls []) := by
  refine lv_iload K.1.1 K.1.2.1 dL_law_139 (lv_at hl 12 rfl) ?_
  refine lv_ldc (own := RL) (v := (-1000000000)) K.1.1 K.1.2.1 K.1.2.2.2.1 (K.w q_854) dL_law_141 ?_
  refine lv_icmp_eq (tgt := 156) K.1.1 K.1.2.1 dL_law_143 (by decide) (fun c_143 => ?_) (fun c_143 => ?_)
  · refine lv_aload_n K.1.1 K.1.2.1 dL_law_156 rfl (lv_at hl 3 rfl) ?_
    refine e_cS (n := 1) (As := [.ref (B + 0)]) (rest := []) K hP hS hD hV q_580 q_581 q_14 q_582 hw_view ⟨Nat.le_of_ble_eq_true rfl, Nat.le_of_ble_eq_true rfl⟩ rfl hl.1 rfl (Nat.le_of_ble_eq_true rfl) dL_law_157 ⟨by show _ ≤ 600130; omega, by show _ ≤ 7301079; omega⟩ (fun H locs hP hS => ?_)
    refine W.eq (g2 := F0 m 160 ls [.long vb]) rfl ?_
    refine lv_lload K.1.1 K.1.2.1 dL_law_160 (lv_at hl 9 rfl) ?_
    refine W.lcmp K.1.1 K.1.2.1 dL_law_162 ?_
    refine lv_if_ne (tgt := 176) K.1.1 K.1.2.1 dL_law_163 (by decide) (fun c_163 => ?_) (fun c_163 => ?_)
    · exact absurd c_163 (not_not_intro (by skip; exact cmp_rfl _))
    · refine lv_aload_n K.1.1 K.1.2.1 dL_law_166 rfl (lv_at hl 3 rfl) ?_
      refine m_cV (n := 0) (As := []) (rest := []) (k := 0) K hP hS hG (by decide) sh_0 rfl q_443 q_444 q_445 q_15 q_446 hv_X10_digest ⟨Nat.le_of_ble_eq_true rfl, Nat.le_of_ble_eq_true rfl⟩ rfl hl.1 rfl (Nat.le_of_ble_eq_true rfl) dL_law_167 ⟨by show _ ≤ 600130; omega, by show _ ≤ 7301079; omega⟩ (fun H locs hP hS => ?_)
      refine W.eq (g2 := F0 m 170 ls [.long dg]) rfl ?_
      refine lv_lload K.1.1 K.1.2.1 dL_law_170 (lv_at hl 13 rfl) ?_
      refine W.lcmp K.1.1 K.1.2.1 dL_law_172 ?_
      refine lv_if_eq (tgt := 282) K.1.1 K.1.2.1 dL_law_173 (by decide) (fun c_173 => ?_) (fun c_173 => ?_)
      · exact kk H locs _ hP hS (lv_sub hl [0, 1, 2, 3, 4] rfl)
      · exact absurd c_173 (not_not_intro (by skip; exact cmp_rfl _))
  · refine lv_iload K.1.1 K.1.2.1 dL_law_146 (lv_at hl 8 rfl) ?_
    refine lv_iload K.1.1 K.1.2.1 dL_law_148 (lv_at hl 7 rfl) ?_
    refine m_cS (n := 2) (As := [.int w, .int b7]) (rest := []) K hP hS (ML_isAct l G B _ w b7 ) q_623 q_624 q_14 q_625 hv_L_isAct ⟨Nat.le_of_ble_eq_true rfl, Nat.le_of_ble_eq_true rfl⟩ rfl hl.1 rfl (Nat.le_of_ble_eq_true rfl) dL_law_150 ⟨by show _ ≤ 600130; omega, by show _ ≤ 7301079; omega⟩ (fun H locs hP hS => ?_)
    refine lv_topi (fun r_1 er_1 => ?_)
    refine lv_if_ne (tgt := 178) K.1.1 K.1.2.1 dL_law_153 (by decide) (fun c_153 => ?_) (fun c_153 => ?_)
    · exact absurd c_153 (not_not_intro (by subst er_1; exact hna.resolve_left c_143))
    · refine lv_aload_n K.1.1 K.1.2.1 dL_law_156 rfl (lv_at hl 3 rfl) ?_
      refine e_cS (n := 1) (As := [.ref (B + 0)]) (rest := []) K hP hS hD hV q_580 q_581 q_14 q_582 hw_view ⟨Nat.le_of_ble_eq_true rfl, Nat.le_of_ble_eq_true rfl⟩ rfl hl.1 rfl (Nat.le_of_ble_eq_true rfl) dL_law_157 ⟨by show _ ≤ 600130; omega, by show _ ≤ 7301079; omega⟩ (fun H locs hP hS => ?_)
      refine W.eq (g2 := F0 m 160 ls [.long vb]) rfl ?_
      refine lv_lload K.1.1 K.1.2.1 dL_law_160 (lv_at hl 9 rfl) ?_
      refine W.lcmp K.1.1 K.1.2.1 dL_law_162 ?_
      refine lv_if_ne (tgt := 176) K.1.1 K.1.2.1 dL_law_163 (by decide) (fun c_163 => ?_) (fun c_163 => ?_)
      · exact absurd c_163 (not_not_intro (by subst er_1; exact cmp_rfl _))
      · refine lv_aload_n K.1.1 K.1.2.1 dL_law_166 rfl (lv_at hl 3 rfl) ?_
        refine m_cV (n := 0) (As := []) (rest := []) (k := 0) K hP hS hG (by decide) sh_0 rfl q_443 q_444 q_445 q_15 q_446 hv_X10_digest ⟨Nat.le_of_ble_eq_true rfl, Nat.le_of_ble_eq_true rfl⟩ rfl hl.1 rfl (Nat.le_of_ble_eq_true rfl) dL_law_167 ⟨by show _ ≤ 600130; omega, by show _ ≤ 7301079; omega⟩ (fun H locs hP hS => ?_)
        refine W.eq (g2 := F0 m 170 ls [.long dg]) rfl ?_
        refine lv_lload K.1.1 K.1.2.1 dL_law_170 (lv_at hl 13 rfl) ?_
        refine W.lcmp K.1.1 K.1.2.1 dL_law_172 ?_
        refine lv_if_eq (tgt := 282) K.1.1 K.1.2.1 dL_law_173 (by decide) (fun c_173 => ?_) (fun c_173 => ?_)
        · subst er_1
          exact kk H locs _ hP hS (lv_sub hl [0, 1, 2, 3, 4] rfl)
        · exact absurd c_173 (not_not_intro (by subst er_1; exact cmp_rfl _))

set_option maxHeartbeats 4000000 in
set_option maxRecDepth 100000 in
theorem law_139a {p : Program} {l : Launch} {e : Env} {s : State} {m : MethodId} {below : List Frame} {meth : Method} {c : Code} {G : GG} {B b L k : Nat} {c1 : Cond} {xs : Nat → Int32} {Q : State → Prop} {H : Heap} {locs : List Loc} {cells slots : Nat} {ls : Array Slot} {C T : Int32} {μ : Mm} {x a b7 w got ex od : Int32} {vb dg : Int64} (K : KK p m c cL_law 16 s #[Value.ref b] c1 RL G B) (hD : ND s) (hfl : l.stackTraces = false) (hP : MP G B μ H) (hS : va_S (AA B) s.heap H locs) (hl : lv_has ls 16 [(4, .int (nI k)), (3, .int C), (2, .int T), (1, .ref (B + 0)), (0, .ref b), (5, .int x), (6, .int a), (7, .int b7), (8, .int w), (9, .long vb), (13, .int ex), (14, .int od), (15, .int got), (11, .long dg)]) (hg : ¬ got = -1000000000) (ha : ¬ LV_act w b7 = 0) (hc : cells + 0 ≤ 600130 ∧ slots + 0 ≤ 7301079) (kk : ∀ (H : Heap) (locs : List Loc) (ls : Array Slot), MP G B μ H → va_S (AA B) s.heap H locs → lv_has ls 16 [(4, .int (nI k)), (3, .int C), (2, .int T), (1, .ref (B + 0)), (0, .ref b), (5, .int x), (6, .int a), (7, .int b7), (8, .int w), (9, .long vb), (13, .int ex), (14, .int od), (15, .int got)] → W p l e room_1 s m #[Value.ref b] below meth c H locs (cells) (slots) Q (F0 m 178 ls [])) : W p l e room_1 s m #[Value.ref b] below meth c H locs (cells) (slots) Q (F0 m 139 ls []) := by
  refine lv_iload K.1.1 K.1.2.1 dL_law_139 (lv_at hl 12 rfl) ?_
  refine lv_ldc (own := RL) (v := (-1000000000)) K.1.1 K.1.2.1 K.1.2.2.2.1 (K.w q_854) dL_law_141 ?_
  refine lv_icmp_eq (tgt := 156) K.1.1 K.1.2.1 dL_law_143 (by decide) (fun c_143 => ?_) (fun c_143 => ?_)
  · exact absurd c_143 (hg)
  · refine lv_iload K.1.1 K.1.2.1 dL_law_146 (lv_at hl 8 rfl) ?_
    refine lv_iload K.1.1 K.1.2.1 dL_law_148 (lv_at hl 7 rfl) ?_
    refine m_cS (n := 2) (As := [.int w, .int b7]) (rest := []) K hP hS (ML_isAct l G B _ w b7 ) q_623 q_624 q_14 q_625 hv_L_isAct ⟨Nat.le_of_ble_eq_true rfl, Nat.le_of_ble_eq_true rfl⟩ rfl hl.1 rfl (Nat.le_of_ble_eq_true rfl) dL_law_150 ⟨by show _ ≤ 600130; omega, by show _ ≤ 7301079; omega⟩ (fun H locs hP hS => ?_)
    refine lv_topi (fun r_1 er_1 => ?_)
    refine lv_if_ne (tgt := 178) K.1.1 K.1.2.1 dL_law_153 (by decide) (fun c_153 => ?_) (fun c_153 => ?_)
    · subst er_1
      exact kk H locs _ hP hS (lv_sub hl [0, 1, 2, 3, 4, 5, 6, 7, 8, 9, 10, 11, 12] rfl)
    · exact absurd c_153 (by subst er_1; exact ha)

set_option maxHeartbeats 4000000 in
set_option maxRecDepth 100000 in
theorem law_38 {p : Program} {l : Launch} {e : Env} {s : State} {m : MethodId} {below : List Frame} {meth : Method} {c : Code} {G : GG} {B b L k : Nat} {c1 : Cond} {xs : Nat → Int32} {Q : State → Prop} {H : Heap} {locs : List Loc} {cells slots : Nat} {ls : Array Slot} {C T : Int32} {μ μ1 μ2 μ3 : Mm} {x a b7 w bb got : Int32} {vb dg : Int64} (K : KK p m c cL_law 16 s #[Value.ref b] c1 RL G B) (hD : ND s) (hfl : l.stackTraces = false) (hP : MP G B μ H) (hS : va_S (AA B) s.heap H locs) (hl : lv_has ls 16 [(4, .int (nI k)), (3, .int C), (2, .int T), (1, .ref (B + 0)), (0, .ref b)]) (hX : va_X b L xs s s.heap) (hbl : b < s.heap.size) (hbB : b < B) (hL : L ≤ 260) (hk : k < 36) (hx : x = LV_cell L xs (nI (3 * k))) (ha : a = LV_cell L xs (nI (3 * k + 1))) (hb7 : b7 = LV_cell L xs (nI (3 * k + 2))) (hw : w = if k < 3 then 0 else x &&& 15) (hbb : bb = if k < 2 then nI k else b7) (hV : EVW l G B μ vb μ1) (hG : CDG l G B μ1 dg μ2) (hT : TOK l G B μ2 w a bb got μ3) (hc : cells + 41 ≤ 600130 ∧ slots + 246 ≤ 7301079) (kk : ∀ (H : Heap) (locs : List Loc) (ls : Array Slot), MP G B μ3 H → va_S (AA B) s.heap H locs → lv_has ls 16 [(4, .int (nI k)), (3, .int C), (2, .int T), (1, .ref (B + 0)), (0, .ref b), (5, .int x), (6, .int a), (7, .int b7), (8, .int w), (9, .long vb), (13, .int (X_whole μ2 10)), (14, .int (X_whole μ2 1)), (15, .int got), (11, .long dg)] → W p l e room_1 s m #[Value.ref b] below meth c H locs (cells + 40 + 1) (slots + 240 + 6) Q (F0 m 139 ls [])) : W p l e room_1 s m #[Value.ref b] below meth c H locs (cells) (slots) Q (F0 m 38 ls []) := by
  refine lv_aload_n K.1.1 K.1.2.1 dL_law_38 rfl (lv_at hl 4 rfl) ?_
  refine lv_iconst (v := 3) K.1.1 K.1.2.1 dL_law_39 (by decide) ?_
  refine lv_iload K.1.1 K.1.2.1 dL_law_40 (lv_at hl 0 rfl) ?_
  refine lv_imul K.1.1 K.1.2.1 dL_law_42 ?_
  rw [show (3 * (nI k)) = nI (3 * k) from (by exact nI_mul 3 k)]
  refine w_cell (rest := []) K hP hS hX hbl hbB (ML_cell l G B b L xs μ (nI (3 * k)) (nI_pos (by omega)) (by omega)) q_576 q_577 q_14 q_578 hw_cell ⟨Nat.le_of_ble_eq_true rfl, Nat.le_of_ble_eq_true rfl⟩ hl.1 rfl (Nat.le_of_ble_eq_true rfl) dL_law_43 ⟨by show _ ≤ 600130; omega, by show _ ≤ 7301079; omega⟩ (fun H locs hP hS => ?_)
  refine W.eq (g2 := F0 m 46 ls [.int x]) (by rw [hx]) ?_
  refine lv_istore (lv' := [(5, .int x), (4, .int (nI k)), (3, .int C), (2, .int T), (1, .ref (B + 0)), (0, .ref b)]) K.1.1 K.1.2.1 dL_law_46 hl (by decide) rfl (fun ls hl => ?_)
  refine lv_aload_n K.1.1 K.1.2.1 dL_law_48 rfl (lv_at hl 5 rfl) ?_
  refine lv_iconst (v := 3) K.1.1 K.1.2.1 dL_law_49 (by decide) ?_
  refine lv_iload K.1.1 K.1.2.1 dL_law_50 (lv_at hl 1 rfl) ?_
  refine lv_imul K.1.1 K.1.2.1 dL_law_52 ?_
  refine lv_iconst (v := 1) K.1.1 K.1.2.1 dL_law_53 (by decide) ?_
  refine lv_iadd K.1.1 K.1.2.1 dL_law_54 ?_
  rw [show ((3 * (nI k)) + 1) = nI (3 * k + 1) from (by rw [show (3 : Int32) * nI k = nI (3 * k) from nI_mul 3 k]; exact nI_add (3 * k) 1)]
  refine w_cell (rest := []) K hP hS hX hbl hbB (ML_cell l G B b L xs μ (nI (3 * k + 1)) (nI_pos (by omega)) (by omega)) q_576 q_577 q_14 q_578 hw_cell ⟨Nat.le_of_ble_eq_true rfl, Nat.le_of_ble_eq_true rfl⟩ hl.1 rfl (Nat.le_of_ble_eq_true rfl) dL_law_55 ⟨by show _ ≤ 600130; omega, by show _ ≤ 7301079; omega⟩ (fun H locs hP hS => ?_)
  refine W.eq (g2 := F0 m 58 ls [.int a]) (by rw [ha]) ?_
  refine lv_istore (lv' := [(6, .int a), (5, .int x), (4, .int (nI k)), (3, .int C), (2, .int T), (1, .ref (B + 0)), (0, .ref b)]) K.1.1 K.1.2.1 dL_law_58 hl (by decide) rfl (fun ls hl => ?_)
  refine lv_aload_n K.1.1 K.1.2.1 dL_law_60 rfl (lv_at hl 6 rfl) ?_
  refine lv_iconst (v := 3) K.1.1 K.1.2.1 dL_law_61 (by decide) ?_
  refine lv_iload K.1.1 K.1.2.1 dL_law_62 (lv_at hl 2 rfl) ?_
  refine lv_imul K.1.1 K.1.2.1 dL_law_64 ?_
  refine lv_iconst (v := 2) K.1.1 K.1.2.1 dL_law_65 (by decide) ?_
  refine lv_iadd K.1.1 K.1.2.1 dL_law_66 ?_
  rw [show ((3 * (nI k)) + 2) = nI (3 * k + 2) from (by rw [show (3 : Int32) * nI k = nI (3 * k) from nI_mul 3 k]; exact nI_add (3 * k) 2)]
  refine w_cell (rest := []) K hP hS hX hbl hbB (ML_cell l G B b L xs μ (nI (3 * k + 2)) (nI_pos (by omega)) (by omega)) q_576 q_577 q_14 q_578 hw_cell ⟨Nat.le_of_ble_eq_true rfl, Nat.le_of_ble_eq_true rfl⟩ hl.1 rfl (Nat.le_of_ble_eq_true rfl) dL_law_67 ⟨by show _ ≤ 600130; omega, by show _ ≤ 7301079; omega⟩ (fun H locs hP hS => ?_)
  refine W.eq (g2 := F0 m 70 ls [.int b7]) (by rw [hb7]) ?_
  refine lv_istore (lv' := [(7, .int b7), (6, .int a), (5, .int x), (4, .int (nI k)), (3, .int C), (2, .int T), (1, .ref (B + 0)), (0, .ref b)]) K.1.1 K.1.2.1 dL_law_70 hl (by decide) rfl (fun ls hl => ?_)
  have h87 : ∀ ls : Array Slot, lv_has ls 16 [(7, .int b7), (6, .int a), (5, .int x), (4, .int (nI k)), (3, .int C), (2, .int T), (1, .ref (B + 0)), (0, .ref b)] → W p l e room_1 s m #[Value.ref b] below meth c H locs (cells) (slots) Q (F0 m 87 ls [.int w]) := by
    intro ls hl
    refine lv_istore (lv' := [(8, .int w), (7, .int b7), (6, .int a), (5, .int x), (4, .int (nI k)), (3, .int C), (2, .int T), (1, .ref (B + 0)), (0, .ref b)]) K.1.1 K.1.2.1 dL_law_87 hl (by decide) rfl (fun ls hl => ?_)
    refine lv_aload_n K.1.1 K.1.2.1 dL_law_89 rfl (lv_at hl 7 rfl) ?_
    refine e_cS (n := 1) (As := [.ref (B + 0)]) (rest := []) K hP hS hD hV q_580 q_581 q_14 q_582 hw_view ⟨Nat.le_of_ble_eq_true rfl, Nat.le_of_ble_eq_true rfl⟩ rfl hl.1 rfl (Nat.le_of_ble_eq_true rfl) dL_law_90 ⟨by show _ ≤ 600130; omega, by show _ ≤ 7301079; omega⟩ (fun H locs hP hS => ?_)
    refine W.eq (g2 := F0 m 93 ls [.long vb]) rfl ?_
    refine lv_lstore (lv' := [(9, .long vb), (8, .int w), (7, .int b7), (6, .int a), (5, .int x), (4, .int (nI k)), (3, .int C), (2, .int T), (1, .ref (B + 0)), (0, .ref b)]) K.1.1 K.1.2.1 dL_law_93 hl (by decide) rfl (fun ls hl => ?_)
    refine lv_aload_n K.1.1 K.1.2.1 dL_law_95 rfl (lv_at hl 8 rfl) ?_
    refine m_cV (n := 0) (As := []) (rest := []) (k := 0) K hP hS hG (by decide) sh_0 rfl q_443 q_444 q_445 q_15 q_446 hv_X10_digest ⟨Nat.le_of_ble_eq_true rfl, Nat.le_of_ble_eq_true rfl⟩ rfl hl.1 rfl (Nat.le_of_ble_eq_true rfl) dL_law_96 ⟨by show _ ≤ 600130; omega, by show _ ≤ 7301079; omega⟩ (fun H locs hP hS => ?_)
    refine W.eq (g2 := F0 m 99 ls [.long dg]) rfl ?_
    refine lv_lstore (lv' := [(11, .long dg), (9, .long vb), (8, .int w), (7, .int b7), (6, .int a), (5, .int x), (4, .int (nI k)), (3, .int C), (2, .int T), (1, .ref (B + 0)), (0, .ref b)]) K.1.1 K.1.2.1 dL_law_99 hl (by decide) rfl (fun ls hl => ?_)
    refine lv_aload_n K.1.1 K.1.2.1 dL_law_101 rfl (lv_at hl 9 rfl) ?_
    refine lv_bipush (v := 10) K.1.1 K.1.2.1 dL_law_102 (by decide) ?_
    refine m_cV (n := 1) (As := [.int 10]) (rest := []) K hP hS (MX10_whole l G B _ 10 rfl) (by decide) sh_0 rfl q_322 q_323 q_324 q_15 q_325 hv_X10_whole ⟨Nat.le_of_ble_eq_true rfl, Nat.le_of_ble_eq_true rfl⟩ rfl hl.1 rfl (Nat.le_of_ble_eq_true rfl) dL_law_104 ⟨by show _ ≤ 600130; omega, by show _ ≤ 7301079; omega⟩ (fun H locs hP hS => ?_)
    refine lv_topi (fun r_1 er_1 => ?_)
    refine lv_istore (lv' := [(13, .int r_1), (11, .long dg), (9, .long vb), (8, .int w), (7, .int b7), (6, .int a), (5, .int x), (4, .int (nI k)), (3, .int C), (2, .int T), (1, .ref (B + 0)), (0, .ref b)]) K.1.1 K.1.2.1 dL_law_107 hl (by decide) rfl (fun ls hl => ?_)
    refine lv_aload_n K.1.1 K.1.2.1 dL_law_109 rfl (lv_at hl 10 rfl) ?_
    refine lv_iconst (v := 1) K.1.1 K.1.2.1 dL_law_110 (by decide) ?_
    refine m_cV (n := 1) (As := [.int 1]) (rest := []) K hP hS (MX10_whole l G B _ 1 rfl) (by decide) sh_0 rfl q_322 q_323 q_324 q_15 q_325 hv_X10_whole ⟨Nat.le_of_ble_eq_true rfl, Nat.le_of_ble_eq_true rfl⟩ rfl hl.1 rfl (Nat.le_of_ble_eq_true rfl) dL_law_111 ⟨by show _ ≤ 600130; omega, by show _ ≤ 7301079; omega⟩ (fun H locs hP hS => ?_)
    refine lv_topi (fun r_2 er_2 => ?_)
    refine lv_istore (lv' := [(14, .int r_2), (13, .int r_1), (11, .long dg), (9, .long vb), (8, .int w), (7, .int b7), (6, .int a), (5, .int x), (4, .int (nI k)), (3, .int C), (2, .int T), (1, .ref (B + 0)), (0, .ref b)]) K.1.1 K.1.2.1 dL_law_114 hl (by decide) rfl (fun ls hl => ?_)
    have h134 : ∀ ls : Array Slot, lv_has ls 16 [(14, .int r_2), (13, .int r_1), (11, .long dg), (9, .long vb), (8, .int w), (7, .int b7), (6, .int a), (5, .int x), (4, .int (nI k)), (3, .int C), (2, .int T), (1, .ref (B + 0)), (0, .ref b)] → W p l e room_1 s m #[Value.ref b] below meth c H locs (cells + 40) (slots + 240) Q (F0 m 134 ls [.int bb, .int a, .int w, .ref (B + 0)]) := by
      intro ls hl
      refine e_cSW (n := 4) (As := [.ref (B + 0), .int w, .int a, .int bb]) (rest := []) K hP hS hD hT q_626 q_627 q_14 q_628 hw_tries.2 ⟨Nat.le_of_ble_eq_true rfl, Nat.le_of_ble_eq_true rfl⟩ rfl hl.1 rfl (Nat.le_of_ble_eq_true rfl) dL_law_134 ⟨by show _ ≤ 600130; omega, by show _ ≤ 7301079; omega⟩ (fun H locs hP hS => ?_)
      refine W.eq (g2 := F0 m 137 ls [.int got]) rfl ?_
      refine lv_istore (lv' := [(15, .int got), (14, .int r_2), (13, .int r_1), (11, .long dg), (9, .long vb), (8, .int w), (7, .int b7), (6, .int a), (5, .int x), (4, .int (nI k)), (3, .int C), (2, .int T), (1, .ref (B + 0)), (0, .ref b)]) K.1.1 K.1.2.1 dL_law_137 hl (by decide) rfl (fun ls hl => ?_)
      subst er_1 er_2
      exact kk H locs _ hP hS (lv_sub hl [9, 10, 11, 12, 13, 8, 7, 6, 5, 4, 2, 1, 0, 3] rfl)
    refine lv_aload_n K.1.1 K.1.2.1 dL_law_116 rfl (lv_at hl 11 rfl) ?_
    refine lv_iload K.1.1 K.1.2.1 dL_law_117 (lv_at hl 4 rfl) ?_
    refine lv_iload K.1.1 K.1.2.1 dL_law_119 (lv_at hl 6 rfl) ?_
    refine lv_iload K.1.1 K.1.2.1 dL_law_121 (lv_at hl 8 rfl) ?_
    refine lv_iconst (v := 2) K.1.1 K.1.2.1 dL_law_123 (by decide) ?_
    refine lv_icmp_ge (tgt := 132) K.1.1 K.1.2.1 dL_law_124 (by decide) (fun c_124 => ?_) (fun c_124 => ?_)
    · refine lv_iload K.1.1 K.1.2.1 dL_law_132 (lv_at hl 5 rfl) ?_
      refine lv_topi (fun yy eyy => ?_)
      rw [show yy = bb from (by rw [eyy, hbb]; first | rw [if_pos (Nat.lt_of_not_le fun z => c_124 ((nI_le_iff (a := 2) (by decide) (by omega)).mpr z))] | rw [if_neg (fun z => absurd ((nI_le_iff (a := 2) (by decide) (by omega)).mp c_124) (by omega))])]
      exact h134 _ hl
    · refine lv_iload K.1.1 K.1.2.1 dL_law_127 (lv_at hl 8 rfl) ?_
      refine lv_goto (tgt := 134) K.1.1 K.1.2.1 dL_law_129 (by decide) ?_
      refine lv_topi (fun yy eyy => ?_)
      rw [show yy = bb from (by rw [eyy, hbb]; first | rw [if_pos (Nat.lt_of_not_le fun z => c_124 ((nI_le_iff (a := 2) (by decide) (by omega)).mpr z))] | rw [if_neg (fun z => absurd ((nI_le_iff (a := 2) (by decide) (by omega)).mp c_124) (by omega))])]
      exact h134 _ hl
  refine lv_iload K.1.1 K.1.2.1 dL_law_72 (lv_at hl 3 rfl) ?_
  refine lv_iconst (v := 3) K.1.1 K.1.2.1 dL_law_74 (by decide) ?_
  refine lv_icmp_ge (tgt := 82) K.1.1 K.1.2.1 dL_law_75 (by decide) (fun c_75 => ?_) (fun c_75 => ?_)
  · refine lv_iload K.1.1 K.1.2.1 dL_law_82 (lv_at hl 2 rfl) ?_
    refine lv_bipush (v := 15) K.1.1 K.1.2.1 dL_law_84 (by decide) ?_
    refine lv_iand K.1.1 K.1.2.1 dL_law_86 ?_
    refine lv_topi (fun yy eyy => ?_)
    rw [show yy = w from (by rw [eyy, hw]; first | rw [if_pos (Nat.lt_of_not_le fun z => c_75 ((nI_le_iff (a := 3) (by decide) (by omega)).mpr z))] | rw [if_neg (fun z => absurd ((nI_le_iff (a := 3) (by decide) (by omega)).mp c_75) (by omega))])]
    exact h87 _ hl
  · refine lv_iconst (v := 0) K.1.1 K.1.2.1 dL_law_78 (by decide) ?_
    refine lv_goto (tgt := 87) K.1.1 K.1.2.1 dL_law_79 (by decide) ?_
    refine lv_topi (fun yy eyy => ?_)
    rw [show yy = w from (by rw [eyy, hw]; first | rw [if_pos (Nat.lt_of_not_le fun z => c_75 ((nI_le_iff (a := 3) (by decide) (by omega)).mpr z))] | rw [if_neg (fun z => absurd ((nI_le_iff (a := 3) (by decide) (by omega)).mp c_75) (by omega))])]
    exact h87 _ hl

