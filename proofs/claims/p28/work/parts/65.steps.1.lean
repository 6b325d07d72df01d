theorem step_0 {l : Launch} {f : Nat → Int32} {k : Nat} {C : Int32} {μ0 : Mm} (hfl : l.stackTraces = false) (G : GG) (B : Nat) (g : RNG k 9999 f) (hk : k < 100) (hC : CONS C f) (s0 : ST μ0 f) (a b : Int32) : TOUT l G B 0 a b f k C false :=
  lift_out (out_addTrader hfl G B g hk hC s0 (b &&& 1) (1 + LV_up a 99)) (fun μ v μ' h => ML_tries_ok l G B μ 0 a b (by decide) (by decide) (MT_0_ok l G B μ a b (by decide) (by decide) h)) (fun μ E hE h => tries_no (by decide) (by decide) hE (MT_0_x l G B μ a b (by decide) (by decide) h))
theorem step_1 {l : Launch} {f : Nat → Int32} {k : Nat} {C : Int32} {μ0 : Mm} (hfl : l.stackTraces = false) (G : GG) (B : Nat) (g : RNG k 9999 f) (hk : k < 100) (hC : CONS C f) (s0 : ST μ0 f) (a b : Int32) : TOUT l G B 1 a b f k C false :=
  lift_out (out_setValue hfl G B g hC s0 (LV_up a 6) (1 + LV_up b 99)) (fun μ v μ' h => ML_tries_ok l G B μ 1 a b (by decide) (by decide) (MT_1_ok l G B μ a b (by decide) (by decide) h)) (fun μ E hE h => tries_no (by decide) (by decide) hE (MT_1_x l G B μ a b (by decide) (by decide) h))
theorem step_2 {l : Launch} {f : Nat → Int32} {k : Nat} {C : Int32} {μ0 : Mm} (hfl : l.stackTraces = false) (G : GG) (B : Nat) (g : RNG k 9999 f) (hk : k < 100) (hC : CONS C f) (s0 : ST μ0 f) (a b : Int32) : TOUT l G B 2 a b f k C false :=
  lift_out (out_setShade hfl G B g hC s0 (LV_up a 6) (LV_up b 4) (LV_up (b >>> ((4 : Int32) &&& 31)) 51)) (fun μ v μ' h => ML_tries_ok l G B μ 2 a b (by decide) (by decide) (MT_2_ok l G B μ a b (by decide) (by decide) h)) (fun μ E hE h => tries_no (by decide) (by decide) hE (MT_2_x l G B μ a b (by decide) (by decide) h))
theorem step_3 {l : Launch} {f : Nat → Int32} {k : Nat} {C : Int32} {μ0 : Mm} (hfl : l.stackTraces = false) (G : GG) (B : Nat) (g : RNG k 9999 f) (hk : k < 100) (hC : CONS C f) (s0 : ST μ0 f) (a b : Int32) : TOUT l G B 3 a b f k C false :=
  lift_out (out_set hfl G B g hC (a &&& 1) (LV_up b 12)) (fun μ v μ' h => ML_tries_ok l G B μ 3 a b (by decide) (by decide) (MT_3_ok l G B μ a b (by decide) (by decide) h)) (fun μ E hE h => tries_no (by decide) (by decide) hE (MT_3_x l G B μ a b (by decide) (by decide) h))
theorem step_4 {l : Launch} {f : Nat → Int32} {k : Nat} {C : Int32} {μ0 : Mm} (hfl : l.stackTraces = false) (G : GG) (B : Nat) (g : RNG k 9999 f) (hk : k < 100) (hC : CONS C f) (s0 : ST μ0 f) (a b : Int32) : TOUT l G B 4 a b f k C false :=
  lift_out (out_bid hfl G B g hk hC s0 (LV_up a 6) (1 + LV_up b 9)) (fun μ v μ' h => ML_tries_ok l G B μ 4 a b (by decide) (by decide) (MT_4_ok l G B μ a b (by decide) (by decide) h)) (fun μ E hE h => tries_no (by decide) (by decide) hE (MT_4_x l G B μ a b (by decide) (by decide) h))
theorem step_5 {l : Launch} {f : Nat → Int32} {k : Nat} {C : Int32} {μ0 : Mm} (hfl : l.stackTraces = false) (G : GG) (B : Nat) (g : RNG k 9999 f) (hk : k < 100) (hC : CONS C f) (s0 : ST μ0 f) (a b : Int32) : TOUT l G B 5 a b f k C false :=
  lift_out (out_bid hfl G B g hk hC s0 (LV_up a 6) (1 + LV_up b 9)) (fun μ v μ' h => ML_tries_ok l G B μ 5 a b (by decide) (by decide) (MT_5_ok l G B μ a b (by decide) (by decide) h)) (fun μ E hE h => tries_no (by decide) (by decide) hE (MT_5_x l G B μ a b (by decide) (by decide) h))
theorem step_6 {l : Launch} {f : Nat → Int32} {k : Nat} {C : Int32} {μ0 : Mm} (hfl : l.stackTraces = false) (G : GG) (B : Nat) (g : RNG k 9999 f) (hk : k < 100) (hC : CONS C f) (s0 : ST μ0 f) (a b : Int32) : TOUT l G B 6 a b f k C false :=
  lift_out (out_bid hfl G B g hk hC s0 (LV_up a 6) (1 + LV_up b 9)) (fun μ v μ' h => ML_tries_ok l G B μ 6 a b (by decide) (by decide) (MT_6_ok l G B μ a b (by decide) (by decide) h)) (fun μ E hE h => tries_no (by decide) (by decide) hE (MT_6_x l G B μ a b (by decide) (by decide) h))
theorem step_7 {l : Launch} {f : Nat → Int32} {k : Nat} {C : Int32} {μ0 : Mm} (hfl : l.stackTraces = false) (G : GG) (B : Nat) (g : RNG k 9999 f) (hk : k < 100) (hC : CONS C f) (s0 : ST μ0 f) (a b : Int32) : TOUT l G B 7 a b f k C false :=
  lift_out (out_order hfl G B g hk hC s0 (LV_up a 6) (1 + LV_up b 120) ((1 : Int32) + LV_up (b >>> ((8 : Int32) &&& 31)) 9)) (fun μ v μ' h => ML_tries_ok l G B μ 7 a b (by decide) (by decide) (MT_7_ok l G B μ a b (by decide) (by decide) h)) (fun μ E hE h => tries_no (by decide) (by decide) hE (MT_7_x l G B μ a b (by decide) (by decide) h))
theorem step_8 {l : Launch} {f : Nat → Int32} {k : Nat} {C : Int32} {μ0 : Mm} (hfl : l.stackTraces = false) (G : GG) (B : Nat) (g : RNG k 9999 f) (hk : k < 100) (hC : CONS C f) (s0 : ST μ0 f) (a b : Int32) : TOUT l G B 8 a b f k C false :=
  lift_out (out_order hfl G B g hk hC s0 (LV_up a 6) (1 + LV_up b 120) ((1 : Int32) + LV_up (b >>> ((8 : Int32) &&& 31)) 9)) (fun μ v μ' h => ML_tries_ok l G B μ 8 a b (by decide) (by decide) (MT_8_ok l G B μ a b (by decide) (by decide) h)) (fun μ E hE h => tries_no (by decide) (by decide) hE (MT_8_x l G B μ a b (by decide) (by decide) h))
theorem step_9 {l : Launch} {f : Nat → Int32} {k : Nat} {C : Int32} {μ0 : Mm} (hfl : l.stackTraces = false) (G : GG) (B : Nat) (g : RNG k 9999 f) (hk : k < 100) (hC : CONS C f) (s0 : ST μ0 f) (a b : Int32) : TOUT l G B 9 a b f k (C + 1) false :=
  lift_out (out_cancel hfl G B g hC s0 (LV_up a 30)) (fun μ v μ' h => ML_tries_ok l G B μ 9 a b (by decide) (by decide) (MT_9_ok l G B μ a b (by decide) (by decide) h)) (fun μ E hE h => tries_no (by decide) (by decide) hE (MT_9_x l G B μ a b (by decide) (by decide) h))
theorem step_10 {l : Launch} {f : Nat → Int32} {k : Nat} {C : Int32} {μ0 : Mm} (hfl : l.stackTraces = false) (G : GG) (B : Nat) (g : RNG k 9999 f) (hk : k < 100) (hC : CONS C f) (s0 : ST μ0 f) (a b : Int32) : TOUT l G B 10 a b f k C true :=
  lift_out (out_clear hfl G B g hC s0) (fun μ v μ' h => ML_tries_ok l G B μ 10 a b (by decide) (by decide) (MT_10_ok l G B μ a b (by decide) (by decide) h)) (fun μ E hE h => tries_no (by decide) (by decide) hE (MT_10_x l G B μ a b (by decide) (by decide) h))
theorem step_11 {l : Launch} {f : Nat → Int32} {k : Nat} {C : Int32} {μ0 : Mm} (hfl : l.stackTraces = false) (G : GG) (B : Nat) (g : RNG k 9999 f) (hk : k < 100) (hC : CONS C f) (s0 : ST μ0 f) (a b : Int32) : TOUT l G B 11 a b f k C true :=
  lift_out (out_clear hfl G B g hC s0) (fun μ v μ' h => ML_tries_ok l G B μ 11 a b (by decide) (by decide) (MT_11_ok l G B μ a b (by decide) (by decide) h)) (fun μ E hE h => tries_no (by decide) (by decide) hE (MT_11_x l G B μ a b (by decide) (by decide) h))
theorem step_12 {l : Launch} {f : Nat → Int32} {k : Nat} {C : Int32} {μ0 : Mm} (hfl : l.stackTraces = false) (G : GG) (B : Nat) (g : RNG k 9999 f) (hk : k < 100) (hC : CONS C f) (s0 : ST μ0 f) (a b : Int32) : TASK l G B 12 a b f :=
  lift_ask (ask_gainWith hfl G B g hk (LV_up a 6) (1 + LV_up b 120)) (fun μ v μ' h => ML_tries_ok l G B μ 12 a b (by decide) (by decide) (MT_12_ok l G B μ a b (by decide) (by decide) h)) (fun μ E hE h => tries_no (by decide) (by decide) hE (MT_12_x l G B μ a b (by decide) (by decide) h))
theorem step_13 {l : Launch} {f : Nat → Int32} {k : Nat} {C : Int32} {μ0 : Mm} (hfl : l.stackTraces = false) (G : GG) (B : Nat) (g : RNG k 9999 f) (hk : k < 100) (hC : CONS C f) (s0 : ST μ0 f) (a b : Int32) : TASK l G B 13 a b f :=
  lift_ask (ask_goneIn hfl G B g hk (LV_up a 30)) (fun μ v μ' h => ML_tries_ok l G B μ 13 a b (by decide) (by decide) (MT_13_ok l G B μ a b (by decide) (by decide) h)) (fun μ E hE h => tries_no (by decide) (by decide) hE (MT_13_x l G B μ a b (by decide) (by decide) h))
theorem step_14 {l : Launch} {f : Nat → Int32} {k : Nat} {C : Int32} {μ0 : Mm} (hfl : l.stackTraces = false) (G : GG) (B : Nat) (g : RNG k 9999 f) (hk : k < 100) (hC : CONS C f) (s0 : ST μ0 f) (a b : Int32) : TASK l G B 14 a b f :=
  lift_ask (ask_bestSplit hfl G B g (LV_up a 6)) (fun μ v μ' h => ML_tries_ok l G B μ 14 a b (by decide) (by decide) (MT_14_ok l G B μ a b (by decide) (by decide) h)) (fun μ E hE h => tries_no (by decide) (by decide) hE (MT_14_x l G B μ a b (by decide) (by decide) h))
theorem any_0 {l : Launch} {f : Nat → Int32} {k : Nat} {C : Int32} {μ0 : Mm} (hfl : l.stackTraces = false) (G : GG) (B : Nat) (g : RNG k 9999 f) (hk : k < 100) (hC : CONS C f) (s0 : ST μ0 f) (a b : Int32) (hb : b &&& 7 = 0) : TOUT l G B 15 a b f k C false :=
  lift_out (out_addTrader hfl G B g hk hC s0 a b) (fun μ v μ' h => ML_tries_ok l G B μ 15 a b (by decide) (by decide) (MT_15_ok l G B μ a b (by decide) (by decide) (MA_0_ok l G B μ a b hb (by decide) (by decide) h))) (fun μ E hE h => tries_no (by decide) (by decide) hE (MT_15_x l G B μ a b (by decide) (by decide) (MA_0_x l G B μ a b hb (by decide) (by decide) h)))
theorem any_1 {l : Launch} {f : Nat → Int32} {k : Nat} {C : Int32} {μ0 : Mm} (hfl : l.stackTraces = false) (G : GG) (B : Nat) (g : RNG k 9999 f) (hk : k < 100) (hC : CONS C f) (s0 : ST μ0 f) (a b : Int32) (hb : b &&& 7 = 1) : TOUT l G B 15 a b f k C false :=
  lift_out (out_setValue hfl G B g hC s0 a b) (fun μ v μ' h => ML_tries_ok l G B μ 15 a b (by decide) (by decide) (MT_15_ok l G B μ a b (by decide) (by decide) (MA_1_ok l G B μ a b hb (by decide) (by decide) h))) (fun μ E hE h => tries_no (by decide) (by decide) hE (MT_15_x l G B μ a b (by decide) (by decide) (MA_1_x l G B μ a b hb (by decide) (by decide) h)))
theorem any_2 {l : Launch} {f : Nat → Int32} {k : Nat} {C : Int32} {μ0 : Mm} (hfl : l.stackTraces = false) (G : GG) (B : Nat) (g : RNG k 9999 f) (hk : k < 100) (hC : CONS C f) (s0 : ST μ0 f) (a b : Int32) (hb : b &&& 7 = 2) : TOUT l G B 15 a b f k C false :=
  lift_out (out_setShade hfl G B g hC s0 a b a) (fun μ v μ' h => ML_tries_ok l G B μ 15 a b (by decide) (by decide) (MT_15_ok l G B μ a b (by decide) (by decide) (MA_2_ok l G B μ a b hb (by decide) (by decide) h))) (fun μ E hE h => tries_no (by decide) (by decide) hE (MT_15_x l G B μ a b (by decide) (by decide) (MA_2_x l G B μ a b hb (by decide) (by decide) h)))
theorem any_3 {l : Launch} {f : Nat → Int32} {k : Nat} {C : Int32} {μ0 : Mm} (hfl : l.stackTraces = false) (G : GG) (B : Nat) (g : RNG k 9999 f) (hk : k < 100) (hC : CONS C f) (s0 : ST μ0 f) (a b : Int32) (hb : b &&& 7 = 3) : TOUT l G B 15 a b f k C false :=
  lift_out (out_set hfl G B g hC a b) (fun μ v μ' h => ML_tries_ok l G B μ 15 a b (by decide) (by decide) (MT_15_ok l G B μ a b (by decide) (by decide) (MA_3_ok l G B μ a b hb (by decide) (by decide) h))) (fun μ E hE h => tries_no (by decide) (by decide) hE (MT_15_x l G B μ a b (by decide) (by decide) (MA_3_x l G B μ a b hb (by decide) (by decide) h)))
theorem any_4 {l : Launch} {f : Nat → Int32} {k : Nat} {C : Int32} {μ0 : Mm} (hfl : l.stackTraces = false) (G : GG) (B : Nat) (g : RNG k 9999 f) (hk : k < 100) (hC : CONS C f) (s0 : ST μ0 f) (a b : Int32) (hb : b &&& 7 = 4) : TOUT l G B 15 a b f k C false :=
  lift_out (out_bid hfl G B g hk hC s0 a b) (fun μ v μ' h => ML_tries_ok l G B μ 15 a b (by decide) (by decide) (MT_15_ok l G B μ a b (by decide) (by decide) (MA_4_ok l G B μ a b hb (by decide) (by decide) h))) (fun μ E hE h => tries_no (by decide) (by decide) hE (MT_15_x l G B μ a b (by decide) (by decide) (MA_4_x l G B μ a b hb (by decide) (by decide) h)))
theorem any_5 {l : Launch} {f : Nat → Int32} {k : Nat} {C : Int32} {μ0 : Mm} (hfl : l.stackTraces = false) (G : GG) (B : Nat) (g : RNG k 9999 f) (hk : k < 100) (hC : CONS C f) (s0 : ST μ0 f) (a b : Int32) (hb : b &&& 7 = 5) : TOUT l G B 15 a b f k C false :=
  lift_out (out_order hfl G B g hk hC s0 a b a) (fun μ v μ' h => ML_tries_ok l G B μ 15 a b (by decide) (by decide) (MT_15_ok l G B μ a b (by decide) (by decide) (MA_5_ok l G B μ a b hb (by decide) (by decide) h))) (fun μ E hE h => tries_no (by decide) (by decide) hE (MT_15_x l G B μ a b (by decide) (by decide) (MA_5_x l G B μ a b hb (by decide) (by decide) h)))
theorem any_6 {l : Launch} {f : Nat → Int32} {k : Nat} {C : Int32} {μ0 : Mm} (hfl : l.stackTraces = false) (G : GG) (B : Nat) (g : RNG k 9999 f) (hk : k < 100) (hC : CONS C f) (s0 : ST μ0 f) (a b : Int32) (hb : b &&& 7 = 6) : TASK l G B 15 a b f :=
  lift_ask (ask_gainWith hfl G B g hk a b) (fun μ v μ' h => ML_tries_ok l G B μ 15 a b (by decide) (by decide) (MT_15_ok l G B μ a b (by decide) (by decide) (MA_6_ok l G B μ a b hb (by decide) (by decide) h))) (fun μ E hE h => tries_no (by decide) (by decide) hE (MT_15_x l G B μ a b (by decide) (by decide) (MA_6_x l G B μ a b hb (by decide) (by decide) h)))
theorem any_7 {l : Launch} {f : Nat → Int32} {k : Nat} {C : Int32} {μ0 : Mm} (hfl : l.stackTraces = false) (G : GG) (B : Nat) (g : RNG k 9999 f) (hk : k < 100) (hC : CONS C f) (s0 : ST μ0 f) (a b : Int32) (hb : b &&& 7 = 7) : TASK l G B 15 a b f :=
  lift_ask (ask_reason hfl G B g a) (fun μ v μ' h => ML_tries_ok l G B μ 15 a b (by decide) (by decide) (MT_15_ok l G B μ a b (by decide) (by decide) (MA_7_ok l G B μ a b hb (by decide) (by decide) h))) (fun μ E hE h => tries_no (by decide) (by decide) hE (MT_15_x l G B μ a b (by decide) (by decide) (MA_7_x l G B μ a b hb (by decide) (by decide) h)))
set_option maxHeartbeats 4000000 in
theorem step_at {l : Launch} {f : Nat → Int32} {k : Nat} {C : Int32} {μ0 : Mm} (hfl : l.stackTraces = false) (G : GG) (B : Nat) (g : RNG k 9999 f) (hk : k < 100) (hC : CONS C f) (s0 : ST μ0 f) (a b bb : Int32) {i : Nat} (hi : i ≤ 15) (hbb : i = 15 → bb = b) :
    (¬ LV_act (nI i) b = 0 ∧ TOUT l G B (nI i) a bb f k (C + (if nI i = 9 then 1 else 0)) (decide (nI i = 10 ∨ nI i = 11))) ∨ (LV_act (nI i) b = 0 ∧ TASK l G B (nI i) a bb f) := by
  rcases (show i = 0 ∨ i = 1 ∨ i = 2 ∨ i = 3 ∨ i = 4 ∨ i = 5 ∨ i = 6 ∨ i = 7 ∨ i = 8 ∨ i = 9 ∨ i = 10 ∨ i = 11 ∨ i = 12 ∨ i = 13 ∨ i = 14 ∨ i = 15 by omega) with rfl | rfl | rfl | rfl | rfl | rfl | rfl | rfl | rfl | rfl | rfl | rfl | rfl | rfl | rfl | rfl
  · refine Or.inl ⟨(show ¬ (1 : Int32) = 0 by decide), ?_⟩
    have h := step_0 hfl G B g hk hC s0 a bb
    rw [show (C + (if nI 0 = 9 then 1 else 0)) = C from by rw [if_neg (by decide), Int32.add_zero]]
    exact h
  · refine Or.inl ⟨(show ¬ (1 : Int32) = 0 by decide), ?_⟩
    have h := step_1 hfl G B g hk hC s0 a bb
    rw [show (C + (if nI 1 = 9 then 1 else 0)) = C from by rw [if_neg (by decide), Int32.add_zero]]
    exact h
  · refine Or.inl ⟨(show ¬ (1 : Int32) = 0 by decide), ?_⟩
    have h := step_2 hfl G B g hk hC s0 a bb
    rw [show (C + (if nI 2 = 9 then 1 else 0)) = C from by rw [if_neg (by decide), Int32.add_zero]]
    exact h
  · refine Or.inl ⟨(show ¬ (1 : Int32) = 0 by decide), ?_⟩
    have h := step_3 hfl G B g hk hC s0 a bb
    rw [show (C + (if nI 3 = 9 then 1 else 0)) = C from by rw [if_neg (by decide), Int32.add_zero]]
    exact h
  · refine Or.inl ⟨(show ¬ (1 : Int32) = 0 by decide), ?_⟩
    have h := step_4 hfl G B g hk hC s0 a bb
    rw [show (C + (if nI 4 = 9 then 1 else 0)) = C from by rw [if_neg (by decide), Int32.add_zero]]
    exact h
  · refine Or.inl ⟨(show ¬ (1 : Int32) = 0 by decide), ?_⟩
    have h := step_5 hfl G B g hk hC s0 a bb
    rw [show (C + (if nI 5 = 9 then 1 else 0)) = C from by rw [if_neg (by decide), Int32.add_zero]]
    exact h
  · refine Or.inl ⟨(show ¬ (1 : Int32) = 0 by decide), ?_⟩
    have h := step_6 hfl G B g hk hC s0 a bb
    rw [show (C + (if nI 6 = 9 then 1 else 0)) = C from by rw [if_neg (by decide), Int32.add_zero]]
    exact h
  · refine Or.inl ⟨(show ¬ (1 : Int32) = 0 by decide), ?_⟩
    have h := step_7 hfl G B g hk hC s0 a bb
    rw [show (C + (if nI 7 = 9 then 1 else 0)) = C from by rw [if_neg (by decide), Int32.add_zero]]
    exact h
  · refine Or.inl ⟨(show ¬ (1 : Int32) = 0 by decide), ?_⟩
    have h := step_8 hfl G B g hk hC s0 a bb
    rw [show (C + (if nI 8 = 9 then 1 else 0)) = C from by rw [if_neg (by decide), Int32.add_zero]]
    exact h
  · refine Or.inl ⟨(show ¬ (1 : Int32) = 0 by decide), ?_⟩
    have h := step_9 hfl G B g hk hC s0 a bb
    rw [show (C + (if nI 9 = 9 then 1 else 0)) = C + 1 from by rw [if_pos (show nI 9 = (9 : Int32) from rfl)]]
    exact h
  · refine Or.inl ⟨(show ¬ (1 : Int32) = 0 by decide), ?_⟩
    have h := step_10 hfl G B g hk hC s0 a bb
    rw [show (C + (if nI 10 = 9 then 1 else 0)) = C from by rw [if_neg (by decide), Int32.add_zero]]
    exact h
  · refine Or.inl ⟨(show ¬ (1 : Int32) = 0 by decide), ?_⟩
    have h := step_11 hfl G B g hk hC s0 a bb
    rw [show (C + (if nI 11 = 9 then 1 else 0)) = C from by rw [if_neg (by decide), Int32.add_zero]]
    exact h
  · exact Or.inr ⟨rfl, step_12 hfl G B g hk hC s0 a bb⟩
  · exact Or.inr ⟨rfl, step_13 hfl G B g hk hC s0 a bb⟩
  · exact Or.inr ⟨rfl, step_14 hfl G B g hk hC s0 a bb⟩
  · obtain ⟨j, hj, ej⟩ := and_lt b (n := 7) (by decide)
    have ej : b &&& 7 = nI j := ej
    rcases (show j = 0 ∨ j = 1 ∨ j = 2 ∨ j = 3 ∨ j = 4 ∨ j = 5 ∨ j = 6 ∨ j = 7 by omega) with rfl | rfl | rfl | rfl | rfl | rfl | rfl | rfl
    · refine Or.inl ⟨?_, ?_⟩
      · show ¬ (if (15 : Int32) < 12 then (1 : Int32) else if (15 : Int32) ≤ 14 then 0 else if 6 ≤ b &&& 7 then 0 else 1) = 0
        rw [show b &&& 7 = 0 from ej]
        decide
      · have h := any_0 hfl G B g hk hC s0 a bb (show bb &&& 7 = 0 by rw [hbb rfl]; exact ej)
        rw [show (C + (if nI 15 = 9 then 1 else 0)) = C from by rw [if_neg (by decide), Int32.add_zero]]
        exact h
    · refine Or.inl ⟨?_, ?_⟩
      · show ¬ (if (15 : Int32) < 12 then (1 : Int32) else if (15 : Int32) ≤ 14 then 0 else if 6 ≤ b &&& 7 then 0 else 1) = 0
        rw [show b &&& 7 = 1 from ej]
        decide
      · have h := any_1 hfl G B g hk hC s0 a bb (show bb &&& 7 = 1 by rw [hbb rfl]; exact ej)
        rw [show (C + (if nI 15 = 9 then 1 else 0)) = C from by rw [if_neg (by decide), Int32.add_zero]]
        exact h
    · refine Or.inl ⟨?_, ?_⟩
      · show ¬ (if (15 : Int32) < 12 then (1 : Int32) else if (15 : Int32) ≤ 14 then 0 else if 6 ≤ b &&& 7 then 0 else 1) = 0
        rw [show b &&& 7 = 2 from ej]
        decide
      · have h := any_2 hfl G B g hk hC s0 a bb (show bb &&& 7 = 2 by rw [hbb rfl]; exact ej)
        rw [show (C + (if nI 15 = 9 then 1 else 0)) = C from by rw [if_neg (by decide), Int32.add_zero]]
        exact h
    · refine Or.inl ⟨?_, ?_⟩
      · show ¬ (if (15 : Int32) < 12 then (1 : Int32) else if (15 : Int32) ≤ 14 then 0 else if 6 ≤ b &&& 7 then 0 else 1) = 0
        rw [show b &&& 7 = 3 from ej]
        decide
      · have h := any_3 hfl G B g hk hC s0 a bb (show bb &&& 7 = 3 by rw [hbb rfl]; exact ej)
        rw [show (C + (if nI 15 = 9 then 1 else 0)) = C from by rw [if_neg (by decide), Int32.add_zero]]
        exact h
    · refine Or.inl ⟨?_, ?_⟩
      · show ¬ (if (15 : Int32) < 12 then (1 : Int32) else if (15 : Int32) ≤ 14 then 0 else if 6 ≤ b &&& 7 then 0 else 1) = 0
        rw [show b &&& 7 = 4 from ej]
        decide
      · have h := any_4 hfl G B g hk hC s0 a bb (show bb &&& 7 = 4 by rw [hbb rfl]; exact ej)
        rw [show (C + (if nI 15 = 9 then 1 else 0)) = C from by rw [if_neg (by decide), Int32.add_zero]]
        exact h
    · refine Or.inl ⟨?_, ?_⟩
      · show ¬ (if (15 : Int32) < 12 then (1 : Int32) else if (15 : Int32) ≤ 14 then 0 else if 6 ≤ b &&& 7 then 0 else 1) = 0
        rw [show b &&& 7 = 5 from ej]
        decide
      · have h := any_5 hfl G B g hk hC s0 a bb (show bb &&& 7 = 5 by rw [hbb rfl]; exact ej)
        rw [show (C + (if nI 15 = 9 then 1 else 0)) = C from by rw [if_neg (by decide), Int32.add_zero]]
        exact h
    · refine Or.inr ⟨?_, any_6 hfl G B g hk hC s0 a bb (show bb &&& 7 = 6 by rw [hbb rfl]; exact ej)⟩
      show (if (15 : Int32) < 12 then (1 : Int32) else if (15 : Int32) ≤ 14 then 0 else if 6 ≤ b &&& 7 then 0 else 1) = 0
      rw [show b &&& 7 = 6 from ej]
      decide
    · refine Or.inr ⟨?_, any_7 hfl G B g hk hC s0 a bb (show bb &&& 7 = 7 by rw [hbb rfl]; exact ej)⟩
      show (if (15 : Int32) < 12 then (1 : Int32) else if (15 : Int32) ≤ 14 then 0 else if 6 ≤ b &&& 7 then 0 else 1) = 0
      rw [show b &&& 7 = 7 from ej]
      decide
/-- what holds behind k turns -/
def II (k : Nat) (C : Int32) (μ : Mm) : Prop := ∃ f : Nat → Int32, ST μ f ∧ RNG k 9999 f ∧ CONS C f
noncomputable def f00 : Nat → Int32 := fun i => if i = 3 then 5 else if i = 4 then 3 else if i = 8 then -10000 else 0
theorem II0 : II 0 0 mu0 := by
  refine ⟨f00, ⟨⟨⟨rfl, rfl, rfl, rfl, rfl, rfl, rfl, rfl, rfl, rfl, rfl⟩, fun t ht => absurd ht (Nat.not_lt_zero t), fun t ht => absurd ht (Nat.not_lt_zero t), fun t ht => absurd ht (Nat.not_lt_zero t)⟩, 0, 0, by decide, by decide, rfl, rfl⟩,
    ⟨⟨vpd rfl, vpd rfl, vpd rfl, fun k hk => ?_⟩, ⟨0, by decide, rfl⟩, vpd rfl, ⟨vpd rfl, by decide⟩, ⟨0, by decide, rfl⟩, fun t ht => absurd ht (Nat.not_lt_zero t), fun t ht => absurd ht (Nat.not_lt_zero t), fun j k hj hk => absurd hk (Nat.not_lt_zero k)⟩, rfl, rfl, rfl, 0, 0, 0, rfl, rfl, rfl, by decide, by decide⟩
  have e : f00 (68 + 5 * k) = 0 := by
    unfold f00
    rw [if_neg (by omega), if_neg (by omega), if_neg (by omega)]
  rw [e]
  exact vpd rfl
theorem view_ok {l : Launch} (hfl : l.stackTraces = false) (G : GG) (B : Nat) {μ : Mm} {f : Nat → Int32} {k : Nat} (h : REL μ 1 f) (g : RNG k 9999 f) (hk : k ≤ 40) : EVW l G B μ (LV_view μ) (V_M μ) := by
  refine ML_view l hfl G B μ ?_
  obtain ⟨p, hp, e5⟩ := g.2.2.2.2.1
  rw [show X_whole (V_2 μ (NN 7)).1 5 = f 5 from wh_at ((VM_keep h g).rel h) 5 (by decide), e5, cn_nI (by omega)]
  omega
theorem turn_at {l : Launch} (hfl : l.stackTraces = false) (G : GG) (B : Nat) {k : Nat} {C : Int32} {μ : Mm} (hk : k < 36) (hI : II k C μ) {x a b w bb : Int32} (hw : w = (if k < 3 then 0 else x &&& 15)) (hbb : bb = (if k < 2 then nI k else b)) : TURNP l G B II k C μ x a b w bb := by
  obtain ⟨f, s, g, hC⟩ := hI
  have k1 := VM_keep s.1 g
  have s1 := k1.st s
  have k2 := DM_keep s1.1 g
  have s2 := k2.st s1
  obtain ⟨i, hi, ei, h15⟩ : ∃ i, i ≤ 15 ∧ w = nI i ∧ (i = 15 → bb = b) := by
    by_cases c : k < 3
    · rw [if_pos c] at hw
      exact ⟨0, by decide, hw, fun z => absurd z (by decide)⟩
    · rw [if_neg c] at hw
      rw [if_neg (by omega)] at hbb
      obtain ⟨i, h1, h2⟩ := and_lt x (n := 15) (by decide)
      exact ⟨i, h1, hw.trans h2, fun _ => hbb⟩
  have quiet : ∀ (got : Int32) (μ3 : Mm), TOK l G B (X_digestM (V_M μ)) w a bb got μ3 → KEEP (X_digestM (V_M μ)) μ3 → (got = -1000000000 ∨ LV_act w b = 0) → TURNP l G B II k C μ x a b w bb := by
    intro got μ3 hT hK hna
    have s3 := hK.st s2
    have k4 := VM_keep s3.1 g
    have s4 := k4.st s3
    have k5 := DM_keep s4.1 g
    have s5 := k5.st s4
    have hV := view_ok hfl G B s3.1 g (by omega)
    rw [view_congr s3.1 s.1 g] at hV
    have hD := MX10_digest l G B (V_M μ3)
    have e : ∀ p, p = 92 ∨ p = 254 → V_M μ3 p = V_M μ p := fun p hp => by rw [k4 p (by omega), hK p (by omega), k2 p (by omega)]
    rw [digest_congr s4.1 s1.1 g (by rw [e 92 (Or.inl rfl)]) (by rw [e 254 (Or.inr rfl)])] at hD
    exact ⟨_, _, _, _, got, μ3, view_ok hfl G B s.1 g (by omega), MX10_digest l G B (V_M μ), hT, Or.inl ⟨hna, _, _, hV, hD, fin_at hfl G B s5.1 g (by omega) hC, f, s5, g.mono (by omega) (Nat.le_refl _), hC⟩⟩
  rcases step_at hfl G B g (by omega) hC s a b bb hi h15 with ⟨hact, hout⟩ | ⟨hact, hask⟩
  · rw [← ei] at hact hout
    rcases hout with hno | ⟨v, f', hv, hok, g', hC', hx, hn⟩
    · exact quiet _ _ (hno _ s2) (KEEP.rf _) (Or.inl rfl)
    · obtain ⟨μ3, hT, s3, sv3, -⟩ := hok _ s2
      have ka := VM_keep s3.1 g'
      have sa := ka.st s3
      have sva := ka.sav sv3
      obtain ⟨h0, sb, -⟩ := pop_ST sva g
      have kc := VM_keep sb.1 g
      have sc := kc.st sb
      obtain ⟨μd, hTd, sd, -, -⟩ := hok _ sc
      have ke := VM_keep sd.1 g'
      have se := ke.st sd
      have hCv := view_ok hfl G B sb.1 g (by omega)
      rw [view_congr sb.1 s.1 g] at hCv
      have hEv := view_ok hfl G B sd.1 g' (by omega)
      rw [view_congr sd.1 s3.1 g'] at hEv
      have hUn := ML_isUndone l hfl G B μ3 w a bb v (LV_view μ) (view_ok hfl G B s3.1 g' (by omega)) (MX10_undo l G B (V_M μ3) h0) hCv hTd hEv
      refine ⟨_, _, _, _, v, μ3, view_ok hfl G B s.1 g (by omega), MX10_digest l G B (V_M μ), hT, Or.inr ⟨hv, hact, _, _, rfl, hUn, fun ν hν => ?_⟩⟩
      have sν : ST ν f' := by
        rcases hν with rfl | rfl
        · exact s3
        · exact se
      refine ⟨fun h10 h11 => ?_, fun h9 h12 => ?_, fin_at hfl G B sν.1 g' (by omega) hC', f', sν, g', hC'⟩
      · rw [show X_whole ν 10 = f' 10 from wh_at sν.1 10 (by decide), show X_whole (X_digestM (V_M μ)) 10 = f 10 from wh_at s2.1 10 (by decide)]
        exact hx (decide_eq_false (fun z => z.elim h10 h11))
      · rw [show X_whole ν 1 = f' 1 from wh_at sν.1 1 (by decide), show X_whole (X_digestM (V_M μ)) 1 = f 1 from wh_at s2.1 1 (by decide)]
        refine hn (decide_eq_true ?_)
        rw [ei] at h9 h12 ⊢
        have q1 := nI_lt_of (x := i) (y := 9) (by omega) (by decide) h9
        have q2 := nI_lt_of (x := 12) (y := i) (by decide) (by omega) h12
        rcases (show i = 10 ∨ i = 11 by omega) with rfl | rfl
        · exact Or.inl rfl
        · exact Or.inr rfl
  · rw [← ei] at hact hask
    rcases hask with hno | hok
    · exact quiet _ _ (hno _ s2) (KEEP.rf _) (Or.inr hact)
    · obtain ⟨v, μ3, hT, hK⟩ := hok _ s2
      exact quiet _ _ hT hK (Or.inr hact)

