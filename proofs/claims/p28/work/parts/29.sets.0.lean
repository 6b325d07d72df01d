noncomputable section
theorem wI01 {v : Int32} (h : ¬ wI v 0 1 = 0) : v = 0 ∨ v = 1 := by
  obtain ⟨j, hj, rfl⟩ := vp_nI (wI_vp (n := 1) h) (by decide)
  rcases (show j = 0 ∨ j = 1 by omega) with rfl | rfl
  · exact Or.inl rfl
  · exact Or.inr rfl
theorem setT_ne {ν : Mm} {t w v : Int32} {p : Nat} (hp : p ≠ 260) : M_setT ν t w v p = ν p := up2_k _ _ hp
theorem adds_ne (ν : Mm) (sd v : Int32) {p : Nat} (hp : p ≠ 260) : M_addsTrader ν sd v p = ν p := by
  unfold M_addsTrader
  rw [setT_ne hp, setT_ne hp, zeroT_ne _ _ hp, up2_k _ _ hp]
theorem shades_ne {ν : Mm} {t k a : Int32} {p : Nat} (hp : p ≠ 260) : M_shadesM ν t k a p = ν p := by
  unfold M_shadesM
  rw [setT_ne hp, setT_ne hp]
theorem isT_260 {μ ν : Mm} {t : Int32} (h : ν 260 = μ 260) : M_isTrader ν t = M_isTrader μ t := by unfold M_isTrader; rw [h]
theorem wr_shades {μ ν : Mm} {N R j : Nat} {p1 p2 : Int32} (h : REL μ 1 (ν 260)) (g : RNG N R (ν 260)) (hj : j < cn (ν 260 0)) (h1 : vp_in p1 4) (h2 : vp_in p2 51) : REL (T_shadeBy μ (1 + 1) (nI j) p1 p2) 1 (M_shadesM ν (nI j) p1 p2 260) ∧ RNG N R (M_shadesM ν (nI j) p1 p2 260) := by
  have hc := g.c0
  have e1 : M_shadesM ν (nI j) p1 p2 260 = ch (ch (ν 260) (11 + 7 * j + 2) p1) (11 + 7 * j + 3) p2 := by
    unfold M_shadesM
    rw [show M_setT (M_setT ν (nI j) 2 p1) (nI j) 3 p2 260 = ch (M_setT ν (nI j) 2 p1 260) (11 + 7 * j + 3) p2 from setT_ch (w := 3) (by omega) (by decide)]
    rw [show M_setT ν (nI j) 2 p1 260 = ch (ν 260) (11 + 7 * j + 2) p1 from setT_ch (w := 2) (by omega) (by decide)]
  have e2 : T_shadeBy μ (1 + 1) (nI j) p1 p2 = up2 (up2 μ (1 + 3 + 2 * 2) j p1) (1 + 3 + 2 * 3) j p2 := by
    unfold T_shadeBy
    rw [R_put_nI (by omega) (by decide), R_put_nI (by omega) (by decide)]
  rw [e1, e2]
  have g1 := rg_t (w := 2) (v := p1) g hj (by decide) (by decide) ⟨fun q => absurd q (by decide), fun _ => h1, fun q => absurd q (by decide)⟩
  have r1 := wr_t (w := 2) (v := p1) h g hj (by decide) (by decide)
  have hj2 : j < cn (ch (ν 260) (11 + 7 * j + 2) p1 0) := by rw [ch_n (by omega)]; exact hj
  exact ⟨wr_t (w := 3) r1 g1 hj2 (by decide) (by decide), rg_t (w := 3) g1 hj2 (by decide) (by decide) ⟨fun q => absurd q (by decide), fun q => absurd q (by decide), fun _ => h2⟩⟩
end
