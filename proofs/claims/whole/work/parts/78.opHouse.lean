
theorem fHouseCp_ne {μ : Mem} {q : Nat} (h : q < 15 ∨ 21 < q) : fHouseCp μ q = μ q := by
  unfold fHouseCp
  rw [up2_ne (by omega)]
  simp only [va_up, if_neg (show ¬ q = 16 by omega), if_neg (show ¬ q = 17 by omega), if_neg (show ¬ q = 18 by omega), if_neg (show ¬ q = 19 by omega), if_neg (show ¬ q = 20 by omega), if_neg (show ¬ q = 21 by omega)]
theorem fHouseCp_at {μ : Mem} : (∀ a, a < 2 → fHouseCp μ 16 a = μ 3 a ∧ fHouseCp μ 17 a = μ 4 a) ∧ (∀ w, w < 6 → fHouseCp μ 18 w = μ 5 w ∧ fHouseCp μ 19 w = μ 6 w ∧ fHouseCp μ 20 w = μ 7 w ∧ fHouseCp μ 21 w = μ 8 w) ∧ fHouseCp μ 15 6 = μ 2 6 := by
  have c : ∀ (f g : Nat → Int32) (n w : Nat), w < n → va_cpy f g 0 0 n w = f w := fun f g n w hw => by
    unfold va_cpy
    rw [if_pos (by omega)]
    congr 1
    omega
  have e16 : fHouseCp μ 16 = va_cpy (μ 3) (μ 16) 0 0 2 := rfl
  have e17 : fHouseCp μ 17 = va_cpy (μ 4) (μ 17) 0 0 2 := rfl
  have e18 : fHouseCp μ 18 = va_cpy (μ 5) (μ 18) 0 0 6 := rfl
  have e19 : fHouseCp μ 19 = va_cpy (μ 6) (μ 19) 0 0 6 := rfl
  have e20 : fHouseCp μ 20 = va_cpy (μ 7) (μ 20) 0 0 6 := rfl
  have e21 : fHouseCp μ 21 = va_cpy (μ 8) (μ 21) 0 0 6 := rfl
  refine ⟨fun a ha => ⟨by rw [e16, c _ _ _ _ ha], by rw [e17, c _ _ _ _ ha]⟩, fun w hw => ⟨by rw [e18, c _ _ _ _ hw], by rw [e19, c _ _ _ _ hw], by rw [e20, c _ _ _ _ hw], by rw [e21, c _ _ _ _ hw]⟩, rfl⟩

set_option maxRecDepth 100000 in
theorem op_house : zOpE mX9_house [.ref 0] mX10_house [.ref 66] := by
  intro l G μ ν n h
  obtain ⟨h1, h2, h3, h4, h5, h6, ⟨L, L250, eL, eL2, eT⟩, h8, h9, h10, h11, h12⟩ := id h
  obtain ⟨N, hN⟩ : ∃ N, N = 250 := ⟨_, rfl⟩
  have h255 : ∀ i, i < L → zN (μ 13 i) 255 := fun i hi => by rw [(eT i hi).1]; exact (eT i hi).2
  have eg : ∀ q, 15 ≤ q → (gIt (μ 13) L (gR0 μ, gS0 μ) N).1 q = μ q := fun q hq => (gIt_ne (q := q) (Or.inr (Or.inr hq)) N).trans (gR0_ne (q := q) (by omega))
  have eg0 : (gIt (μ 13) L (gR0 μ, gS0 μ) N).1 0 = μ 0 := (gIt_ne (q := 0) (Or.inl rfl) N).trans (gR0_ne (Or.inl rfl))
  have ea : ∀ q, 15 ≤ q → (up2 (mC (gIt (μ 13) L (gR0 μ, gS0 μ) N).1 (gIt (μ 13) L (gR0 μ, gS0 μ) N).2) 1 4 0) q = μ q := fun q hq => by rw [up2_ne (by omega), mC_ne (by omega)]; exact eg q hq
  have ea0 : (up2 (mC (gIt (μ 13) L (gR0 μ, gS0 μ) N).1 (gIt (μ 13) L (gR0 μ, gS0 μ) N).2) 1 4 0) 0 = μ 0 := by rw [up2_ne (by decide), mC_ne (by decide)]; exact eg0
  by_cases hf : (gIt (μ 13) L (gR0 μ, gS0 μ) N).2.1 = 0
  · have em : ∀ q, 29 ≤ q → q ≠ 56 → q ≠ 61 → (gKe (up2 (fPlanCp (fHouseCp (up2 (up2 (mC (gIt (μ 13) L (gR0 μ, gS0 μ) N).1 (gIt (μ 13) L (gR0 μ, gS0 μ) N).2) 1 4 0) 0 10 (-1))) 22 9) 0 8 0) 2) q = μ q := fun q hq q1 q2 => by
      rw [gKe_ne q1 q2 2 (Nat.le_refl 2), up2_ne (by omega), fPlanCp_ne (by omega) (by omega) (by omega) (by omega), fHouseCp_ne (by omega), up2_ne (by omega)]
      exact ea q (by omega)
    refine ⟨_, _, ν, c_house_k rfl eL L250 hN hf, d_house1 (T := μ 13) (μ := μ) (N := N) rfl eL (by omega) (fun i hi => by rw [em 67 (by decide) (by decide) (by decide)]; exact (eT i hi).1.symm) (by rw [em 66 (by decide) (by decide) (by decide)]; exact eL2) L250 h255 hf (fun R' m' a t k n' f hd hfm => ?_)⟩
    have eN : ∀ q, q < 66 → rHs (up2 (mR R' a t k n' (-1) f) 66 0 0) (R' 68) m' (R' 66 12) (R' 66 13) q = (gKe (up2 (fPlanCp (fHouseCp (up2 (up2 (mC (gIt (μ 13) L (gR0 μ, gS0 μ) N).1 (gIt (μ 13) L (gR0 μ, gS0 μ) N).2) 1 4 0) 0 10 (-1))) 22 9) 0 8 0) 2) q := fun q hq => by
      unfold rHs
      rw [up2_ne (by omega), up2_ne (by omega), up2_ne (by omega), up2_ne (by omega), up2_ne (by omega), rWs_ne (by omega), up2_ne (by omega), rCp_ne (by omega), up2_ne (by omega), mR_ne (by omega), hfm.1 q (by omega) (by omega) (by omega), up2_ne (by omega)]
    have eH : ∀ q, 75 < q → q ≠ 77 → rHs (up2 (mR R' a t k n' (-1) f) 66 0 0) (R' 68) m' (R' 66 12) (R' 66 13) q = μ q := fun q hq q7 => by
      unfold rHs
      rw [up2_ne (by omega), up2_ne (by omega), up2_ne (by omega), up2_ne (by omega), up2_ne (by omega), rWs_ne (by omega), up2_ne (by omega), rCp_ne (by omega), up2_ne (by omega), mR_ne (by omega), hfm.1 q (by omega) (by omega) (by omega), up2_ne (by omega)]
      exact em q (by omega) (by omega) (by omega)
    have e66 : ∀ j, j ≠ 45 → j ≠ 17 → j ≠ 0 → rHs (up2 (mR R' a t k n' (-1) f) 66 0 0) (R' 68) m' (R' 66 12) (R' 66 13) 66 j = mR R' a t k n' (-1) f 66 j := fun j j1 j2 j3 => by
      unfold rHs
      rw [up2_ne (by decide), up2_ne (by decide), up2_row, if_neg j1, up2_ne (by decide), up2_ne (by decide), rWs_ne (by decide), up2_row, if_neg j2, rCp_ne (by decide), up2_row, if_neg j3]
    obtain ⟨f1, f2, f3⟩ := fHouseCp_at (μ := (up2 (up2 (mC (gIt (μ 13) L (gR0 μ, gS0 μ) N).1 (gIt (μ 13) L (gR0 μ, gS0 μ) N).2) 1 4 0) 0 10 (-1)))
    obtain ⟨p1, p2, p3⟩ := fPlanCp_at (μ := fHouseCp (up2 (up2 (mC (gIt (μ 13) L (gR0 μ, gS0 μ) N).1 (gIt (μ 13) L (gR0 μ, gS0 μ) N).2) 1 4 0) 0 10 (-1))) (d := 22) (s := 9) (by omega)
    have eK : ∀ q, q ≠ 56 → q ≠ 61 → q ≠ 0 → (gKe (up2 (fPlanCp (fHouseCp (up2 (up2 (mC (gIt (μ 13) L (gR0 μ, gS0 μ) N).1 (gIt (μ 13) L (gR0 μ, gS0 μ) N).2) 1 4 0) 0 10 (-1))) 22 9) 0 8 0) 2) q = fPlanCp (fHouseCp (up2 (up2 (mC (gIt (μ 13) L (gR0 μ, gS0 μ) N).1 (gIt (μ 13) L (gR0 μ, gS0 μ) N).2) 1 4 0) 0 10 (-1))) 22 9 q := fun q q1 q2 q3 => by
      rw [gKe_ne q1 q2 2 (Nat.le_refl 2), up2_ne q3]
    have eB : ∀ q, 2 ≤ q → q ≤ 12 → (up2 (up2 (mC (gIt (μ 13) L (gR0 μ, gS0 μ) N).1 (gIt (μ 13) L (gR0 μ, gS0 μ) N).2) 1 4 0) 0 10 (-1)) q = (gIt (μ 13) L (gR0 μ, gS0 μ) N).1 q := fun q q1 q2 => by
      rw [up2_ne (by omega), up2_ne (by omega), mC_ne (by omega)]
    have eF : ∀ q, q ≤ 12 → fHouseCp (up2 (up2 (mC (gIt (μ 13) L (gR0 μ, gS0 μ) N).1 (gIt (μ 13) L (gR0 μ, gS0 μ) N).2) 1 4 0) 0 10 (-1)) q = (up2 (up2 (mC (gIt (μ 13) L (gR0 μ, gS0 μ) N).1 (gIt (μ 13) L (gR0 μ, gS0 μ) N).2) 1 4 0) 0 10 (-1)) q := fun q q2 => fHouseCp_ne (by omega)
    have eP : ∀ q, 15 ≤ q → q ≤ 21 → fPlanCp (fHouseCp (up2 (up2 (mC (gIt (μ 13) L (gR0 μ, gS0 μ) N).1 (gIt (μ 13) L (gR0 μ, gS0 μ) N).2) 1 4 0) 0 10 (-1))) 22 9 q = fHouseCp (up2 (up2 (mC (gIt (μ 13) L (gR0 μ, gS0 μ) N).1 (gIt (μ 13) L (gR0 μ, gS0 μ) N).2) 1 4 0) 0 10 (-1)) q := fun q q1 q2 => fPlanCp_ne (by omega) (by omega) (by omega) (by omega)
    have em15 : (gKe (up2 (fPlanCp (fHouseCp (up2 (up2 (mC (gIt (μ 13) L (gR0 μ, gS0 μ) N).1 (gIt (μ 13) L (gR0 μ, gS0 μ) N).2) 1 4 0) 0 10 (-1))) 22 9) 0 8 0) 2) 15 6 = nI m' := by
      rw [eK 15 (by decide) (by decide) (by decide), eP 15 (by decide) (by decide), f3, eB 2 (by decide) (by decide)]
      exact hd.2.1
    obtain ⟨z1, z2, z3⟩ := zHsd hd (τ := up2 (mR R' a t k n' (-1) f) 66 0 0) (S := rHs (up2 (mR R' a t k n' (-1) f) 66 0 0) (R' 68) m' (R' 66 12) (R' 66 13)) (by rw [up2_ne (by decide), mR_ne (by decide)]) rfl rfl
      (fun a ha => by
        rw [eN 16 (by decide), eN 17 (by decide), eK 16 (by decide) (by decide) (by decide), eK 17 (by decide) (by decide) (by decide), eP 16 (by decide) (by decide), eP 17 (by decide) (by decide), (f1 a ha).1, (f1 a ha).2, eB 3 (by decide) (by decide), eB 4 (by decide) (by decide)]
        exact ⟨rfl, rfl⟩)
      (fun w hw => by
        obtain ⟨g1, g2, g3, g4⟩ := f2 w hw
        rw [eN 18 (by decide), eN 19 (by decide), eN 20 (by decide), eN 21 (by decide), eK 18 (by decide) (by decide) (by decide), eK 19 (by decide) (by decide) (by decide), eK 20 (by decide) (by decide) (by decide), eK 21 (by decide) (by decide) (by decide), eP 18 (by decide) (by decide), eP 19 (by decide) (by decide), eP 20 (by decide) (by decide), eP 21 (by decide) (by decide), g1, g2, g3, g4, eB 5 (by decide) (by decide), eB 6 (by decide) (by decide), eB 7 (by decide) (by decide), eB 8 (by decide) (by decide)]
        exact ⟨rfl, rfl, rfl, rfl⟩)
      (fun w hw => by
        obtain ⟨g1, g2, g3⟩ := p1 w hw
        rw [eN 23 (by decide), eN 24 (by decide), eN 25 (by decide), eK 23 (by decide) (by decide) (by decide), eK 24 (by decide) (by decide) (by decide), eK 25 (by decide) (by decide) (by decide)]
        exact ⟨g1.trans (by rw [eF (9 + 1) (by decide), eB (9 + 1) (by decide) (by decide)]), g2.trans (by rw [eF (9 + 2) (by decide), eB (9 + 2) (by decide) (by decide)]), g3.trans (by rw [eF (9 + 3) (by decide), eB (9 + 3) (by decide) (by decide)])⟩)
      (by
        rw [eN 22 (by decide), eK 22 (by decide) (by decide) (by decide), p2, p3, eF 9 (by decide), eB 9 (by decide) (by decide)]
        exact ⟨rfl, rfl⟩)
    refine ⟨em15, ⟨m', hd.1, ?_, ?_, z1, z2, z3, ⟨0, by decide, ?_, ?_, fun i hi => absurd hi (Nat.not_lt_zero i)⟩, ?_, ⟨0, by decide, ?_, ?_, fun i hi => absurd hi (Nat.not_lt_zero i)⟩, ?_, Or.inl ⟨?_, ?_⟩, Or.inl ⟨?_, ?_⟩⟩, rfl⟩
    · rw [eN 15 (by decide)]; exact em15
    · unfold rHs
      rw [up2_ne (by decide), up2_ne (by decide), up2_row, if_neg (by decide), up2_ne (by decide), up2_ne (by decide), rWs_ne (by decide), up2_same]
    · rw [eN 1 (by decide), eK 1 (by decide) (by decide) (by decide), fPlanCp_ne (by decide) (by decide) (by decide) (by decide), fHouseCp_ne (by decide), up2_ne (by decide), up2_same]
      rfl
    · unfold rHs
      rw [up2_ne (by decide), up2_ne (by decide), up2_row, if_neg (by decide), up2_ne (by decide), up2_ne (by decide), rWs_ne (by decide), up2_row, if_neg (by decide), rCp_ne (by decide), up2_same]
      rfl
    · rw [eN 0 (by decide), gKe_ne (by decide) (by decide) 2 (Nat.le_refl 2), up2_row, if_neg (by decide), fPlanCp_ne (by decide) (by decide) (by decide) (by decide), fHouseCp_ne (by decide), up2_same, e66 6 (by decide) (by decide) (by decide), mR_6]
    · rw [eN 0 (by decide), gKe_ne (by decide) (by decide) 2 (Nat.le_refl 2), up2_same]
      rfl
    · unfold rHs
      rw [up2_ne (by decide), up2_ne (by decide), up2_same]
      rfl
    · have e75 : rHs (up2 (mR R' a t k n' (-1) f) 66 0 0) (R' 68) m' (R' 66 12) (R' 66 13) 75 20 = μ 75 20 := by
        unfold rHs
        rw [up2_ne (by decide), up2_ne (by decide), up2_ne (by decide), up2_row, if_neg (by decide), up2_row, if_neg (by decide), rWs_75 m' hd.1, if_neg (by have := hd.1; omega), if_neg (by have := hd.1; omega), if_neg (by have := hd.1; omega), up2_ne (by decide), rCp_ne (by decide), up2_ne (by decide), mR_ne (by decide), hfm.1 75 (by decide) (by decide) (by decide), up2_ne (by decide), em 75 (by decide) (by decide) (by decide)]
      rw [e75]; exact h10
    · rw [eN (56 + 5 * 0) (by decide)]
      show up2 (up2 (up2 (fPlanCp (fHouseCp (up2 (up2 (mC (gIt (μ 13) L (gR0 μ, gS0 μ) N).1 (gIt (μ 13) L (gR0 μ, gS0 μ) N).2) 1 4 0) 0 10 (-1))) 22 9) 0 8 0) (56 + 5 * 0) 2 0) (56 + 5 * 1) 2 0 (56 + 5 * 0) 2 = 0
      rw [up2_ne (by decide), up2_same]
    · unfold rHs
      rw [up2_row, if_neg (by decide), up2_same]
    · rw [eN (56 + 5 * 1) (by decide)]
      show up2 (up2 (up2 (fPlanCp (fHouseCp (up2 (up2 (mC (gIt (μ 13) L (gR0 μ, gS0 μ) N).1 (gIt (μ 13) L (gR0 μ, gS0 μ) N).2) 1 4 0) 0 10 (-1))) 22 9) 0 8 0) (56 + 5 * 0) 2 0) (56 + 5 * 1) 2 0 (56 + 5 * 1) 2 = 0
      rw [up2_same]
    · unfold rHs
      rw [up2_same]
  · have em : ∀ q, 15 ≤ q → (up2 (up2 (mC (gIt (μ 13) L (gR0 μ, gS0 μ) N).1 (gIt (μ 13) L (gR0 μ, gS0 μ) N).2) 1 4 0) 0 10 (gIt (μ 13) L (gR0 μ, gS0 μ) N).2.2.1) q = μ q := fun q hq => by rw [up2_ne (by omega)]; exact ea q hq
    refine ⟨_, _, ν, c_house_f rfl eL L250 hN hf, d_house0 (T := μ 13) (μ := μ) (N := N) rfl eL (by omega) (fun i hi => by rw [em 67 (by decide)]; exact (eT i hi).1.symm) (by rw [em 66 (by decide)]; exact eL2) L250 h255 hf (fun N' hb => ?_)⟩
    have eb : ∀ q, 15 ≤ q → q ≠ 66 → q ≠ 68 → q ≠ 69 → up2 N' 66 0 0 q = μ q := fun q hq q1 q2 q3 => by
      rw [up2_ne q1, hb.1 q q1 q2 q3, up2_ne q1]; exact em q hq
    have e66 : ∀ j, 15 < j → up2 N' 66 0 0 66 j = μ 66 j := fun j hj => by
      rw [up2_row, if_neg (by omega), hb.2.1 j (by omega), up2_row, if_neg (by omega), em 66 (by decide)]
    have e0 : ∀ j, j ≠ 10 → up2 N' 66 0 0 0 j = μ 0 j := fun j hj => by
      rw [up2_ne (by decide), hb.1 0 (by decide) (by decide) (by decide), up2_ne (by decide), up2_row, if_neg hj, ea0]
    refine ⟨rfl, ⟨n, h1, ?_, ?_, ?_, ?_, ?_, ⟨0, by decide, ?_, ?_, fun i hi => absurd hi (Nat.not_lt_zero i)⟩, ?_, ?_, ?_, ?_, ?_⟩, rfl⟩
    · rw [eb 15 (by decide) (by decide) (by decide) (by decide)]; exact h2
    · rw [e66 17 (by decide)]; exact h3
    · exact h4.congr (fun q a b => eb q (by omega) (by omega) (by omega) (by omega)) (fun q a b => eb q (by omega) (by omega) (by omega) (by omega))
    · rw [eb 75 (by decide) (by decide) (by decide) (by decide)]
      exact h5.congr (eb _ (by decide) (by decide) (by decide) (by decide)) (eb _ (by decide) (by decide) (by decide) (by decide)) (eb _ (by decide) (by decide) (by decide) (by decide)) (eb _ (by decide) (by decide) (by decide) (by decide))
    · rw [eb 75 (by decide) (by decide) (by decide) (by decide)]; exact h6
    · rw [up2_ne (by decide), hb.1 1 (by decide) (by decide) (by decide), up2_ne (by decide), up2_ne (by decide), up2_same]
      rfl
    · rw [up2_same]
      rfl
    · rw [up2_ne (by decide), hb.1 0 (by decide) (by decide) (by decide), up2_ne (by decide), up2_same, up2_row, if_neg (by decide), hb.2.2.1]
    · exact h9.congr (e0 8 (by decide)) (eb 54 (by decide) (by decide) (by decide) (by decide)) (eb 55 (by decide) (by decide) (by decide) (by decide)) (e66 45 (by decide)) (eb 96 (by decide) (by decide) (by decide) (by decide))
    · rw [eb 75 (by decide) (by decide) (by decide) (by decide)]; exact h10
    · exact h11.congr (by decide) (fun q a b => eb q (by omega) (by omega) (by omega) (by omega)) (eb 76 (by decide) (by decide) (by decide) (by decide)) (eb 77 (by decide) (by decide) (by decide) (by decide)) rfl
    · exact h12.congr (by decide) (fun q a b => eb q (by omega) (by omega) (by omega) (by omega)) (eb 76 (by decide) (by decide) (by decide) (by decide)) (eb 77 (by decide) (by decide) (by decide) (by decide)) rfl
