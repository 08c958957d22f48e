
theorem gRun_ne {μ : Mem} {pl n q : Nat} (h6 : n ≤ 6) (hs : zSides μ n) (hq : q < 29 ∨ 43 < q) : gRun μ pl n q = μ q := by
  unfold gRun
  have hs0 : zSides (gStart μ pl n) n := fun w hw => by
    rw [gStart_ne (by omega)]
    exact hs w hw
  have e : gLooks (gStart μ pl n) pl n n q = gStart μ pl n q := (gLooks_inv (pl := pl) h6 (gLine_qu n : zQu (gStart μ pl n) n n) hs0 gStart_lat n (Nat.le_refl n)).2 q (by omega)
  rw [e, gStart_ne (by omega)]
theorem zLv.mono {σ τ : Mem} {T T' : Nat} (h : zLv σ τ T) (hT : T ≤ T') : zLv σ τ T' := by
  refine ⟨fun a b ha hb => ?_, fun a ha => ?_⟩
  · obtain ⟨h1, h2, h3, h4, h5⟩ := h.1 a b ha hb
    exact ⟨h1, h2, h3, h4.mono hT, h5.mono hT⟩
  · obtain ⟨h1, h2⟩ := h.2 a ha
    refine ⟨?_, h2⟩
    rcases h1 with h1 | ⟨ka, kb, q1, q2⟩
    · exact Or.inl h1
    · exact Or.inr ⟨ka, kb, Nat.le_trans q1 hT, q2⟩
theorem zHP.sides {σ τ : Mem} {pl n : Nat} (h : zHP σ τ pl n) : zSides σ n := fun w hw => by
  rw [(h.1 w hw).1]
  obtain ⟨k, h1, h2⟩ := (h.2.1 w hw).1
  exact ⟨k, by omega, h2⟩
theorem zHP.sidesM {σ τ : Mem} {pl n : Nat} (h : zHP σ τ pl n) : zSidesM τ n := fun w hw => by
  obtain ⟨k, h1, h2⟩ := (h.2.1 w hw).1
  exact ⟨k, by omega, h2⟩
theorem fSum_bd {f : Nat → Int32} {b : Nat} : ∀ {n : Nat}, (∀ i, i < n → zN (f i) b) → zN (fSum f n) (n * b)
  | 0, _ => ⟨0, by omega, rfl⟩
  | n + 1, h => by
    obtain ⟨k, h1, h2⟩ := fSum_bd (n := n) (fun i hi => h i (by omega))
    obtain ⟨m, h3, h4⟩ := h n (by omega)
    refine ⟨k + m, ?_, ?_⟩
    · rw [Nat.add_mul]; omega
    · rw [fSum, h2, h4, nI_add]
theorem zEve {μ τ : Mem} {pl n : Nat} (hpl : pl + 3 < 29 ∨ 43 < pl) (h6 : n ≤ 6) (hHP : zHP μ τ pl n) : ∃ Q, zOrd (τ 75) n Q ∧ (∀ w, w < n → zPs (gRun μ pl n) (rRun τ n Q) w) ∧ zLv (gRun μ pl n) (rRun τ n Q) 1480 ∧ fSec (gRun μ pl n) n = rRun τ n Q 66 38 ∧ fLoss (gRun μ pl n) n = rRun τ n Q 66 39 ∧ fCost (gRun μ pl n) n = rCost (rRun τ n Q) ∧ zN (fSec (gRun μ pl n) n) 12000 ∧ zN (fLoss (gRun μ pl n) n) 594 ∧ zN (fCost (gRun μ pl n) n) 17940 := by
  have hO := start_ord (μ := μ) (n := n) hpl h6
  have hO2 : zOrd (τ 75) n (qv (gStart μ pl n)) := by
    refine ⟨hO.1, fun i j hij hj => ?_⟩
    have := hO.2 i j hij hj
    unfold zLt at this ⊢
    rw [(hHP.1 _ (hO.1 i (by omega))).2.2.2.2.1, (hHP.1 _ (hO.1 j hj)).2.2.2.2.1] at this
    exact this
  obtain ⟨h1, h2, h3, h4, h5⟩ := evening_inv hpl h6 hHP n (Nat.le_refl n)
  have hps : ∀ w, w < n → zPs (gRun μ pl n) (rRun τ n (qv (gStart μ pl n))) w := fun w hw => h2 w hw (hO.onto hw)
  have frR := zEq.looks (μ := rStart τ n) (n := n) (Q := qv (gStart μ pl n)) n
  have frS := zEq.start (μ := τ) (n := n)
  have r73 : rRun τ n (qv (gStart μ pl n)) 73 = τ 73 := by
    unfold rRun
    rw [frR.1 73 (by unfold zMe; omega), frS.1 73 (by unfold zMe; omega)]
  have c20 : gRun μ pl n 20 = μ 20 := gRun_ne h6 hHP.sides (by omega)
  have e1 : fSec (gRun μ pl n) n = rRun τ n (qv (gStart μ pl n)) 66 38 := by
    rw [show rRun τ n (qv (gStart μ pl n)) 66 38 = fSum (fun w => rRun τ n (qv (gStart μ pl n)) 82 w) n from h4.2]
    exact fSum_congr (fun i hi => (hps i hi).2.2.2.2.1)
  have e2 : fLoss (gRun μ pl n) n = rRun τ n (qv (gStart μ pl n)) 66 39 := by
    rw [show rRun τ n (qv (gStart μ pl n)) 66 39 = fSum (fun w => rRun τ n (qv (gStart μ pl n)) 83 w * rRun τ n (qv (gStart μ pl n)) 73 w) n from h4.1]
    exact fSum_congr (fun i hi => by rw [(hps i hi).2.2.2.2.2.1, c20, r73, (hHP.1 i hi).2.2.1])
  have b1 : zN (fSec (gRun μ pl n) n) 12000 := by
    refine (fSum_bd (b := 2000) (fun i hi => ?_)).mono (by omega)
    rw [(hps i hi).2.2.2.2.1]
    exact (hps i hi).2.2.2.2.2.2.1
  have b2 : zN (fLoss (gRun μ pl n) n) 594 := by
    refine (fSum_bd (b := 99) (fun i hi => ?_)).mono (by omega)
    rw [(hps i hi).2.2.2.2.2.1, c20, (hHP.1 i hi).2.2.1]
    obtain ⟨a, a1, a2⟩ := (hps i hi).2.2.2.2.2.2.2
    obtain ⟨b, b1, b2⟩ := (hHP.2.1 i hi).2.2.1
    rw [a2, b2]
    rcases (show a = 0 ∨ a = 1 by omega) with rfl | rfl
    · exact ⟨0, by omega, Int32.zero_mul⟩
    · exact ⟨b, by omega, Int32.one_mul _⟩
  refine ⟨qv (gStart μ pl n), hO2, hps, h1.mono (by omega), e1, e2, ?_, b1, b2, ?_⟩
  · unfold fCost rCost
    rw [e1, e2, Int32.mul_comm]
  · obtain ⟨a, a1, a2⟩ := b1
    obtain ⟨b, b1, b2⟩ := b2
    unfold fCost
    rw [a2, b2]
    refine ⟨b * 10 + a, by omega, ?_⟩
    rw [show (10 : Int32) = nI 10 from rfl, pk_mul, nI_add]
