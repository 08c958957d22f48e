
def qv (μ : Mem) (j : Nat) : Nat := (μ 29 j).toNatClampNeg
/-- w is being put in: place p is free -/
def zHole (μ : Mem) (co : Nat → Int32) (w p : Nat) : Prop :=
  (∀ j, j ≤ w → j ≠ p → ∃ m : Nat, m < w ∧ μ 29 j = nI m) ∧ (∀ j k, j < k → k ≤ w → j ≠ p → k ≠ p → zLt co (qv μ j) (qv μ k)) ∧ ∀ k, p < k → k ≤ w → co w < co (qv μ k)
theorem zLt_le {co : Nat → Int32} {a b : Nat} (h : zLt co a b) : co a ≤ co b := by
  rcases h with h | ⟨h, -⟩
  · have := Int32.lt_iff_toInt_lt.mp h
    exact Int32.le_iff_toInt_le.mpr (by omega)
  · rw [h]; exact Int32.le_iff_toInt_le.mpr (Int.le_refl _)
theorem zHole.put {μ : Mem} {co : Nat → Int32} {w p : Nat} (hw : w < 6) (hp : p ≤ w) (h : zHole μ co w p) (hlast : ∀ q, p = q + 1 → co (qv μ q) ≤ co w) : ∀ j k, j < k → k ≤ w → zLt co (qv (up2 μ 29 p (nI w)) j) (qv (up2 μ 29 p (nI w)) k) := by
  obtain ⟨h1, h2, h3⟩ := h
  have hv : ∀ j, j ≠ p → qv (up2 μ 29 p (nI w)) j = qv μ j := fun j hj => by unfold qv; rw [up2_row, if_neg hj]
  have hvp : qv (up2 μ 29 p (nI w)) p = w := by unfold qv; rw [up2_same, nI_clamp (show w < 2 ^ 31 by omega)]
  have hlt : ∀ j, j ≤ w → j ≠ p → qv μ j < w := fun j a1 a2 => by
    obtain ⟨m, q1, q2⟩ := h1 j a1 a2
    unfold qv
    rw [q2, nI_clamp (show m < 2 ^ 31 by omega)]
    exact q1
  intro j k hjk hk
  by_cases e1 : k = p
  · subst e1
    rw [hvp, hv j (by omega)]
    have hle : co (qv μ j) ≤ co w := by
      rcases (show j + 1 = k ∨ j + 1 < k by omega) with q | q
      · exact hlast j q.symm
      · have a1 := zLt_le (h2 j (k - 1) (by omega) (by omega) (by omega) (by omega))
        have a2 := hlast (k - 1) (by omega)
        exact Int32.le_iff_toInt_le.mpr (Int.le_trans (Int32.le_iff_toInt_le.mp a1) (Int32.le_iff_toInt_le.mp a2))
    by_cases e : co (qv μ j) = co w
    · exact Or.inr ⟨e, hlt j (by omega) (by omega)⟩
    · refine Or.inl (Int32.lt_iff_toInt_lt.mpr ?_)
      have a1 := Int32.le_iff_toInt_le.mp hle
      have a2 : (co (qv μ j)).toInt ≠ (co w).toInt := fun q => e (Int32.toInt_inj.mp q)
      omega
  · by_cases e2 : j = p
    · subst e2
      rw [hvp, hv k e1]
      exact Or.inl (h3 k hjk hk)
    · rw [hv j e2, hv k e1]
      exact h2 j k hjk hk e2 e1
theorem gIns_sort {pl w : Nat} {co : Nat → Int32} (hpl : pl + 1 ≠ 29) (hw : w < 6) : ∀ (p : Nat) (μ : Mem), μ (pl + 1) = co → p ≤ w → zHole μ co w p → ∀ j k, j < k → k ≤ w → zLt co (qv (gIns pl w p μ) j) (qv (gIns pl w p μ) k)
  | 0, μ, _, hp, h => h.put hw hp (fun q hq => absurd hq (by omega))
  | p + 1, μ, hco, hp, h => by
    unfold gIns
    by_cases c : μ (pl + 1) (μ 29 p).toNatClampNeg ≤ μ (pl + 1) w
    · rw [if_pos c]
      refine h.put hw hp (fun q hq => ?_)
      have : q = p := by omega
      subst this
      rw [← hco]
      exact c
    · rw [if_neg c]
      have hgt : co w < co (qv μ p) := by
        rw [← hco]
        exact Int32.not_le.mp c
      obtain ⟨h1, h2, h3⟩ := h
      have hv : ∀ j, j ≠ p + 1 → qv (up2 μ 29 (p + 1) (μ 29 p)) j = qv μ j := fun j hj => by unfold qv; rw [up2_row, if_neg hj]
      have hvp : qv (up2 μ 29 (p + 1) (μ 29 p)) (p + 1) = qv μ p := by unfold qv; rw [up2_same]
      refine gIns_sort hpl hw p _ (by rw [up2_ne hpl]; exact hco) (by omega) ⟨fun j hj hne => ?_, fun j k hjk hk n1 n2 => ?_, fun k hk1 hk2 => ?_⟩
      · by_cases e : j = p + 1
        · subst e
          rw [up2_same]
          exact h1 p (by omega) (by omega)
        · rw [up2_row, if_neg e]
          exact h1 j hj e
      · by_cases e : k = p + 1
        · subst e
          rw [hvp, hv j (by omega)]
          exact h2 j p (by omega) (by omega) (by omega) (by omega)
        · by_cases e2 : j = p + 1
          · subst e2
            rw [hvp, hv k e]
            exact h2 p k (by omega) hk (by omega) e
          · rw [hv j e2, hv k e]
            exact h2 j k hjk hk e2 e
      · by_cases e : k = p + 1
        · subst e
          rw [hvp]
          exact hgt
        · rw [hv k e]
          exact h3 k (by omega) hk2
theorem gLine_sort {μ : Mem} {pl : Nat} (hpl : pl + 1 ≠ 29) : ∀ i, i ≤ 6 → ∀ j k, j < k → k < i → zLt (μ (pl + 1)) (qv (gLine μ pl i) j) (qv (gLine μ pl i) k)
  | 0, _, j, k, _, h => absurd h (Nat.not_lt_zero k)
  | i + 1, hi, j, k, hjk, hk => by
    rw [gLine]
    refine gIns_sort hpl (by omega) i _ (gLine_ne hpl i) (Nat.le_refl i) ⟨fun a ha hne => ?_, fun a b hab hb n1 n2 => ?_, fun b hb1 hb2 => absurd hb1 (by omega)⟩ j k hjk (by omega)
    · exact gLine_qu (μ := μ) (pl := pl) i a (by omega)
    · exact gLine_sort hpl i (by omega) a b hab (by omega)
theorem zOrd.congr {co now : Nat → Int32} {n : Nat} {Q : Nat → Nat} (h : zOrd co n Q) (he : ∀ w, w < n → co w = now w) : zOrd now n Q := by
  refine ⟨h.1, fun i j hi hj => ?_⟩
  have := h.2 i j hi hj
  unfold zLt at this ⊢
  rw [← he _ (h.1 i (by omega)), ← he _ (h.1 j hj)]
  exact this
theorem start_ord {μ : Mem} {pl n : Nat} (hpl : pl + 3 < 29 ∨ 43 < pl) (h6 : n ≤ 6) : zOrd (μ (pl + 1)) n (qv (gStart μ pl n)) := by
  refine ⟨fun i hi => ?_, fun i j hi hj => ?_⟩
  · obtain ⟨m, h1, h2⟩ := gLine_qu (μ := gRests μ 2) (pl := pl) n i hi
    unfold qv gStart
    rw [h2, nI_clamp (show m < 2 ^ 31 by omega)]
    exact h1
  · have := gLine_sort (μ := gRests μ 2) (pl := pl) (by omega) n h6 i j hi hj
    rw [gRests_ne (by omega) 2 (Nat.le_refl 2)] at this
    exact this
theorem fSum_0 {f : Nat → Int32} : ∀ {n : Nat}, (∀ i, i < n → f i = 0) → fSum f n = 0
  | 0, _ => rfl
  | n + 1, h => by rw [fSum, fSum_0 (fun i hi => h i (by omega)), h n (by omega)]; rfl
theorem rR6_0 {μ : Mem} : ∀ i w, w < i → rR6 μ i 78 w = 0 ∧ rR6 μ i 82 w = 0 ∧ rR6 μ i 83 w = 0
  | 0, w, h => absurd h (Nat.not_lt_zero w)
  | i + 1, w, h => by
    have h1 : rR6 μ (i + 1) 78 w = if w = i then 0 else rR6 μ i 78 w := by rw [rR6, up2_ne (by decide), up2_ne (by decide), up2_row]
    have h2 : rR6 μ (i + 1) 82 w = if w = i then 0 else rR6 μ i 82 w := by rw [rR6, up2_ne (by decide), up2_row, up2_ne (by decide)]
    have h3 : rR6 μ (i + 1) 83 w = if w = i then 0 else rR6 μ i 83 w := by rw [rR6, up2_row, up2_ne (by decide), up2_ne (by decide)]
    rw [h1, h2, h3]
    by_cases e : w = i
    · rw [if_pos e, if_pos e, if_pos e]; exact ⟨rfl, rfl, rfl⟩
    · rw [if_neg e, if_neg e, if_neg e]; exact rR6_0 i w (by omega)
theorem rR4_90 {μ : Mem} : ∀ i c, c < i → rR4 μ i 90 c = -1
  | 0, c, h => absurd h (Nat.not_lt_zero c)
  | i + 1, c, h => by
    have h1 : rR4 μ (i + 1) 90 c = if c = i then -1 else rR4 μ i 90 c := by rw [rR4, up2_row, up2_ne (by decide), up2_ne (by decide)]
    rw [h1]
    by_cases e : c = i
    · rw [if_pos e]
    · rw [if_neg e]; exact rR4_90 i c (by omega)
theorem rR2_0 {μ : Mem} : ∀ i a, a < i → rR2 μ i 87 a = 0 ∧ rR2 μ i 88 a = 0 ∧ rR2 μ i 89 a = 0
  | 0, a, h => absurd h (Nat.not_lt_zero a)
  | i + 1, a, h => by
    have h1 : rR2 μ (i + 1) 87 a = if a = i then 0 else rR2 μ i 87 a := by rw [rR2, up2_ne (by decide), up2_ne (by decide), up2_row]
    have h2 : rR2 μ (i + 1) 88 a = if a = i then 0 else rR2 μ i 88 a := by rw [rR2, up2_ne (by decide), up2_row, up2_ne (by decide)]
    have h3 : rR2 μ (i + 1) 89 a = if a = i then 0 else rR2 μ i 89 a := by rw [rR2, up2_row, up2_ne (by decide), up2_ne (by decide)]
    rw [h1, h2, h3]
    by_cases e : a = i
    · rw [if_pos e, if_pos e, if_pos e]; exact ⟨rfl, rfl, rfl⟩
    · rw [if_neg e, if_neg e, if_neg e]; exact rR2_0 i a (by omega)
theorem fRest_at {μ : Mem} {k : Nat} : (∀ b, b < 2 → fRest μ k (k + 1) b = 0 ∧ fRest μ k (k + 2) b = 0 ∧ fRest μ k (k + 3) b = -1) ∧ fRest μ k k 3 = 0 ∧ fRest μ k k 4 = 0 ∧ fRest μ k k 5 = 0 ∧ fRest μ k k 6 = 0 ∧ fRest μ k k 7 = 0 := by
  refine ⟨fun b hb => ⟨?_, ?_, fRest_lat hb⟩, ?_, ?_, ?_, ?_, ?_⟩
  · unfold fRest
    rw [up2_ne (by omega), up2_ne (by omega), up2_ne (by omega), up2_ne (by omega), up2_ne (by omega)]
    simp [fFill, va_up, hb]
  · unfold fRest
    rw [up2_ne (by omega), up2_ne (by omega), up2_ne (by omega), up2_ne (by omega), up2_ne (by omega)]
    simp [fFill, va_up, hb]
  · unfold fRest
    rw [up2_row, if_neg (by decide), up2_row, if_neg (by decide), up2_row, if_neg (by decide), up2_row, if_neg (by decide), up2_same]
  · unfold fRest
    rw [up2_row, if_neg (by decide), up2_row, if_neg (by decide), up2_row, if_neg (by decide), up2_same]
  · unfold fRest
    rw [up2_row, if_neg (by decide), up2_row, if_neg (by decide), up2_same]
  · unfold fRest
    rw [up2_row, if_neg (by decide), up2_same]
  · unfold fRest
    rw [up2_same]
theorem gStart_sw {μ : Mem} {pl n a : Nat} (ha : a < 2) : (∀ b, b < 2 → gStart μ pl n (30 + 4 * a + 1) b = 0 ∧ gStart μ pl n (30 + 4 * a + 2) b = 0 ∧ gStart μ pl n (30 + 4 * a + 3) b = -1) ∧ gStart μ pl n (30 + 4 * a) 3 = 0 ∧ gStart μ pl n (30 + 4 * a) 4 = 0 ∧ gStart μ pl n (30 + 4 * a) 5 = 0 ∧ gStart μ pl n (30 + 4 * a) 6 = 0 ∧ gStart μ pl n (30 + 4 * a) 7 = 0 := by
  unfold gStart
  rw [gLine_ne (by omega), gLine_ne (by omega), gLine_ne (by omega), gLine_ne (by omega)]
  show (∀ b, b < 2 → fRest (fRest μ (30 + 4 * 0)) (30 + 4 * 1) (30 + 4 * a + 1) b = 0 ∧ fRest (fRest μ (30 + 4 * 0)) (30 + 4 * 1) (30 + 4 * a + 2) b = 0 ∧ fRest (fRest μ (30 + 4 * 0)) (30 + 4 * 1) (30 + 4 * a + 3) b = -1) ∧ fRest (fRest μ (30 + 4 * 0)) (30 + 4 * 1) (30 + 4 * a) 3 = 0 ∧ fRest (fRest μ (30 + 4 * 0)) (30 + 4 * 1) (30 + 4 * a) 4 = 0 ∧ fRest (fRest μ (30 + 4 * 0)) (30 + 4 * 1) (30 + 4 * a) 5 = 0 ∧ fRest (fRest μ (30 + 4 * 0)) (30 + 4 * 1) (30 + 4 * a) 6 = 0 ∧ fRest (fRest μ (30 + 4 * 0)) (30 + 4 * 1) (30 + 4 * a) 7 = 0
  rcases (show a = 0 ∨ a = 1 by omega) with rfl | rfl
  · have e : ∀ q, 30 ≤ q → q < 34 → fRest (fRest μ (30 + 4 * 0)) (30 + 4 * 1) q = fRest μ (30 + 4 * 0) q := fun q h1 h2 => fRest_ne (by omega) (by omega) (by omega) (by omega)
    rw [e (30 + 4 * 0 + 1) (by omega) (by omega), e (30 + 4 * 0 + 2) (by omega) (by omega), e (30 + 4 * 0 + 3) (by omega) (by omega), e (30 + 4 * 0) (by omega) (by omega)]
    exact fRest_at
  · exact fRest_at
theorem inv_start {μ τ : Mem} {pl n : Nat} : zInv (gStart μ pl n) (rStart τ n) n 1300 (fun _ => False) := by
  have e84 : ∀ c, c < 4 → rStart τ n 84 c = 0 ∧ rStart τ n 85 c = 0 ∧ rStart τ n 90 c = -1 := fun c hc => by
    unfold rStart
    rw [rR6_ne (by decide) (by decide) (by decide), rR6_ne (by decide) (by decide) (by decide), rR6_ne (by decide) (by decide) (by decide), up2_ne (by decide), up2_ne (by decide), up2_ne (by decide), up2_ne (by decide), up2_ne (by decide), up2_ne (by decide), rR2_ne (by decide) (by decide) (by decide), rR2_ne (by decide) (by decide) (by decide), rR2_ne (by decide) (by decide) (by decide)]
    exact ⟨(rR4_lat 4 c hc).1, (rR4_lat 4 c hc).2, rR4_90 4 c hc⟩
  have e87 : ∀ a, a < 2 → rStart τ n 87 a = 0 ∧ rStart τ n 88 a = 0 ∧ rStart τ n 89 a = 0 := fun a ha => by
    unfold rStart
    rw [rR6_ne (by decide) (by decide) (by decide), rR6_ne (by decide) (by decide) (by decide), rR6_ne (by decide) (by decide) (by decide), up2_ne (by decide), up2_ne (by decide), up2_ne (by decide), up2_ne (by decide), up2_ne (by decide), up2_ne (by decide)]
    exact rR2_0 2 a ha
  have e78 : ∀ w, w < n → rStart τ n 78 w = 0 ∧ rStart τ n 82 w = 0 ∧ rStart τ n 83 w = 0 := fun w hw => rR6_0 n w hw
  have e66 : rStart τ n 66 38 = 0 ∧ rStart τ n 66 39 = 0 := by
    unfold rStart
    rw [rR6_ne (by decide) (by decide) (by decide), up2_row, if_neg (by decide), up2_same, up2_same]
    exact ⟨rfl, rfl⟩
  refine ⟨⟨fun a b ha hb => ?_, fun a ha => ?_⟩, fun w _ h => h.elim, fun w hw _ => e78 w hw, ⟨?_, ?_⟩, fun c hc => Or.inl ⟨(e84 c hc).1, (e84 c hc).2.1⟩⟩
  · obtain ⟨q1, q2, q3⟩ := (gStart_sw (μ := μ) (pl := pl) (n := n) ha).1 b hb
    obtain ⟨r1, r2, r3⟩ := e84 (2 * a + b) (by omega)
    rw [q1, q2, q3, r1, r2, r3]
    exact ⟨rfl, rfl, rfl, ⟨0, by omega, rfl⟩, ⟨0, by omega, rfl⟩⟩
  · obtain ⟨-, q3, q4, q5, q6, q7⟩ := gStart_sw (μ := μ) (pl := pl) (n := n) ha
    obtain ⟨r1, r2, r3⟩ := e87 a ha
    refine ⟨Or.inl ⟨r1, q3, q4, q5⟩, by rw [q6, r2], by rw [q7, r3]⟩
  · rw [e66.2]
    refine (fSum_0 (fun i hi => ?_)).symm
    rw [(e78 i hi).2.2]
    exact Int32.zero_mul
  · rw [e66.1]
    exact (fSum_0 (fun i hi => (e78 i hi).2.1)).symm
theorem zInv.congrD {σ τ : Mem} {n T : Nat} {D D' : Nat → Prop} (h : zInv σ τ n T D) (hD : ∀ v, D v ↔ D' v) : zInv σ τ n T D' := by
  have : D = D' := funext fun v => propext (hD v)
  rw [← this]; exact h
theorem evening_inv {μ τ : Mem} {pl n : Nat} (hpl : pl + 3 < 29 ∨ 43 < pl) (h6 : n ≤ 6) (hHP : zHP μ τ pl n) : ∀ i, i ≤ n → zInv (gLooks (gStart μ pl n) pl n i) (rLooks (rStart τ n) n (qv (gStart μ pl n)) i) n (1300 + 30 * i) (fun v => ∃ a, a < i ∧ qv (gStart μ pl n) a = v)
  | 0, _ => inv_start.congrD (fun v => ⟨False.elim, fun h => by obtain ⟨a, h1, -⟩ := h; omega⟩)
  | i + 1, hi => by
    have ih := evening_inv hpl h6 hHP i (by omega)
    have hO := start_ord (μ := μ) (n := n) hpl h6
    have hq := hO.1 i (by omega)
    have hs0 : zSides (gStart μ pl n) n := fun w hw => by
      rw [gStart_ne (by omega), (hHP.1 w hw).1]
      obtain ⟨k, h1, h2⟩ := (hHP.2.1 w hw).1
      exact ⟨k, by omega, h2⟩
    have fr : ∀ q, (q < 30 ∨ 43 < q) → gLooks (gStart μ pl n) pl n i q = gStart μ pl n q := (gLooks_inv (pl := pl) h6 (gLine_qu n : zQu (gStart μ pl n) n n) hs0 gStart_lat i (by omega)).2
    have frR := zEq.looks (μ := rStart τ n) (n := n) (Q := qv (gStart μ pl n)) i
    have frS := zEq.start (μ := τ) (n := n)
    have r75 : ∀ q, 70 ≤ q → q ≤ 75 → rLooks (rStart τ n) n (qv (gStart μ pl n)) i q = τ q := fun q h1 h2 => by
      rw [frR.1 q (by unfold zMe; omega), frS.1 q (by unfold zMe; omega)]
    have hHPi : zHP (gLooks (gStart μ pl n) pl n i) (rLooks (rStart τ n) n (qv (gStart μ pl n)) i) pl n := hHP.congr hpl (fun q hq => by rw [fr q (by omega), gStart_ne (by omega)]) r75
    obtain ⟨s, hs, es⟩ := (hHP.2.1 _ hq).1
    have e29 : (gLooks (gStart μ pl n) pl n i 29 i).toNatClampNeg = qv (gStart μ pl n) i := by rw [fr 29 (by omega)]; rfl
    have e18 : (gLooks (gStart μ pl n) pl n i 18 (qv (gStart μ pl n) i)).toNatClampNeg = s := by
      rw [fr 18 (by omega), gStart_ne (by omega), (hHP.1 _ hq).1, es, nI_clamp (show s < 2 ^ 31 by omega)]
    have e71 : rLooks (rStart τ n) n (qv (gStart μ pl n)) i 71 (qv (gStart μ pl n) i) = nI s := by rw [r75 71 (by omega) (by omega)]; exact es
    rw [gLooks, rLooks, e29, e18, e71, nI_clamp (show s < 2 ^ 31 by omega)]
    have hnd : ¬ ∃ a, a < i ∧ qv (gStart μ pl n) a = qv (gStart μ pl n) i := fun h => by
      obtain ⟨a, h1, h2⟩ := h
      exact hO.inj h1 (by omega) h2
    have := zLook hHPi ih hnd hq h6 hpl e71 (by omega) (by omega) (by omega)
    rw [show 1300 + 30 * (i + 1) = 1300 + 30 * i + 30 by omega]
    refine this.congrD (fun v => ⟨fun h => ?_, fun h => ?_⟩)
    · rcases h with ⟨a, h1, h2⟩ | h
      · exact ⟨a, by omega, h2⟩
      · exact ⟨i, by omega, h.symm⟩
    · obtain ⟨a, h1, h2⟩ := h
      rcases (show a < i ∨ a = i by omega) with q | q
      · exact Or.inl ⟨a, q, h2⟩
      · subst q; exact Or.inr h2.symm
