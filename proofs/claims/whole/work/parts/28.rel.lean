
/-- a plan of the class, cell pl, and a row of the reference -/
def zPl (σ : Mem) (pl : Nat) (p : Nat → Int32) (n : Nat) : Prop :=
  (∀ w, w < n → σ (pl + 1) w = p w ∧ σ (pl + 2) w = p (12 + w) ∧ σ (pl + 3) w = p (6 + w)) ∧ σ pl 3 = p 18 ∧ σ pl 4 = p 19
def zPk (p : Nat → Int32) (n T : Nat) : Prop :=
  (∀ w, w < n → zN (p w) T ∧ (∃ k : Nat, 1 ≤ k ∧ k ≤ 9 ∧ p (12 + w) = nI k) ∧ zN (p (6 + w)) 2) ∧ zN (p 18) 1 ∧ zN (p 19) 9
def zHo (σ τ : Mem) (n : Nat) : Prop :=
  (∀ w, w < n → σ 18 w = τ 71 w ∧ σ 19 w = τ 72 w ∧ σ 20 w = τ 73 w ∧ σ 21 w = τ 74 w) ∧
  (∀ w, w < n → zN (τ 71 w) 1 ∧ zN (τ 72 w) 30 ∧ zN (τ 73 w) 99 ∧ zN (τ 74 w) 1) ∧
  (∀ a, a < 2 → σ 16 a = τ 70 (2 * a) ∧ σ 17 a = τ 70 (2 * a + 1) ∧ (∃ k : Nat, 1 ≤ k ∧ k ≤ 9 ∧ τ 70 (2 * a) = nI k) ∧ zN (τ 70 (2 * a + 1)) 9)
theorem zHo.hp {σ τ : Mem} {pl n T : Nat} (h : zHo σ τ n) (hp : zPl σ pl (τ 75) n) (hk : zPk (τ 75) n T) (hT : T ≤ 1300) : zHP σ τ pl n := by
  refine ⟨fun w hw => ?_, fun w hw => ?_, ⟨hp.2.1, hk.2.1, hp.2.2, hk.2.2⟩, h.2.2⟩
  · obtain ⟨a1, a2, a3, a4⟩ := h.1 w hw
    exact ⟨a1, a2, a3, a4, (hp.1 w hw).1, (hp.1 w hw).2.1, (hp.1 w hw).2.2⟩
  · obtain ⟨a1, a2, a3, a4⟩ := h.2.1 w hw
    obtain ⟨b1, b2, b3⟩ := hk.1 w hw
    exact ⟨a1, a2, a3, a4, b1.mono hT, b2, b3⟩
def zText (σ τ : Mem) : Prop := ∃ L : Nat, L ≤ 250 ∧ σ 1 4 = nI L ∧ τ 66 0 = nI L ∧ ∀ i, i < L → σ 13 i = τ 67 i ∧ zN (τ 67 i) 255
def zBook (σ τ : Mem) (n : Nat) : Prop := ∃ b : Nat, b ≤ 20 ∧ σ 0 8 = nI b ∧ τ 66 45 = nI b ∧ ∀ i, i < b → σ 54 i = τ 96 (2 * i) ∧ σ 55 i = τ 96 (2 * i + 1) ∧ ∃ m : Nat, m < n ∧ τ 96 (2 * i) = nI m
def zSeed (x : Int64) (y : Int32) : Prop := ∃ s : Nat, s < 2 ^ 31 ∧ x = lN s ∧ y = nI s
def zImg (σ : Mem) (ν : Lng) (τ : Mem) (n j : Nat) : Prop :=
  (σ (56 + 5 * j) 2 = 0 ∧ τ 77 j = 0) ∨ (σ (56 + 5 * j) 2 = 1 ∧ τ 77 j = 1 ∧ zPl σ (56 + 5 * j + 1) (fun i => τ 76 (21 * j + i)) n ∧ zPk (fun i => τ 76 (21 * j + i)) n 999 ∧ zSeed (ν (56 + 5 * j)) (τ 76 (21 * j + 20)))
def zRel (σ : Mem) (ν : Lng) (τ : Mem) (n : Nat) : Prop :=
  n ≤ 6 ∧ σ 15 6 = nI n ∧ τ 66 17 = nI n ∧ zHo σ τ n ∧ zPl σ 22 (τ 75) n ∧ zPk (τ 75) n 999 ∧ zText σ τ ∧ σ 0 10 = τ 66 6 ∧ zBook σ τ n ∧ zSeed (ν 0) (τ 75 20) ∧ zImg σ ν τ n 0 ∧ zImg σ ν τ n 1
def zCq (q : Nat) : Prop := q = 0 ∨ q = 13 ∨ (15 ≤ q ∧ q ≤ 25) ∨ (54 ≤ q ∧ q ≤ 65)
def zTq (q : Nat) : Prop := q = 67 ∨ (70 ≤ q ∧ q ≤ 77) ∨ q = 96
def zKeepC (σ σ' : Mem) : Prop := (∀ q, zCq q → σ' q = σ q) ∧ σ' 1 4 = σ 1 4
def zKeepT (τ τ' : Mem) : Prop := (∀ q, zTq q → τ' q = τ q) ∧ τ' 66 0 = τ 66 0 ∧ τ' 66 6 = τ 66 6 ∧ τ' 66 17 = τ 66 17 ∧ τ' 66 45 = τ 66 45
theorem zKeepC.rf {σ : Mem} : zKeepC σ σ := ⟨fun _ _ => rfl, rfl⟩
theorem zKeepT.rf {τ : Mem} : zKeepT τ τ := ⟨fun _ _ => rfl, rfl, rfl, rfl, rfl⟩
theorem zKeepC.lo {σ σ' : Mem} (h : ∀ q, q < 66 → σ' q = σ q) : zKeepC σ σ' := ⟨fun q hq => h q (by unfold zCq at hq; omega), by rw [h 1 (by omega)]⟩
theorem zKeepT.hi {τ τ' : Mem} (h : ∀ q, 66 ≤ q → τ' q = τ q) : zKeepT τ τ' := ⟨fun q hq => h q (by unfold zTq at hq; omega), by rw [h 66 (by omega)], by rw [h 66 (by omega)], by rw [h 66 (by omega)], by rw [h 66 (by omega)]⟩
theorem zKeepT.eq {τ τ' : Mem} (h : zEq τ τ') : zKeepT τ τ' := ⟨fun q hq => h.1 q (by unfold zTq at hq; unfold zMe; omega), h.2 0 (by decide) (by decide), h.2 6 (by decide) (by decide), h.2 17 (by decide) (by decide), h.2 45 (by decide) (by decide)⟩
theorem zKeepC.run {σ : Mem} {pl n : Nat} (h6 : n ≤ 6) (hs : zSides σ n) : zKeepC σ (gRun σ pl n) := ⟨fun q hq => gRun_ne h6 hs (by unfold zCq at hq; omega), by rw [gRun_ne h6 hs (by omega)]⟩
theorem zPl.congr {σ σ' : Mem} {pl n : Nat} {p : Nat → Int32} (h : zPl σ pl p n) (e0 : σ' pl = σ pl) (e1 : σ' (pl + 1) = σ (pl + 1)) (e2 : σ' (pl + 2) = σ (pl + 2)) (e3 : σ' (pl + 3) = σ (pl + 3)) : zPl σ' pl p n := by
  unfold zPl
  rw [e0, e1, e2, e3]
  exact h
theorem zHo.congr {σ τ σ' τ' : Mem} {n : Nat} (h : zHo σ τ n) (h1 : ∀ q, 16 ≤ q → q ≤ 21 → σ' q = σ q) (h2 : ∀ q, 70 ≤ q → q ≤ 74 → τ' q = τ q) : zHo σ' τ' n := by
  unfold zHo
  rw [h1 16 (by decide) (by decide), h1 17 (by decide) (by decide), h1 18 (by decide) (by decide), h1 19 (by decide) (by decide), h1 20 (by decide) (by decide), h1 21 (by decide) (by decide), h2 70 (by decide) (by decide), h2 71 (by decide) (by decide), h2 72 (by decide) (by decide), h2 73 (by decide) (by decide), h2 74 (by decide) (by decide)]
  exact h
theorem zImg.congr {σ τ σ' τ' : Mem} {ν ν' : Lng} {n j : Nat} (hj : j ≤ 1) (h : zImg σ ν τ n j) (h1 : ∀ q, 56 + 5 * j ≤ q → q ≤ 60 + 5 * j → σ' q = σ q) (h2 : τ' 76 = τ 76) (h3 : τ' 77 = τ 77) (h4 : ν' (56 + 5 * j) = ν (56 + 5 * j)) : zImg σ' ν' τ' n j := by
  unfold zImg
  rw [h2, h3, h4, h1 (56 + 5 * j) (by omega) (by omega)]
  rcases h with h | ⟨a1, a2, a3, a4⟩
  · exact Or.inl h
  · exact Or.inr ⟨a1, a2, a3.congr (h1 _ (by omega) (by omega)) (h1 _ (by omega) (by omega)) (h1 _ (by omega) (by omega)) (h1 _ (by omega) (by omega)), a4⟩
theorem zText.congr {σ τ σ' τ' : Mem} (h : zText σ τ) (h1 : σ' 1 4 = σ 1 4) (h2 : σ' 13 = σ 13) (h3 : τ' 66 0 = τ 66 0) (h4 : τ' 67 = τ 67) : zText σ' τ' := by
  unfold zText
  rw [h1, h2, h3, h4]
  exact h
theorem zBook.congr {σ τ σ' τ' : Mem} {n : Nat} (h : zBook σ τ n) (h1 : σ' 0 8 = σ 0 8) (h2 : σ' 54 = σ 54) (h3 : σ' 55 = σ 55) (h4 : τ' 66 45 = τ 66 45) (h5 : τ' 96 = τ 96) : zBook σ' τ' n := by
  unfold zBook
  rw [h1, h2, h3, h4, h5]
  exact h
theorem zRel.congr {σ τ σ' τ' : Mem} {ν : Lng} {n : Nat} (h : zRel σ ν τ n) (hc : zKeepC σ σ') (ht : zKeepT τ τ') : zRel σ' ν τ' n := by
  obtain ⟨h1, h2, h3, h4, h5, h6, h7, h8, h9, h10, h11, h12⟩ := h
  obtain ⟨c1, c2⟩ := hc
  obtain ⟨t1, t2, t3, t4, t5⟩ := ht
  refine ⟨h1, ?_, ?_, h4.congr (fun q a b => c1 q (by unfold zCq; omega)) (fun q a b => t1 q (by unfold zTq; omega)), ?_, ?_, h7.congr c2 (c1 13 (by unfold zCq; omega)) t2 (t1 67 (by unfold zTq; omega)), ?_, h9.congr (by rw [c1 0 (by unfold zCq; omega)]) (c1 54 (by unfold zCq; omega)) (c1 55 (by unfold zCq; omega)) t5 (t1 96 (by unfold zTq; omega)), ?_, h11.congr (by omega) (fun q a b => c1 q (by unfold zCq; omega)) (t1 76 (by unfold zTq; omega)) (t1 77 (by unfold zTq; omega)) rfl, h12.congr (by omega) (fun q a b => c1 q (by unfold zCq; omega)) (t1 76 (by unfold zTq; omega)) (t1 77 (by unfold zTq; omega)) rfl⟩
  · rw [c1 15 (by unfold zCq; omega)]; exact h2
  · rw [t4]; exact h3
  · rw [t1 75 (by unfold zTq; omega)]
    exact h5.congr (c1 22 (by unfold zCq; omega)) (c1 23 (by unfold zCq; omega)) (c1 24 (by unfold zCq; omega)) (c1 25 (by unfold zCq; omega))
  · rw [t1 75 (by unfold zTq; omega)]; exact h6
  · rw [c1 0 (by unfold zCq; omega), t3]; exact h8
  · rw [t1 75 (by unfold zTq; omega)]; exact h10
theorem zRel.hp {σ τ : Mem} {ν : Lng} {n : Nat} (h : zRel σ ν τ n) : zHP σ τ 22 n := h.2.2.2.1.hp h.2.2.2.2.1 h.2.2.2.2.2.1 (by decide)
/-- one call on each side, the class first -/
def zOp (Mx : zM) (ax : List Value) (Mm : zM) (am : List Value) : Prop :=
  ∀ (l : Launch) (G : zG) (μ : Mem) (ν : Lng) (n : Nat), zRel μ ν μ n → ∃ (r : Int32) (μ1 : Mem) (ν1 : Lng) (μ2 : Mem) (n2 : Nat),
    Cm l G Mx ax μ ν (fun a9 b9 c9 => r = a9 ∧ μ1 = b9 ∧ ν1 = c9) ∧ Cm l G Mm am μ1 ν1 (fun a9 b9 c9 => r = a9 ∧ μ2 = b9 ∧ ν1 = c9) ∧ zRel μ2 ν1 μ2 n2
theorem zRel.join {σ τ : Mem} {ν : Lng} {n : Nat} (h : zRel σ ν τ n) (hc : ∀ q, q < 66 → τ q = σ q) : zRel τ ν τ n := h.congr (zKeepC.lo hc) zKeepT.rf
/-- both leave all as it is -/
theorem zOp.same {Mx Mm : zM} {ax am : List Value} {l : Launch} {G : zG} {μ : Mem} {ν : Lng} {n : Nat} {r r2 : Int32} (h : zRel μ ν μ n) (h1 : Cm l G Mx ax μ ν (fun a9 b9 c9 => r = a9 ∧ μ = b9 ∧ ν = c9)) (h2 : Cm l G Mm am μ ν (fun a9 b9 c9 => r2 = a9 ∧ μ = b9 ∧ ν = c9)) (e : r2 = r) : ∃ (r : Int32) (μ1 : Mem) (ν1 : Lng) (μ2 : Mem) (n2 : Nat),
    Cm l G Mx ax μ ν (fun a9 b9 c9 => r = a9 ∧ μ1 = b9 ∧ ν1 = c9) ∧ Cm l G Mm am μ1 ν1 (fun a9 b9 c9 => r = a9 ∧ μ2 = b9 ∧ ν1 = c9) ∧ zRel μ2 ν1 μ2 n2 := by
  subst e
  exact ⟨r2, μ, ν, μ, n, h1, h2, h⟩
/-- each changes its own -/
theorem zOp.both {Mx Mm : zM} {ax am : List Value} {l : Launch} {G : zG} {μ μ1 μ2 : Mem} {ν ν1 : Lng} {n2 : Nat} {r r2 : Int32} (h1 : Cm l G Mx ax μ ν (fun a9 b9 c9 => r = a9 ∧ μ1 = b9 ∧ ν1 = c9)) (h2 : Cm l G Mm am μ1 ν1 (fun a9 b9 c9 => r2 = a9 ∧ μ2 = b9 ∧ ν1 = c9)) (e : r2 = r) (h : zRel μ1 ν1 μ2 n2) (hc : ∀ q, q < 66 → μ2 q = μ1 q) : ∃ (r : Int32) (μ1 : Mem) (ν1 : Lng) (μ2 : Mem) (n2 : Nat),
    Cm l G Mx ax μ ν (fun a9 b9 c9 => r = a9 ∧ μ1 = b9 ∧ ν1 = c9) ∧ Cm l G Mm am μ1 ν1 (fun a9 b9 c9 => r = a9 ∧ μ2 = b9 ∧ ν1 = c9) ∧ zRel μ2 ν1 μ2 n2 := by
  subst e
  exact ⟨r2, μ1, ν1, μ2, n2, h1, h2, h.join hc⟩
theorem rRun_lo {μ : Mem} {n : Nat} {Q : Nat → Nat} : ∀ q, q < 66 → rRun μ n Q q = μ q := fun q hq => (zEq.start.tr (zEq.looks n)).1 q (by unfold zMe; omega)
theorem rRun_eq {μ : Mem} {n : Nat} {Q : Nat → Nat} : zEq μ (rRun μ n Q) := zEq.start.tr (zEq.looks n)
/-- what an evening on both sides leaves -/
theorem zRel.eve {σ τ : Mem} {ν : Lng} {n pl : Nat} {Q : Nat → Nat} (h : zRel σ ν τ n) : zRel (gRun σ pl n) ν (rRun τ n Q) n := h.congr (zKeepC.run h.1 h.hp.sides) (zKeepT.eq rRun_eq)
theorem zRel.runC {σ τ : Mem} {ν : Lng} {n pl : Nat} (h : zRel σ ν τ n) : zRel (gRun σ pl n) ν τ n := h.congr (zKeepC.run h.1 h.hp.sides) zKeepT.rf
theorem zRel.cls {σ : Mem} {ν : Lng} {n pl : Nat} (h : zRel σ ν σ n) : zRel σ ν (gRun σ pl n) n := h.congr zKeepC.rf (zKeepT.hi (fun q hq => gRun_ne h.1 h.hp.sides (by omega)))
theorem zLast_rel {σ τ : Mem} {n : Nat} (h : ∀ w, w < n → zPs σ τ w) : ∀ i, i ≤ n → fLast σ i = rLast τ i
  | 0, _ => rfl
  | i + 1, hi => by
    rw [fLast, rLast, zLast_rel h i (by omega), (h i (by omega)).2.2.1]
    by_cases e : rLast τ i < τ 80 i
    · rw [if_pos e, if_neg (fun q => znle q e)]
    · rw [if_neg e, if_pos (Int32.not_lt.mp e)]
theorem zHow_rel {σ τ : Mem} {n : Nat} {kd : Int32} (h : ∀ w, w < n → zPs σ τ w) : ∀ i, i ≤ n → fHow σ kd i = rHow τ kd i
  | 0, _ => rfl
  | i + 1, hi => by
    rw [fHow, rHow, zHow_rel h i (by omega), (h i (by omega)).1]
    split
    · rfl
    · exact (Int32.add_zero _).symm
theorem doing_rel {σ τ : Mem} {T lf x H Bk : Nat} (hL : zLv σ τ T) (hlf : lf < 2) (hT : T ≤ 1900) (hx : x ≤ 9999) (hH : H ≤ 9) (hB : Bk ≤ 9) (eH : τ 70 (2 * lf) = nI H) (eB : τ 70 (2 * lf + 1) = nI Bk) : fDoing σ (30 + 4 * lf) (nI x) = rAt τ lf (nI x) := by
  unfold fDoing rAt
  rw [hL.busy hlf (show 0 < 2 by decide), hL.busy hlf (show 1 < 2 by decide)]
  have hS : (if fOpen σ (30 + 4 * lf) (nI x) = 0 then (if fBack σ (30 + 4 * lf) (nI x) = 0 then 0 else 3) else 2) = rSwing τ lf (nI x) := by
    rcases (hL.2 lf hlf).1 with ⟨q1, q2, q3, q4⟩ | ⟨ka, kb, p1, p2, p3, p4, p5, p6, p7, p8⟩
    · unfold rSwing fOpen fBack
      rw [q1, q2, q3, q4, if_pos rfl, if_neg (nI_pos (by omega)), if_pos (nI_pos' (by omega))]
      rfl
    · have hP : kb * H ≤ 81 := by
        have := Nat.mul_le_mul p3 hH
        omega
      generalize hPe : kb * H = P at hP
      rw [p4, p5, eH, pk_mul, nI_add, hPe] at p7
      rw [p4, p5, eH, eB, pk_mul, nI_add, nI_add, hPe] at p8
      unfold rSwing fOpen fBack
      rw [p4, p5, eH, eB, p6, p7, p8, pk_mul, hPe, nI_add, nI_add, if_neg (nI_ne0 (by omega) (by omega))]
      have e1 := nI_leI (a := ka) (b := x) (by omega) (by omega)
      have e2 := nI_leI (a := ka + P) (b := x) (by omega) (by omega)
      have e3 := nI_leI (a := ka + P + Bk) (b := x) (by omega) (by omega)
      have e4 := nI_ltI (a := x) (b := ka) (by omega) (by omega)
      have e5 := nI_ltI (a := x) (b := ka + P) (by omega) (by omega)
      simp only [e1, e2, e3, e4, e5]
      by_cases c1 : ka ≤ x
      · have n1 : ¬ x < ka := by omega
        by_cases c2 : ka + P ≤ x
        · have n2 : ¬ x < ka + P := by omega
          by_cases c3 : ka + P + Bk ≤ x
          · simp [c1, c2, c3, n1, n2]
          · simp [c1, c2, c3, n1, n2]
        · have n2 : x < ka + P := by omega
          simp [c1, c2, n1, n2]
      · have n1 : x < ka := by omega
        have n2 : x < ka + P := by omega
        simp [c1, n1, n2]
  rw [hS]
  by_cases c0 : rBusy τ (2 * lf + 0) (nI x) = 0
  · by_cases c1 : rBusy τ (2 * lf + 1) (nI x) = 0
    · simp only [c0, c1, not_true_eq_false, if_true, if_false]
    · simp only [c0, c1, not_true_eq_false, not_false_eq_true, if_true, if_false]
  · simp only [c0, not_false_eq_true, if_true]
