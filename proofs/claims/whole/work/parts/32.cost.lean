
theorem zOrd.uniq {co : Nat → Int32} {n : Nat} {Q Q' : Nat → Nat} (h6 : n ≤ 6) (h : zOrd co n Q) (h' : zOrd co n Q') : ∀ i, i ≤ n → (∀ a, a < i → Q a = Q' a) ∧ rMask Q i = rMask Q' i
  | 0, _ => ⟨fun a ha => absurd ha (Nat.not_lt_zero a), rfl⟩
  | i + 1, hi => by
    obtain ⟨h1, h2⟩ := zOrd.uniq h6 h h' i (by omega)
    have e1 := rNx_Q h6 h (i := i) (by omega)
    have e2 := rNx_Q h6 h' (i := i) (by omega)
    rw [h2] at e1
    have e3 : Q i = Q' i := by
      have e := congrArg Int32.toInt (e1.symm.trans e2)
      have q1 := h.1 i (by omega)
      have q2 := h'.1 i (by omega)
      rw [nI_toInt (by omega), nI_toInt (by omega)] at e
      omega
    refine ⟨fun a ha => ?_, by rw [rMask, rMask, h2, e3]⟩
    rcases (show a < i ∨ a = i by omega) with q | q
    · exact h1 a q
    · rw [q]; exact e3
theorem rLooks_Q {μ : Mem} {n : Nat} {Q Q' : Nat → Nat} : ∀ i, (∀ a, a < i → Q a = Q' a) → rLooks μ n Q i = rLooks μ n Q' i
  | 0, _ => rfl
  | i + 1, h => by rw [rLooks, rLooks, rLooks_Q i (fun a ha => h a (by omega)), h i (by omega)]
theorem rRun_Q {μ : Mem} {n : Nat} {Q Q' : Nat → Nat} (h6 : n ≤ 6) (h : zOrd (μ 75) n Q) (h' : zOrd (μ 75) n Q') : rRun μ n Q = rRun μ n Q' := rLooks_Q n (zOrd.uniq h6 h h' n (Nat.le_refl n)).1
/-- the order in which they are looked at -/
def zOr (co : Nat → Int32) (n : Nat) : Nat → Nat := qv (gStart (fun q i => if q = 23 then co i else 0) 22 n)
theorem zQ_ord {co : Nat → Int32} {n : Nat} (h6 : n ≤ 6) : zOrd co n (zOr co n) := start_ord (μ := fun q i => if q = 23 then co i else 0) (pl := 22) (n := n) (by omega) h6
def rNow (μ : Mem) (n : Nat) : Mem := rRun μ n (zOr (μ 75) n)
def zCan (τ : Mem) (p : Nat → Int32) : Mem := fun q i =>
  if q = 16 then τ 70 (2 * i) else if q = 17 then τ 70 (2 * i + 1) else if q = 18 then τ 71 i else if q = 19 then τ 72 i else if q = 20 then τ 73 i else if q = 21 then τ 74 i else if q = 22 then (if i = 3 then p 18 else p 19) else if q = 23 then p i else if q = 24 then p (12 + i) else if q = 25 then p (6 + i) else 0
/-- what an evening costs -/
def zCo (τ : Mem) (p : Nat → Int32) (n : Nat) : Int32 := fCost (gRun (zCan τ p) 22 n) n
theorem zCan_ho {σ τ : Mem} {p : Nat → Int32} {n : Nat} (h : zHo σ τ n) : zHo (zCan τ p) τ n := ⟨fun w hw => ⟨rfl, rfl, rfl, rfl⟩, h.2.1, fun a ha => ⟨rfl, rfl, (h.2.2 a ha).2.2⟩⟩
theorem zCan_pl {τ : Mem} {p : Nat → Int32} {n : Nat} : zPl (zCan τ p) 22 p n := ⟨fun w hw => ⟨rfl, rfl, rfl⟩, rfl, rfl⟩
theorem zHo.set {σ τ : Mem} {p : Nat → Int32} {n : Nat} (h : zHo σ τ n) : zHo σ (va_up τ 75 p) n := h.congr (fun _ _ _ => rfl) (fun q a b => va_up_ne _ _ (by omega))
theorem zC_cls {σ τ : Mem} {pl n : Nat} {p : Nat → Int32} (h : zHo σ τ n) (hp : zPl σ pl p n) (hk : zPk p n 1300) (hpl : pl + 3 < 29 ∨ 43 < pl) (h6 : n ≤ 6) : fCost (gRun σ pl n) n = zCo τ p n := by
  have e : (va_up τ 75 p) 75 = p := va_up_self _ _ _
  have g1 : zHP σ (va_up τ 75 p) pl n := h.set.hp (by rw [e]; exact hp) (by rw [e]; exact hk) (Nat.le_refl _)
  have g2 : zHP (zCan τ p) (va_up τ 75 p) 22 n := (zCan_ho h).set.hp (by rw [e]; exact zCan_pl) (by rw [e]; exact hk) (Nat.le_refl _)
  obtain ⟨Q1, q1, -, -, -, -, c1, -⟩ := zEve hpl h6 g1
  obtain ⟨Q2, q2, -, -, -, -, c2, -⟩ := zEve (by omega) h6 g2
  unfold zCo
  rw [c1, c2, rRun_Q h6 q1 q2]
theorem zC_ref {σ τ : Mem} {n : Nat} (h : zHo σ τ n) (hk : zPk (τ 75) n 1300) (h6 : n ≤ 6) : rCost (rNow τ n) = zCo τ (τ 75) n := by
  have g2 : zHP (zCan τ (τ 75)) τ 22 n := (zCan_ho h).hp zCan_pl hk (Nat.le_refl _)
  obtain ⟨Q2, q2, -, -, -, -, c2, -⟩ := zEve (by omega) h6 g2
  unfold zCo rNow
  rw [c2, rRun_Q h6 q2 (zQ_ord h6)]
theorem zC_N {σ τ : Mem} {n : Nat} {p : Nat → Int32} (h : zHo σ τ n) (hk : zPk p n 1300) (h6 : n ≤ 6) : zN (zCo τ p n) 17940 := by
  have e : (va_up τ 75 p) 75 = p := va_up_self _ _ _
  have g2 : zHP (zCan τ p) (va_up τ 75 p) 22 n := (zCan_ho h).set.hp (by rw [e]; exact zCan_pl) (by rw [e]; exact hk) (Nat.le_refl _)
  obtain ⟨Q2, q2, -, -, -, -, c2, -, -, c3⟩ := zEve (by omega) h6 g2
  exact c3
/-- what counts of a plan -/
def zPq (p p' : Nat → Int32) (n : Nat) : Prop := (∀ w, w < n → p' w = p w ∧ p' (12 + w) = p (12 + w) ∧ p' (6 + w) = p (6 + w)) ∧ p' 18 = p 18 ∧ p' 19 = p 19
theorem zPq.of {p p' : Nat → Int32} {n : Nat} (h6 : n ≤ 6) (e : ∀ k, k < 20 → p' k = p k) : zPq p p' n := ⟨fun w hw => ⟨e w (by omega), e (12 + w) (by omega), e (6 + w) (by omega)⟩, e 18 (by omega), e 19 (by omega)⟩
theorem zPl.pq {σ : Mem} {pl n : Nat} {p p' : Nat → Int32} (h : zPl σ pl p n) (e : zPq p p' n) : zPl σ pl p' n := by
  refine ⟨fun w hw => ?_, by rw [e.2.1]; exact h.2.1, by rw [e.2.2]; exact h.2.2⟩
  obtain ⟨a, b, c⟩ := e.1 w hw
  rw [a, b, c]
  exact h.1 w hw
theorem zPk.pq {n T : Nat} {p p' : Nat → Int32} (h : zPk p n T) (e : zPq p p' n) : zPk p' n T := by
  refine ⟨fun w hw => ?_, by rw [e.2.1]; exact h.2.1, by rw [e.2.2]; exact h.2.2⟩
  obtain ⟨a, b, c⟩ := e.1 w hw
  rw [a, b, c]
  exact h.1 w hw
theorem zPk.mono {n T T' : Nat} {p : Nat → Int32} (h : zPk p n T) (hT : T ≤ T') : zPk p n T' := ⟨fun w hw => ⟨(h.1 w hw).1.mono hT, (h.1 w hw).2⟩, h.2⟩
theorem zC_pq {σ τ : Mem} {n : Nat} {p p' : Nat → Int32} (h : zHo σ τ n) (hk : zPk p n 1300) (e : zPq p p' n) (h6 : n ≤ 6) : zCo τ p' n = zCo τ p n :=
  (zC_cls (zCan_ho h) (zCan_pl.pq e) (hk.pq e) (by omega) h6 : fCost (gRun (zCan τ p) 22 n) n = zCo τ p' n).symm
theorem zC_tau {τ τ' : Mem} {n : Nat} {p : Nat → Int32} (e : ∀ q, 70 ≤ q → q ≤ 74 → τ' q = τ q) : zCo τ' p n = zCo τ p n := by
  unfold zCo zCan
  rw [e 70 (by decide) (by decide), e 71 (by decide) (by decide), e 72 (by decide) (by decide), e 73 (by decide) (by decide), e 74 (by decide) (by decide)]
/-- the plan in cell pl as a row -/
def zRow (σ : Mem) (pl : Nat) : Nat → Int32 := fun k => if k < 6 then σ (pl + 1) k else if k < 12 then σ (pl + 3) (k - 6) else if k < 18 then σ (pl + 2) (k - 12) else if k = 18 then σ pl 3 else σ pl 4
theorem zP_pl {σ : Mem} {pl n : Nat} (h6 : n ≤ 6) : zPl σ pl (zRow σ pl) n := by
  refine ⟨fun w hw => ⟨?_, ?_, ?_⟩, rfl, rfl⟩
  · unfold zRow; rw [if_pos (by omega)]
  · unfold zRow; rw [if_neg (by omega), if_neg (by omega), if_pos (by omega), show 12 + w - 12 = w by omega]
  · unfold zRow; rw [if_neg (by omega), if_pos (by omega), show 6 + w - 6 = w by omega]
/-- the class's cost by a plan that is as p -/
theorem zC_by {σ τ : Mem} {pl n : Nat} {p : Nat → Int32} (h : zHo σ τ n) (hp : zPl σ pl p n) (hk : zPk p n 1300) (hpl : pl + 3 < 29 ∨ 43 < pl) (h6 : n ≤ 6) : fCost (gRun σ pl n) n = zCo τ p n := zC_cls h hp hk hpl h6

theorem d_cost {l : Launch} {G : zG} {μ : Mem} {ν : Lng} {n : Nat} (hn : μ 66 17 = nI n) (h6 : n ≤ 6) (hsd : zSidesM μ n) : Cm l G mX10_costNow [.ref 66] μ ν (fun a9 b9 c9 => rCost (rNow μ n) = a9 ∧ rNow μ n = b9 ∧ ν = c9) := c_costNow hn h6 (zQ_ord h6) hsd
theorem rNow_eq {μ : Mem} {n : Nat} : zEq μ (rNow μ n) := rRun_eq
/-- what the reference's tries leave -/
def zFr (τ τ' : Mem) : Prop := (∀ q, q < 78 → q ≠ 75 → q ≠ 66 → τ' q = τ q) ∧ τ' 91 = τ 91 ∧ τ' 96 = τ 96 ∧ (∀ j, j ≠ 38 → j ≠ 39 → τ' 66 j = τ 66 j) ∧ ∀ k, 21 ≤ k → τ' 75 k = τ 75 k
theorem zFr.rf {τ : Mem} : zFr τ τ := ⟨fun _ _ _ _ => rfl, rfl, rfl, fun _ _ _ => rfl, fun _ _ => rfl⟩
theorem zFr.tr {τ τ1 τ2 : Mem} (h : zFr τ τ1) (h2 : zFr τ1 τ2) : zFr τ τ2 := ⟨fun q a b c => (h2.1 q a b c).trans (h.1 q a b c), h2.2.1.trans h.2.1, h2.2.2.1.trans h.2.2.1, fun j a b => (h2.2.2.2.1 j a b).trans (h.2.2.2.1 j a b), fun k a => (h2.2.2.2.2 k a).trans (h.2.2.2.2 k a)⟩
theorem zFr.up {τ : Mem} {k : Nat} {v : Int32} (hk : k < 21) : zFr τ (up2 τ 75 k v) := ⟨fun q _ h _ => up2_ne h, up2_ne (by decide), up2_ne (by decide), fun j _ _ => by rw [up2_ne (by decide)], fun i hi => by rw [up2_row, if_neg (by omega)]⟩
theorem zFr.up9 {τ : Mem} {q k : Nat} {v : Int32} (hq : 92 ≤ q ∧ q ≤ 95) : zFr τ (up2 τ q k v) := ⟨fun a h _ _ => up2_ne (by omega), up2_ne (by omega), up2_ne (by omega), fun j _ _ => by rw [up2_ne (by omega)], fun i hi => by rw [up2_ne (by omega)]⟩
theorem zFr.eq {τ τ' : Mem} (h : zEq τ τ') : zFr τ τ' := ⟨fun q a b c => h.1 q (by unfold zMe; omega), h.1 91 (by unfold zMe; omega), h.1 96 (by unfold zMe; omega), h.2, fun k _ => by rw [h.1 75 (by unfold zMe; omega)]⟩
theorem zFr.now {τ : Mem} {n : Nat} : zFr τ (rNow τ n) := zFr.eq rNow_eq
/-- held, tried, released: all is as it was -/
theorem zFr.back {τ τ' : Mem} (h : zFr (rCp τ 91 75 0 0 21) τ') : zKeepT τ (rCp τ' 75 91 0 0 21) ∧ ∀ q, q < 66 → rCp τ' 75 91 0 0 21 q = τ q := by
  obtain ⟨h1, h2, h3, h4, h5⟩ := h
  have e75 : rCp τ' 75 91 0 0 21 75 = τ 75 := by
    funext k
    rw [rCp_at (by decide)]
    by_cases e : 0 ≤ k ∧ k < 0 + 21
    · rw [if_pos e, h2, rCp_at (by decide), if_pos (by omega)]
      congr 1
      omega
    · rw [if_neg e, h5 k (by omega), rCp_ne (by decide)]
  refine ⟨⟨fun q hq => ?_, ?_, ?_, ?_, ?_⟩, fun q hq => ?_⟩
  · by_cases e : q = 75
    · rw [e]; exact e75
    · rw [rCp_ne e]
      by_cases e2 : q = 96
      · rw [e2, h3, rCp_ne (by decide)]
      · rw [h1 q (by unfold zTq at hq; omega) e (by unfold zTq at hq; omega), rCp_ne (by unfold zTq at hq; omega)]
  · rw [rCp_ne (by decide), h4 0 (by decide) (by decide), rCp_ne (by decide)]
  · rw [rCp_ne (by decide), h4 6 (by decide) (by decide), rCp_ne (by decide)]
  · rw [rCp_ne (by decide), h4 17 (by decide) (by decide), rCp_ne (by decide)]
  · rw [rCp_ne (by decide), h4 45 (by decide) (by decide), rCp_ne (by decide)]
  · rw [rCp_ne (by omega), h1 q (by omega) (by omega) (by omega), rCp_ne (by omega)]
theorem zFr.n {τ τ' : Mem} {n : Nat} (h : zFr τ τ') (hn : τ 66 17 = nI n) : τ' 66 17 = nI n := (h.2.2.2.1 17 (by decide) (by decide)).trans hn
theorem zFr.sd {τ τ' : Mem} {n : Nat} (h : zFr τ τ') (hs : zSidesM τ n) : zSidesM τ' n := fun w hw => by rw [h.1 71 (by decide) (by decide) (by decide)]; exact hs w hw
theorem zFr.hold {τ : Mem} : zEq τ τ := zEq.rf
theorem hold_n {τ : Mem} {q : Nat} (h : q ≠ 91) : rCp τ 91 75 0 0 21 q = τ q := rCp_ne h 21
/-- what the class's tries leave -/
def zFc (σ σ' : Mem) : Prop := ∀ q, q < 29 ∨ 53 ≤ q → σ' q = σ q
theorem zFc.rf {σ : Mem} : zFc σ σ := fun _ _ => rfl
theorem zFc.tr {σ σ1 σ2 : Mem} (h : zFc σ σ1) (h2 : zFc σ1 σ2) : zFc σ σ2 := fun q hq => (h2 q hq).trans (h q hq)
theorem zFc.up {σ : Mem} {q k : Nat} {v : Int32} (h : 29 ≤ q ∧ q ≤ 52) : zFc σ (up2 σ q k v) := fun a ha => up2_ne (by omega)
theorem zFc.keep {σ σ' : Mem} (h : zFc σ σ') : zKeepC σ σ' := ⟨fun q hq => h q (by unfold zCq at hq; omega), by rw [h 1 (by omega)]⟩
theorem zFc.hi {σ σ' : Mem} (h : zFc σ σ') : zKeepT σ σ' := zKeepT.hi (fun q hq => h q (by omega))
theorem zFc.cp {σ : Mem} : zFc σ (fPlanCp σ 45 22) := fun q hq => fPlanCp_ne (by omega) (by omega) (by omega) (by omega)
theorem zFc.fill {σ : Mem} {k n : Nat} {v : Int32} (h : 29 ≤ k ∧ k ≤ 52) : zFc σ (fFill σ k n v) := fun q hq => by unfold fFill; exact va_up_ne _ _ (by omega)
theorem zFc.run {σ : Mem} {n pl : Nat} (h6 : n ≤ 6) (hs : zSides σ n) : zFc σ (gRun σ pl n) := fun q hq => gRun_ne h6 hs (by omega)
theorem zFc.n {σ σ' : Mem} {n : Nat} (h : zFc σ σ') (hn : σ 15 6 = nI n) : σ' 15 6 = nI n := by rw [h 15 (by omega)]; exact hn
theorem zFc.sd {σ σ' : Mem} {n : Nat} (h : zFc σ σ') (hs : zSides σ n) : zSides σ' n := fun w hw => by rw [h 18 (by omega)]; exact hs w hw
theorem zFc.ho {σ σ' τ : Mem} {n : Nat} (h : zFc σ σ') (hs : zHo σ τ n) : zHo σ' τ n := hs.congr (fun q _ _ => h q (by omega)) (fun _ _ _ => rfl)
theorem zFr.ho {σ τ τ' : Mem} {n : Nat} (h : zFr τ τ') (hs : zHo σ τ n) : zHo σ τ' n := hs.congr (fun _ _ _ => rfl) (fun q _ _ => h.1 q (by omega) (by omega) (by omega))
/-- both tried -/
theorem zOp.tried {Mx Mm : zM} {ax am : List Value} {l : Launch} {G : zG} {μ μ1 τ3 : Mem} {ν : Lng} {n : Nat} {r r2 : Int32} (h : zRel μ ν μ n) (h1 : Cm l G Mx ax μ ν (fun a9 b9 c9 => r = a9 ∧ μ1 = b9 ∧ ν = c9)) (h2 : Cm l G Mm am μ1 ν (fun a9 b9 c9 => r2 = a9 ∧ rCp τ3 75 91 0 0 21 = b9 ∧ ν = c9)) (e : r2 = r) (hc : zFc μ μ1) (hr : zFr (rCp μ1 91 75 0 0 21) τ3) : ∃ (r : Int32) (μ1 : Mem) (ν1 : Lng) (μ2 : Mem) (n2 : Nat),
    Cm l G Mx ax μ ν (fun a9 b9 c9 => r = a9 ∧ μ1 = b9 ∧ ν1 = c9) ∧ Cm l G Mm am μ1 ν1 (fun a9 b9 c9 => r = a9 ∧ μ2 = b9 ∧ ν1 = c9) ∧ zRel μ2 ν1 μ2 n2 :=
  zOp.both h1 h2 e ((h.congr hc.keep hc.hi).congr zKeepC.rf hr.back.1) hr.back.2
set_option maxRecDepth 100000 in
set_option maxHeartbeats 400000 in
theorem c_trialCost {l : Launch} {G : zG} {μ : Mem} {ν : Lng} {n : Nat} (hn : μ 15 6 = nI n) (h6 : n ≤ 6) (hsd : zSides μ n)  : Cm l G mX8_trialCost [.ref 44] μ ν (fun a9 b9 c9 => fCost (gRun μ 45 n) n = a9 ∧ gRun μ 45 n = b9 ∧ ν = c9) := by
  have hn1 : gRun μ 45 n 15 6 = nI n := by rw [gRun_ne h6 hsd (by omega)]; exact hn
  refine Con.of (by decide) (Nat.le_of_ble_eq_true rfl) ?_
  show Am l G mX8_trialCost 0 [(0, .ref 44)] [] μ ν _
  refine z_aload_n dX8_trialCost_0 rfl ?_
  refine m_getr dX8_trialCost_1 fX8_39 sh44 rfl ?_
  refine z_aload_n dX8_trialCost_4 rfl ?_
  refine m_getr dX8_trialCost_5 fX8_12 sh44 rfl ?_
  refine m_callVv (As := [.ref _]) dX8_trialCost_8 kX8_48 ⟨rfl, rfl⟩ rfl ⟨rfl, rfl⟩ rfl rfl sh26 rfl rfl (c_run zPlan45 (by omega) hn h6 hsd) (fun μ8 ν8 hk8 => ?_)
  obtain ⟨rfl, rfl⟩ := hk8
  refine z_aload_n dX8_trialCost_11 rfl ?_
  refine m_getr dX8_trialCost_12 fX8_39 sh44 rfl ?_
  refine m_callV (As := []) dX8_trialCost_15 kX8_53 ⟨rfl, rfl⟩ rfl ⟨rfl, rfl⟩ rfl rfl sh26 rfl rfl (c_cost hn1 h6) (fun r15 μ15 ν15 hk15 => ?_)
  obtain ⟨rfl, rfl, rfl⟩ := hk15
  refine m_iret dX8_trialCost_18 rfl rfl ?_
  exact ⟨rfl, rfl, rfl⟩
def gWeigh (μ : Mem) (n : Nat) (c : Int32) : Mem := if gRun μ 45 n 44 6 ≤ fCost (gRun μ 45 n) n then gRun μ 45 n else up2 (up2 (gRun μ 45 n) 44 5 c) 44 6 (fCost (gRun μ 45 n) n)
set_option maxRecDepth 100000 in
set_option maxHeartbeats 400000 in
theorem c_weigh {l : Launch} {G : zG} {μ : Mem} {ν : Lng} {n : Nat} (hn : μ 15 6 = nI n) (h6 : n ≤ 6) (hsd : zSides μ n) {c : Int32}  : Cm l G mX8_weigh [.ref 44, .int c] μ ν (fun _ b9 c9 => gWeigh μ n c = b9 ∧ ν = c9) := by
  have hn1 : gRun μ 45 n 15 6 = nI n := by rw [gRun_ne h6 hsd (by omega)]; exact hn
  refine Con.of (by decide) (Nat.le_of_ble_eq_true rfl) ?_
  show Am l G mX8_weigh 0 [(0, .ref 44), (1, .int c)] [] μ ν _
  refine z_aload_n dX8_weigh_0 rfl ?_
  refine m_getr dX8_weigh_1 fX8_39 sh44 rfl ?_
  refine z_aload_n dX8_weigh_4 rfl ?_
  refine m_getr dX8_weigh_5 fX8_12 sh44 rfl ?_
  refine m_callVv (As := [.ref _]) dX8_weigh_8 kX8_48 ⟨rfl, rfl⟩ rfl ⟨rfl, rfl⟩ rfl rfl sh26 rfl rfl (c_run zPlan45 (by omega) hn h6 hsd) (fun μ8 ν8 hk8 => ?_)
  obtain ⟨rfl, rfl⟩ := hk8
  refine z_aload_n dX8_weigh_11 rfl ?_
  refine m_getr dX8_weigh_12 fX8_39 sh44 rfl ?_
  refine m_callV (As := []) dX8_weigh_15 kX8_53 ⟨rfl, rfl⟩ rfl ⟨rfl, rfl⟩ rfl rfl sh26 rfl rfl (c_cost hn1 h6) (fun r15 μ15 ν15 hk15 => ?_)
  obtain ⟨rfl, rfl, rfl⟩ := hk15
  refine z_istore_n (i := 2) (fun y => [(2, .int y), (0, .ref 44), (1, .int c)]) dX8_weigh_18 rfl rfl (fun _ => rfl) (fun x9 e9 => ?_)
  subst e9
  refine z_iload_n dX8_weigh_19 rfl ?_
  refine z_aload_n dX8_weigh_20 rfl ?_
  refine m_geti dX8_weigh_21 fX8_29 sh44 rfl ?_
  refine z_icmp_ge 37 dX8_weigh_24 (by decide) (fun h24 => ?_) (fun h24 => ?_)
  · skip
    refine m_ret dX8_weigh_37 rfl ?_
    refine ⟨?_, rfl⟩
    subst_vars
    simp only [gWeigh, if_pos h24]
  · skip
    refine z_aload_n dX8_weigh_27 rfl ?_
    refine z_iload_n dX8_weigh_28 rfl ?_
    refine m_puti dX8_weigh_29 fX8_25 (fun q h => by cases h; rfl) rfl rfl sh44 rfl ?_
    refine z_aload_n dX8_weigh_32 rfl ?_
    refine z_iload_n dX8_weigh_33 rfl ?_
    refine m_puti dX8_weigh_34 fX8_29 (fun q h => by cases h; rfl) rfl rfl sh44 rfl ?_
    refine m_ret dX8_weigh_37 rfl ?_
    refine ⟨?_, rfl⟩
    subst_vars
    simp only [gWeigh, if_neg h24]
def gSt (μ : Mem) : Mem := up2 (up2 (fPlanCp μ 45 22) 44 5 0) 44 6 1000000000
theorem gSt_fc {μ : Mem} : zFc μ (gSt μ) := (zFc.cp.tr (zFc.up (by decide))).tr (zFc.up (by decide))
theorem gSt_ne {μ : Mem} {q : Nat} (h : q ≠ 44) : gSt μ q = fPlanCp μ 45 22 q := (up2_ne h).trans (up2_ne h)
set_option maxRecDepth 100000 in
set_option maxHeartbeats 400000 in
theorem c_startSearch {l : Launch} {G : zG} {μ : Mem} {ν : Lng}  : Cm l G mX8_startSearch [.ref 44] μ ν (fun _ b9 c9 => gSt μ = b9 ∧ ν = c9) := by
  refine Con.of (by decide) (Nat.le_of_ble_eq_true rfl) ?_
  show Am l G mX8_startSearch 0 [(0, .ref 44)] [] μ ν _
  refine z_aload_n dX8_startSearch_0 rfl ?_
  refine m_getr dX8_startSearch_1 fX8_12 sh44 rfl ?_
  refine z_aload_n dX8_startSearch_4 rfl ?_
  refine m_getr dX8_startSearch_5 fX8_36 sh44 rfl ?_
  refine m_callVv (As := [.ref _]) dX8_startSearch_8 kX8_43 ⟨rfl, rfl⟩ rfl ⟨rfl, rfl⟩ rfl rfl sh45 rfl rfl (c_planCp zPlan45 zPlan22) (fun μ8 ν8 hk8 => ?_)
  obtain ⟨rfl, rfl⟩ := hk8
  refine z_aload_n dX8_startSearch_11 rfl ?_
  refine z_iconst (v := 0) dX8_startSearch_12 rfl ?_
  refine m_puti dX8_startSearch_13 fX8_25 (fun q h => by cases h; rfl) rfl rfl sh44 rfl ?_
  refine z_aload_n dX8_startSearch_16 rfl ?_
  refine z_ldc dX8_startSearch_17 cX8_47 ?_
  refine m_puti dX8_startSearch_19 fX8_29 (fun q h => by cases h; rfl) rfl rfl sh44 rfl ?_
  refine m_ret dX8_startSearch_22 rfl ?_
  exact ⟨rfl, rfl⟩
