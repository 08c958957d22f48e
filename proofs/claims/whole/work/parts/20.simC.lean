
theorem up2_self {μ : Mem} {k j : Nat} {v : Int32} (h : μ k j = v) : up2 μ k j v = μ := by
  funext a b
  rw [up2_at]
  split
  · rename_i q; rw [q.1, q.2, h]
  · rfl
theorem up2_up2 (μ : Mem) (k j : Nat) (u v : Int32) : up2 (up2 μ k j u) k j v = up2 μ k j v := by
  funext a b
  rw [up2_at, up2_at, up2_at]
  split
  · rfl
  · rfl
section SC
variable {σ τ σ' τ' : Mem} {n T w lf s pl : Nat} {t : Int32} {D : Nat → Prop}
theorem zLv.congr (h : zLv σ τ T) (c1 : ∀ q, 30 ≤ q → q < 38 → σ' q = σ q) (r1 : ∀ q, q ≠ 78 → q ≠ 82 → q ≠ 83 → q ≠ 66 → τ' q = τ q) : zLv σ' τ' T := by
  refine ⟨fun a b ha hb => ?_, fun a ha => ?_⟩
  · rw [c1 _ (by omega) (by omega), c1 _ (by omega) (by omega), c1 _ (by omega) (by omega), r1 84 (by decide) (by decide) (by decide) (by decide), r1 85 (by decide) (by decide) (by decide) (by decide), r1 90 (by decide) (by decide) (by decide) (by decide)]
    exact h.1 a b ha hb
  · unfold zKick
    rw [c1 _ (by omega) (by omega), r1 86 (by decide) (by decide) (by decide) (by decide), r1 87 (by decide) (by decide) (by decide) (by decide), r1 88 (by decide) (by decide) (by decide) (by decide), r1 89 (by decide) (by decide) (by decide) (by decide), r1 70 (by decide) (by decide) (by decide) (by decide)]
    exact h.2 a ha
theorem zMid.congr (h : zMid σ τ n T D w) (hD : ¬ D w) (c1 : ∀ q, 30 ≤ q → q < 38 → σ' q = σ q) (c2 : ∀ v, v ≠ w → σ' (38 + v) = σ (38 + v)) (r1 : ∀ q, q ≠ 78 → q ≠ 82 → q ≠ 83 → q ≠ 66 → τ' q = τ q)
    (r2 : ∀ v, v ≠ w → τ' 78 v = τ 78 v ∧ τ' 82 v = τ 82 v ∧ τ' 83 v = τ 83 v) (hS : zSm τ' n) (k : σ' (38 + w) 0 = τ' 78 w ∧ σ' (38 + w) 3 = τ' 81 w ∧ σ' (38 + w) 5 = τ' 83 w ∧ zN (τ' 83 w) 1) : zMid σ' τ' n T D w := by
  obtain ⟨hA, hP, hZ, -, hLd, -⟩ := h
  refine ⟨hA.congr c1 r1, fun v hv hDv => ?_, fun v hv hDv hne => ?_, hS, fun c hc => ?_, k⟩
  · have hne : v ≠ w := fun e => hD (e ▸ hDv)
    obtain ⟨q1, q2, q3⟩ := r2 v hne
    unfold zPs
    rw [c2 v hne, q1, q2, q3, r1 79 (by decide) (by decide) (by decide) (by decide), r1 80 (by decide) (by decide) (by decide) (by decide), r1 81 (by decide) (by decide) (by decide) (by decide)]
    exact hP v hv hDv
  · obtain ⟨q1, q2, q3⟩ := r2 v hne
    rw [q1, q2, q3]
    exact hZ v hv hDv hne
  · rw [r1 84 (by decide) (by decide) (by decide) (by decide), r1 85 (by decide) (by decide) (by decide) (by decide), r1 90 (by decide) (by decide) (by decide) (by decide)]
    exact hLd c hc
theorem zMid.kind {v : Int32} (h : zMid σ τ n T D w) (hD : ¬ D w) : zMid (up2 σ (38 + w) 0 v) (up2 τ 78 w v) n T D w := by
  have hh := h
  obtain ⟨-, -, -, hS, -, k0, k3, k5, kN⟩ := hh
  refine h.congr hD (fun q h1 h2 => up2_ne (by omega)) (fun u hu => up2_ne (by omega)) (fun q h1 _ _ _ => up2_ne h1) (fun u hu => ⟨by rw [up2_row, if_neg hu], by rw [up2_ne (by decide)], by rw [up2_ne (by decide)]⟩) ?_ ⟨by rw [up2_same, up2_same], ?_, ?_, ?_⟩
  · unfold zSm
    rw [up2_ne (by decide), up2_ne (by decide), up2_ne (by decide), up2_ne (by decide)]
    exact hS
  · rw [up2_row, if_neg (by decide), up2_ne (by decide)]; exact k3
  · rw [up2_row, if_neg (by decide), up2_ne (by decide)]; exact k5
  · rw [up2_ne (by decide)]; exact kN
/-- a tray is lost: the sum -/
theorem zSm.lose {m : Nat} (hm : m < n) (h : zSm τ n) (hN : zN (τ 83 m) 1) : zSm (rLose τ m) n := by
  obtain ⟨h1, h2⟩ := h
  unfold rLose
  refine ⟨?_, ?_⟩
  · rw [up2_ne (show 66 ≠ 83 by decide), up2_same, h1]
    have e := fSum_upd (f := fun w => τ 83 w * τ 73 w) (g := fun w => up2 (up2 τ 66 39 (τ 66 39 + if τ 83 m = 0 then τ 73 m else 0)) 83 m 1 83 w * up2 (up2 τ 66 39 (τ 66 39 + if τ 83 m = 0 then τ 73 m else 0)) 83 m 1 73 w) (w := m) (fun i hi => by
      try dsimp only
      rw [up2_row, if_neg hi, up2_ne (show 83 ≠ 66 by decide), up2_ne (show 73 ≠ 83 by decide), up2_ne (show 73 ≠ 66 by decide)]) hm
    rw [h1] at e
    rw [e]
    rw [up2_same, up2_ne (show 73 ≠ 83 by decide), up2_ne (show 73 ≠ 66 by decide)]
    obtain ⟨k, hk, ek⟩ := hN
    rcases (show k = 0 ∨ k = 1 by omega) with rfl | rfl
    · rw [ek, show nI 0 = 0 from rfl, if_pos rfl]; grind
    · rw [ek, show nI 1 = 1 from rfl, if_neg (by decide)]; grind
  · rw [up2_ne (show 66 ≠ 83 by decide), up2_row, if_neg (by decide), h2]
    refine fSum_congr (fun i _ => ?_)
    rw [up2_ne (by decide), up2_ne (by decide)]
theorem rLose_83 {m v : Nat} : rLose τ m 83 v = if v = m then 1 else τ 83 v := by
  unfold rLose
  rw [up2_row, up2_ne (by decide)]
theorem rLose_r {m q : Nat} (h1 : q ≠ 66) (h2 : q ≠ 83) : rLose τ m q = τ q := rLose_ne h1 h2
theorem zMid.lose (h : zMid σ τ n T D w) (hD : ¬ D w) (hw : w < n) : zMid (up2 σ (38 + w) 5 1) (rLose τ w) n T D w := by
  have hh := h
  obtain ⟨-, -, -, hS, -, k0, k3, k5, kN⟩ := hh
  refine h.congr hD (fun q h1 h2 => up2_ne (by omega)) (fun u hu => up2_ne (by omega)) (fun q h1 h2 h3 h4 => rLose_ne h4 h3) (fun u hu => ⟨by rw [rLose_ne (by decide) (by decide)], by rw [rLose_ne (by decide) (by decide)], by rw [rLose_83, if_neg hu]⟩) (hS.lose hw kN) ⟨?_, ?_, ?_, ?_⟩
  · rw [up2_row, if_neg (by decide), rLose_ne (by decide) (by decide)]; exact k0
  · rw [up2_row, if_neg (by decide), rLose_ne (by decide) (by decide)]; exact k3
  · rw [up2_same, rLose_83, if_pos rfl]
  · rw [rLose_83, if_pos rfl]; exact ⟨1, by omega, rfl⟩
theorem zMid.kick {x kb : Nat} {h b : Int32} (hM : zMid σ τ n T D w) (h6 : w < 6) (hl : lf < 2) (hx : x ≤ T) (ht : t = nI x) (h1 : 1 ≤ kb) (h9 : kb ≤ 9) (ek : τ 75 (12 + w) = nI kb) (eh : h = τ 75 (12 + w) * τ 70 (2 * lf)) (eb : b = τ 70 (2 * lf + 1)) : zMid (fKick σ (30 + 4 * lf) t h b) (rKicked τ w lf t) n T D w := by
  obtain ⟨⟨hA, hK⟩, hP, hZ, hS, hLd, k0, k3, k5, kN⟩ := hM
  have nn : ∀ q, q ≠ 86 → q ≠ 87 → q ≠ 89 → rKicked τ w lf t q = τ q := fun q a1 a2 a3 => by
    unfold rKicked
    rw [up2_ne a3, up2_ne a2, up2_ne a1]
  have e86 : ∀ a, rKicked τ w lf t 86 a = if a = lf then t else τ 86 a := fun a => by
    unfold rKicked
    rw [up2_ne (by decide), up2_ne (by decide), up2_row]
  have e87 : ∀ a, rKicked τ w lf t 87 a = if a = lf then τ 75 (12 + w) else τ 87 a := fun a => by
    unfold rKicked
    rw [up2_ne (show 87 ≠ 89 by decide), up2_row, up2_ne (show 87 ≠ 86 by decide), up2_ne (show 75 ≠ 86 by decide)]
  have e89 : ∀ a, rKicked τ w lf t 89 a = if a = lf then τ 89 lf + 1 else τ 89 a := fun a => by
    unfold rKicked
    rw [up2_row, up2_ne (show 89 ≠ 87 by decide), up2_ne (show 89 ≠ 86 by decide)]
  have c0 : ∀ q, q ≠ 30 + 4 * lf → fKick σ (30 + 4 * lf) t h b q = σ q := fun q hq => fKick_ne hq
  have f3 : fKick σ (30 + 4 * lf) t h b (30 + 4 * lf) 3 = t := by
    unfold fKick
    rw [up2_row, if_neg (by decide), up2_row, if_neg (by decide), up2_row, if_neg (by decide), up2_same]
  have f4 : fKick σ (30 + 4 * lf) t h b (30 + 4 * lf) 4 = t + h := by
    unfold fKick
    rw [up2_row, if_neg (by decide), up2_row, if_neg (by decide), up2_same]
  have f5 : fKick σ (30 + 4 * lf) t h b (30 + 4 * lf) 5 = t + h + b := by
    unfold fKick
    try dsimp only
    rw [up2_row, if_neg (by decide), up2_same, up2_same]
  have f6 : fKick σ (30 + 4 * lf) t h b (30 + 4 * lf) 6 = σ (30 + 4 * lf) 6 := by
    unfold fKick
    rw [up2_row, if_neg (by decide), up2_row, if_neg (by decide), up2_row, if_neg (by decide), up2_row, if_neg (by decide)]
  have f7 : fKick σ (30 + 4 * lf) t h b (30 + 4 * lf) 7 = σ (30 + 4 * lf) 7 + 1 := by
    unfold fKick
    try dsimp only
    rw [up2_same, up2_row, if_neg (by decide), up2_row, if_neg (by decide), up2_row, if_neg (by decide)]
  have n84 := nn 84 (by decide) (by decide) (by decide)
  have n85 := nn 85 (by decide) (by decide) (by decide)
  have n90 := nn 90 (by decide) (by decide) (by decide)
  have n70 := nn 70 (by decide) (by decide) (by decide)
  have n88 := nn 88 (by decide) (by decide) (by decide)
  have n78 := nn 78 (by decide) (by decide) (by decide)
  have n79 := nn 79 (by decide) (by decide) (by decide)
  have n80 := nn 80 (by decide) (by decide) (by decide)
  have n81 := nn 81 (by decide) (by decide) (by decide)
  have n82 := nn 82 (by decide) (by decide) (by decide)
  have n83 := nn 83 (by decide) (by decide) (by decide)
  have n66 := nn 66 (by decide) (by decide) (by decide)
  have n73 := nn 73 (by decide) (by decide) (by decide)
  refine ⟨⟨fun a b' ha hb => ?_, fun a ha => ?_⟩, fun v hv hDv => ?_, fun v hv hDv hne => ?_, ?_, fun c hc => ?_, ?_⟩
  · rw [c0 _ (by omega), c0 _ (by omega), c0 _ (by omega), n84, n85, n90]
    exact hA a b' ha hb
  · unfold zKick
    rw [e86, e87, e89, n70, n88]
    by_cases e : a = lf
    · subst e
      rw [if_pos rfl, if_pos rfl, if_pos rfl, f3, f4, f5, f6, f7]
      refine ⟨Or.inr ⟨x, kb, hx, h1, h9, ht, ek, ht, by rw [eh], by rw [eh, eb]⟩, (hK a ha).2.1, by rw [(hK a ha).2.2]⟩
    · rw [if_neg e, if_neg e, if_neg e, c0 _ (by omega)]
      exact hK a ha
  · unfold zPs
    rw [c0 _ (by omega), n78, n79, n80, n81, n82, n83]
    exact hP v hv hDv
  · rw [n78, n82, n83]; exact hZ v hv hDv hne
  · unfold zSm
    rw [n66, n73, n82, n83]; exact hS
  · rw [n84, n85, n90]; exact hLd c hc
  · rw [c0 _ (by omega), n78, n81, n83]; exact ⟨k0, k3, k5, kN⟩
end SC
