
theorem zRel.plan {σ τ σ' τ' : Mem} {ν ν' : Lng} {n : Nat} (h : zRel σ ν τ n) (c : ∀ q, zCq q → ¬ (22 ≤ q ∧ q ≤ 25) → σ' q = σ q) (c2 : σ' 1 4 = σ 1 4) (t : ∀ q, zTq q → q ≠ 75 → τ' q = τ q) (t0 : τ' 66 0 = τ 66 0) (t6 : τ' 66 6 = τ 66 6) (t17 : τ' 66 17 = τ 66 17) (t45 : τ' 66 45 = τ 66 45) (hp : zPl σ' 22 (τ' 75) n) (hk : zPk (τ' 75) n 999) (hs : zSeed (ν' 0) (τ' 75 20)) (hν : ∀ q, 56 ≤ q → ν' q = ν q) : zRel σ' ν' τ' n := by
  obtain ⟨h1, h2, h3, h4, h5, h6, h7, h8, h9, h10, h11, h12⟩ := h
  refine ⟨h1, ?_, ?_, h4.congr (fun q a b => c q (by unfold zCq; omega) (by omega)) (fun q a b => t q (by unfold zTq; omega) (by omega)), hp, hk, h7.congr c2 (c 13 (by unfold zCq; omega) (by omega)) t0 (t 67 (by unfold zTq; omega) (by omega)), ?_, h9.congr (by rw [c 0 (by unfold zCq; omega) (by omega)]) (c 54 (by unfold zCq; omega) (by omega)) (c 55 (by unfold zCq; omega) (by omega)) t45 (t 96 (by unfold zTq; omega) (by omega)), hs, h11.congr (by omega) (fun q a b => c q (by unfold zCq; omega) (by omega)) (t 76 (by unfold zTq; omega) (by omega)) (t 77 (by unfold zTq; omega) (by omega)) (hν _ (by omega)), h12.congr (by omega) (fun q a b => c q (by unfold zCq; omega) (by omega)) (t 76 (by unfold zTq; omega) (by omega)) (t 77 (by unfold zTq; omega) (by omega)) (hν _ (by omega))⟩
  · rw [c 15 (by unfold zCq; omega) (by omega)]; exact h2
  · rw [t17]; exact h3
  · rw [c 0 (by unfold zCq; omega) (by omega), t6]; exact h8
/-- one cell of row 75 and one of the plan -/
theorem zRel.plan2 {σ : Mem} {ν ν' : Lng} {n q i k : Nat} {x y : Int32} (h : zRel σ ν σ n) (hq : 22 ≤ q ∧ q ≤ 25) (hp : zPl (up2 σ q i x) 22 (up2 (up2 σ q i x) 75 k y 75) n) (hk : zPk (up2 (up2 σ q i x) 75 k y 75) n 999) (hs : zSeed (ν' 0) (up2 (up2 σ q i x) 75 k y 75 20)) (hν : ∀ q, 56 ≤ q → ν' q = ν q) : zRel (up2 σ q i x) ν' (up2 (up2 σ q i x) 75 k y) n :=
  h.plan (fun a h1 h2 => up2_ne (by omega)) (by rw [up2_ne (by omega)]) (fun a h1 h2 => by rw [up2_ne h2, up2_ne (by unfold zTq at h1; omega)]) (by rw [up2_ne (by decide), up2_ne (by omega)]) (by rw [up2_ne (by decide), up2_ne (by omega)]) (by rw [up2_ne (by decide), up2_ne (by omega)]) (by rw [up2_ne (by decide), up2_ne (by omega)]) hp hk hs hν
theorem up2_75 {σ : Mem} {q i k a : Nat} {x y : Int32} (hq : q ≠ 75) : up2 (up2 σ q i x) 75 k y 75 a = if a = k then y else σ 75 a := by
  rw [up2_row, up2_ne (Ne.symm hq)]
theorem up2_lo {σ : Mem} {k : Nat} {y : Int32} {c : Nat} (hc : 66 ≤ c) : ∀ q, q < 66 → up2 σ c k y q = σ q := fun q hq => up2_ne (by omega)
theorem op_come (w v : Int32) : zOp mX9_come [.ref 0, .int w, .int v] mX10_come [.ref 66, .int w, .int v] := by
  intro l G μ ν n h
  have h6 := h.1
  have hn := h.2.1
  have hm := h.2.2.1
  rcases zwho w n (by omega) with hw | ⟨a, ha, rfl⟩
  · exact zOp.same h (c_come_w hn h6 hw) (d_come_w hm h6 hw) rfl
  · rcases zrng v 0 999 (by decide) (by decide) with hb | ⟨j, hj1, hj, rfl⟩
    · exact zOp.same h (c_come_o hn h6 ha hb) (d_come_o hm h6 ha hb) rfl
    · obtain ⟨p1, p2, p3⟩ := h.2.2.2.2.1
      obtain ⟨k1, k2, k3⟩ := h.2.2.2.2.2.1
      refine zOp.both (c_come hn h6 ha hj1 hj) (d_come (by rw [up2_ne (by decide)]; exact hm) h6 ha hj1 hj) (by rw [up2_ne (by decide)]; exact (h.hp.1 a ha).2.2.2.2.1.symm) (h.plan2 (by decide) ⟨fun w hw => ?_, ?_, ?_⟩ ⟨fun w hw => ?_, ?_, ?_⟩ ?_ (fun _ _ => rfl)) (up2_lo (by decide))
      · obtain ⟨q1, q2, q3⟩ := p1 w hw
        rw [up2_75 (by decide), up2_75 (by decide), up2_75 (by decide)]
        by_cases e : w = a
        · subst e
          exact ⟨by rw [up2_row, if_pos rfl, if_pos rfl], by rw [up2_ne (by decide), if_neg (by omega)]; exact q2, by rw [up2_ne (by decide), if_neg (by omega)]; exact q3⟩
        · exact ⟨by rw [up2_row, if_neg e, if_neg (by omega)]; exact q1, by rw [up2_ne (by decide), if_neg (by omega)]; exact q2, by rw [up2_ne (by decide), if_neg (by omega)]; exact q3⟩
      · rw [up2_ne (by decide), up2_75 (by decide), if_neg (by omega)]; exact p2
      · rw [up2_ne (by decide), up2_75 (by decide), if_neg (by omega)]; exact p3
      · obtain ⟨q1, q2, q3⟩ := k1 w hw
        rw [up2_75 (by decide), up2_75 (by decide), up2_75 (by decide)]
        refine ⟨?_, ?_, ?_⟩
        · by_cases e : w = a
          · subst e; rw [if_pos rfl]; exact ⟨j, hj, rfl⟩
          · rw [if_neg (by omega)]; exact q1
        · rw [if_neg (by omega)]; exact q2
        · rw [if_neg (by omega)]; exact q3
      · rw [up2_75 (by decide), if_neg (by omega)]; exact k2
      · rw [up2_75 (by decide), if_neg (by omega)]; exact k3
      · rw [up2_75 (by decide), if_neg (by omega)]; exact h.2.2.2.2.2.2.2.2.2.1
theorem op_rule (w v : Int32) : zOp mX9_rule [.ref 0, .int w, .int v] mX10_rule [.ref 66, .int w, .int v] := by
  intro l G μ ν n h
  have h6 := h.1
  have hn := h.2.1
  have hm := h.2.2.1
  rcases zwho w n (by omega) with hw | ⟨a, ha, rfl⟩
  · exact zOp.same h (c_rule_w hn h6 hw) (d_rule_w hm h6 hw) rfl
  · rcases zrng v 0 2 (by decide) (by decide) with hb | ⟨j, hj1, hj, rfl⟩
    · exact zOp.same h (c_rule_o hn h6 ha hb) (d_rule_o hm h6 ha hb) rfl
    · obtain ⟨p1, p2, p3⟩ := h.2.2.2.2.1
      obtain ⟨k1, k2, k3⟩ := h.2.2.2.2.2.1
      refine zOp.both (c_rule hn h6 ha hj1 hj) (d_rule (by rw [up2_ne (by decide)]; exact hm) h6 ha hj1 hj) (by rw [up2_ne (by decide)]; exact (h.hp.1 a ha).2.2.2.2.2.2.symm) (h.plan2 (by decide) ⟨fun w hw => ?_, ?_, ?_⟩ ⟨fun w hw => ?_, ?_, ?_⟩ ?_ (fun _ _ => rfl)) (up2_lo (by decide))
      · obtain ⟨q1, q2, q3⟩ := p1 w hw
        rw [up2_75 (by decide), up2_75 (by decide), up2_75 (by decide)]
        by_cases e : w = a
        · subst e
          exact ⟨by rw [up2_ne (by decide), if_neg (by omega)]; exact q1, by rw [up2_ne (by decide), if_neg (by omega)]; exact q2, by rw [up2_row, if_pos rfl, if_pos rfl]⟩
        · exact ⟨by rw [up2_ne (by decide), if_neg (by omega)]; exact q1, by rw [up2_ne (by decide), if_neg (by omega)]; exact q2, by rw [up2_row, if_neg e, if_neg (by omega)]; exact q3⟩
      · rw [up2_ne (by decide), up2_75 (by decide), if_neg (by omega)]; exact p2
      · rw [up2_ne (by decide), up2_75 (by decide), if_neg (by omega)]; exact p3
      · obtain ⟨q1, q2, q3⟩ := k1 w hw
        rw [up2_75 (by decide), up2_75 (by decide), up2_75 (by decide)]
        refine ⟨?_, ?_, ?_⟩
        · rw [if_neg (by omega)]; exact q1
        · rw [if_neg (by omega)]; exact q2
        · by_cases e : w = a
          · subst e; rw [if_pos rfl]; exact ⟨j, hj, rfl⟩
          · rw [if_neg (by omega)]; exact q3
      · rw [up2_75 (by decide), if_neg (by omega)]; exact k2
      · rw [up2_75 (by decide), if_neg (by omega)]; exact k3
      · rw [up2_75 (by decide), if_neg (by omega)]; exact h.2.2.2.2.2.2.2.2.2.1
theorem op_kick (w v : Int32) : zOp mX9_kick [.ref 0, .int w, .int v] mX10_kick [.ref 66, .int w, .int v] := by
  intro l G μ ν n h
  have h6 := h.1
  have hn := h.2.1
  have hm := h.2.2.1
  rcases zwho w n (by omega) with hw | ⟨a, ha, rfl⟩
  · exact zOp.same h (c_kick_w hn h6 hw) (d_kick_w hm h6 hw) rfl
  · rcases zrng v 1 9 (by decide) (by decide) with hb | ⟨j, hj1, hj, rfl⟩
    · exact zOp.same h (c_kick_o hn h6 ha hb) (d_kick_o hm h6 ha hb) rfl
    · obtain ⟨p1, p2, p3⟩ := h.2.2.2.2.1
      obtain ⟨k1, k2, k3⟩ := h.2.2.2.2.2.1
      refine zOp.both (c_kick hn h6 ha hj1 hj) (d_kick (by rw [up2_ne (by decide)]; exact hm) h6 ha hj1 hj) (by rw [up2_ne (by decide)]; exact (h.hp.1 a ha).2.2.2.2.2.1.symm) (h.plan2 (by decide) ⟨fun w hw => ?_, ?_, ?_⟩ ⟨fun w hw => ?_, ?_, ?_⟩ ?_ (fun _ _ => rfl)) (up2_lo (by decide))
      · obtain ⟨q1, q2, q3⟩ := p1 w hw
        rw [up2_75 (by decide), up2_75 (by decide), up2_75 (by decide)]
        by_cases e : w = a
        · subst e
          exact ⟨by rw [up2_ne (by decide), if_neg (by omega)]; exact q1, by rw [up2_row, if_pos rfl, if_pos rfl], by rw [up2_ne (by decide), if_neg (by omega)]; exact q3⟩
        · exact ⟨by rw [up2_ne (by decide), if_neg (by omega)]; exact q1, by rw [up2_row, if_neg e, if_neg (by omega)]; exact q2, by rw [up2_ne (by decide), if_neg (by omega)]; exact q3⟩
      · rw [up2_ne (by decide), up2_75 (by decide), if_neg (by omega)]; exact p2
      · rw [up2_ne (by decide), up2_75 (by decide), if_neg (by omega)]; exact p3
      · obtain ⟨q1, q2, q3⟩ := k1 w hw
        rw [up2_75 (by decide), up2_75 (by decide), up2_75 (by decide)]
        refine ⟨?_, ?_, ?_⟩
        · rw [if_neg (by omega)]; exact q1
        · by_cases e : w = a
          · subst e; rw [if_pos rfl]; exact ⟨j, hj1, hj, rfl⟩
          · rw [if_neg (by omega)]; exact q2
        · rw [if_neg (by omega)]; exact q3
      · rw [up2_75 (by decide), if_neg (by omega)]; exact k2
      · rw [up2_75 (by decide), if_neg (by omega)]; exact k3
      · rw [up2_75 (by decide), if_neg (by omega)]; exact h.2.2.2.2.2.2.2.2.2.1
theorem op_noise (v : Int32) : zOp mX9_noise [.ref 0, .int v] mX10_noise [.ref 66, .int v] := by
  intro l G μ ν n h
  have h6 := h.1
  have hn := h.2.1
  have hm := h.2.2.1
  obtain ⟨p1, p2, p3⟩ := h.2.2.2.2.1
  obtain ⟨k1, k2, k3⟩ := h.2.2.2.2.2.1
  rcases zrng v 0 9 (by decide) (by decide) with hb | ⟨j, -, hj, rfl⟩
  · exact zOp.same h (c_noise_o hb) (d_noise_o hb) rfl
  · refine zOp.both (c_noise hj) (d_noise hj) (by rw [up2_ne (by decide)]; exact h.hp.2.2.1.2.2.1.symm) (h.plan2 (by decide) ⟨fun w hw => ?_, ?_, ?_⟩ ⟨fun w hw => ?_, ?_, ?_⟩ ?_ (fun _ _ => rfl)) (up2_lo (by decide))
    · obtain ⟨q1, q2, q3⟩ := p1 w hw
      rw [up2_75 (by decide), up2_75 (by decide), up2_75 (by decide), if_neg (by omega), if_neg (by omega), if_neg (by omega), up2_ne (by decide), up2_ne (by decide), up2_ne (by decide)]
      exact ⟨q1, q2, q3⟩
    · rw [up2_75 (by decide), if_neg (by decide), up2_row, if_neg (by decide)]; exact p2
    · rw [up2_75 (by decide), if_pos rfl, up2_same]
    · obtain ⟨q1, q2, q3⟩ := k1 w hw
      rw [up2_75 (by decide), up2_75 (by decide), up2_75 (by decide), if_neg (by omega), if_neg (by omega), if_neg (by omega)]
      exact ⟨q1, q2, q3⟩
    · rw [up2_75 (by decide), if_neg (by decide)]; exact k2
    · rw [up2_75 (by decide), if_pos rfl]; exact ⟨j, hj, rfl⟩
    · rw [up2_75 (by decide), if_neg (by decide)]; exact h.2.2.2.2.2.2.2.2.2.1
theorem op_glass (b : Int32) : zOp mX9_glass [.ref 0, .int b] mX10_glass [.ref 66, .int b] := by
  intro l G μ ν n h
  have h6 := h.1
  have hn := h.2.1
  have hm := h.2.2.1
  obtain ⟨p1, p2, p3⟩ := h.2.2.2.2.1
  obtain ⟨k1, k2, k3⟩ := h.2.2.2.2.2.1
  have hx : zN (if b = 0 then (0 : Int32) else 1) 1 := by
    split
    · exact ⟨0, by decide, rfl⟩
    · exact ⟨1, by decide, rfl⟩
  have g1 := c_glass (l := l) (G := G) (μ := μ) (ν := ν) (b := b)
  have g2 := d_glass (l := l) (G := G) (μ := up2 μ 22 3 (if b = 0 then 0 else 1)) (ν := ν) (b := b)
  generalize (if b = 0 then (0 : Int32) else 1) = x at hx g1 g2
  refine zOp.both g1 g2 (by rw [up2_ne (by decide)]; exact h.hp.2.2.1.1.symm) (h.plan2 (by decide) ⟨fun w hw => ?_, ?_, ?_⟩ ⟨fun w hw => ?_, ?_, ?_⟩ ?_ (fun _ _ => rfl)) (up2_lo (by decide))
  · obtain ⟨q1, q2, q3⟩ := p1 w hw
    rw [up2_75 (by decide), up2_75 (by decide), up2_75 (by decide), if_neg (by omega), if_neg (by omega), if_neg (by omega), up2_ne (by decide), up2_ne (by decide), up2_ne (by decide)]
    exact ⟨q1, q2, q3⟩
  · rw [up2_75 (by decide), if_pos rfl, up2_same]
  · rw [up2_75 (by decide), if_neg (by decide), up2_row, if_neg (by decide)]; exact p3
  · obtain ⟨q1, q2, q3⟩ := k1 w hw
    rw [up2_75 (by decide), up2_75 (by decide), up2_75 (by decide), if_neg (by omega), if_neg (by omega), if_neg (by omega)]
    exact ⟨q1, q2, q3⟩
  · rw [up2_75 (by decide), if_pos rfl]; exact hx
  · rw [up2_75 (by decide), if_neg (by decide)]; exact k3
  · rw [up2_75 (by decide), if_neg (by decide)]; exact h.2.2.2.2.2.2.2.2.2.1

theorem zL2I {s : Nat} (h : s < 2 ^ 31) : (lN s).toInt32 = nI s := by
  refine Int32.toInt_inj.mp ?_
  rw [nI_toInt h, Int64.toInt_toInt32, pk_lT (by omega)]
  exact Int.bmod_eq_of_le (by omega) (by omega)
theorem zI2L {s : Nat} (h : s < 2 ^ 31) : (nI s).toInt64 = lN s := by
  refine Int64.toInt_inj.mp ?_
  rw [Int32.toInt_toInt64, nI_toInt h, pk_lT (by omega)]
theorem op_seed (v : Int32) : zOp mX9_seed [.ref 0, .int v] mX10_seed [.ref 66, .int v] := by
  intro l G μ ν n h
  have h6 := h.1
  have hn := h.2.1
  have hm := h.2.2.1
  by_cases hv : v < 0
  · exact zOp.same h (c_seed_o hv) (d_seed_o hv) rfl
  · have hv := Int32.not_lt.mp hv
    obtain ⟨s, s1, s2, s3⟩ := h.2.2.2.2.2.2.2.2.2.1
    have hv0 := Int32.le_iff_toInt_le.mp hv
    rw [Int32.toInt_zero] at hv0
    have hvb : v.toInt < 2 ^ 31 := Int32.toInt_lt v
    have ev : v = nI v.toInt.toNat := Int32.toInt_inj.mp (by rw [nI_toInt (by omega)]; omega)
    refine zOp.both (n2 := n) (c_seed hv) (d_seed hv) ?_ ?_ (up2_lo (by decide))
    · rw [s2, s3]
      exact (zL2I s1).symm
    · obtain ⟨k1, k2, k3⟩ := h.2.2.2.2.2.1
      obtain ⟨p1, p2, p3⟩ := h.2.2.2.2.1
      refine h.plan (fun _ _ _ => rfl) rfl (fun a h1 h2 => up2_ne h2) (by rw [up2_ne (by decide)]) (by rw [up2_ne (by decide)]) (by rw [up2_ne (by decide)]) (by rw [up2_ne (by decide)]) ⟨fun w hw => ?_, ?_, ?_⟩ ⟨fun w hw => ?_, ?_, ?_⟩ ?_ (fun q hq => va_up_ne _ _ (by omega))
      · rw [up2_row, up2_row, up2_row, if_neg (by omega), if_neg (by omega), if_neg (by omega)]; exact p1 w hw
      · rw [up2_row, if_neg (by decide)]; exact p2
      · rw [up2_row, if_neg (by decide)]; exact p3
      · rw [up2_row, up2_row, up2_row, if_neg (by omega), if_neg (by omega), if_neg (by omega)]; exact k1 w hw
      · rw [up2_row, if_neg (by decide)]; exact k2
      · rw [up2_row, if_neg (by decide)]; exact k3
      · rw [va_up_self, up2_same]
        exact ⟨v.toInt.toNat, by omega, by rw [← zI2L (by omega), ← ev], ev⟩

theorem zRel.book {σ τ σ' τ' : Mem} {ν : Lng} {n : Nat} (h : zRel σ ν τ n) (c : ∀ q, zCq q → q ≠ 0 → q ≠ 54 → q ≠ 55 → σ' q = σ q) (c2 : σ' 1 4 = σ 1 4) (c3 : σ' 0 10 = σ 0 10) (t : ∀ q, zTq q → q ≠ 96 → τ' q = τ q) (t0 : τ' 66 0 = τ 66 0) (t6 : τ' 66 6 = τ 66 6) (t17 : τ' 66 17 = τ 66 17) (hb : zBook σ' τ' n) : zRel σ' ν τ' n := by
  obtain ⟨h1, h2, h3, h4, h5, h6, h7, h8, h9, h10, h11, h12⟩ := h
  refine ⟨h1, ?_, ?_, h4.congr (fun q a b => c q (by unfold zCq; omega) (by omega) (by omega) (by omega)) (fun q a b => t q (by unfold zTq; omega) (by omega)), ?_, ?_, h7.congr c2 (c 13 (by unfold zCq; omega) (by omega) (by omega) (by omega)) t0 (t 67 (by unfold zTq; omega) (by omega)), ?_, hb, ?_, h11.congr (by omega) (fun q a b => c q (by unfold zCq; omega) (by omega) (by omega) (by omega)) (t 76 (by unfold zTq; omega) (by omega)) (t 77 (by unfold zTq; omega) (by omega)) rfl, h12.congr (by omega) (fun q a b => c q (by unfold zCq; omega) (by omega) (by omega) (by omega)) (t 76 (by unfold zTq; omega) (by omega)) (t 77 (by unfold zTq; omega) (by omega)) rfl⟩
  · rw [c 15 (by unfold zCq; omega) (by omega) (by omega) (by omega)]; exact h2
  · rw [t17]; exact h3
  · rw [t 75 (by unfold zTq; omega) (by omega)]
    exact h5.congr (c 22 (by unfold zCq; omega) (by omega) (by omega) (by omega)) (c 23 (by unfold zCq; omega) (by omega) (by omega) (by omega)) (c 24 (by unfold zCq; omega) (by omega) (by omega) (by omega)) (c 25 (by unfold zCq; omega) (by omega) (by omega) (by omega))
  · rw [t 75 (by unfold zTq; omega) (by omega)]; exact h6
  · rw [c3, t6]; exact h8
  · rw [t 75 (by unfold zTq; omega) (by omega)]; exact h10
theorem op_tear : zOp mX9_tear [.ref 0] mX10_tear [.ref 66] := by
  intro l G μ ν n h
  have h6 := h.1
  have hn := h.2.1
  have hm := h.2.2.1
  obtain ⟨b, b0, b1, b2, b3⟩ := h.2.2.2.2.2.2.2.2.1
  refine zOp.both c_tear d_tear (by rw [up2_ne (by decide), b1, b2]) (h.book (fun q a b c d => up2_ne b) (by rw [up2_ne (by decide)]) (by rw [up2_row, if_neg (by decide)]) (fun q a b => by rw [up2_ne (by unfold zTq at a; omega), up2_ne (by unfold zTq at a; omega)]) ?_ ?_ ?_ ⟨0, by decide, up2_same _ _ _ _, up2_same _ _ _ _, fun i hi => absurd hi (Nat.not_lt_zero i)⟩) (up2_lo (by decide))
  all_goals rw [up2_row, if_neg (by decide), up2_ne (by decide)]
theorem op_write (w v : Int32) : zOp mX9_write [.ref 0, .int w, .int v] mX10_write [.ref 66, .int w, .int v] := by
  intro l G μ ν n h
  have h6 := h.1
  have hn := h.2.1
  have hm := h.2.2.1
  rcases zwho w n (by omega) with hw | ⟨a, ha, rfl⟩
  · exact zOp.same h (c_write_w hn h6 hw) (d_write_w hm h6 hw) rfl
  · rcases zrng v 0 6 (by decide) (by decide) with hb | ⟨j, -, hj, rfl⟩
    · exact zOp.same h (c_write_o hn h6 ha hb) (d_write_o hm h6 ha hb) rfl
    · obtain ⟨b, b0, b1, b2, b3⟩ := h.2.2.2.2.2.2.2.2.1
      rcases (show b = 20 ∨ b < 20 by omega) with rfl | hb
      · exact zOp.same h (c_write_f hn h6 ha hj b1) (d_write_f hm h6 ha hj b2) rfl
      · have e66 : (up2 (up2 (up2 μ 54 b (nI a)) 55 b (nI j)) 0 8 (nI (b + 1))) 66 = μ 66 := by rw [up2_ne (by decide), up2_ne (by decide), up2_ne (by decide)]
        have e96 : (up2 (up2 (up2 μ 54 b (nI a)) 55 b (nI j)) 0 8 (nI (b + 1))) 96 = μ 96 := by rw [up2_ne (by decide), up2_ne (by decide), up2_ne (by decide)]
        refine zOp.both (c_write hn h6 ha hj b1 hb) (d_write (by rw [e66]; exact hm) h6 ha hj (by rw [e66]; exact b2) hb) rfl (h.book (fun q a b c d => by rw [up2_ne b, up2_ne d, up2_ne c]) (by rw [up2_ne (by decide), up2_ne (by decide), up2_ne (by decide)]) (by rw [up2_row, if_neg (by decide), up2_ne (by decide), up2_ne (by decide)]) (fun q a b => ?_) ?_ ?_ ?_ ⟨b + 1, by omega, up2_same _ _ _ _, up2_same _ _ _ _, fun i hi => ?_⟩) (fun q hq => by rw [up2_ne (by omega), up2_ne (by omega), up2_ne (by omega)])
        · rw [up2_ne (by unfold zTq at a; omega), up2_ne b, up2_ne b, up2_ne (by unfold zTq at a; omega), up2_ne (by unfold zTq at a; omega), up2_ne (by unfold zTq at a; omega)]
        · rw [up2_row, if_neg (by decide), up2_ne (by decide), up2_ne (by decide), e66]
        · rw [up2_row, if_neg (by decide), up2_ne (by decide), up2_ne (by decide), e66]
        · rw [up2_row, if_neg (by decide), up2_ne (by decide), up2_ne (by decide), e66]
        · rw [up2_ne (show 54 ≠ 0 by decide), up2_ne (show 54 ≠ 55 by decide), up2_ne (show 55 ≠ 0 by decide), up2_row (k := 55), up2_row (k := 54), up2_ne (show 55 ≠ 54 by decide), up2_ne (show 96 ≠ 66 by decide), up2_row (k := 96), up2_row (k := 96), up2_row (k := 96), up2_row (k := 96), e96]
          by_cases e : i = b
          · subst e
            rw [if_pos rfl, if_pos rfl, if_neg (by omega), if_pos rfl, if_pos rfl]
            exact ⟨rfl, rfl, a, ha, rfl⟩
          · rw [if_neg e, if_neg e, if_neg (by omega), if_neg (by omega), if_neg (by omega), if_neg (by omega)]
            exact b3 i (by omega)

theorem zRel.text {σ τ σ' τ' : Mem} {ν : Lng} {n : Nat} (h : zRel σ ν τ n) (c : ∀ q, zCq q → q ≠ 13 → σ' q = σ q) (t : ∀ q, zTq q → q ≠ 67 → τ' q = τ q) (t6 : τ' 66 6 = τ 66 6) (t17 : τ' 66 17 = τ 66 17) (t45 : τ' 66 45 = τ 66 45) (hx : zText σ' τ') : zRel σ' ν τ' n := by
  obtain ⟨h1, h2, h3, h4, h5, h6, h7, h8, h9, h10, h11, h12⟩ := h
  refine ⟨h1, ?_, ?_, h4.congr (fun q a b => c q (by unfold zCq; omega) (by omega)) (fun q a b => t q (by unfold zTq; omega) (by omega)), ?_, ?_, hx, ?_, h9.congr (by rw [c 0 (by unfold zCq; omega) (by omega)]) (c 54 (by unfold zCq; omega) (by omega)) (c 55 (by unfold zCq; omega) (by omega)) t45 (t 96 (by unfold zTq; omega) (by omega)), ?_, h11.congr (by omega) (fun q a b => c q (by unfold zCq; omega) (by omega)) (t 76 (by unfold zTq; omega) (by omega)) (t 77 (by unfold zTq; omega) (by omega)) rfl, h12.congr (by omega) (fun q a b => c q (by unfold zCq; omega) (by omega)) (t 76 (by unfold zTq; omega) (by omega)) (t 77 (by unfold zTq; omega) (by omega)) rfl⟩
  · rw [c 15 (by unfold zCq; omega) (by omega)]; exact h2
  · rw [t17]; exact h3
  · rw [t 75 (by unfold zTq; omega) (by omega)]
    exact h5.congr (c 22 (by unfold zCq; omega) (by omega)) (c 23 (by unfold zCq; omega) (by omega)) (c 24 (by unfold zCq; omega) (by omega)) (c 25 (by unfold zCq; omega) (by omega))
  · rw [t 75 (by unfold zTq; omega) (by omega)]; exact h6
  · rw [c 0 (by unfold zCq; omega) (by omega), t6]; exact h8
  · rw [t 75 (by unfold zTq; omega) (by omega)]; exact h10
theorem op_feed (v : Int32) : zOp mX9_feed [.ref 0, .int v] mX10_feed [.ref 66, .int v] := by
  intro l G μ ν n h
  have h6 := h.1
  have hn := h.2.1
  have hm := h.2.2.1
  rcases zrng v 0 255 (by decide) (by decide) with hb | ⟨j, -, hj, rfl⟩
  · exact zOp.same h (c_feed_o hb) (d_feed_o hb) rfl
  · obtain ⟨b, b0, b1, b2, b3⟩ := h.2.2.2.2.2.2.1
    rcases (show b = 250 ∨ b < 250 by omega) with rfl | hb
    · exact zOp.same h (c_feed_f hj b1) (d_feed_f hj b2) rfl
    · have e66 : (up2 (up2 μ 13 b (nI j)) 1 4 (nI (b + 1))) 66 = μ 66 := by rw [up2_ne (by decide), up2_ne (by decide)]
      have e67 : (up2 (up2 μ 13 b (nI j)) 1 4 (nI (b + 1))) 67 = μ 67 := by rw [up2_ne (by decide), up2_ne (by decide)]
      refine zOp.both (c_feed hj b1 hb) (d_feed hj (by rw [e66]; exact b2) hb) rfl (h.text (fun q a b => by rw [up2_ne (by unfold zCq at a; omega), up2_ne b]) (fun q a b => ?_) ?_ ?_ ?_ ⟨b + 1, by omega, up2_same _ _ _ _, up2_same _ _ _ _, fun i hi => ?_⟩) (fun q hq => by rw [up2_ne (by omega), up2_ne (by omega)])
      · rw [up2_ne (by unfold zTq at a; omega), up2_ne b, up2_ne (by unfold zTq at a; omega), up2_ne (by unfold zTq at a; omega)]
      · rw [up2_row, if_neg (by decide), up2_ne (by decide), e66]
      · rw [up2_row, if_neg (by decide), up2_ne (by decide), e66]
      · rw [up2_row, if_neg (by decide), up2_ne (by decide), e66]
      · rw [up2_ne (show 13 ≠ 1 by decide), up2_row (k := 13), up2_ne (show 67 ≠ 66 by decide), up2_row (k := 67), e67]
        by_cases e : i = b
        · subst e
          rw [if_pos rfl, if_pos rfl]
          exact ⟨rfl, j, hj, rfl⟩
        · rw [if_neg e, if_neg e]
          exact b3 i (by omega)
