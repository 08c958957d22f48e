
theorem rCp_ne {μ : Mem} {d s a b q : Nat} (hq : q ≠ d) : ∀ i, rCp μ d s a b i q = μ q
  | 0 => rfl
  | i + 1 => by rw [rCp, up2_ne hq, rCp_ne hq i]
theorem rCp_at {μ : Mem} {d s a b : Nat} (hd : s ≠ d) : ∀ i k, rCp μ d s a b i d k = if a ≤ k ∧ k < a + i then μ s (b + (k - a)) else μ d k
  | 0, k => by rw [rCp, if_neg (by omega)]
  | i + 1, k => by
    rw [rCp, up2_row, rCp_ne hd, rCp_at hd i k]
    by_cases e : k = a + i
    · subst e
      rw [if_pos rfl, if_pos (by omega), show a + i - a = i by omega]
    · rw [if_neg e]
      by_cases e2 : a ≤ k ∧ k < a + i
      · rw [if_pos e2, if_pos (by omega)]
      · rw [if_neg e2, if_neg (by omega)]
theorem fPlanCp_ne {μ : Mem} {d s q : Nat} (h0 : q ≠ d) (h1 : q ≠ d + 1) (h2 : q ≠ d + 2) (h3 : q ≠ d + 3) : fPlanCp μ d s q = μ q := by
  unfold fPlanCp
  rw [up2_ne h0, up2_ne h0]
  simp only [va_up, if_neg h1, if_neg h2, if_neg h3]
theorem fPlanCp_at {μ : Mem} {d s : Nat} (h : s + 3 < d ∨ d + 3 < s) : (∀ w, w < 6 → fPlanCp μ d s (d + 1) w = μ (s + 1) w ∧ fPlanCp μ d s (d + 2) w = μ (s + 2) w ∧ fPlanCp μ d s (d + 3) w = μ (s + 3) w) ∧ fPlanCp μ d s d 3 = μ s 3 ∧ fPlanCp μ d s d 4 = μ s 4 := by
  refine ⟨fun w hw => ⟨?_, ?_, ?_⟩, ?_, ?_⟩
  · unfold fPlanCp
    rw [up2_ne (by omega), up2_ne (by omega)]
    simp only [va_up, va_cpy, if_neg (show ¬ d + 1 = d + 3 by omega), if_neg (show ¬ d + 1 = d + 2 by omega), if_true]
    rw [if_pos (by omega)]
    congr 1
    omega
  · unfold fPlanCp
    rw [up2_ne (by omega), up2_ne (by omega)]
    simp only [va_up, va_cpy, if_neg (show ¬ d + 2 = d + 3 by omega), if_neg (show ¬ s + 2 = d + 1 by omega), if_true]
    rw [if_pos (by omega)]
    congr 1
    omega
  · unfold fPlanCp
    rw [up2_ne (by omega), up2_ne (by omega)]
    simp only [va_up, va_cpy, if_neg (show ¬ s + 3 = d + 1 by omega), if_neg (show ¬ s + 3 = d + 2 by omega), if_true]
    rw [if_pos (by omega)]
    congr 1
    omega
  · unfold fPlanCp
    rw [up2_row, if_neg (by decide), up2_same]
    simp only [va_up, if_neg (show ¬ s = d + 1 by omega), if_neg (show ¬ s = d + 2 by omega), if_neg (show ¬ s = d + 3 by omega)]
  · unfold fPlanCp
    rw [up2_same, up2_ne (by omega)]
    simp only [va_up, if_neg (show ¬ s = d + 1 by omega), if_neg (show ¬ s = d + 2 by omega), if_neg (show ¬ s = d + 3 by omega)]
theorem zPl.cp {μ : Mem} {d s n : Nat} {p : Nat → Int32} (h : zPl μ s p n) (hd : s + 3 < d ∨ d + 3 < s) (h6 : n ≤ 6) : zPl (fPlanCp μ d s) d p n := by
  obtain ⟨a1, a2, a3⟩ := fPlanCp_at (μ := μ) hd
  refine ⟨fun w hw => ?_, ?_, ?_⟩
  · obtain ⟨b1, b2, b3⟩ := a1 w (by omega)
    rw [b1, b2, b3]
    exact h.1 w hw
  · rw [a2]; exact h.2.1
  · rw [a3]; exact h.2.2
theorem zPl.row {σ : Mem} {pl n : Nat} {p p' : Nat → Int32} (h : zPl σ pl p n) (h6 : n ≤ 6) (e : ∀ k, k < 20 → p' k = p k) : zPl σ pl p' n := by
  refine ⟨fun w hw => ?_, ?_, ?_⟩
  · rw [e w (by omega), e (12 + w) (by omega), e (6 + w) (by omega)]; exact h.1 w hw
  · rw [e 18 (by omega)]; exact h.2.1
  · rw [e 19 (by omega)]; exact h.2.2
theorem zPk.row {n T : Nat} {p p' : Nat → Int32} (h : zPk p n T) (h6 : n ≤ 6) (e : ∀ k, k < 20 → p' k = p k) : zPk p' n T := by
  refine ⟨fun w hw => ?_, ?_, ?_⟩
  · rw [e w (by omega), e (12 + w) (by omega), e (6 + w) (by omega)]; exact h.1 w hw
  · rw [e 18 (by omega)]; exact h.2.1
  · rw [e 19 (by omega)]; exact h.2.2
theorem op_goBack (v : Int32) : zOp mX9_goBack [.ref 0, .int v] mX10_goBack [.ref 66, .int v] := by
  intro l G μ ν n h
  have h6 := h.1
  have hn := h.2.1
  have hm := h.2.2.1
  rcases zrng v 0 1 (by decide) (by decide) with hb | ⟨j, -, hj, rfl⟩
  · exact zOp.same h (c_goBack_o hb) (d_goBack_o hb) rfl
  · have hI : zImg μ ν μ n j := by
      rcases (show j = 0 ∨ j = 1 by omega) with rfl | rfl
      · exact h.2.2.2.2.2.2.2.2.2.2.1
      · exact h.2.2.2.2.2.2.2.2.2.2.2
    rcases hI with ⟨i1, i2⟩ | ⟨i1, i2, i3, i4, i5⟩
    · exact zOp.same h (c_goBack_n hj i1) (d_goBack_n hj i2) rfl
    · have e1 : ∀ q, 26 ≤ q → fPlanCp μ 22 (56 + 5 * j + 1) q = μ q := fun q hq => fPlanCp_ne (by omega) (by omega) (by omega) (by omega)
      have e75 : ∀ k, k < 21 → rCp (fPlanCp μ 22 (56 + 5 * j + 1)) 75 76 0 (21 * j) 21 75 k = μ 76 (21 * j + k) := fun k hk => by
        rw [rCp_at (by decide), if_pos (by omega), e1 76 (by omega), Nat.sub_zero]
      refine zOp.both (n2 := n) (c_goBack hj (by rw [i1]; decide)) (d_goBack hj (by rw [e1 77 (by omega), i2]; decide)) rfl (h.plan (fun q a b => fPlanCp_ne (by omega) (by omega) (by omega) (by omega)) (by rw [fPlanCp_ne (by omega) (by omega) (by omega) (by omega)]) (fun q a b => ?_) ?_ ?_ ?_ ?_ ?_ ?_ ?_ (fun q hq => va_up_ne _ _ (by omega))) (fun q hq => rCp_ne (by omega) 21)
      · rw [rCp_ne b, e1 q (by unfold zTq at a; omega)]
      · rw [rCp_ne (by decide), e1 66 (by omega)]
      · rw [rCp_ne (by decide), e1 66 (by omega)]
      · rw [rCp_ne (by decide), e1 66 (by omega)]
      · rw [rCp_ne (by decide), e1 66 (by omega)]
      · exact (i3.cp (by omega) h6).row h6 (fun k hk => e75 k (by omega))
      · exact i4.row h6 (fun k hk => e75 k (by omega))
      · rw [va_up_self, e75 20 (by omega)]; exact i5
theorem op_keep (v : Int32) : zOp mX9_keep [.ref 0, .int v] mX10_keep [.ref 66, .int v] := by
  intro l G μ ν n h
  have h6 := h.1
  have hn := h.2.1
  have hm := h.2.2.1
  rcases zrng v 0 1 (by decide) (by decide) with hb | ⟨j, -, hj, rfl⟩
  · exact zOp.same h (c_keep_o hb) (d_keep_o hb) rfl
  · have e0 : ∀ q, ¬ (56 + 5 * j ≤ q ∧ q ≤ 56 + 5 * j + 4) → up2 (fPlanCp μ (56 + 5 * j + 1) 22) (56 + 5 * j) 2 1 q = μ q := fun q hq => by
      rw [up2_ne (by omega), fPlanCp_ne (by omega) (by omega) (by omega) (by omega)]
    have e2 : ∀ q, q ≠ 76 → q ≠ 77 → up2 (rCp (up2 (fPlanCp μ (56 + 5 * j + 1) 22) (56 + 5 * j) 2 1) 76 75 (21 * j) 0 21) 77 j 1 q = up2 (fPlanCp μ (56 + 5 * j + 1) 22) (56 + 5 * j) 2 1 q := fun q h1 h2 => by
      rw [up2_ne h2, rCp_ne h1]
    have e3 : ∀ k, up2 (rCp (up2 (fPlanCp μ (56 + 5 * j + 1) 22) (56 + 5 * j) 2 1) 76 75 (21 * j) 0 21) 77 j 1 76 k = if 21 * j ≤ k ∧ k < 21 * j + 21 then μ 75 (k - 21 * j) else μ 76 k := fun k => by
      rw [up2_ne (by decide), rCp_at (by decide), e0 75 (by omega), e0 76 (by omega), Nat.zero_add]
    have e4 : ∀ k, up2 (rCp (up2 (fPlanCp μ (56 + 5 * j + 1) 22) (56 + 5 * j) 2 1) 76 75 (21 * j) 0 21) 77 j 1 77 k = if k = j then 1 else μ 77 k := fun k => by
      rw [up2_row, rCp_ne (by decide), e0 77 (by omega)]
    refine zOp.both (n2 := n) (c_keep hj) (d_keep hj) rfl ?_ (fun q hq => e2 q (by omega) (by omega))
    have hJ : ∀ i, i ≤ 1 → zImg μ ν μ n i := fun i hi => by
      rcases (show i = 0 ∨ i = 1 by omega) with rfl | rfl
      · exact h.2.2.2.2.2.2.2.2.2.2.1
      · exact h.2.2.2.2.2.2.2.2.2.2.2
    generalize up2 (rCp (up2 (fPlanCp μ (56 + 5 * j + 1) 22) (56 + 5 * j) 2 1) 76 75 (21 * j) 0 21) 77 j 1 = τ' at e2 e3 e4 ⊢
    have e5 : ∀ q, 66 ≤ q → q ≠ 76 → q ≠ 77 → τ' q = μ q := fun q h1 h2 h3 => by rw [e2 q h2 h3, e0 q (by omega)]
    have hN : ∀ i, i ≤ 1 → zImg (up2 (fPlanCp μ (56 + 5 * j + 1) 22) (56 + 5 * j) 2 1) (va_up ν (56 + 5 * j) (ν 0)) τ' n i := fun i hi => by
      by_cases e : i = j
      · subst e
        have r : ∀ k, k < 21 → τ' 76 (21 * i + k) = μ 75 k := fun k hk => by
          rw [e3, if_pos (by omega), show 21 * i + k - 21 * i = k by omega]
        refine Or.inr ⟨up2_same _ _ _ _, by rw [e4, if_pos rfl], ?_, ?_, ?_⟩
        · refine ((h.2.2.2.2.1.cp (d := 56 + 5 * i + 1) (by omega) h6).congr ?_ ?_ ?_ ?_).row h6 (fun k hk => r k (by omega))
          all_goals exact up2_ne (by omega)
        · exact h.2.2.2.2.2.1.row h6 (fun k hk => r k (by omega))
        · rw [va_up_self, r 20 (by omega)]; exact h.2.2.2.2.2.2.2.2.2.1
      · have r : ∀ k, k < 21 → τ' 76 (21 * i + k) = μ 76 (21 * i + k) := fun k hk => by
          rw [e3, if_neg (by omega)]
        rcases hJ i hi with ⟨a1, a2⟩ | ⟨a1, a2, a3, a4, a5⟩
        · exact Or.inl ⟨by rw [e0 _ (by omega)]; exact a1, by rw [e4, if_neg e]; exact a2⟩
        · refine Or.inr ⟨by rw [e0 _ (by omega)]; exact a1, by rw [e4, if_neg e]; exact a2, ?_, ?_, ?_⟩
          · refine (a3.congr ?_ ?_ ?_ ?_).row h6 (fun k hk => r k (by omega))
            all_goals exact e0 _ (by omega)
          · exact a4.row h6 (fun k hk => r k (by omega))
          · rw [va_up_ne _ _ (by omega), r 20 (by omega)]; exact a5
    obtain ⟨h1, h2, h3, h4, h5, h6, h7, h8, h9, h10, h11, h12⟩ := h
    refine ⟨h1, ?_, ?_, h4.congr (fun q a b => e0 q (by omega)) (fun q a b => e5 q (by omega) (by omega) (by omega)), ?_, ?_, h7.congr (by rw [e0 1 (by omega)]) (e0 13 (by omega)) (by rw [e5 66 (by omega) (by omega) (by omega)]) (e5 67 (by omega) (by omega) (by omega)), ?_, h9.congr (by rw [e0 0 (by omega)]) (e0 54 (by omega)) (e0 55 (by omega)) (by rw [e5 66 (by omega) (by omega) (by omega)]) (e5 96 (by omega) (by omega) (by omega)), ?_, hN 0 (by omega), hN 1 (by omega)⟩
    · rw [e0 15 (by omega)]; exact h2
    · rw [e5 66 (by omega) (by omega) (by omega)]; exact h3
    · rw [e5 75 (by omega) (by omega) (by omega)]
      exact h5.congr (e0 22 (by omega)) (e0 23 (by omega)) (e0 24 (by omega)) (e0 25 (by omega))
    · rw [e5 75 (by omega) (by omega) (by omega)]; exact h6
    · rw [e0 0 (by omega), e5 66 (by omega) (by omega) (by omega)]; exact h8
    · rw [va_up_ne _ _ (by omega), e5 75 (by omega) (by omega) (by omega)]; exact h10
