
theorem rSp_ne {q : Nat} (hq : q ≠ 75) : ∀ m c μ, rSp m c μ q = μ q
  | 0, _, _ => rfl
  | m + 1, c, μ => by rw [rSp, rSp_ne hq m, up2_ne hq]
theorem zBe {n : Nat} {R : Mem} {c : Nat → Int32} {f0 : Int32} (hc : ∀ i, rCost (rNow (rSp n i (rBe n R i).1) n) = c i) (hp : ∀ i, zN (c i) 17940) : ∀ i, (rBe n R (i + 1)).2 = (zSel c nI f0 1000000000 (i + 1)).2 ∧ zN (zSel c nI f0 1000000000 (i + 1)).2 17940 ∧ ∃ f, f ≤ i ∧ (zSel c nI f0 1000000000 (i + 1)).1 = nI f ∧ ∀ k, k < n → (rBe n R (i + 1)).1 92 k = nI (zdg n f k) := by
  have row : ∀ i k, k < n → rCp (rNow (rSp n i (rBe n R i).1) n) 92 75 0 6 n 92 k = nI (zdg n i k) := fun i k hk => by
    rw [rCp_at (by decide), if_pos (by omega), rNow_eq.1 75 (by unfold zMe; omega), rSp_at, if_pos (by omega), show 6 + (k - 0) - 6 = k by omega]
  intro i
  induction i with
  | zero =>
    have e1 : rBe n R (0 + 1) = (rCp (rNow (rSp n 0 (rBe n R 0).1) n) 92 75 0 6 n, c 0) := by
      rw [← hc 0]
      exact if_pos (show (-1 : Int32) < 0 by decide)
    have e2 : zSel c nI f0 1000000000 (0 + 1) = (nI 0, c 0) := by
      obtain ⟨k, k1, k2⟩ := hp 0
      rw [zSel, zSel]
      refine if_neg ?_
      rw [k2]
      exact nI_ge (a := k) (b := 1000000000) (by omega) (by omega)
    rw [e1, e2]
    exact ⟨rfl, hp 0, 0, Nat.le_refl 0, rfl, fun k hk => row 0 k hk⟩
  | succ i ih =>
    obtain ⟨h1, h2, f, h3, h4, h5⟩ := ih
    obtain ⟨x, x1, x2⟩ := h2
    have hneg : ¬ (rBe n R (i + 1)).2 < 0 := by
      rw [h1, x2]
      exact nI_pos (by omega)
    have e1 : rBe n R (i + 1 + 1) = if (zSel c nI f0 1000000000 (i + 1)).2 ≤ c (i + 1) then (rNow (rSp n (i + 1) (rBe n R (i + 1)).1) n, (zSel c nI f0 1000000000 (i + 1)).2) else (rCp (rNow (rSp n (i + 1) (rBe n R (i + 1)).1) n) 92 75 0 6 n, c (i + 1)) := by
      rw [rBe, if_neg hneg, hc (i + 1), h1]
    have e2 : zSel c nI f0 1000000000 (i + 1 + 1) = if (zSel c nI f0 1000000000 (i + 1)).2 ≤ c (i + 1) then zSel c nI f0 1000000000 (i + 1) else (nI (i + 1), c (i + 1)) := rfl
    rw [e1, e2]
    by_cases q : (zSel c nI f0 1000000000 (i + 1)).2 ≤ c (i + 1)
    · rw [if_pos q, if_pos q]
      refine ⟨rfl, ⟨x, x1, x2⟩, f, by omega, h4, fun k hk => ?_⟩
      show rNow (rSp n (i + 1) (rBe n R (i + 1)).1) n 92 k = nI (zdg n f k)
      rw [rNow_eq.1 92 (by unfold zMe; omega), rSp_ne (by decide)]
      exact h5 k hk
    · rw [if_neg q, if_neg q]
      exact ⟨rfl, hp (i + 1), i + 1, Nat.le_refl _, rfl, fun k hk => row (i + 1) k hk⟩
/-- the plan by a choice -/
def zpD (p : Nat → Int32) (n c : Nat) : Nat → Int32 := fun k => if 6 ≤ k ∧ k < 6 + n then nI (zdg n c (k - 6)) else p k
theorem zpD_out {p : Nat → Int32} {n c k : Nat} (h : k < 6 ∨ 6 + n ≤ k) : zpD p n c k = p k := by
  unfold zpD
  rw [if_neg (by omega)]
theorem zpD_in {p : Nat → Int32} {n c w : Nat} (h : w < n) : zpD p n c (6 + w) = nI (zdg n c w) := by
  unfold zpD
  rw [if_pos (by omega), show 6 + w - 6 = w by omega]
theorem zPk.d {p : Nat → Int32} {n T c : Nat} (h : zPk p n T) (h6 : n ≤ 6) : zPk (zpD p n c) n T := by
  refine ⟨fun w hw => ⟨?_, ?_, ?_⟩, ?_, ?_⟩
  · rw [zpD_out (by omega)]; exact (h.1 w hw).1
  · rw [zpD_out (by omega)]; exact (h.1 w hw).2.1
  · rw [zpD_in hw]; exact ⟨_, zdg_le n c w, rfl⟩
  · rw [zpD_out (by omega)]; exact h.2.1
  · rw [zpD_out (by omega)]; exact h.2.2
theorem op_best (u : Int32) : zOp mX9_best [.ref 0, .int u] mX10_best [.ref 66, .int u] := by
  intro l G μ ν n h
  have h6 := h.1
  have hn := h.2.1
  have hm := h.2.2.1
  obtain ⟨N, hN⟩ : ∃ N, N = 3 ^ n := ⟨_, rfl⟩
  have hN2 : N ≤ 729 := by rw [hN]; exact (pw3 n h6).1
  have hN0 : 0 < N := by rw [hN]; exact (pw3 n h6).2
  obtain ⟨K, hK⟩ : ∃ K, N = K + 1 := ⟨N - 1, by omega⟩
  have hs := h.hp.sides
  have f0 : zFc μ (gSt μ) := gSt_fc
  have hF : ∀ (i : Nat) (M : Mem), zFc M ((fun i M => gSp n i M) i M) := fun i M => gSp_fc n i M
  have f1 : ∀ i, zFc μ (gSe (fun i M => gSp n i M) (fun _ => true) nI n (gSt μ) i) := fun i => f0.tr (gSe_fc h6 (f0.sd hs) hF i)
  have pk : ∀ i : Nat, zPk (zpD (μ 75) n i) n 1300 := fun i => h.k13.d h6
  have zc : ∀ i : Nat, zN (zCo μ (zpD (μ 75) n i) n) 17940 := fun i => zC_N h.2.2.2.1 (pk i) h6
  have e2 : ∀ i q, 44 < q → q ≠ 48 → (gSe (fun i M => gSp n i M) (fun _ => true) nI n (gSt μ) i) q = gSt μ q := by
    intro i
    induction i with
    | zero => intro q _ _; rfl
    | succ i ih =>
      intro q h1 h2
      rw [gSe]
      split
      · exact ih q h1 h2
      · rw [if_pos rfl, gWeigh_ne h6 (((f1 i).tr (hF i _)).sd hs) h1]
        exact (gSp_ne h2 n i _).trans (ih q h1 h2)
  have e3 : ∀ i q, 44 < q → q ≠ 48 → (gSe (fun i M => gSp n i M) (fun _ => true) nI n (gSt μ) i) q = fPlanCp μ 45 22 q := fun i q h1 h2 => (e2 i q h1 h2).trans (gSt_ne (by omega))
  obtain ⟨t1, t2, t3⟩ := h.trial
  have pl : ∀ i, zPl (gSp n i (gSe (fun i M => gSp n i M) (fun _ => true) nI n (gSt μ) i)) 45 (zpD (μ 75) n i) n := fun i => by
    refine ⟨fun w hw => ⟨?_, ?_, ?_⟩, ?_, ?_⟩
    · rw [gSp_ne (by decide), e3 i _ (by decide) (by decide), zpD_out (by omega)]; exact (t1 w hw).1
    · rw [gSp_ne (by decide), e3 i _ (by decide) (by decide), zpD_out (by omega)]; exact (t1 w hw).2.1
    · rw [zpD_in hw]
      exact (gSp_at n i _ w).trans (if_pos hw)
    · rw [gSp_ne (by decide), e3 i _ (by decide) (by decide), zpD_out (by omega)]; exact t2
    · rw [gSp_ne (by decide), e3 i _ (by decide) (by decide), zpD_out (by omega)]; exact t3
  have hsel := gSe_sel (c := fun i => zCo μ (zpD (μ 75) n i) n) (g := fun _ => true) (id := nI) (N := N) h6 (f0.sd hs) hF (fun i M => gSp_ne (by decide) n i M) (fun i hi _ => h.clsCost ((f1 i).tr (hF i _)) (pl i) (pk i)) (fun i _ => zc i) (fun i hi e => absurd e (by decide)) N (Nat.le_refl N)
  rw [show gSt μ 44 6 = 1000000000 from up2_same _ _ _ _] at hsel
  have hrc : ∀ M : Mem, zFc μ M → ∀ i, rCost (rNow (rSp n i (rBe n (rCp M 91 75 0 0 21) i).1) n) = zCo μ (zpD (μ 75) n i) n := fun M hM i => by
    have r75 : ∀ i k, k < 6 ∨ 6 + n ≤ k → (rBe n (rCp M 91 75 0 0 21) i).1 75 k = μ 75 k := by
      intro i
      induction i with
      | zero => intro k _; exact congrFun (h.held hM) k
      | succ i ih =>
        intro k hk
        have e : rNow (rSp n i (rBe n (rCp M 91 75 0 0 21) i).1) n 75 k = μ 75 k := by
          rw [rNow_eq.1 75 (by unfold zMe; omega), rSp_at, if_neg (by omega)]
          exact ih k hk
        rw [rBe]
        split
        · show rCp _ 92 75 0 6 n 75 k = μ 75 k
          rw [rCp_ne (by decide)]; exact e
        · split
          · exact e
          · show rCp _ 92 75 0 6 n 75 k = μ 75 k
            rw [rCp_ne (by decide)]; exact e
    have e75 : ∀ k, rSp n i (rBe n (rCp M 91 75 0 0 21) i).1 75 k = zpD (μ 75) n i k := fun k => by
      rw [rSp_at]
      unfold zpD
      by_cases q : 6 ≤ k ∧ k < 6 + n
      · rw [if_pos q, if_pos q]
      · rw [if_neg q, if_neg q, r75 i k (by omega)]
    exact h.refCost hM ((rBe_fr h6 i).tr (rSp_fr n i _ h6)) (zPq.of h6 (fun k _ => e75 k)) (pk i)
  have hbe : ∀ M : Mem, zFc μ M → _ := fun M hM => zBe (f0 := gSt μ 44 5) (hrc M hM) zc K
  rw [hK] at hsel
  obtain ⟨-, -, f, hfK, hf1, -⟩ := hbe _ (f1 0)
  have hf : (gSe (fun i M => gSp n i M) (fun _ => true) nI n (gSt μ) N) 44 5 = nI f := by rw [hK]; exact (congrArg Prod.fst hsel).trans hf1
  have hc2 : (gSe (fun i M => gSp n i M) (fun _ => true) nI n (gSt μ) N) 44 6 = (zSel (fun i => zCo μ (zpD (μ 75) n i) n) nI (gSt μ 44 5) 1000000000 (K + 1)).2 := by rw [hK]; exact congrArg Prod.snd hsel
  have hf2 : f < N := by omega
  have f3 : zFc μ (gSp n f (gSe (fun i M => gSp n i M) (fun _ => true) nI n (gSt μ) N)) := (f1 N).tr (gSp_fc n f _)
  have h2 := h.congr zKeepC.rf f3.hi
  obtain ⟨b1, -, g, hgK, hg1, hg2⟩ := hbe _ f3
  have hfg : g = f := by
    have := congrArg Int32.toInt (hg1.symm.trans hf1)
    rw [nI_toInt (by omega), nI_toInt (by omega)] at this
    omega
  subst hfg
  rw [← hK] at b1 hg2
  rcases zwho u n (by omega) with hw | ⟨j, hj, rfl⟩
  · by_cases hne : u = -1
    · subst hne
      exact zOp.tried h (c_best_c hn h6 hs hN hN2 hf hf2) (d_best_c h2.2.2.1 h6 h2.hp.sidesM hN hN2) (by rw [b1, hc2, hK]) f3 (rBe_fr h6 N)
    · exact zOp.same h (c_best_o hn h6 hw hne) (d_best_o hm h6 hw hne) rfl
  · refine zOp.tried h (c_best_w hn h6 hs hN hN2 hf hf2 hj) (d_best_w h2.2.2.1 h6 h2.hp.sidesM hN hN2 hj) ?_ f3 (rBe_fr h6 N)
    rw [hg2 j hj]
    exact ((gSp_at n g _ j).trans (if_pos hj)).symm
