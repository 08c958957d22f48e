
/-- the plan by a change at t -/
def zpT (p : Nat → Int32) (t a b : Int32) : Nat → Int32 := fun k => if 6 ≤ k ∧ k < 12 then (if t ≤ p (k - 6) then b else a) else p k
theorem zpT_out {p : Nat → Int32} {t a b : Int32} {k : Nat} (h : k < 6 ∨ 12 ≤ k) : zpT p t a b k = p k := by
  unfold zpT
  rw [if_neg (by omega)]
theorem zpT_in {p : Nat → Int32} {t a b : Int32} {w : Nat} (h : w < 6) : zpT p t a b (6 + w) = if t ≤ p w then b else a := by
  unfold zpT
  rw [if_pos (by omega), show 6 + w - 6 = w by omega]
theorem zPk.t {p : Nat → Int32} {n T a b : Nat} {t : Int32} (h : zPk p n T) (ha : a ≤ 2) (hb : b ≤ 2) (h6 : n ≤ 6) : zPk (zpT p t (nI a) (nI b)) n T := by
  refine ⟨fun w hw => ⟨?_, ?_, ?_⟩, ?_, ?_⟩
  · rw [zpT_out (by omega)]; exact (h.1 w hw).1
  · rw [zpT_out (by omega)]; exact (h.1 w hw).2.1
  · rw [zpT_in (by omega)]
    split
    · exact ⟨b, hb, rfl⟩
    · exact ⟨a, ha, rfl⟩
  · rw [zpT_out (by omega)]; exact h.2.1
  · rw [zpT_out (by omega)]; exact h.2.2
theorem gCh_pl {σ : Mem} {n : Nat} {p : Nat → Int32} {t a b : Int32} (h6 : n ≤ 6) (e46 : ∀ w, w < n → σ 46 w = p w) (e47 : ∀ w, w < n → σ 47 w = p (12 + w)) (e3 : σ 45 3 = p 18) (e4 : σ 45 4 = p 19) : zPl (gCh σ t a b n) 45 (zpT p t a b) n := by
  refine ⟨fun w hw => ⟨?_, ?_, ?_⟩, ?_, ?_⟩
  · rw [gCh_ne (by decide), zpT_out (by omega)]; exact e46 w hw
  · rw [gCh_ne (by decide), zpT_out (by omega)]; exact e47 w hw
  · rw [zpT_in (by omega)]
    refine (gCh_at n w hw).trans ?_
    rw [e46 w hw]
    by_cases e : p w < t
    · rw [if_pos e, if_neg (fun q => znle q e)]
    · rw [if_neg e, if_pos (Int32.not_lt.mp e)]
  · rw [gCh_ne (by decide), zpT_out (by omega)]; exact e3
  · rw [gCh_ne (by decide), zpT_out (by omega)]; exact e4
theorem op_change (u v x : Int32) : zOp mX9_change [.ref 0, .int u, .int v, .int x] mX10_change [.ref 66, .int u, .int v, .int x] := by
  intro l G μ ν n h
  have h6 := h.1
  have hn := h.2.1
  have hm := h.2.2.1
  rcases zrng u 0 2 (by decide) (by decide) with hu | ⟨a, -, ha, rfl⟩
  · exact zOp.same h (c_change_a hu) (d_change_a hu) rfl
  rcases zrng v 0 2 (by decide) (by decide) with hu | ⟨b, -, hb, rfl⟩
  · exact zOp.same h (c_change_b ha hu) (d_change_b ha hu) rfl
  rcases zrng x 0 1 (by decide) (by decide) with hu | ⟨y, -, hy, rfl⟩
  · exact zOp.same h (c_change_c ha hb hu) (d_change_c ha hb hu) rfl
  obtain ⟨N, hN⟩ : ∃ N, N = 1001 := ⟨_, rfl⟩
  have hs := h.hp.sides
  have f0 : zFc μ (gSt μ) := gSt_fc
  have hF : ∀ (i : Nat) (M : Mem), zFc M ((fun i M => gCh M (nI i) (nI a) (nI b) n) i M) := fun i M => gCh_fc n
  have f1 : ∀ i, zFc μ (gSe (fun i M => gCh M (nI i) (nI a) (nI b) n) (zGo (μ 23) n) nI n (gSt μ) i) := fun i => f0.tr (gSe_fc h6 (f0.sd hs) hF i)
  have h2 := h.congr zKeepC.rf (f1 N).hi
  have hS : ∀ (i : Nat) (M : Mem), zFr M ((fun i M => rCh M (nI i) (nI a) (nI b) n) i M) := fun i M => rCh_fr n h6
  have pk : ∀ i : Nat, zPk (zpT (μ 75) (nI i) (nI a) (nI b)) n 1300 := fun i => h.k13.t ha hb h6
  have zc : ∀ i : Nat, zN (zCo μ (zpT (μ 75) (nI i) (nI a) (nI b)) n) 17940 := fun i => zC_N h.2.2.2.1 (pk i) h6
  have e2 : ∀ i q, 44 < q → q ≠ 48 → (gSe (fun i M => gCh M (nI i) (nI a) (nI b) n) (zGo (μ 23) n) nI n (gSt μ) i) q = gSt μ q := by
    intro i
    induction i with
    | zero => intro q _ _; rfl
    | succ i ih =>
      intro q h1 h2
      rw [gSe]
      split
      · exact ih q h1 h2
      · split
        · rw [gWeigh_ne h6 (((f1 i).tr (hF i _)).sd hs) h1]
          exact (gCh_ne h2 n).trans (ih q h1 h2)
        · exact ih q h1 h2
  have e3 : ∀ i q, 44 < q → q ≠ 48 → (gSe (fun i M => gCh M (nI i) (nI a) (nI b) n) (zGo (μ 23) n) nI n (gSt μ) i) q = fPlanCp μ 45 22 q := fun i q h1 h2 => (e2 i q h1 h2).trans (gSt_ne (by omega))
  obtain ⟨t1, t2, t3⟩ := h.trial
  have pl : ∀ i, zPl (gCh (gSe (fun i M => gCh M (nI i) (nI a) (nI b) n) (zGo (μ 23) n) nI n (gSt μ) i) (nI i) (nI a) (nI b) n) 45 (zpT (μ 75) (nI i) (nI a) (nI b)) n := fun i =>
    gCh_pl h6 (fun w hw => by rw [e3 i 46 (by decide) (by decide)]; exact (t1 w hw).1) (fun w hw => by rw [e3 i 47 (by decide) (by decide)]; exact (t1 w hw).2.1) (by rw [e3 i 45 (by decide) (by decide)]; exact t2) (by rw [e3 i 45 (by decide) (by decide)]; exact t3)
  have hg : ∀ i, i < N → zGo (μ 23) n i = false → ∃ j, i = j + 1 ∧ zCo μ (zpT (μ 75) (nI i) (nI a) (nI b)) n = zCo μ (zpT (μ 75) (nI j) (nI a) (nI b)) n := fun i hi e => by
    rcases (show i = 0 ∨ 0 < i by omega) with rfl | hp
    · exact absurd (show true = false from e) (by decide)
    · obtain ⟨j, rfl⟩ : ∃ j, i = j + 1 := ⟨i - 1, by omega⟩
      refine ⟨j, rfl, zC_pq h.2.2.2.1 (pk j) ⟨fun w hw => ⟨?_, ?_, ?_⟩, ?_, ?_⟩ h6⟩
      · rw [zpT_out (by omega), zpT_out (by omega)]
      · rw [zpT_out (by omega), zpT_out (by omega)]
      · rw [zpT_in (by omega), zpT_in (by omega)]
        have e5 := fOne_f n e w hw
        rw [(h.2.2.2.2.1.1 w hw).1] at e5
        obtain ⟨c, c1, c2⟩ := (h.2.2.2.2.2.1.1 w hw).1
        rw [c2] at e5 ⊢
        have e6 : c ≠ j := fun q => e5 (by rw [q])
        have l1 := nI_leI (a := j + 1) (b := c) (by omega) (by omega)
        have l2 := nI_leI (a := j) (b := c) (by omega) (by omega)
        by_cases q : j + 1 ≤ c
        · rw [if_pos (l1.mpr q), if_pos (l2.mpr (by omega))]
        · rw [if_neg (fun z => q (l1.mp z)), if_neg (fun z => by have := l2.mp z; omega)]
      · rw [zpT_out (by omega), zpT_out (by omega)]
      · rw [zpT_out (by omega), zpT_out (by omega)]
  have hsel := gSe_sel (c := fun i => zCo μ (zpT (μ 75) (nI i) (nI a) (nI b)) n) (g := zGo (μ 23) n) (id := nI) (N := N) h6 (f0.sd hs) hF (fun i M => gCh_ne (by decide) n) (fun i hi _ => h.clsCost ((f1 i).tr (hF i _)) (pl i) (pk i)) (fun i _ => zc i) hg N (Nat.le_refl N)
  rw [show gSt μ 44 6 = 1000000000 from up2_same _ _ _ _] at hsel
  have hr : ∀ M : Mem, zFc μ M → ∀ i, rSc (fun i M => rCh M (nI i) (nI a) (nI b) n) n (rCp M 91 75 0 0 21) i = zCo μ (zpT (μ 75) (nI i) (nI a) (nI b)) n := fun M hM i => by
    have r75 : ∀ i k, k < 6 ∨ 12 ≤ k → rSe (fun i M => rCh M (nI i) (nI a) (nI b) n) n (rCp M 91 75 0 0 21) i 75 k = μ 75 k := by
      intro i
      induction i with
      | zero => intro k _; rw [rSe, h.held hM]
      | succ i ih => intro k hk; rw [rSe, rNow_eq.1 75 (by unfold zMe; omega)]; exact (rCh_ne hk n h6).trans (ih k hk)
    refine h.refCost hM ((rSe_fr hS i).tr (hS i _)) ⟨fun w hw => ⟨?_, ?_, ?_⟩, ?_, ?_⟩ (pk i)
    · rw [zpT_out (by omega)]; exact (rCh_ne (by omega) n h6).trans (r75 i _ (by omega))
    · rw [zpT_out (by omega)]; exact (rCh_ne (by omega) n h6).trans (r75 i _ (by omega))
    · rw [zpT_in (by omega)]
      refine (rCh_at n w h6 hw).trans ?_
      rw [r75 i w (by omega)]
    · rw [zpT_out (by omega)]; exact (rCh_ne (by omega) n h6).trans (r75 i _ (by omega))
    · rw [zpT_out (by omega)]; exact (rCh_ne (by omega) n h6).trans (r75 i _ (by omega))
  have hrc : ∀ M : Mem, zFc μ M → zSr (rSc (fun i M => rCh M (nI i) (nI a) (nI b) n) n (rCp M 91 75 0 0 21)) nI (-1) 0 N = zSel (fun i => zCo μ (zpT (μ 75) (nI i) (nI a) (nI b)) n) nI (gSt μ 44 5) 1000000000 N := fun M hM => by
    rw [zSr_congr (c' := fun i => zCo μ (zpT (μ 75) (nI i) (nI a) (nI b)) n) N (fun i hi => hr M hM i)]
    obtain ⟨K, hK⟩ : ∃ K, N = K + 1 := ⟨N - 1, by omega⟩
    subst hK
    exact (zSr_eq (l0 := 0) (b0 := -1) (f0 := gSt μ 44 5) K (fun i hi => ⟨zc i, nI_ne_m1 (by omega)⟩)).1
  rcases (show y = 0 ∨ y = 1 by omega) with rfl | rfl
  · refine zOp.tried h (c_change_0 hn h6 hs hN ha hb) (d_change_0 h2.2.2.1 h6 h2.hp.sidesM hN ha hb) ?_ (f1 N) (rSe_fr hS N)
    rw [hrc _ (f1 N), ← hsel]
  · refine zOp.tried h (c_change_1 hn h6 hs hN ha hb) (d_change_1 h2.2.2.1 h6 h2.hp.sidesM hN ha hb) ?_ (f1 N) (rSe_fr hS N)
    rw [hrc _ (f1 N), ← hsel]
