
theorem mLp_at93 {μ : Mem} {f g : Nat → Int32} : mLp μ f g 93 = g := rfl
theorem mLp_at94 {μ : Mem} {f g : Nat → Int32} : mLp μ f g 94 = f := rfl
theorem mLp_at75 {μ : Mem} {f g : Nat → Int32} : mLp μ f g 75 = μ 75 := rfl
theorem op_order (u v : Int32) : zOp mX9_order [.ref 0, .int u, .int v] mX10_order [.ref 66, .int u, .int v] := by
  intro l G μ ν n h
  have h6 := h.1
  have hn := h.2.1
  have hm := h.2.2.1
  rcases zrng u 0 1 (by decide) (by decide) with hu | ⟨a, -, ha, rfl⟩
  · exact zOp.same h (c_order_o hu) (d_order_o hu) rfl
  have hs := h.hp.sides
  have hsd : ∀ w, w < n → μ 18 w = μ 71 w := fun w hw => (h.2.2.2.1.1 w hw).1
  have hco : ∀ w, w < n → μ 23 w = μ 75 w := fun w hw => (h.2.2.2.2.1.1 w hw).1
  have hk9 : ∀ w, w < n → zN (μ 75 w) 999 := fun w hw => (h.2.2.2.2.2.1.1 w hw).1
  obtain ⟨ec, eg⟩ := zGa_congr (sd := μ 18) (co := μ 23) (sd' := μ 71) (co' := μ 75) (s := nI a) (f0 := μ 50) (g0 := μ 52) (f1 := μ 94) (g1 := μ 93) n (fun w hw => ⟨hsd w hw, hco w hw⟩)
  have hcn : (zGa (μ 18) (μ 23) (nI a) (μ 50) (μ 52) n).1 ≤ n := zGa_le n
  have hc6 : (zGa (μ 18) (μ 23) (nI a) (μ 50) (μ 52) n).1 ≤ 6 := by omega
  obtain ⟨N, hN⟩ : ∃ N, N = zFa (zGa (μ 18) (μ 23) (nI a) (μ 50) (μ 52) n).1 := ⟨_, rfl⟩
  have hN0 : 0 < N := hN ▸ zFa_pos _
  have hpl : ∀ p, p < (zGa (μ 18) (μ 23) (nI a) (μ 50) (μ 52) n).1 → ∃ v : Nat, v < 6 ∧ (zGa (μ 71) (μ 75) (nI a) (μ 94) (μ 93) n).2.2 p = nI v := fun p hp => by
    obtain ⟨v, v1, v2⟩ := zGa_in (sd := μ 71) (co := μ 75) (s := nI a) (f0 := μ 94) (g0 := μ 93) n p (by omega)
    exact ⟨v, by omega, v2⟩
  have ht9 : ∀ p, p < (zGa (μ 18) (μ 23) (nI a) (μ 50) (μ 52) n).1 → zN ((zGa (μ 71) (μ 75) (nI a) (μ 94) (μ 93) n).2.1 p) 999 := fun p hp => zGa_P (P := fun x => zN x 999) n hk9 p (by omega)
  have f0 : zFc μ (mGa (gSt μ) (zGa (μ 18) (μ 23) (nI a) (μ 50) (μ 52) n).1 (zGa (μ 18) (μ 23) (nI a) (μ 50) (μ 52) n).2.1 (zGa (μ 18) (μ 23) (nI a) (μ 50) (μ 52) n).2.2) := gSt_fc.tr zFc.ga
  have hF : ∀ (i : Nat) (M : Mem), zFc M ((fun i M => gOr (zGa (μ 18) (μ 23) (nI a) (μ 50) (μ 52) n).1 i M) i M) := fun i M => gOr_fc
  have f1 : ∀ i, zFc μ (gSe (fun i M => gOr (zGa (μ 18) (μ 23) (nI a) (μ 50) (μ 52) n).1 i M) (fun _ => true) nI n (mGa (gSt μ) (zGa (μ 18) (μ 23) (nI a) (μ 50) (μ 52) n).1 (zGa (μ 18) (μ 23) (nI a) (μ 50) (μ 52) n).2.1 (zGa (μ 18) (μ 23) (nI a) (μ 50) (μ 52) n).2.2) i) := fun i => f0.tr (gSe_fc h6 (f0.sd hs) hF i)
  have pk : ∀ i, i < N → zPk (zRw (zGa (μ 18) (μ 23) (nI a) (μ 50) (μ 52) n).1 (zGa (μ 71) (μ 75) (nI a) (μ 94) (μ 93) n).2.2 (zGa (μ 71) (μ 75) (nI a) (μ 94) (μ 93) n).2.1 (μ 75) (i + 1)) n 1300 := fun i hi => by
    obtain ⟨k1, k2, k3⟩ := h.k13
    have e := fun k (hk : 6 ≤ k) => zRw_hi (f := (zGa (μ 71) (μ 75) (nI a) (μ 94) (μ 93) n).2.1) (b := μ 75) hc6 hpl hk (i + 1) (by omega)
    refine ⟨fun w hw => ⟨(zRw_P (P := fun x => zN x 999) (hk9 w hw) ht9 (i + 1)).mono (by decide), ?_, ?_⟩, ?_, ?_⟩
    · rw [e _ (by omega)]; exact (k1 w hw).2.1
    · rw [e _ (by omega)]; exact (k1 w hw).2.2
    · rw [e _ (by omega)]; exact k2
    · rw [e _ (by omega)]; exact k3
  have zc : ∀ i, i < N → zN (zCo μ (zRw (zGa (μ 18) (μ 23) (nI a) (μ 50) (μ 52) n).1 (zGa (μ 71) (μ 75) (nI a) (μ 94) (μ 93) n).2.2 (zGa (μ 71) (μ 75) (nI a) (μ 94) (μ 93) n).2.1 (μ 75) (i + 1)) n) 17940 := fun i hi => zC_N h.2.2.2.1 (pk i hi) h6
  have e2 : ∀ i q, 44 < q → q ≠ 46 → q ≠ 51 → (gSe (fun i M => gOr (zGa (μ 18) (μ 23) (nI a) (μ 50) (μ 52) n).1 i M) (fun _ => true) nI n (mGa (gSt μ) (zGa (μ 18) (μ 23) (nI a) (μ 50) (μ 52) n).1 (zGa (μ 18) (μ 23) (nI a) (μ 50) (μ 52) n).2.1 (zGa (μ 18) (μ 23) (nI a) (μ 50) (μ 52) n).2.2) i) q = (mGa (gSt μ) (zGa (μ 18) (μ 23) (nI a) (μ 50) (μ 52) n).1 (zGa (μ 18) (μ 23) (nI a) (μ 50) (μ 52) n).2.1 (zGa (μ 18) (μ 23) (nI a) (μ 50) (μ 52) n).2.2) q := by
    intro i
    induction i with
    | zero => intro q _ _ _; rfl
    | succ i ih =>
      intro q h1 h2 h3
      rw [gSe]
      split
      · exact ih q h1 h2 h3
      · rw [if_pos rfl, gWeigh_ne h6 (((f1 i).tr (hF i _)).sd hs) h1]
        exact (gOr_ne h3 h2).trans (ih q h1 h2 h3)
  have h52 : ∀ i, (gSe (fun i M => gOr (zGa (μ 18) (μ 23) (nI a) (μ 50) (μ 52) n).1 i M) (fun _ => true) nI n (mGa (gSt μ) (zGa (μ 18) (μ 23) (nI a) (μ 50) (μ 52) n).1 (zGa (μ 18) (μ 23) (nI a) (μ 50) (μ 52) n).2.1 (zGa (μ 18) (μ 23) (nI a) (μ 50) (μ 52) n).2.2) i) 52 = (zGa (μ 18) (μ 23) (nI a) (μ 50) (μ 52) n).2.2 := fun i => e2 i 52 (by decide) (by decide) (by decide)
  have h50 : ∀ i, (gSe (fun i M => gOr (zGa (μ 18) (μ 23) (nI a) (μ 50) (μ 52) n).1 i M) (fun _ => true) nI n (mGa (gSt μ) (zGa (μ 18) (μ 23) (nI a) (μ 50) (μ 52) n).1 (zGa (μ 18) (μ 23) (nI a) (μ 50) (μ 52) n).2.1 (zGa (μ 18) (μ 23) (nI a) (μ 50) (μ 52) n).2.2) i) 50 = (zGa (μ 18) (μ 23) (nI a) (μ 50) (μ 52) n).2.1 := fun i => e2 i 50 (by decide) (by decide) (by decide)
  have seat : ∀ (M : Mem) (i : Nat), M 52 = (zGa (μ 18) (μ 23) (nI a) (μ 50) (μ 52) n).2.2 → i < N → ∀ p, p < (zGa (μ 18) (μ 23) (nI a) (μ 50) (μ 52) n).1 → (zSb (zGa (μ 18) (μ 23) (nI a) (μ 50) (μ 52) n).1 i (va_cpy (M 52) (M 51) 0 0 (zGa (μ 18) (μ 23) (nI a) (μ 50) (μ 52) n).1) (zGa (μ 18) (μ 23) (nI a) (μ 50) (μ 52) n).1).2 p = (zGa (μ 71) (μ 75) (nI a) (μ 94) (μ 93) n).2.2 (zPx (zGa (μ 18) (μ 23) (nI a) (μ 50) (μ 52) n).1 i p) := fun M i hM hi p hp => by
    obtain ⟨x1, x2, -⟩ := zNum hc6 (m := i) (by omega) hp
    rw [zSb_ix, ← x1]
    unfold va_cpy
    rw [if_pos (by omega), hM, show 0 + (zPx (zGa (μ 18) (μ 23) (nI a) (μ 50) (μ 52) n).1 i p - 0) = zPx (zGa (μ 18) (μ 23) (nI a) (μ 50) (μ 52) n).1 i p by omega]
    exact (eg _ x2).2
  obtain ⟨t1, t2, t3⟩ := h.trial
  have row : ∀ i, i < N → (∀ w, w < n → (gSe (fun i M => gOr (zGa (μ 18) (μ 23) (nI a) (μ 50) (μ 52) n).1 i M) (fun _ => true) nI n (mGa (gSt μ) (zGa (μ 18) (μ 23) (nI a) (μ 50) (μ 52) n).1 (zGa (μ 18) (μ 23) (nI a) (μ 50) (μ 52) n).2.1 (zGa (μ 18) (μ 23) (nI a) (μ 50) (μ 52) n).2.2) i) 46 w = (zRw (zGa (μ 18) (μ 23) (nI a) (μ 50) (μ 52) n).1 (zGa (μ 71) (μ 75) (nI a) (μ 94) (μ 93) n).2.2 (zGa (μ 71) (μ 75) (nI a) (μ 94) (μ 93) n).2.1 (μ 75) i) w) → ∀ w, w < n → gOr (zGa (μ 18) (μ 23) (nI a) (μ 50) (μ 52) n).1 i (gSe (fun i M => gOr (zGa (μ 18) (μ 23) (nI a) (μ 50) (μ 52) n).1 i M) (fun _ => true) nI n (mGa (gSt μ) (zGa (μ 18) (μ 23) (nI a) (μ 50) (μ 52) n).1 (zGa (μ 18) (μ 23) (nI a) (μ 50) (μ 52) n).2.1 (zGa (μ 18) (μ 23) (nI a) (μ 50) (μ 52) n).2.2) i) 46 w = (zRw (zGa (μ 18) (μ 23) (nI a) (μ 50) (μ 52) n).1 (zGa (μ 71) (μ 75) (nI a) (μ 94) (μ 93) n).2.2 (zGa (μ 71) (μ 75) (nI a) (μ 94) (μ 93) n).2.1 (μ 75) (i + 1)) w := fun i hi e w hw => by
    refine (congrFun (va_up_self _ _ _) w).trans ?_
    refine zGt_cg (e w hw) _ (fun p hp => ⟨seat _ i (h52 i) hi p hp, ?_⟩)
    rw [h50 i]
    exact (eg p hp).1
  have inv : ∀ i, i < N → ¬ (gSe (fun i M => gOr (zGa (μ 18) (μ 23) (nI a) (μ 50) (μ 52) n).1 i M) (fun _ => true) nI n (mGa (gSt μ) (zGa (μ 18) (μ 23) (nI a) (μ 50) (μ 52) n).1 (zGa (μ 18) (μ 23) (nI a) (μ 50) (μ 52) n).2.1 (zGa (μ 18) (μ 23) (nI a) (μ 50) (μ 52) n).2.2) i) 44 6 ≤ 0 → ∀ w, w < n → (gSe (fun i M => gOr (zGa (μ 18) (μ 23) (nI a) (μ 50) (μ 52) n).1 i M) (fun _ => true) nI n (mGa (gSt μ) (zGa (μ 18) (μ 23) (nI a) (μ 50) (μ 52) n).1 (zGa (μ 18) (μ 23) (nI a) (μ 50) (μ 52) n).2.1 (zGa (μ 18) (μ 23) (nI a) (μ 50) (μ 52) n).2.2) i) 46 w = (zRw (zGa (μ 18) (μ 23) (nI a) (μ 50) (μ 52) n).1 (zGa (μ 71) (μ 75) (nI a) (μ 94) (μ 93) n).2.2 (zGa (μ 71) (μ 75) (nI a) (μ 94) (μ 93) n).2.1 (μ 75) i) w := by
    intro i
    induction i with
    | zero => intro hi _ w hw; exact (t1 w hw).1
    | succ i ih =>
      intro hi hne w hw
      have hst : ¬ (gSe (fun i M => gOr (zGa (μ 18) (μ 23) (nI a) (μ 50) (μ 52) n).1 i M) (fun _ => true) nI n (mGa (gSt μ) (zGa (μ 18) (μ 23) (nI a) (μ 50) (μ 52) n).1 (zGa (μ 18) (μ 23) (nI a) (μ 50) (μ 52) n).2.1 (zGa (μ 18) (μ 23) (nI a) (μ 50) (μ 52) n).2.2) i) 44 6 ≤ 0 := fun e => hne (by rw [gSe, if_pos e]; exact e)
      rw [gSe, if_neg hst, if_pos rfl, gWeigh_ne h6 (((f1 i).tr (hF i _)).sd hs) (by decide)]
      exact row i (by omega) (ih (by omega) hst) w hw
  have pl : ∀ i, i < N → ¬ (gSe (fun i M => gOr (zGa (μ 18) (μ 23) (nI a) (μ 50) (μ 52) n).1 i M) (fun _ => true) nI n (mGa (gSt μ) (zGa (μ 18) (μ 23) (nI a) (μ 50) (μ 52) n).1 (zGa (μ 18) (μ 23) (nI a) (μ 50) (μ 52) n).2.1 (zGa (μ 18) (μ 23) (nI a) (μ 50) (μ 52) n).2.2) i) 44 6 ≤ 0 → zPl (gOr (zGa (μ 18) (μ 23) (nI a) (μ 50) (μ 52) n).1 i (gSe (fun i M => gOr (zGa (μ 18) (μ 23) (nI a) (μ 50) (μ 52) n).1 i M) (fun _ => true) nI n (mGa (gSt μ) (zGa (μ 18) (μ 23) (nI a) (μ 50) (μ 52) n).1 (zGa (μ 18) (μ 23) (nI a) (μ 50) (μ 52) n).2.1 (zGa (μ 18) (μ 23) (nI a) (μ 50) (μ 52) n).2.2) i)) 45 (zRw (zGa (μ 18) (μ 23) (nI a) (μ 50) (μ 52) n).1 (zGa (μ 71) (μ 75) (nI a) (μ 94) (μ 93) n).2.2 (zGa (μ 71) (μ 75) (nI a) (μ 94) (μ 93) n).2.1 (μ 75) (i + 1)) n := fun i hi hne => by
    have e := fun k (hk : 6 ≤ k) => zRw_hi (f := (zGa (μ 71) (μ 75) (nI a) (μ 94) (μ 93) n).2.1) (b := μ 75) hc6 hpl hk (i + 1) (by omega)
    have g : ∀ q, 44 < q → q ≠ 46 → q ≠ 51 → q < 49 → gOr (zGa (μ 18) (μ 23) (nI a) (μ 50) (μ 52) n).1 i (gSe (fun i M => gOr (zGa (μ 18) (μ 23) (nI a) (μ 50) (μ 52) n).1 i M) (fun _ => true) nI n (mGa (gSt μ) (zGa (μ 18) (μ 23) (nI a) (μ 50) (μ 52) n).1 (zGa (μ 18) (μ 23) (nI a) (μ 50) (μ 52) n).2.1 (zGa (μ 18) (μ 23) (nI a) (μ 50) (μ 52) n).2.2) i) q = fPlanCp μ 45 22 q := fun q q1 q2 q3 q4 => by
      rw [gOr_ne q3 q2, e2 i q q1 q2 q3, mGa_ne (by omega)]
      exact gSt_ne (by omega)
    refine ⟨fun w hw => ⟨row i hi (inv i hi hne) w hw, ?_, ?_⟩, ?_, ?_⟩
    · rw [e _ (by omega), g _ (by decide) (by decide) (by decide) (by decide)]; exact (t1 w hw).2.1
    · rw [e _ (by omega), g _ (by decide) (by decide) (by decide) (by decide)]; exact (t1 w hw).2.2
    · rw [e _ (by omega), g _ (by decide) (by decide) (by decide) (by decide)]; exact t2
    · rw [e _ (by omega), g _ (by decide) (by decide) (by decide) (by decide)]; exact t3
  have hsel := gSe_sel2 (F := fun i M => gOr (zGa (μ 18) (μ 23) (nI a) (μ 50) (μ 52) n).1 i M) (c := (fun i => zCo μ (zRw (zGa (μ 18) (μ 23) (nI a) (μ 50) (μ 52) n).1 (zGa (μ 71) (μ 75) (nI a) (μ 94) (μ 93) n).2.2 (zGa (μ 71) (μ 75) (nI a) (μ 94) (μ 93) n).2.1 (μ 75) (i + 1)) n)) (id := nI) (N := N) (μ := (mGa (gSt μ) (zGa (μ 18) (μ 23) (nI a) (μ 50) (μ 52) n).1 (zGa (μ 18) (μ 23) (nI a) (μ 50) (μ 52) n).2.1 (zGa (μ 18) (μ 23) (nI a) (μ 50) (μ 52) n).2.2)) h6 (f0.sd hs) hF (fun i M => gOr_ne (by decide) (by decide)) (fun i hi hne => h.clsCost ((f1 i).tr (hF i _)) (pl i hi hne) (pk i hi)) zc N (Nat.le_refl N)
  rw [show (mGa (gSt μ) (zGa (μ 18) (μ 23) (nI a) (μ 50) (μ 52) n).1 (zGa (μ 18) (μ 23) (nI a) (μ 50) (μ 52) n).2.1 (zGa (μ 18) (μ 23) (nI a) (μ 50) (μ 52) n).2.2) 44 6 = 1000000000 from (congrFun (mGa_ne (by decide)) 6).trans (up2_same _ _ _ _)] at hsel
  have s5 : (gSe (fun i M => gOr (zGa (μ 18) (μ 23) (nI a) (μ 50) (μ 52) n).1 i M) (fun _ => true) nI n (mGa (gSt μ) (zGa (μ 18) (μ 23) (nI a) (μ 50) (μ 52) n).1 (zGa (μ 18) (μ 23) (nI a) (μ 50) (μ 52) n).2.1 (zGa (μ 18) (μ 23) (nI a) (μ 50) (μ 52) n).2.2) N) 44 5 = (zSel (fun i => zCo μ (zRw (zGa (μ 18) (μ 23) (nI a) (μ 50) (μ 52) n).1 (zGa (μ 71) (μ 75) (nI a) (μ 94) (μ 93) n).2.2 (zGa (μ 71) (μ 75) (nI a) (μ 94) (μ 93) n).2.1 (μ 75) (i + 1)) n) nI ((mGa (gSt μ) (zGa (μ 18) (μ 23) (nI a) (μ 50) (μ 52) n).1 (zGa (μ 18) (μ 23) (nI a) (μ 50) (μ 52) n).2.1 (zGa (μ 18) (μ 23) (nI a) (μ 50) (μ 52) n).2.2) 44 5) 1000000000 N).1 := congrArg Prod.fst hsel
  have s6 : (gSe (fun i M => gOr (zGa (μ 18) (μ 23) (nI a) (μ 50) (μ 52) n).1 i M) (fun _ => true) nI n (mGa (gSt μ) (zGa (μ 18) (μ 23) (nI a) (μ 50) (μ 52) n).1 (zGa (μ 18) (μ 23) (nI a) (μ 50) (μ 52) n).2.1 (zGa (μ 18) (μ 23) (nI a) (μ 50) (μ 52) n).2.2) N) 44 6 = (zSel (fun i => zCo μ (zRw (zGa (μ 18) (μ 23) (nI a) (μ 50) (μ 52) n).1 (zGa (μ 71) (μ 75) (nI a) (μ 94) (μ 93) n).2.2 (zGa (μ 71) (μ 75) (nI a) (μ 94) (μ 93) n).2.1 (μ 75) (i + 1)) n) nI ((mGa (gSt μ) (zGa (μ 18) (μ 23) (nI a) (μ 50) (μ 52) n).1 (zGa (μ 18) (μ 23) (nI a) (μ 50) (μ 52) n).2.1 (zGa (μ 18) (μ 23) (nI a) (μ 50) (μ 52) n).2.2) 44 5) 1000000000 N).2 := congrArg Prod.snd hsel
  have hR : ∀ M : Mem, zFc μ M → zFr (rCp M 91 75 0 0 21) (rOb (zGa (μ 18) (μ 23) (nI a) (μ 50) (μ 52) n).1 n (mLp (rCp M 91 75 0 0 21) (zGa (μ 71) (μ 75) (nI a) (μ 94) (μ 93) n).2.1 (zGa (μ 71) (μ 75) (nI a) (μ 94) (μ 93) n).2.2) N).1 ∧ (rOb (zGa (μ 18) (μ 23) (nI a) (μ 50) (μ 52) n).1 n (mLp (rCp M 91 75 0 0 21) (zGa (μ 71) (μ 75) (nI a) (μ 94) (μ 93) n).2.1 (zGa (μ 71) (μ 75) (nI a) (μ 94) (μ 93) n).2.2) N).2 = (gSe (fun i M => gOr (zGa (μ 18) (μ 23) (nI a) (μ 50) (μ 52) n).1 i M) (fun _ => true) nI n (mGa (gSt μ) (zGa (μ 18) (μ 23) (nI a) (μ 50) (μ 52) n).1 (zGa (μ 18) (μ 23) (nI a) (μ 50) (μ 52) n).2.1 (zGa (μ 18) (μ 23) (nI a) (μ 50) (μ 52) n).2.2) N) 44 6 ∧ ∃ f, f < N ∧ (gSe (fun i M => gOr (zGa (μ 18) (μ 23) (nI a) (μ 50) (μ 52) n).1 i M) (fun _ => true) nI n (mGa (gSt μ) (zGa (μ 18) (μ 23) (nI a) (μ 50) (μ 52) n).1 (zGa (μ 18) (μ 23) (nI a) (μ 50) (μ 52) n).2.1 (zGa (μ 18) (μ 23) (nI a) (μ 50) (μ 52) n).2.2) N) 44 5 = nI f ∧ ∀ k, k < (zGa (μ 18) (μ 23) (nI a) (μ 50) (μ 52) n).1 → (rOb (zGa (μ 18) (μ 23) (nI a) (μ 50) (μ 52) n).1 n (mLp (rCp M 91 75 0 0 21) (zGa (μ 71) (μ 75) (nI a) (μ 94) (μ 93) n).2.1 (zGa (μ 71) (μ 75) (nI a) (μ 94) (μ 93) n).2.2) N).1 92 k = (zGa (μ 71) (μ 75) (nI a) (μ 94) (μ 93) n).2.2 (zPx (zGa (μ 18) (μ 23) (nI a) (μ 50) (μ 52) n).1 f k) := fun M hM => by
    have e75 : (mLp (rCp M 91 75 0 0 21) (zGa (μ 71) (μ 75) (nI a) (μ 94) (μ 93) n).2.1 (zGa (μ 71) (μ 75) (nI a) (μ 94) (μ 93) n).2.2) 75 = μ 75 := mLp_at75.trans (h.held hM)
    have hpM : ∀ p, p < (zGa (μ 18) (μ 23) (nI a) (μ 50) (μ 52) n).1 → ∃ v : Nat, v < 6 ∧ (mLp (rCp M 91 75 0 0 21) (zGa (μ 71) (μ 75) (nI a) (μ 94) (μ 93) n).2.1 (zGa (μ 71) (μ 75) (nI a) (μ 94) (μ 93) n).2.2) 93 p = nI v := fun p hp => by
      rw [mLp_at93]
      exact hpl p hp
    have fr : ∀ i, i ≤ N → zFr (rCp M 91 75 0 0 21) (rOb (zGa (μ 18) (μ 23) (nI a) (μ 50) (μ 52) n).1 n (mLp (rCp M 91 75 0 0 21) (zGa (μ 71) (μ 75) (nI a) (μ 94) (μ 93) n).2.1 (zGa (μ 71) (μ 75) (nI a) (μ 94) (μ 93) n).2.2) i).1 := fun i hi => zFr.lay.tr (rOb_fr hc6 hpM i (by omega))
    have fq : ∀ i, i < N → zFr (rCp M 91 75 0 0 21) (rOr (zGa (μ 18) (μ 23) (nI a) (μ 50) (μ 52) n).1 i (rOb (zGa (μ 18) (μ 23) (nI a) (μ 50) (μ 52) n).1 n (mLp (rCp M 91 75 0 0 21) (zGa (μ 71) (μ 75) (nI a) (μ 94) (μ 93) n).2.1 (zGa (μ 71) (μ 75) (nI a) (μ 94) (μ 93) n).2.2) i).1) := fun i hi => (fr i (by omega)).tr (rOr_fr hc6 (by omega) (fun p hp => by
      rw [rOb_ne (by decide) (by decide) (by decide) (by unfold zMe; omega)]
      exact hpM p hp))
    have ecs : ∀ i, i < N → rCost (rNow (rOr (zGa (μ 18) (μ 23) (nI a) (μ 50) (μ 52) n).1 i (rOb (zGa (μ 18) (μ 23) (nI a) (μ 50) (μ 52) n).1 n (mLp (rCp M 91 75 0 0 21) (zGa (μ 71) (μ 75) (nI a) (μ 94) (μ 93) n).2.1 (zGa (μ 71) (μ 75) (nI a) (μ 94) (μ 93) n).2.2) i).1) n) = (fun i => zCo μ (zRw (zGa (μ 18) (μ 23) (nI a) (μ 50) (μ 52) n).1 (zGa (μ 71) (μ 75) (nI a) (μ 94) (μ 93) n).2.2 (zGa (μ 71) (μ 75) (nI a) (μ 94) (μ 93) n).2.1 (μ 75) (i + 1)) n) i := fun i hi => by
      refine h.refCost hM (fq i hi) ?_ (pk i hi)
      rw [rOr_rw, e75, mLp_at93, mLp_at94]
      exact zPq.rf
    obtain ⟨o1, -, f, o3, o4, o5⟩ := zOb (f0 := (mGa (gSt μ) (zGa (μ 18) (μ 23) (nI a) (μ 50) (μ 52) n).1 (zGa (μ 18) (μ 23) (nI a) (μ 50) (μ 52) n).2.1 (zGa (μ 18) (μ 23) (nI a) (μ 50) (μ 52) n).2.2) 44 5) (c := (zGa (μ 18) (μ 23) (nI a) (μ 50) (μ 52) n).1) (n := n) (R := (mLp (rCp M 91 75 0 0 21) (zGa (μ 71) (μ 75) (nI a) (μ 94) (μ 93) n).2.1 (zGa (μ 71) (μ 75) (nI a) (μ 94) (μ 93) n).2.2)) (cs := (fun i => zCo μ (zRw (zGa (μ 18) (μ 23) (nI a) (μ 50) (μ 52) n).1 (zGa (μ 71) (μ 75) (nI a) (μ 94) (μ 93) n).2.2 (zGa (μ 71) (μ 75) (nI a) (μ 94) (μ 93) n).2.1 (μ 75) (i + 1)) n)) ecs zc (N - 1) (by omega)
    rw [show N - 1 + 1 = N by omega] at o1 o4 o5
    rw [mLp_at93] at o5
    exact ⟨fr N (Nat.le_refl N), o1.trans s6.symm, f, by omega, s5.trans o4, o5⟩
  have eZ : ∀ M : Mem, zFc μ M → zGa ((rCp M 91 75 0 0 21) 71) ((rCp M 91 75 0 0 21) 75) (nI a) ((rCp M 91 75 0 0 21) 94) ((rCp M 91 75 0 0 21) 93) n = (zGa (μ 71) (μ 75) (nI a) (μ 94) (μ 93) n) := fun M hM => by
    rw [hold_n (by decide), hold_n (by decide), hold_n (by decide), hold_n (by decide), hM 71 (by omega), hM 75 (by omega), hM 94 (by omega), hM 93 (by omega)]
  by_cases hv1 : v = -1
  · subst hv1
    have h2 := h.congr zKeepC.rf (f1 N).hi
    obtain ⟨q1, q2, -⟩ := hR _ (f1 N)
    exact zOp.tried h (c_order_c hn h6 hs ha hN) (d_order_c h2.2.2.1 h6 h2.hp.sidesM ha hN (by rw [eZ _ (f1 N)]; exact ec.symm) (by rw [eZ _ (f1 N)])) q2 (f1 N) q1
  rcases zwho v (zGa (μ 18) (μ 23) (nI a) (μ 50) (μ 52) n).1 (by omega) with hx | ⟨j, hj, rfl⟩
  · have h2 := h.congr zKeepC.rf (f1 N).hi
    obtain ⟨q1, -⟩ := hR _ (f1 N)
    exact zOp.tried h (c_order_n hn h6 hs ha hN hx hv1) (d_order_n h2.2.2.1 h6 h2.hp.sidesM ha hN (by rw [eZ _ (f1 N)]; exact ec.symm) (by rw [eZ _ (f1 N)]) hx hv1) rfl (f1 N) q1
  · obtain ⟨-, -, fo, hfo2, hfo, -⟩ := hR _ (f1 N)
    have f2 : zFc μ (va_up (gSe (fun i M => gOr (zGa (μ 18) (μ 23) (nI a) (μ 50) (μ 52) n).1 i M) (fun _ => true) nI n (mGa (gSt μ) (zGa (μ 18) (μ 23) (nI a) (μ 50) (μ 52) n).1 (zGa (μ 18) (μ 23) (nI a) (μ 50) (μ 52) n).2.1 (zGa (μ 18) (μ 23) (nI a) (μ 50) (μ 52) n).2.2) N) 51 (zSb (zGa (μ 18) (μ 23) (nI a) (μ 50) (μ 52) n).1 fo (va_cpy ((gSe (fun i M => gOr (zGa (μ 18) (μ 23) (nI a) (μ 50) (μ 52) n).1 i M) (fun _ => true) nI n (mGa (gSt μ) (zGa (μ 18) (μ 23) (nI a) (μ 50) (μ 52) n).1 (zGa (μ 18) (μ 23) (nI a) (μ 50) (μ 52) n).2.1 (zGa (μ 18) (μ 23) (nI a) (μ 50) (μ 52) n).2.2) N) 52) ((gSe (fun i M => gOr (zGa (μ 18) (μ 23) (nI a) (μ 50) (μ 52) n).1 i M) (fun _ => true) nI n (mGa (gSt μ) (zGa (μ 18) (μ 23) (nI a) (μ 50) (μ 52) n).1 (zGa (μ 18) (μ 23) (nI a) (μ 50) (μ 52) n).2.1 (zGa (μ 18) (μ 23) (nI a) (μ 50) (μ 52) n).2.2) N) 51) 0 0 (zGa (μ 18) (μ 23) (nI a) (μ 50) (μ 52) n).1) (zGa (μ 18) (μ 23) (nI a) (μ 50) (μ 52) n).1).2) := (f1 N).tr (zFc.va (by decide))
    have h2 := h.congr zKeepC.rf f2.hi
    obtain ⟨q1, -, f3, f32, f33, q3⟩ := hR _ f2
    have hf7 := zFa_le hc6
    have ef : f3 = fo := Classical.byContradiction (fun e => zne e (by omega) (by omega) (f33.symm.trans hfo))
    subst ef
    exact zOp.tried h (c_order_w hn h6 hs ha hN hj hfo (by omega)) (d_order_w h2.2.2.1 h6 h2.hp.sidesM ha hN (by rw [eZ _ f2]; exact ec.symm) (by rw [eZ _ f2]) hj) ((q3 j hj).trans (seat _ f3 (h52 N) hfo2 j hj).symm) f2 q1
