
theorem fKick_ne {μ : Mem} {k q : Nat} {t h b : Int32} (hq : q ≠ k) : fKick μ k t h b q = μ q := by
  unfold fKick
  rw [up2_ne hq, up2_ne hq, up2_ne hq, up2_ne hq]
theorem fLet_ne {μ : Mem} {k s q : Nat} {w t u : Int32} (h1 : q ≠ k + 1) (h2 : q ≠ k + 2) (h3 : q ≠ k + 3) : fLet μ k s w t u q = μ q := by
  unfold fLet
  split
  · rw [up2_ne h3, up2_ne h2, up2_ne h1]
  · rw [up2_ne h3, up2_ne h2, up2_ne h1]
theorem fRest_ne {μ : Mem} {k q : Nat} (h0 : q ≠ k) (h1 : q ≠ k + 1) (h2 : q ≠ k + 2) (h3 : q ≠ k + 3) : fRest μ k q = μ q := by
  unfold fRest
  rw [up2_ne h0, up2_ne h0, up2_ne h0, up2_ne h0, up2_ne h0]
  simp only [fFill, va_up, if_neg h1, if_neg h2, if_neg h3]
theorem gThrough_ne {μ : Mem} {pl w lf s q : Nat} {t : Int32} (h0 : q ≠ 38 + w) (h1 : q ≠ 30 + 4 * lf) : gThrough μ pl w lf s t q = μ q := by
  unfold gThrough
  split
  · split
    · dsimp only
      rw [fKick_ne h1]
      split
      · split
        · rfl
        · rw [up2_ne h0]
      · rw [up2_ne h0, up2_ne h0]
    · rw [up2_ne h0]
  · rw [up2_ne h0]
theorem gCrash_ne {μ : Mem} {w q : Nat} {v : Int32} (hv : zLat v) (h0 : q ≠ 38 + w) (h1 : q < 38 ∨ 43 < q) : gCrash μ w v q = μ q := by
  unfold gCrash
  rcases hv with hv | ⟨m, hm, rfl⟩
  · rw [if_pos hv, up2_ne h0, up2_ne h0]
  · rw [nI_clamp (show m < 2 ^ 31 by omega)]
    split
    · rw [up2_ne h0, up2_ne h0]
    · rw [up2_ne (by omega), up2_ne (by omega), up2_ne h0, up2_ne h0]
theorem gEnd_ne {μ : Mem} {w lf s q : Nat} {t st sp : Int32} (h0 : q ≠ 38 + w) (h1 : q ≠ 30 + 4 * lf + 1) (h2 : q ≠ 30 + 4 * lf + 2) (h3 : q ≠ 30 + 4 * lf + 3) : gEnd μ w lf s t st sp q = μ q := by
  unfold gEnd
  rw [fLet_ne h1 h2 h3, up2_ne h0, up2_ne h0, up2_ne h0]
theorem gWait_ne {μ : Mem} {pl w lf s q : Nat} {t sp : Int32} (h0 : q ≠ 38 + w) (h4 : q ≠ 30 + 4 * lf) (h1 : q ≠ 30 + 4 * lf + 1) (h2 : q ≠ 30 + 4 * lf + 2) (h3 : q ≠ 30 + 4 * lf + 3) : gWait μ pl w lf s t sp q = μ q := by
  unfold gWait
  rw [gEnd_ne h0 h1 h2 h3, gThrough_ne h0 h4, up2_ne h0]
theorem gLook2_ne {μ : Mem} {pl n w lf s q : Nat} {t sp : Int32} (hv : zLat (μ (30 + 4 * lf + 3) (1 - s))) (hw : w < 6) (hl : lf < 2) (hq : q < 30 ∨ 43 < q) : gLook2 μ pl n w lf s t sp q = μ q := by
  unfold gLook2
  split
  · rw [gEnd_ne (by omega) (by omega) (by omega) (by omega), gThrough_ne (by omega) (by omega)]
  · split
    · split
      · rw [gEnd_ne (by omega) (by omega) (by omega) (by omega), gCrash_ne hv (by omega) (by omega)]
      · rw [gWait_ne (by omega) (by omega) (by omega) (by omega) (by omega)]
    · rw [gWait_ne (by omega) (by omega) (by omega) (by omega) (by omega)]
def zLats (μ : Mem) : Prop := ∀ a b, a < 2 → b < 2 → zLat (μ (30 + 4 * a + 3) b)
theorem gLeaf_lt {μ : Mem} {pl w s : Nat} (hs : s < 2) : gLeaf μ pl w s < 2 := gChoose_lt hs
theorem gLook_ne {μ : Mem} {pl n w s q : Nat} (hv : zLats μ) (hw : w < 6) (hs : s < 2) (hq : q < 30 ∨ 43 < q) : gLook μ pl n w s q = μ q := by
  unfold gLook
  have hl := gLeaf_lt (μ := μ) (pl := pl) (w := w) hs
  rw [gLook2_ne (by rw [gBegin_sw hw hl (by omega)]; exact hv _ _ hl (by omega)) hw hl hq, gBegin_ne hw hl hq]
theorem fLet_lat {μ : Mem} {k s a : Nat} {w t u : Int32} : fLet μ k s w t u (k + 3) a = if a = s then w else μ (k + 3) a := by
  unfold fLet
  split
  · rw [up2_row]
    split
    · rfl
    · rw [up2_ne (by omega), up2_ne (by omega)]
  · rw [up2_row]
    split
    · rfl
    · rw [up2_ne (by omega), up2_ne (by omega)]
theorem gEnd_lat {μ : Mem} {w lf s : Nat} {t st sp : Int32} (hw : w < 6) (hl : lf < 2) (hv : zLats μ) : zLats (gEnd μ w lf s t st sp) := by
  intro a b ha hb
  unfold gEnd
  by_cases e : a = lf
  · subst e
    rw [fLet_lat]
    split
    · exact Or.inr ⟨w, hw, rfl⟩
    · rw [up2_ne (by omega), up2_ne (by omega), up2_ne (by omega)]
      exact hv a b ha hb
  · rw [fLet_ne (by omega) (by omega) (by omega), up2_ne (by omega), up2_ne (by omega), up2_ne (by omega)]
    exact hv a b ha hb
theorem gThrough_lat {μ : Mem} {pl w lf s : Nat} {t : Int32} (hw : w < 6) (hl : lf < 2) (hv : zLats μ) : zLats (gThrough μ pl w lf s t) := by
  intro a b ha hb
  rw [gThrough_ne (by omega) (by omega)]
  exact hv a b ha hb
theorem up2_lat {μ : Mem} {w i : Nat} {x : Int32} (hv : zLats μ) : zLats (up2 μ (38 + w) i x) := by
  intro a b ha hb
  rw [up2_ne (by omega)]
  exact hv a b ha hb
theorem gWait_lat {μ : Mem} {pl w lf s : Nat} {t sp : Int32} (hw : w < 6) (hl : lf < 2) (hv : zLats μ) : zLats (gWait μ pl w lf s t sp) :=
  gEnd_lat hw hl (gThrough_lat hw hl (up2_lat hv))
theorem gLook_lat {μ : Mem} {pl n w s : Nat} (hv : zLats μ) (hw : w < 6) (hs : s < 2) : zLats (gLook μ pl n w s) := by
  unfold gLook
  have hl := gLeaf_lt (μ := μ) (pl := pl) (w := w) hs
  have hb : zLats (gBegin μ w (gLeaf μ pl w s)) := by
    intro a b ha hb
    unfold gBegin
    rw [up2_ne (by omega), up2_ne (by omega), up2_ne (by omega), up2_ne (by omega)]
    exact hv a b ha hb
  generalize gBegin μ w (gLeaf μ pl w s) = μ3 at hb ⊢
  generalize gLeaf μ pl w s = lf at hl ⊢
  unfold gLook2
  split
  · exact gEnd_lat hw hl (gThrough_lat hw hl hb)
  · split
    · split
      · refine gEnd_lat hw hl (fun a b ha hb2 => ?_)
        rw [gCrash_ne (hb lf (1 - s) hl (by omega)) (by omega) (by omega)]
        exact hb a b ha hb2
      · exact gWait_lat hw hl hb
    · exact gWait_lat hw hl hb
def gRests (μ : Mem) : Nat → Mem
  | 0 => μ
  | i + 1 => fRest (gRests μ i) (30 + 4 * i)
def gLooks (μ : Mem) (pl n : Nat) : Nat → Mem
  | 0 => μ
  | i + 1 => gLook (gLooks μ pl n i) pl n (gLooks μ pl n i 29 i).toNatClampNeg (gLooks μ pl n i 18 (gLooks μ pl n i 29 i).toNatClampNeg).toNatClampNeg
def gStart (μ : Mem) (pl n : Nat) : Mem := gLine (gRests μ 2) pl n
def gRun (μ : Mem) (pl n : Nat) : Mem := gLooks (gStart μ pl n) pl n n
theorem gRests_ne {μ : Mem} {q : Nat} (hq : q < 30 ∨ 37 < q) : ∀ i, i ≤ 2 → gRests μ i q = μ q
  | 0, _ => rfl
  | i + 1, h => by rw [gRests, fRest_ne (by omega) (by omega) (by omega) (by omega), gRests_ne hq i (by omega)]
theorem gStart_ne {μ : Mem} {pl n q : Nat} (hq : q < 29 ∨ 37 < q) : gStart μ pl n q = μ q := by
  unfold gStart
  rw [gLine_ne (by omega), gRests_ne (by omega) 2 (Nat.le_refl 2)]
/-- what a house must be for an evening: its waiters' sides -/
def zSides (μ : Mem) (n : Nat) : Prop := ∀ w, w < n → ∃ s : Nat, s < 2 ∧ μ 18 w = nI s
theorem fRest_lat {μ : Mem} {k b : Nat} (hb : b < 2) : fRest μ k (k + 3) b = -1 := by
  unfold fRest
  rw [up2_ne (by omega), up2_ne (by omega), up2_ne (by omega), up2_ne (by omega), up2_ne (by omega)]
  simp [fFill, va_up, hb]
theorem gStart_lat {μ : Mem} {pl n : Nat} : zLats (gStart μ pl n) := by
  intro a b ha hb
  refine Or.inl ?_
  unfold gStart
  rw [gLine_ne (by omega)]
  show fRest (fRest μ (30 + 4 * 0)) (30 + 4 * 1) (30 + 4 * a + 3) b < 0
  rcases (show a = 0 ∨ a = 1 by omega) with rfl | rfl
  · rw [fRest_ne (by omega) (by omega) (by omega) (by omega), fRest_lat hb]; decide
  · rw [fRest_lat hb]; decide

/-- all along an evening: what a look needs -/
theorem gLooks_inv {μ : Mem} {pl n : Nat} (h6 : n ≤ 6) (hq : zQu μ n n) (hs : zSides μ n) (hv : zLats μ) : ∀ i, i ≤ n → zLats (gLooks μ pl n i) ∧ ∀ q, (q < 30 ∨ 43 < q) → gLooks μ pl n i q = μ q
  | 0, _ => ⟨hv, fun _ _ => rfl⟩
  | i + 1, hi => by
    obtain ⟨h1, h2⟩ := gLooks_inv (pl := pl) h6 hq hs hv i (by omega)
    obtain ⟨m, hm, em⟩ := hq i (by omega)
    obtain ⟨s, hs2, es⟩ := hs m hm
    rw [gLooks, h2 29 (by omega), em, nI_clamp (show m < 2 ^ 31 by omega), h2 18 (by omega), es, nI_clamp (show s < 2 ^ 31 by omega)]
    exact ⟨gLook_lat h1 (by omega) hs2, fun q hq2 => by rw [gLook_ne h1 (by omega) hs2 hq2]; exact h2 q hq2⟩
set_option maxRecDepth 100000 in
set_option maxHeartbeats 4000000 in
theorem c_run {l : Launch} {G : zG} {pl : Nat} (hp : zPlan pl) (hpe : pl + 3 < 29 ∨ 43 < pl) {μ : Mem} {ν : Lng} {n : Nat} (hn : μ 15 6 = nI n) (h6 : n ≤ 6) (hsd : zSides μ n) : Cm l G mX0_run [.ref 26, .ref pl] μ ν (fun _ b9 c9 => gRun μ pl n = b9 ∧ ν = c9) := by
  refine Con.of (by decide) (Nat.le_of_ble_eq_true rfl) ?_
  show Am l G mX0_run 0 [(0, .ref 26), (1, .ref pl)] [] μ ν _
  have g1 : zQu (gStart μ pl n) n n := gLine_qu n
  have g2 : zSides (gStart μ pl n) n := fun w hw => by rw [gStart_ne (by omega)]; exact hsd w hw
  have g3 : zLats (gStart μ pl n) := gStart_lat
  have g4 : gStart μ pl n 15 6 = nI n := by rw [gStart_ne (by omega)]; exact hn
  have g5 := gLooks_inv (pl := pl) h6 g1 g2 g3
  have hL2 := m_for (l := l) (G := G) (M := mX0_run) (pc := 29) (ν := ν) (K := (fun _ b9 c9 => gRun μ pl n = b9 ∧ ν = c9)) (N := n) (fun i => [(2, .int (nI i)), (0, .ref 26), (1, .ref pl)]) (fun i => gLooks (gStart μ pl n) pl n i) (fun i hi H => by
    obtain ⟨g6, g7⟩ := g5 i (by omega)
    have e15 : gLooks (gStart μ pl n) pl n i 15 6 = nI n := by rw [g7 15 (by omega)]; exact g4
    obtain ⟨m, hm, em⟩ := g1 i hi
    obtain ⟨s, hs2, es⟩ := g2 m hm
    rw [← g7 29 (by omega)] at em
    rw [← g7 18 (by omega)] at es
    refine z_iload_n dX0_run_29 rfl ?_
    refine z_aload_n dX0_run_30 rfl ?_
    refine m_getr dX0_run_31 fX0_27 sh26 rfl ?_
    refine m_geti dX0_run_34 fX0_40 sh15 rfl ?_
    refine z_icmp_ge 57 dX0_run_37 (by decide) (fun h37 => absurd (e15 ▸ h37) (nI_ge hi (by omega))) (fun h37 => ?_)
    refine z_aload_n dX0_run_40 rfl ?_
    refine z_aload_n dX0_run_41 rfl ?_
    refine m_getr dX0_run_42 fX0_23 sh26 rfl ?_
    refine z_iload_n dX0_run_45 rfl ?_
    refine m_ialdN (j := i) dX0_run_46 sh29 rfl (by omega) rfl ?_
    rw [em]
    refine z_aload_n dX0_run_47 rfl ?_
    refine m_callVv (As := [.int _, .ref _]) dX0_run_48 kX0_46 ⟨rfl, rfl⟩ rfl ⟨rfl, rfl⟩ rfl rfl sh26 rfl rfl (c_lookAt hp (w := m) (s := s) (n := n) (by omega) e15 h6 es hs2 (by omega) g6) (fun μ48 ν48 hk48 => ?_)
    obtain ⟨rfl, rfl⟩ := hk48
    refine z_iinc (fun y => [(2, .int y), (0, .ref 26), (1, .ref pl)]) dX0_run_51 rfl rfl (fun _ => rfl) (fun x2_51 ex2_51 => ?_)
    obtain rfl : x2_51 = nI (i + 1) := by rw [ex2_51]; exact nI_1 i
    refine z_goto 29 dX0_run_54 (by decide) ?_
    simp only [gLooks] at H
    rw [em, nI_clamp (show m < 2 ^ 31 by omega), es, nI_clamp (show s < 2 ^ 31 by omega)] at H
    exact H) (by
    have e15 : gLooks (gStart μ pl n) pl n n 15 6 = nI n := by rw [(g5 n (Nat.le_refl n)).2 15 (by omega)]; exact g4
    refine z_iload_n dX0_run_29 rfl ?_
    refine z_aload_n dX0_run_30 rfl ?_
    refine m_getr dX0_run_31 fX0_27 sh26 rfl ?_
    refine m_geti dX0_run_34 fX0_40 sh15 rfl ?_
    refine z_icmp_ge 57 dX0_run_37 (by decide) (fun h37 => ?_) (fun h37 => absurd (e15 ▸ nI_le (Nat.le_refl n) (by omega)) h37)
    refine m_ret dX0_run_57 rfl ?_
    exact ⟨rfl, rfl⟩)
  have hL1 := m_for (l := l) (G := G) (M := mX0_run) (pc := 2) (ν := ν) (K := (fun _ b9 c9 => gRun μ pl n = b9 ∧ ν = c9)) (N := 2) (fun i => [(2, .int (nI i)), (0, .ref 26), (1, .ref pl)]) (fun i => gRests μ i) (fun i hi H => by
    refine z_iload_n dX0_run_2 rfl ?_
    refine z_iconst (v := 2) dX0_run_3 rfl ?_
    refine z_icmp_ge 22 dX0_run_4 (by decide) (fun h4 => absurd h4 (nI_ge hi (by decide))) (fun h4 => ?_)
    refine z_aload_n dX0_run_7 rfl ?_
    refine m_getr dX0_run_8 fX0_11 sh26 rfl ?_
    refine z_iload_n dX0_run_11 rfl ?_
    refine m_aaldN (j := i) (q := (30 + 4 * i)) dX0_run_12 sh27 rfl rfl (by omega) rfl (zSwing_row i (by omega)) ?_
    refine m_callVv (As := []) dX0_run_13 kX0_33 ⟨rfl, rfl⟩ rfl ⟨rfl, rfl⟩ rfl rfl (zSwing_of i (by omega)).1 rfl rfl (c_rest (zSwing_of i (by omega))) (fun μ13 ν13 hk13 => ?_)
    obtain ⟨rfl, rfl⟩ := hk13
    refine z_iinc (fun y => [(2, .int y), (0, .ref 26), (1, .ref pl)]) dX0_run_16 rfl rfl (fun _ => rfl) (fun x2_16 ex2_16 => ?_)
    obtain rfl : x2_16 = nI (i + 1) := by rw [ex2_16]; exact nI_1 i
    refine z_goto 2 dX0_run_19 (by decide) ?_
    exact H) (by
    refine z_iload_n dX0_run_2 rfl ?_
    refine z_iconst (v := 2) dX0_run_3 rfl ?_
    refine z_icmp_ge 22 dX0_run_4 (by decide) (fun h4 => ?_) (fun h4 => absurd (show (2 : Int32) ≤ nI 2 by decide) h4)
    refine z_aload_n dX0_run_22 rfl ?_
    refine z_aload_n dX0_run_23 rfl ?_
    refine m_callVv (As := [.ref _]) dX0_run_24 kX0_36 ⟨rfl, rfl⟩ rfl ⟨rfl, rfl⟩ rfl rfl sh26 rfl rfl (c_lineUp hp (by omega) (n := n) (by rw [gRests_ne (by omega) 2 (Nat.le_refl 2)]; exact hn) h6) (fun μ24 ν24 hk24 => ?_)
    obtain ⟨rfl, rfl⟩ := hk24
    refine z_iconst (v := 0) dX0_run_27 rfl ?_
    refine z_istore_n (i := 2) (fun y => [(2, .int y), (0, .ref 26), (1, .ref pl)]) dX0_run_28 rfl rfl (fun _ => rfl) (fun x9 e9 => ?_)
    subst e9
    exact hL2 0 (Nat.zero_le n))
  refine z_iconst (v := 0) dX0_run_0 rfl ?_
  refine z_istore_n (i := 2) (fun y => [(2, .int y), (0, .ref 26), (1, .ref pl)]) dX0_run_1 rfl rfl (fun _ => rfl) (fun x9 e9 => ?_)
  subst e9
  exact hL1 0 (by decide)
