
section SE
variable {σ τ : Mem} {n T w s pl : Nat} {D : Nat → Prop}
theorem leaf_rel (hHP : zHP σ τ pl n) (hA : zLv σ τ T) (hpl : pl + 3 < 29 ∨ 43 < pl) (hw : w < n) (h6 : n ≤ 6) (hs : s < 2) : gLeaf σ pl w s = rLeaf τ w s := by
  obtain ⟨-, -, -, -, e1, -, e3⟩ := hHP.1 w hw
  obtain ⟨-, -, -, -, -, -, ⟨r, hr, er⟩⟩ := hHP.2.1 w hw
  have hb : ∀ a b, a < 2 → b < 2 → fBusy (up2 (up2 σ (38 + w) 0 0) (38 + w) 5 0) (30 + 4 * a) b (σ (pl + 1) w) = rBusy τ (2 * a + b) (τ 75 w) := fun a b ha hb => by
    rw [← e1, ← hA.busy ha hb]
    unfold fBusy
    rw [up2_ne (by omega), up2_ne (by omega), up2_ne (by omega), up2_ne (by omega)]
  unfold gLeaf gChoose rLeaf
  try dsimp only
  rw [up2_ne (show pl + 3 ≠ 38 + w by omega), up2_ne (show pl + 3 ≠ 38 + w by omega), e3, hb s (1 - s) hs (by omega), hb (1 - s) (1 - s) (by omega) (by omega), er]
  rcases (show r = 0 ∨ r = 1 ∨ r = 2 by omega) with rfl | rfl | rfl
  · rw [if_pos (show nI 0 = 0 from rfl), if_neg (show ¬ (2 : Int32) ≤ nI 0 by decide), if_pos (show nI 0 = 0 from rfl)]
  · rw [if_neg (show ¬ nI 1 = 0 by decide), if_pos (show nI 1 = 1 from rfl), if_neg (show ¬ (2 : Int32) ≤ nI 1 by decide), if_neg (show ¬ nI 1 = 0 by decide)]
  · rw [if_neg (show ¬ nI 2 = 0 by decide), if_neg (show ¬ nI 2 = 1 by decide), if_pos (show (2 : Int32) ≤ nI 2 by decide)]
theorem rLook2_82 {lf : Nat} : rBegin τ w lf 82 = τ 82 := rBegin_ne (by decide) (by decide)
theorem zLook (hHP : zHP σ τ pl n) (hI : zInv σ τ n T D) (hD : ¬ D w) (hw : w < n) (h6 : n ≤ 6) (hpl : pl + 3 < 29 ∨ 43 < pl) (es : τ 71 w = nI s) (hs : s < 2) (hT0 : 1300 ≤ T) (hT : T ≤ 1800) :
    zInv (gLook σ pl n w s) (rLook τ n w s) n (T + 30) (fun v => D v ∨ v = w) := by
  have hlf := leaf_rel hHP hI.1 hpl hw h6 hs
  have hl := rLeaf_lt (μ := τ) (w := w) hs
  obtain ⟨-, z82, -⟩ := hI.2.2.1 w hw hD
  obtain ⟨-, e19, -, -, e1, -, -⟩ := hHP.1 w hw
  obtain ⟨-, ⟨p, hp, ep⟩, -, ⟨cw, hc1, ec⟩, ⟨x, hx, ex⟩, -, -⟩ := hHP.2.1 w hw
  unfold gLook rLook
  rw [hlf, e1, e19]
  generalize rLeaf τ w s = lf at hl ⊢
  have hM := zMid.begin hI hD hw h6 hl
  have hb3 : ∀ q, q ≠ 81 → q ≠ 88 → rBegin τ w lf q = τ q := fun q a1 a2 => rBegin_ne a1 a2
  have hHP3 : zHP (gBegin σ w lf) (rBegin τ w lf) pl n := hHP.congr hpl (fun q hq => gBegin_ne (by omega) hl (by omega)) (fun q h1 h2 => hb3 q (by omega) (by omega))
  have t75 : rBegin τ w lf 75 = τ 75 := hb3 75 (by decide) (by decide)
  have t72 : rBegin τ w lf 72 = τ 72 := hb3 72 (by decide) (by decide)
  have t74 : rBegin τ w lf 74 = τ 74 := hb3 74 (by decide) (by decide)
  have t82 : rBegin τ w lf 82 w = 0 := by rw [hb3 82 (by decide) (by decide)]; exact z82
  have t78 : rBegin τ w lf 78 w = 0 := by rw [hb3 78 (by decide) (by decide)]; exact (hI.2.2.1 w hw hD).1
  have f3 : gBegin σ w lf (38 + w) 3 = nI lf := gBegin_lf (by omega) hl
  generalize gBegin σ w lf = σ3 at hM hHP3 f3 ⊢
  generalize rBegin τ w lf = τ3 at hM hHP3 t75 t72 t74 t82 t78 ⊢
  rw [← t75, ← t72]
  rw [← t75] at ex
  rw [← t72] at ep
  rw [← t74] at ec
  generalize ht : τ3 75 w = t at ex ⊢
  have hbz := hM.1.busy (t := t) (a := lf) (b := 1 - s) hl (by omega)
  obtain ⟨ePl, ⟨g, hg1, eg⟩, eNo, -⟩ := hHP3.2.2.1
  obtain ⟨-, -, -, e21, -, -, -⟩ := hHP3.1 w hw
  have h0N : zN (t - t) 2000 := ⟨0, by omega, by rw [ex, pk_sub (Nat.le_refl x), Nat.sub_self]⟩
  -- through at the coming
  have thr : zInv (gEnd (gThrough σ3 pl w lf s t) w lf s t t (τ3 72 w)) (up2 (rThrough τ3 w lf s t) 90 (2 * lf + s) (nI w)) n (T + 30) (fun v => D v ∨ v = w) := by
    have h1 := zThr hHP3 hM hD h6 hpl hw hl hs (by omega) (show x ≤ T by omega) ex f3 ⟨0, by omega, t78⟩
    have h2 := zEnd (sp := τ3 72 w) h1 hw hl hs ex (by omega) ep hp (t := t) (by rw [rThr0_ne (by decide) (by decide) (by decide) (by decide) (by decide) (by decide), t82]; grind) h0N
    rw [rThrough_eq, rPass_fin, rThr0_ne (by decide) (by decide) (by decide) (by decide) (by decide) (by decide)]
    exact h2
  -- waiting
  have wt : ¬ rBusy τ3 (2 * lf + (1 - s)) t = 0 → zInv (gWait σ3 pl w lf s t (τ3 72 w)) (up2 (rWait τ3 w lf s t) 90 (2 * lf + s) (nI w)) n (T + 30) (fun v => D v ∨ v = w) := by
    intro hnb
    obtain ⟨b1, b2, -, -, ⟨u, hu, eu⟩⟩ := hM.1.1 lf (1 - s) hl (by omega)
    have hlt : x < u := by
      unfold rBusy at hnb
      rw [ex, eu] at hnb
      by_cases q : nI x < τ3 84 (2 * lf + (1 - s))
      · rw [if_pos q] at hnb; exact absurd rfl hnb
      · rw [if_neg q] at hnb
        by_cases q2 : nI u ≤ nI x
        · rw [if_pos q2] at hnb; exact absurd rfl hnb
        · exact Nat.not_le.mp (fun z => q2 ((nI_leI (by omega) (by omega)).mpr z))
    have hdN : zN (τ3 85 (2 * lf + (1 - s)) - t) 2000 := ⟨u - x, by omega, by rw [eu, ex, pk_sub (by omega)]⟩
    unfold gWait rWait
    try dsimp only
    rw [b2, ePl, up2_ne (show 85 ≠ 78 by decide), up2_ne (show 66 ≠ 82 by decide), up2_ne (show 66 ≠ 78 by decide)]
    have hM4 := hM.wait (v := if τ3 75 18 = 1 then 4 else 3) (d := τ3 85 (2 * lf + (1 - s)) - t) hD hw t82
    have hHP4 : zHP (up2 σ3 (38 + w) 0 (if τ3 75 18 = 1 then 4 else 3)) (up2 (up2 (up2 τ3 78 w (if τ3 75 18 = 1 then 4 else 3)) 82 w (τ3 85 (2 * lf + (1 - s)) - t)) 66 38 (τ3 66 38 + (τ3 85 (2 * lf + (1 - s)) - t))) pl n := hHP3.congr hpl (fun q hq => up2_ne (by omega)) (fun q h1 h2 => by rw [up2_ne (by omega), up2_ne (by omega), up2_ne (by omega)])
    have e72 : (up2 (up2 (up2 τ3 78 w (if τ3 75 18 = 1 then 4 else 3)) 82 w (τ3 85 (2 * lf + (1 - s)) - t)) 66 38 (τ3 66 38 + (τ3 85 (2 * lf + (1 - s)) - t))) 72 = τ3 72 := by rw [up2_ne (by decide), up2_ne (by decide), up2_ne (by decide)]
    have e82 : (up2 (up2 (up2 τ3 78 w (if τ3 75 18 = 1 then 4 else 3)) 82 w (τ3 85 (2 * lf + (1 - s)) - t)) 66 38 (τ3 66 38 + (τ3 85 (2 * lf + (1 - s)) - t))) 82 w = τ3 85 (2 * lf + (1 - s)) - t := by rw [up2_ne (by decide), up2_same]
    have e78 : zN ((up2 (up2 (up2 τ3 78 w (if τ3 75 18 = 1 then 4 else 3)) 82 w (τ3 85 (2 * lf + (1 - s)) - t)) 66 38 (τ3 66 38 + (τ3 85 (2 * lf + (1 - s)) - t))) 78 w) 6 := by
      rw [up2_ne (by decide), up2_ne (by decide), up2_same]
      split
      · exact ⟨4, by omega, rfl⟩
      · exact ⟨3, by omega, rfl⟩
    have f4 : up2 σ3 (38 + w) 0 (if τ3 75 18 = 1 then 4 else 3) (38 + w) 3 = nI lf := by rw [up2_row, if_neg (by decide)]; exact f3
    generalize up2 σ3 (38 + w) 0 (if τ3 75 18 = 1 then 4 else 3) = σ4 at hM4 hHP4 f4 ⊢
    generalize (up2 (up2 (up2 τ3 78 w (if τ3 75 18 = 1 then 4 else 3)) 82 w (τ3 85 (2 * lf + (1 - s)) - t)) 66 38 (τ3 66 38 + (τ3 85 (2 * lf + (1 - s)) - t))) = τ4 at hM4 hHP4 e72 e82 e78 ⊢
    have h1 := zThr hHP4 hM4 hD h6 hpl hw hl hs (by omega) (show u ≤ T by omega) eu f4 e78
    have h2 := zEnd (sp := τ3 72 w) h1 hw hl hs eu (by omega) ep hp (t := t) (by rw [rThr0_ne (by decide) (by decide) (by decide) (by decide) (by decide) (by decide), e82]) hdN
    rw [rThrough_eq, rPass_fin, rThr0_ne (by decide) (by decide) (by decide) (by decide) (by decide) (by decide), e72]
    exact h2
  -- crashing
  have cr : ¬ rBusy τ3 (2 * lf + (1 - s)) t = 0 → zInv (gEnd (gCrash σ3 w (σ3 (30 + 4 * lf + 3) (1 - s))) w lf s t t 20) (up2 (rCrash τ3 w lf s (τ3 90 (2 * lf + (1 - s))).toNatClampNeg) 90 (2 * lf + s) (nI w)) n (T + 30) (fun v => D v ∨ v = w) := by
    intro hnb
    obtain ⟨-, -, b3, -, -⟩ := hM.1.1 lf (1 - s) hl (by omega)
    rcases hM.2.2.2.2.1 (2 * lf + (1 - s)) (by omega) with ⟨q1, q2⟩ | ⟨m, hm, hDm, em⟩
    · refine absurd ?_ hnb
      unfold rBusy
      rw [q1, q2]
      split
      · rfl
      · rename_i q
        rw [if_pos (Int32.not_lt.mp q)]
    · rw [b3, em, nI_clamp (show m < 2 ^ 31 by omega), rCrash_fin, ht]
      have hne : m ≠ w := fun e => hD (e ▸ hDm)
      have h2 := zEnd (sp := 20) (p := 20) (hM.crash hD hw hm hDm h6) hw hl hs ex (by omega) rfl (by omega) (t := t) (by
        unfold rCr0
        rw [rLose_ne (by decide) (by decide), rLose_ne (by decide) (by decide), up2_ne (by decide), up2_ne (by decide), t82]; grind) h0N
      exact h2
  unfold gLook2 rLook2
  rw [hbz]
  by_cases c1 : rBusy τ3 (2 * lf + (1 - s)) t = 0
  · rw [if_pos c1, if_pos c1]
    exact thr
  · rw [if_neg c1, if_neg c1, ePl]
    rcases (show g = 0 ∨ g = 1 by omega) with rfl | rfl
    · rw [eg, if_pos (show nI 0 = 0 from rfl), if_neg (show ¬ nI 0 = 1 by decide)]
      have hheard : fHeard σ3 pl n w = if τ3 74 w = 0 then 0 else if τ3 75 19 ≤ rCnt (τ3 75) w n then 0 else 1 := by
        unfold fHeard
        rw [e21, eNo, cnt_rel h6 hw (fun i hi => (hHP3.1 i hi).2.2.2.2.1) (fun i hi => (hHP3.2.1 i hi).2.2.2.2.1) n (Nat.le_refl n)]
      rw [hheard]
      rcases (show cw = 0 ∨ cw = 1 by omega) with rfl | rfl
      · rw [ec, if_pos (show nI 0 = 0 from rfl), if_pos rfl, if_neg (show ¬ nI 0 = 1 by decide)]
        exact cr c1
      · rw [ec, if_neg (show ¬ nI 1 = 0 by decide), if_pos (show nI 1 = 1 from rfl)]
        unfold rHeard
        by_cases c2 : (if τ3 75 19 ≤ rCnt (τ3 75) w n then (0 : Int32) else 1) = 0
        · rw [if_pos c2, if_pos c2]
          exact cr c1
        · rw [if_neg c2, if_neg c2]
          exact wt c1
    · rw [eg, if_neg (show ¬ nI 1 = 0 by decide), if_pos (show nI 1 = 1 from rfl)]
      exact wt c1
end SE
