
theorem nI_sub_lt {a b : Nat} {z : Int} {c : Int32} (ha : a < 2 ^ 30) (hb : b < 2 ^ 30) (hc : c.toInt = z) : nI a - nI b < c ↔ (a : Int) - b < z := by
  rw [Int32.lt_iff_toInt_lt, pk_sub_toInt ha hb, hc]
theorem nI_lt_sub {a b : Nat} {z : Int} {c : Int32} (ha : a < 2 ^ 30) (hb : b < 2 ^ 30) (hc : c.toInt = z) : c < nI a - nI b ↔ z < (a : Int) - b := by
  rw [Int32.lt_iff_toInt_lt, pk_sub_toInt ha hb, hc]
theorem cnt_rel {co now : Nat → Int32} {n w : Nat} (h6 : n ≤ 6) (hw : w < n) (he : ∀ i, i < n → co i = now i) (hN : ∀ i, i < n → zN (now i) 1300) : ∀ i, i ≤ n → fCnt co (co w) i = rCnt now w i
  | 0, _ => rfl
  | i + 1, hi => by
    rw [fCnt, rCnt, cnt_rel h6 hw he hN i (by omega), he i (by omega), he w hw]
    obtain ⟨X, hX, eX⟩ := hN w hw
    obtain ⟨Y, hY, eY⟩ := hN i (by omega)
    rw [eX, eY]
    have e1 := nI_sub_lt (a := X) (b := Y) (c := 1) (z := 1) (by omega) (by omega) (by decide)
    have e2 := nI_lt_sub (a := X) (b := Y) (c := 20) (z := 20) (by omega) (by omega) (by decide)
    have e3 : nI Y < nI X - 20 ↔ (Y : Int) < X - 20 := by
      have := nI_lt_sub (a := X) (b := 20) (c := nI Y) (z := Y) (by omega) (by decide) (nI_toInt (by omega))
      exact this
    have e4 : nI X - 1 < nI Y ↔ (X : Int) - 1 < Y := by
      have := nI_sub_lt (a := X) (b := 1) (c := nI Y) (z := Y) (by omega) (by decide) (nI_toInt (by omega))
      exact this
    unfold fIn
    simp only [e1, e2, e3, e4]
    by_cases ew : i = w
    · subst ew
      have : X = Y := by
        have := eX.symm.trans eY
        exact (nI_eq (by omega) (by omega)).mp this
      rw [if_pos (by omega), if_pos rfl]
      exact (Int32.add_zero _).symm
    · rw [if_neg (fun q => ew ((nI_eq (by omega) (by omega)).mp q))]
      by_cases c1 : (X : Int) - Y < 1
      · rw [if_pos c1]
        have n4 : (X : Int) - 1 < Y := by omega
        have n3 : ¬ (Y : Int) < X - 20 := by omega
        rw [if_neg n3, if_pos n4, if_pos rfl]
        exact (Int32.add_zero _).symm
      · rw [if_neg c1]
        by_cases c2 : (20 : Int) < X - Y
        · rw [if_pos c2]
          have n3 : (Y : Int) < X - 20 := by omega
          rw [if_pos n3, if_pos rfl]
          exact (Int32.add_zero _).symm
        · rw [if_neg c2]
          have n3 : ¬ (Y : Int) < X - 20 := by omega
          have n4 : ¬ (X : Int) - 1 < Y := by omega
          rw [if_neg n3, if_neg n4, if_neg (by decide)]
section SD
variable {σ τ σ' τ' : Mem} {n T w lf s pl : Nat} {t : Int32} {D : Nat → Prop}
theorem zHP.congr (h : zHP σ τ pl n) (hpl : pl + 3 < 29 ∨ 43 < pl) (c : ∀ q, q < 29 ∨ 43 < q → σ' q = σ q) (r : ∀ q, 70 ≤ q → q ≤ 75 → τ' q = τ q) : zHP σ' τ' pl n := by
  unfold zHP
  rw [c 18 (by omega), c 19 (by omega), c 20 (by omega), c 21 (by omega), c (pl + 1) (by omega), c (pl + 2) (by omega), c (pl + 3) (by omega), c pl (by omega), c 16 (by omega), c 17 (by omega), r 70 (by omega) (by omega), r 71 (by omega) (by omega), r 72 (by omega) (by omega), r 73 (by omega) (by omega), r 74 (by omega) (by omega), r 75 (by omega) (by omega)]
  exact h
theorem zThr {x : Nat} (hHP : zHP σ τ pl n) (hM : zMid σ τ n T D w) (hD : ¬ D w) (h6 : n ≤ 6) (hpl : pl + 3 < 29 ∨ 43 < pl) (hw : w < n) (hl : lf < 2) (hs : s < 2) (hT : T ≤ 1900) (hx : x ≤ T) (ht : t = nI x) (hlf : σ (38 + w) 3 = nI lf) (hkd : zN (τ 78 w) 6) : zMid (gThrough σ pl w lf s t) (rThr0 τ w lf s t) n T D w := by
  obtain ⟨e16, e17, ⟨H, hH1, hH9, eH⟩, ⟨Bk, hB9, eB⟩⟩ := hHP.2.2.2 lf hl
  obtain ⟨-, -, -, -, -, e2, -⟩ := hHP.1 w hw
  obtain ⟨-, -, -, -, -, ⟨kb, hk1, hk9, ek⟩, -⟩ := hHP.2.1 w hw
  have k0 := hM.2.2.2.2.2.1
  have hbz := hM.1.busy (t := t) hl hs
  obtain ⟨sw2, sw3⟩ := swing_rel (hM.1.2 lf hl).1 hT hx hH9 hB9 eH eB ht
  unfold gThrough rThr0
  rw [hbz]
  by_cases c1 : rBusy τ (2 * lf + s) t = 0
  · rw [if_pos c1, if_pos c1]
    by_cases c2 : fOpen σ (30 + 4 * lf) t = 0
    · have n2 : ¬ rSwing τ lf t = 2 := fun q => (sw2.mp q) c2
      rw [if_pos c2, if_neg n2]
      try dsimp only
      by_cases c3 : fBack σ (30 + 4 * lf) t = 0
      · have n3 : ¬ rSwing τ lf t = 3 := fun q => ((sw3 c2).mp q) c3
        rw [if_pos c3, if_neg n3, hlf]
        by_cases c4 : nI lf = nI s
        · rw [if_pos c4, if_pos c4]
          have e0 : (if τ 78 w ≤ 0 then 0 else τ 78 w) = τ 78 w := by
            obtain ⟨kd, hkd6, ekd⟩ := hkd
            split
            · rename_i q
              rw [ekd] at q ⊢
              have := Int32.le_iff_toInt_le.mp q
              by_cases z : kd = 0
              · rw [z]; rfl
              · exact absurd q (nI_nle (by omega) (by omega))
            · rfl
          rw [e0, up2_self rfl]
          exact hM.kick (by omega) hl hx ht hk1 hk9 ek (by rw [e2, e16]) e17
        · rw [if_neg c4, if_neg c4, k0, i32_max]
          refine (hM.kind hD).kick (by omega) hl hx ht hk1 hk9 (by rw [up2_ne (by decide)]; exact ek) ?_ ?_
          · rw [up2_ne (show pl + 2 ≠ 38 + w by omega), up2_ne (show 16 ≠ 38 + w by omega), up2_ne (show 75 ≠ 78 by decide), up2_ne (show 70 ≠ 78 by decide), e2, e16]
          · rw [up2_ne (show 17 ≠ 38 + w by omega), up2_ne (show 70 ≠ 78 by decide), e17]
      · have n3 : rSwing τ lf t = 3 := (sw3 c2).mpr c3
        rw [if_neg c3, if_pos n3, up2_up2]
        refine ((hM.kind hD).lose hD hw).kick (by omega) hl hx ht hk1 hk9 (by rw [rLose_ne (by decide) (by decide), up2_ne (by decide)]; exact ek) ?_ ?_
        · rw [up2_ne (show pl + 2 ≠ 38 + w by omega), up2_ne (show pl + 2 ≠ 38 + w by omega), up2_ne (show 16 ≠ 38 + w by omega), up2_ne (show 16 ≠ 38 + w by omega), rLose_ne (by decide) (by decide), rLose_ne (by decide) (by decide), up2_ne (show 75 ≠ 78 by decide), up2_ne (show 70 ≠ 78 by decide), e2, e16]
        · rw [up2_ne (show 17 ≠ 38 + w by omega), up2_ne (show 17 ≠ 38 + w by omega), rLose_ne (by decide) (by decide), up2_ne (show 70 ≠ 78 by decide), e17]
    · have n2 : rSwing τ lf t = 2 := sw2.mpr c2
      rw [if_neg c2, if_pos n2, k0, i32_max]
      exact hM.kind hD
  · rw [if_neg c1, if_neg c1, k0, i32_max]
    exact hM.kind hD
theorem rThr0_ne {q : Nat} (h1 : q ≠ 78) (h2 : q ≠ 66) (h3 : q ≠ 83) (h4 : q ≠ 86) (h5 : q ≠ 87) (h6 : q ≠ 89) : rThr0 τ w lf s t q = τ q := by
  unfold rThr0 rKicked
  split
  · split
    · rw [up2_ne h1]
    · try dsimp only
      split
      · rw [up2_ne h6, up2_ne h5, up2_ne h4, rLose_ne h2 h3, up2_ne h1, up2_ne h1]
      · rw [up2_ne h6, up2_ne h5, up2_ne h4, up2_ne h1]
  · rw [up2_ne h1]
theorem zMid.wait {v d : Int32} (h : zMid σ τ n T D w) (hD : ¬ D w) (hw : w < n) (h0 : τ 82 w = 0) : zMid (up2 σ (38 + w) 0 v) (up2 (up2 (up2 τ 78 w v) 82 w d) 66 38 (τ 66 38 + d)) n T D w := by
  have hh := h
  obtain ⟨-, -, -, ⟨s1, s2⟩, -, k0, k3, k5, kN⟩ := hh
  refine h.congr hD (fun q h1 h2 => up2_ne (by omega)) (fun u hu => up2_ne (by omega)) (fun q h1 h2 h3 h4 => by rw [up2_ne h4, up2_ne h2, up2_ne h1]) (fun u hu => ⟨by rw [up2_ne (by decide), up2_ne (by decide), up2_row, if_neg hu], by rw [up2_ne (by decide), up2_row, if_neg hu, up2_ne (by decide)], by rw [up2_ne (by decide), up2_ne (by decide), up2_ne (by decide)]⟩) ⟨?_, ?_⟩ ⟨?_, ?_, ?_, ?_⟩
  · rw [up2_row, if_neg (by decide), up2_ne (by decide), up2_ne (by decide), s1]
    refine fSum_congr (fun i _ => ?_)
    rw [up2_ne (by decide), up2_ne (by decide), up2_ne (by decide), up2_ne (by decide), up2_ne (by decide), up2_ne (by decide)]
  · rw [up2_same, s2]
    have e := fSum_upd (f := fun w => τ 82 w) (g := fun u => up2 (up2 (up2 τ 78 w v) 82 w d) 66 38 (τ 66 38 + d) 82 u) (w := w) (fun i hi => by
      try dsimp only
      rw [up2_ne (by decide), up2_row, if_neg hi, up2_ne (by decide)]) hw
    rw [s2] at e
    rw [e]
    rw [up2_ne (show 82 ≠ 66 by decide), up2_same, h0]
    grind
  · rw [up2_same, up2_ne (by decide), up2_ne (by decide), up2_same]
  · rw [up2_row, if_neg (by decide), up2_ne (by decide), up2_ne (by decide), up2_ne (by decide)]; exact k3
  · rw [up2_row, if_neg (by decide), up2_ne (by decide), up2_ne (by decide), up2_ne (by decide)]; exact k5
  · rw [up2_ne (by decide), up2_ne (by decide), up2_ne (by decide)]; exact kN
theorem zMid.begin (h : zInv σ τ n T D) (hD : ¬ D w) (hw : w < n) (h6 : n ≤ 6) (hl : lf < 2) : zMid (gBegin σ w lf) (rBegin τ w lf) n T D w := by
  obtain ⟨⟨hA, hK⟩, hP, hZ, hS, hLd⟩ := h
  obtain ⟨z1, z2, z3⟩ := hZ w hw hD
  have c0 : ∀ q, q ≠ 38 + w → q ≠ 30 + 4 * lf → gBegin σ w lf q = σ q := fun q a1 a2 => by
    unfold gBegin
    rw [up2_ne a2, up2_ne a1, up2_ne a1, up2_ne a1]
  have nn : ∀ q, q ≠ 81 → q ≠ 88 → rBegin τ w lf q = τ q := fun q a1 a2 => rBegin_ne a1 a2
  have gk : ∀ j, gBegin σ w lf (30 + 4 * lf) j = if j = 6 then σ (30 + 4 * lf) 6 + 1 else σ (30 + 4 * lf) j := fun j => by
    unfold gBegin
    try dsimp only
    rw [up2_row, up2_ne (show 30 + 4 * lf ≠ 38 + w by omega), up2_ne (show 30 + 4 * lf ≠ 38 + w by omega), up2_ne (show 30 + 4 * lf ≠ 38 + w by omega)]
  have gw : ∀ j, gBegin σ w lf (38 + w) j = if j = 3 then nI lf else if j = 5 then 0 else if j = 0 then 0 else σ (38 + w) j := fun j => by
    unfold gBegin
    rw [up2_ne (by omega), up2_row, up2_row, up2_row]
  have e88 : ∀ a, rBegin τ w lf 88 a = if a = lf then τ 88 lf + 1 else τ 88 a := fun a => by
    unfold rBegin
    rw [up2_row, up2_ne (by decide)]
  have e81 : ∀ v, rBegin τ w lf 81 v = if v = w then nI lf else τ 81 v := fun v => by
    unfold rBegin
    rw [up2_ne (by decide), up2_row]
  have n84 := nn 84 (by decide) (by decide)
  have n85 := nn 85 (by decide) (by decide)
  have n90 := nn 90 (by decide) (by decide)
  have n86 := nn 86 (by decide) (by decide)
  have n87 := nn 87 (by decide) (by decide)
  have n70 := nn 70 (by decide) (by decide)
  have n89 := nn 89 (by decide) (by decide)
  have n78 := nn 78 (by decide) (by decide)
  have n79 := nn 79 (by decide) (by decide)
  have n80 := nn 80 (by decide) (by decide)
  have n82 := nn 82 (by decide) (by decide)
  have n83 := nn 83 (by decide) (by decide)
  have n66 := nn 66 (by decide) (by decide)
  have n73 := nn 73 (by decide) (by decide)
  refine ⟨⟨fun a b' ha hb => ?_, fun a ha => ?_⟩, fun v hv hDv => ?_, fun v hv hDv hne => ?_, ?_, fun c hc => ?_, ?_⟩
  · rw [c0 _ (by omega) (by omega), c0 _ (by omega) (by omega), c0 _ (by omega) (by omega), n84, n85, n90]
    exact hA a b' ha hb
  · unfold zKick
    rw [e88, n86, n87, n70, n89]
    by_cases e : a = lf
    · subst e
      rw [gk, gk, gk, gk, gk, if_pos rfl, if_pos rfl, if_neg (by decide), if_neg (by decide), if_neg (by decide), if_neg (by decide)]
      obtain ⟨q1, q2, q3⟩ := hK a ha
      exact ⟨q1, by rw [q2], q3⟩
    · rw [c0 _ (by omega) (by omega), if_neg e]
      exact hK a ha
  · have hne : v ≠ w := fun e => hD (e ▸ hDv)
    unfold zPs
    rw [c0 _ (by omega) (by omega), n78, n79, n80, e81, if_neg hne, n82, n83]
    exact hP v hv hDv
  · rw [n78, n82, n83]; exact hZ v hv hDv
  · unfold zSm
    rw [n66, n73, n82, n83]; exact hS
  · rw [n84, n85, n90]; exact hLd c hc
  · rw [gw, gw, gw, n78, e81, n83, z1, z3]
    exact ⟨rfl, by rw [if_pos rfl, if_pos rfl], rfl, 0, by omega, rfl⟩
theorem zMid.other {m : Nat} (h : zMid σ τ n T D w) (hm : m < n) (hDm : D m) (hne : m ≠ w) : zMid (up2 (up2 σ (38 + m) 0 6) (38 + m) 5 1) (rLose (up2 τ 78 m 6) m) n T D w := by
  obtain ⟨hA, hP, hZ, hS, hLd, k0, k3, k5, kN⟩ := h
  have hPm := hP m hm hDm
  have r1 : ∀ q, q ≠ 78 → q ≠ 82 → q ≠ 83 → q ≠ 66 → rLose (up2 τ 78 m 6) m q = τ q := fun q a1 a2 a3 a4 => by rw [rLose_ne a4 a3, up2_ne a1]
  have r78 : ∀ v, rLose (up2 τ 78 m 6) m 78 v = if v = m then 6 else τ 78 v := fun v => by rw [rLose_ne (by decide) (by decide), up2_row]
  have r82 : rLose (up2 τ 78 m 6) m 82 = τ 82 := by rw [rLose_ne (by decide) (by decide), up2_ne (by decide)]
  have r83 : ∀ v, rLose (up2 τ 78 m 6) m 83 v = if v = m then 1 else τ 83 v := fun v => by rw [rLose_83, up2_ne (by decide)]
  have hS1 : zSm (up2 τ 78 m 6) n := by
    unfold zSm
    rw [up2_ne (by decide), up2_ne (by decide), up2_ne (by decide), up2_ne (by decide)]
    exact hS
  refine ⟨hA.congr (fun q h1 h2 => by rw [up2_ne (by omega), up2_ne (by omega)]) r1, fun v hv hDv => ?_, fun v hv hDv hnv => ?_, hS1.lose hm (by rw [up2_ne (by decide)]; exact hPm.2.2.2.2.2.2.2), fun c hc => ?_, ?_⟩
  · unfold zPs
    rw [r78, r82, r83, r1 79 (by decide) (by decide) (by decide) (by decide), r1 80 (by decide) (by decide) (by decide) (by decide), r1 81 (by decide) (by decide) (by decide) (by decide)]
    by_cases e : v = m
    · subst e
      rw [if_pos rfl, if_pos rfl]
      obtain ⟨q0, q1, q2, q3, q4, q5, q6, q7⟩ := hPm
      rw [up2_row, up2_row, up2_row, up2_row, up2_row, up2_row, up2_row, up2_row, up2_row, up2_row, up2_row, up2_row]
      simp only [if_true, if_neg (show ¬ (0 : Nat) = 5 by decide), if_neg (show ¬ (1 : Nat) = 5 by decide), if_neg (show ¬ (1 : Nat) = 0 by decide), if_neg (show ¬ (2 : Nat) = 5 by decide), if_neg (show ¬ (2 : Nat) = 0 by decide), if_neg (show ¬ (3 : Nat) = 5 by decide), if_neg (show ¬ (3 : Nat) = 0 by decide), if_neg (show ¬ (4 : Nat) = 5 by decide), if_neg (show ¬ (4 : Nat) = 0 by decide)]
      exact ⟨trivial, q1, q2, q3, q4, trivial, q6, 1, by omega, rfl⟩
    · rw [if_neg e, if_neg e, up2_ne (by omega), up2_ne (by omega)]
      exact hP v hv hDv
  · have e : v ≠ m := fun e => hDv (e ▸ hDm)
    rw [r78, r82, r83, if_neg e, if_neg e]
    exact hZ v hv hDv hnv
  · rw [r1 84 (by decide) (by decide) (by decide) (by decide), r1 85 (by decide) (by decide) (by decide) (by decide), r1 90 (by decide) (by decide) (by decide) (by decide)]
    exact hLd c hc
  · rw [up2_ne (show 38 + w ≠ 38 + m by omega), up2_ne (show 38 + w ≠ 38 + m by omega), r78, r83, if_neg (Ne.symm hne), if_neg (Ne.symm hne), r1 81 (by decide) (by decide) (by decide) (by decide)]
    exact ⟨k0, k3, k5, kN⟩
theorem up2_comm {μ : Mem} {k k' j j' : Nat} {u v : Int32} (h : k ≠ k') : up2 (up2 μ k j u) k' j' v = up2 (up2 μ k' j' v) k j u := by
  funext a b
  rw [up2_at, up2_at, up2_at, up2_at]
  by_cases h1 : a = k' ∧ b = j'
  · rw [if_pos h1, if_neg (fun q => h (q.1.symm.trans h1.1)), if_pos h1]
  · rw [if_neg h1, if_neg h1]
theorem rLose_78 {m v : Nat} {x : Int32} : rLose (up2 τ 78 m x) v = up2 (rLose τ v) 78 m x := by
  unfold rLose
  rw [up2_ne (show 66 ≠ 78 by decide), up2_ne (show 83 ≠ 78 by decide), up2_ne (show 73 ≠ 78 by decide), up2_comm (show 78 ≠ 66 by decide), up2_comm (show 78 ≠ 83 by decide)]
theorem zMid.crash {m : Nat} (h : zMid σ τ n T D w) (hD : ¬ D w) (hw : w < n) (hm : m < n) (hDm : D m) (h6 : n ≤ 6) : zMid (gCrash σ w (nI m)) (rCr0 τ w m) n T D w := by
  have hne : m ≠ w := fun e => hD (e ▸ hDm)
  have h1 := ((h.kind (v := 6) hD).lose hD hw).other hm hDm hne
  unfold gCrash rCr0
  try dsimp only
  rw [if_neg (nI_pos (by omega)), nI_clamp (show m < 2 ^ 31 by omega), rLose_78]
  exact h1
end SD
