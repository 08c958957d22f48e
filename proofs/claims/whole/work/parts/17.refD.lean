
def zCh (c0 : Nat) (μ μ' : Mem) : Prop := (∀ c, c ≠ c0 → μ' 84 c = μ 84 c ∧ μ' 85 c = μ 85 c) ∧ μ' 90 = μ 90
theorem zCh.rf {c0 : Nat} {μ : Mem} : zCh c0 μ μ := ⟨fun _ _ => ⟨rfl, rfl⟩, rfl⟩
theorem zCh.tr {c0 : Nat} {μ μ1 μ2 : Mem} (h : zCh c0 μ μ1) (h2 : zCh c0 μ1 μ2) : zCh c0 μ μ2 := ⟨fun c hc => ⟨(h2.1 c hc).1.trans (h.1 c hc).1, (h2.1 c hc).2.trans (h.1 c hc).2⟩, h2.2.trans h.2⟩
theorem zCh.up {c0 : Nat} {μ : Mem} {q j : Nat} {v : Int32} (h1 : q ≠ 84) (h2 : q ≠ 85) (h3 : q ≠ 90) : zCh c0 μ (up2 μ q j v) := ⟨fun c _ => ⟨by rw [up2_ne (Ne.symm h1)], by rw [up2_ne (Ne.symm h2)]⟩, up2_ne (Ne.symm h3)⟩
theorem zCh.widen {c0 : Nat} {μ : Mem} {t u : Int32} : zCh c0 μ (rWiden μ c0 t u) := ⟨fun c hc => latM_widen hc, rWiden_ne (by decide) (by decide)⟩
theorem zCh.lose {c0 : Nat} {μ : Mem} {w : Nat} : zCh c0 μ (rLose μ w) := by
  unfold rLose
  exact (zCh.up (by decide) (by decide) (by decide)).tr (zCh.up (by decide) (by decide) (by decide))
theorem zCh.pass {μ : Mem} {w lf s : Nat} {t : Int32} : zCh (2 * lf + s) μ (rPass μ w lf s t) := by
  unfold rPass
  exact (zCh.widen.tr (zCh.up (by decide) (by decide) (by decide))).tr (zCh.up (by decide) (by decide) (by decide))
theorem zCh.kicked {c0 : Nat} {μ : Mem} {w lf : Nat} {t : Int32} : zCh c0 μ (rKicked μ w lf t) := by
  unfold rKicked
  exact ((zCh.up (by decide) (by decide) (by decide)).tr (zCh.up (by decide) (by decide) (by decide))).tr (zCh.up (by decide) (by decide) (by decide))
theorem zCh.u78 {c0 : Nat} {μ : Mem} {j : Nat} {v : Int32} : zCh c0 μ (up2 μ 78 j v) := zCh.up (by decide) (by decide) (by decide)
theorem zCh.through {μ : Mem} {w lf s : Nat} {t : Int32} : zCh (2 * lf + s) μ (rThrough μ w lf s t) := by
  unfold rThrough
  split
  · split
    · exact zCh.u78.tr zCh.pass
    · dsimp only
      split
      · exact (((zCh.u78.tr zCh.u78).tr zCh.lose).tr zCh.kicked).tr zCh.pass
      · exact (zCh.u78.tr zCh.kicked).tr zCh.pass
  · exact zCh.u78.tr zCh.pass
theorem zCh.crash {μ : Mem} {w lf s m : Nat} : zCh (2 * lf + s) μ (rCrash μ w lf s m) := by
  unfold rCrash
  exact (((((zCh.u78.tr zCh.u78).tr zCh.lose).tr zCh.lose).tr zCh.widen).tr (zCh.up (by decide) (by decide) (by decide))).tr (zCh.up (by decide) (by decide) (by decide))
theorem zCh.wait {μ : Mem} {w lf s : Nat} {t : Int32} : zCh (2 * lf + s) μ (rWait μ w lf s t) := by
  unfold rWait
  exact ((zCh.u78.tr (zCh.up (by decide) (by decide) (by decide))).tr (zCh.up (by decide) (by decide) (by decide))).tr zCh.through
theorem rLook_lat {μ : Mem} {n w s : Nat} (hw : w < 6) (hv : zLatM μ) : zLatM (rLook μ n w s) := by
  unfold rLook
  generalize rLeaf μ w s = lf
  have h0 : zCh (2 * lf + s) μ (rLook2 (rBegin μ w lf) n w lf s (μ 75 w)) := by
    refine zCh.tr (μ1 := rBegin μ w lf) ?_ ?_
    · unfold rBegin
      exact (zCh.up (by decide) (by decide) (by decide)).tr (zCh.up (by decide) (by decide) (by decide))
    · unfold rLook2
      repeat' split
      · exact zCh.through
      · exact zCh.wait
      · exact zCh.crash
      · exact zCh.wait
      · exact zCh.crash
  intro c hc
  by_cases e : c = 2 * lf + s
  · subst e
    exact Or.inr ⟨w, hw, up2_same _ _ _ _⟩
  · rw [up2_ne (by decide), up2_ne (by decide), up2_row, if_neg e, (h0.1 c e).1, (h0.1 c e).2, h0.2]
    exact hv c hc
theorem rR4_lat {μ : Mem} : ∀ i c, c < i → rR4 μ i 84 c = 0 ∧ rR4 μ i 85 c = 0
  | 0, c, h => absurd h (Nat.not_lt_zero c)
  | i + 1, c, h => by
    have h1 : rR4 μ (i + 1) 84 c = if c = i then 0 else rR4 μ i 84 c := by rw [rR4, up2_ne (by decide), up2_ne (by decide), up2_row]
    have h2 : rR4 μ (i + 1) 85 c = if c = i then 0 else rR4 μ i 85 c := by rw [rR4, up2_ne (by decide), up2_row, up2_ne (by decide)]
    rw [h1, h2]
    by_cases e : c = i
    · rw [if_pos e, if_pos e]; exact ⟨rfl, rfl⟩
    · rw [if_neg e, if_neg e]; exact rR4_lat i c (by omega)
theorem rStart_lat {μ : Mem} {n : Nat} : zLatM (rStart μ n) := by
  intro c hc
  refine Or.inl ?_
  unfold rStart
  rw [rR6_ne (by decide) (by decide) (by decide), rR6_ne (by decide) (by decide) (by decide), up2_ne (by decide), up2_ne (by decide), up2_ne (by decide), up2_ne (by decide), rR2_ne (by decide) (by decide) (by decide), rR2_ne (by decide) (by decide) (by decide)]
  exact rR4_lat 4 c hc
def zSidesM (μ : Mem) (n : Nat) : Prop := ∀ w, w < n → ∃ s : Nat, s < 2 ∧ μ 71 w = nI s
theorem rLooks_lat {μ : Mem} {n : Nat} {Q : Nat → Nat} (h6 : n ≤ 6) (hQ : ∀ i, i < n → Q i < n) (hv : zLatM μ) : ∀ i, i ≤ n → zLatM (rLooks μ n Q i)
  | 0, _ => hv
  | i + 1, h => by
    rw [rLooks]
    exact rLook_lat (Nat.lt_of_lt_of_le (hQ i (by omega)) h6) (rLooks_lat h6 hQ hv i (by omega))
set_option maxRecDepth 100000 in
set_option maxHeartbeats 400000 in
theorem c_costNow {l : Launch} {G : zG} {μ : Mem} {ν : Lng} {n : Nat} {Q : Nat → Nat} (hn : μ 66 17 = nI n) (h6 : n ≤ 6) (hQ : zOrd (μ 75) n Q) (hsd : zSidesM μ n) : Cm l G mX10_costNow [.ref 66] μ ν (fun a9 b9 c9 => rCost (rRun μ n Q) = a9 ∧ rRun μ n Q = b9 ∧ ν = c9) := by
  refine Con.of (by decide) (Nat.le_of_ble_eq_true rfl) ?_
  show Am l G mX10_costNow 0 [(0, .ref 66)] [] μ ν _
  have g0 : zEq μ (rStart μ n) := zEq.start
  have g1 : ∀ i, zEq μ (rLooks (rStart μ n) n Q i) := fun i => g0.tr (zEq.looks i)
  have g2 : ∀ i, rLooks (rStart μ n) n Q i 66 17 = nI n := fun i => ((g1 i).2 17 (by decide) (by decide)).trans hn
  have g3 : ∀ i, rLooks (rStart μ n) n Q i 75 = μ 75 := fun i => (g1 i).1 75 (by unfold zMe; decide)
  have g4 : ∀ i, rLooks (rStart μ n) n Q i 71 = μ 71 := fun i => (g1 i).1 71 (by unfold zMe; decide)
  have hL4 := m_for (l := l) (G := G) (M := mX10_costNow) (pc := 119) (ν := ν) (K := (fun a9 b9 c9 => rCost (rRun μ n Q) = a9 ∧ rRun μ n Q = b9 ∧ ν = c9)) (N := n) (fun i => [(2, .int (nI i)), (1, .int (nI (rMask Q i))), (0, .ref 66)]) (fun i => rLooks (rStart μ n) n Q i) (fun i hi H => by
    refine z_iload_n dX10_costNow_119 rfl ?_
    refine z_aload_n dX10_costNow_120 rfl ?_
    refine m_geti dX10_costNow_121 fX10_105 sh66 rfl ?_
    refine z_icmp_ge 213 dX10_costNow_124 (by decide) (fun h124 => absurd (g2 i ▸ h124) (nI_ge hi (by omega))) (fun h124 => ?_)
    have hq := hQ.1 i hi
    have hq6 : Q i < 6 := by omega
    have hk64 := rMask_lt h6 hQ.1 i (by omega)
    obtain ⟨s, hs2, es⟩ := hsd (Q i) hq
    have H0 := H
    clear H
    have hi1 := hi
    have hI := m_for (l := l) (G := G) (M := mX10_costNow) (pc := 132) (ν := ν) (K := (fun a9 b9 c9 => rCost (rRun μ n Q) = a9 ∧ rRun μ n Q = b9 ∧ ν = c9)) (N := n) (fun c => [(4, .int (nI c)), (3, .int (rNx (μ 75) (rMask Q i) c)), (2, .int (nI i)), (1, .int (nI (rMask Q i))), (0, .ref 66)]) (fun c => rLooks (rStart μ n) n Q i) (fun c hi H => by
      refine z_iload dX10_costNow_132 rfl ?_
      refine z_aload_n dX10_costNow_134 rfl ?_
      refine m_geti dX10_costNow_135 fX10_105 sh66 rfl ?_
      refine z_icmp_ge 196 dX10_costNow_138 (by decide) (fun h138 => absurd (g2 i ▸ h138) (nI_ge hi (by omega))) (fun h138 => ?_)
      refine z_iload_n dX10_costNow_141 rfl ?_
      refine z_iload dX10_costNow_142 rfl ?_
      refine z_ishr dX10_costNow_144 ?_
      refine z_iconst (v := 1) dX10_costNow_145 rfl ?_
      refine z_iand dX10_costNow_146 ?_
      refine z_if_ne 154 dX10_costNow_147 (by decide) (fun h147 => ?_) (fun h147 => ?_)
      · skip
        refine z_iconst (v := 0) dX10_costNow_154 rfl ?_
        refine z_istore (i := 5) (fun y => [(5, .int y), (4, .int (nI c)), (3, .int (rNx (μ 75) (rMask Q i) c)), (2, .int (nI i)), (1, .int (nI (rMask Q i))), (0, .ref 66)]) dX10_costNow_155 rfl (fun _ => rfl) (fun x5_155 ex5_155 => ?_)
        refine z_iload dX10_costNow_157 rfl ?_
        refine z_if_eq 188 dX10_costNow_159 (by decide) (fun h159 => ?_) (fun h159 => ?_)
        · skip
          refine z_iload_n dX10_costNow_188 rfl ?_
          refine z_istore_n (i := 3) (fun y => [(3, .int y), (5, .int x5_155), (4, .int (nI c)), (2, .int (nI i)), (1, .int (nI (rMask Q i))), (0, .ref 66)]) dX10_costNow_189 rfl rfl (fun _ => rfl) (fun x3_189 ex3_189 => ?_)
          refine z_iinc (fun y => [(4, .int y), (3, .int x3_189), (5, .int x5_155), (2, .int (nI i)), (1, .int (nI (rMask Q i))), (0, .ref 66)]) dX10_costNow_190 rfl rfl (fun _ => rfl) (fun x4_190 ex4_190 => ?_)
          obtain rfl : x4_190 = nI (c + 1) := by rw [ex4_190]; exact nI_1 c
          refine z_goto 132 dX10_costNow_193 (by decide) ?_
          refine z_lv [0, 1, 3, 4, 5] rfl ?_
          first | exact (h159 ex5_155).elim | exact absurd (ex5_155.symm.trans h159) (by decide) | (simp only [rNx, if_neg h147, if_pos h159] at H; subst ex3_189; exact H)
        · skip
          refine z_iload_n dX10_costNow_162 rfl ?_
          refine z_iconst (v := -1) dX10_costNow_163 rfl ?_
          refine z_icmp_eq 183 dX10_costNow_164 (by decide) (fun h164 => ?_) (fun h164 => ?_)
          · skip
            refine z_iload dX10_costNow_183 rfl ?_
            refine z_goto 189 dX10_costNow_185 (by decide) ?_
            refine z_istore_n (i := 3) (fun y => [(3, .int y), (5, .int x5_155), (4, .int (nI c)), (2, .int (nI i)), (1, .int (nI (rMask Q i))), (0, .ref 66)]) dX10_costNow_189 rfl rfl (fun _ => rfl) (fun x3_189 ex3_189 => ?_)
            refine z_iinc (fun y => [(4, .int y), (3, .int x3_189), (5, .int x5_155), (2, .int (nI i)), (1, .int (nI (rMask Q i))), (0, .ref 66)]) dX10_costNow_190 rfl rfl (fun _ => rfl) (fun x4_190 ex4_190 => ?_)
            obtain rfl : x4_190 = nI (c + 1) := by rw [ex4_190]; exact nI_1 c
            refine z_goto 132 dX10_costNow_193 (by decide) ?_
            refine z_lv [0, 1, 3, 4, 5] rfl ?_
            first | exact (h159 ex5_155).elim | exact absurd (ex5_155.symm.trans h159) (by decide) | (simp only [rNx, if_neg h147, if_neg h159, if_pos h164] at H; subst ex3_189; exact H)
          · skip
            obtain ⟨m, hm, em⟩ : ∃ m, m < 6 ∧ rNx (μ 75) (rMask Q i) c = nI m := by
              rcases rNx_ok (now := μ 75) (k := rMask Q i) c (by omega) with e | ⟨m, a1, a2⟩
              · exact absurd e h164
              · exact ⟨m, by omega, a2⟩
            refine z_aload_n dX10_costNow_167 rfl ?_
            refine m_getr dX10_costNow_168 fX10_38 sh66 rfl ?_
            refine z_iload dX10_costNow_171 rfl ?_
            refine m_ialdN (j := c) dX10_costNow_173 sh75 rfl (by omega) rfl ?_
            refine z_aload_n dX10_costNow_174 rfl ?_
            refine m_getr dX10_costNow_175 fX10_38 sh66 rfl ?_
            refine z_iload_n dX10_costNow_178 rfl ?_
            refine m_ialdN (j := m) dX10_costNow_179 sh75 em (by omega) rfl ?_
            rw [g3 i, show μ 75 m = μ 75 (rNx (μ 75) (rMask Q i) c).toNatClampNeg by rw [em, nI_clamp (Nat.lt_trans hm (by decide))]]
            refine z_icmp_ge 188 dX10_costNow_180 (by decide) (fun h180 => ?_) (fun h180 => ?_)
            · skip
              refine z_iload_n dX10_costNow_188 rfl ?_
              refine z_istore_n (i := 3) (fun y => [(3, .int y), (5, .int x5_155), (4, .int (nI c)), (2, .int (nI i)), (1, .int (nI (rMask Q i))), (0, .ref 66)]) dX10_costNow_189 rfl rfl (fun _ => rfl) (fun x3_189 ex3_189 => ?_)
              refine z_iinc (fun y => [(4, .int y), (3, .int x3_189), (5, .int x5_155), (2, .int (nI i)), (1, .int (nI (rMask Q i))), (0, .ref 66)]) dX10_costNow_190 rfl rfl (fun _ => rfl) (fun x4_190 ex4_190 => ?_)
              obtain rfl : x4_190 = nI (c + 1) := by rw [ex4_190]; exact nI_1 c
              refine z_goto 132 dX10_costNow_193 (by decide) ?_
              refine z_lv [0, 1, 3, 4, 5] rfl ?_
              first | exact (h159 ex5_155).elim | exact absurd (ex5_155.symm.trans h159) (by decide) | (simp only [rNx, if_neg h147, if_neg h159, if_neg h164, if_pos h180] at H; subst ex3_189; exact H)
            · skip
              refine z_iload dX10_costNow_183 rfl ?_
              refine z_goto 189 dX10_costNow_185 (by decide) ?_
              refine z_istore_n (i := 3) (fun y => [(3, .int y), (5, .int x5_155), (4, .int (nI c)), (2, .int (nI i)), (1, .int (nI (rMask Q i))), (0, .ref 66)]) dX10_costNow_189 rfl rfl (fun _ => rfl) (fun x3_189 ex3_189 => ?_)
              refine z_iinc (fun y => [(4, .int y), (3, .int x3_189), (5, .int x5_155), (2, .int (nI i)), (1, .int (nI (rMask Q i))), (0, .ref 66)]) dX10_costNow_190 rfl rfl (fun _ => rfl) (fun x4_190 ex4_190 => ?_)
              obtain rfl : x4_190 = nI (c + 1) := by rw [ex4_190]; exact nI_1 c
              refine z_goto 132 dX10_costNow_193 (by decide) ?_
              refine z_lv [0, 1, 3, 4, 5] rfl ?_
              first | exact (h159 ex5_155).elim | exact absurd (ex5_155.symm.trans h159) (by decide) | (simp only [rNx, if_neg h147, if_neg h159, if_neg h164, if_neg h180] at H; subst ex3_189; exact H)
      · skip
        refine z_iconst (v := 1) dX10_costNow_150 rfl ?_
        refine z_goto 155 dX10_costNow_151 (by decide) ?_
        refine z_istore (i := 5) (fun y => [(5, .int y), (4, .int (nI c)), (3, .int (rNx (μ 75) (rMask Q i) c)), (2, .int (nI i)), (1, .int (nI (rMask Q i))), (0, .ref 66)]) dX10_costNow_155 rfl (fun _ => rfl) (fun x5_155 ex5_155 => ?_)
        refine z_iload dX10_costNow_157 rfl ?_
        refine z_if_eq 188 dX10_costNow_159 (by decide) (fun h159 => ?_) (fun h159 => ?_)
        · skip
          refine z_iload_n dX10_costNow_188 rfl ?_
          refine z_istore_n (i := 3) (fun y => [(3, .int y), (5, .int x5_155), (4, .int (nI c)), (2, .int (nI i)), (1, .int (nI (rMask Q i))), (0, .ref 66)]) dX10_costNow_189 rfl rfl (fun _ => rfl) (fun x3_189 ex3_189 => ?_)
          refine z_iinc (fun y => [(4, .int y), (3, .int x3_189), (5, .int x5_155), (2, .int (nI i)), (1, .int (nI (rMask Q i))), (0, .ref 66)]) dX10_costNow_190 rfl rfl (fun _ => rfl) (fun x4_190 ex4_190 => ?_)
          obtain rfl : x4_190 = nI (c + 1) := by rw [ex4_190]; exact nI_1 c
          refine z_goto 132 dX10_costNow_193 (by decide) ?_
          refine z_lv [0, 1, 3, 4, 5] rfl ?_
          first | exact (h159 ex5_155).elim | exact absurd (ex5_155.symm.trans h159) (by decide) | (simp only [rNx, if_pos h147, if_pos h159] at H; subst ex3_189; exact H)
        · skip
          refine z_iload_n dX10_costNow_162 rfl ?_
          refine z_iconst (v := -1) dX10_costNow_163 rfl ?_
          refine z_icmp_eq 183 dX10_costNow_164 (by decide) (fun h164 => ?_) (fun h164 => ?_)
          · skip
            refine z_iload dX10_costNow_183 rfl ?_
            refine z_goto 189 dX10_costNow_185 (by decide) ?_
            refine z_istore_n (i := 3) (fun y => [(3, .int y), (5, .int x5_155), (4, .int (nI c)), (2, .int (nI i)), (1, .int (nI (rMask Q i))), (0, .ref 66)]) dX10_costNow_189 rfl rfl (fun _ => rfl) (fun x3_189 ex3_189 => ?_)
            refine z_iinc (fun y => [(4, .int y), (3, .int x3_189), (5, .int x5_155), (2, .int (nI i)), (1, .int (nI (rMask Q i))), (0, .ref 66)]) dX10_costNow_190 rfl rfl (fun _ => rfl) (fun x4_190 ex4_190 => ?_)
            obtain rfl : x4_190 = nI (c + 1) := by rw [ex4_190]; exact nI_1 c
            refine z_goto 132 dX10_costNow_193 (by decide) ?_
            refine z_lv [0, 1, 3, 4, 5] rfl ?_
            first | exact (h159 ex5_155).elim | exact absurd (ex5_155.symm.trans h159) (by decide) | (simp only [rNx, if_pos h147, if_neg h159, if_pos h164] at H; subst ex3_189; exact H)
          · skip
            obtain ⟨m, hm, em⟩ : ∃ m, m < 6 ∧ rNx (μ 75) (rMask Q i) c = nI m := by
              rcases rNx_ok (now := μ 75) (k := rMask Q i) c (by omega) with e | ⟨m, a1, a2⟩
              · exact absurd e h164
              · exact ⟨m, by omega, a2⟩
            refine z_aload_n dX10_costNow_167 rfl ?_
            refine m_getr dX10_costNow_168 fX10_38 sh66 rfl ?_
            refine z_iload dX10_costNow_171 rfl ?_
            refine m_ialdN (j := c) dX10_costNow_173 sh75 rfl (by omega) rfl ?_
            refine z_aload_n dX10_costNow_174 rfl ?_
            refine m_getr dX10_costNow_175 fX10_38 sh66 rfl ?_
            refine z_iload_n dX10_costNow_178 rfl ?_
            refine m_ialdN (j := m) dX10_costNow_179 sh75 em (by omega) rfl ?_
            rw [g3 i, show μ 75 m = μ 75 (rNx (μ 75) (rMask Q i) c).toNatClampNeg by rw [em, nI_clamp (Nat.lt_trans hm (by decide))]]
            refine z_icmp_ge 188 dX10_costNow_180 (by decide) (fun h180 => ?_) (fun h180 => ?_)
            · skip
              refine z_iload_n dX10_costNow_188 rfl ?_
              refine z_istore_n (i := 3) (fun y => [(3, .int y), (5, .int x5_155), (4, .int (nI c)), (2, .int (nI i)), (1, .int (nI (rMask Q i))), (0, .ref 66)]) dX10_costNow_189 rfl rfl (fun _ => rfl) (fun x3_189 ex3_189 => ?_)
              refine z_iinc (fun y => [(4, .int y), (3, .int x3_189), (5, .int x5_155), (2, .int (nI i)), (1, .int (nI (rMask Q i))), (0, .ref 66)]) dX10_costNow_190 rfl rfl (fun _ => rfl) (fun x4_190 ex4_190 => ?_)
              obtain rfl : x4_190 = nI (c + 1) := by rw [ex4_190]; exact nI_1 c
              refine z_goto 132 dX10_costNow_193 (by decide) ?_
              refine z_lv [0, 1, 3, 4, 5] rfl ?_
              first | exact (h159 ex5_155).elim | exact absurd (ex5_155.symm.trans h159) (by decide) | (simp only [rNx, if_pos h147, if_neg h159, if_neg h164, if_pos h180] at H; subst ex3_189; exact H)
            · skip
              refine z_iload dX10_costNow_183 rfl ?_
              refine z_goto 189 dX10_costNow_185 (by decide) ?_
              refine z_istore_n (i := 3) (fun y => [(3, .int y), (5, .int x5_155), (4, .int (nI c)), (2, .int (nI i)), (1, .int (nI (rMask Q i))), (0, .ref 66)]) dX10_costNow_189 rfl rfl (fun _ => rfl) (fun x3_189 ex3_189 => ?_)
              refine z_iinc (fun y => [(4, .int y), (3, .int x3_189), (5, .int x5_155), (2, .int (nI i)), (1, .int (nI (rMask Q i))), (0, .ref 66)]) dX10_costNow_190 rfl rfl (fun _ => rfl) (fun x4_190 ex4_190 => ?_)
              obtain rfl : x4_190 = nI (c + 1) := by rw [ex4_190]; exact nI_1 c
              refine z_goto 132 dX10_costNow_193 (by decide) ?_
              refine z_lv [0, 1, 3, 4, 5] rfl ?_
              first | exact (h159 ex5_155).elim | exact absurd (ex5_155.symm.trans h159) (by decide) | (simp only [rNx, if_pos h147, if_neg h159, if_neg h164, if_neg h180] at H; subst ex3_189; exact H)) (by
      rw [rNx_Q h6 hQ hi]
      refine z_iload dX10_costNow_132 rfl ?_
      refine z_aload_n dX10_costNow_134 rfl ?_
      refine m_geti dX10_costNow_135 fX10_105 sh66 rfl ?_
      refine z_icmp_ge 196 dX10_costNow_138 (by decide) (fun h138 => ?_) (fun h138 => absurd (g2 i ▸ nI_le (Nat.le_refl n) (by omega)) h138)
      refine z_iload_n dX10_costNow_196 rfl ?_
      refine z_iconst (v := 1) dX10_costNow_197 rfl ?_
      refine z_iload_n dX10_costNow_198 rfl ?_
      refine z_ishl dX10_costNow_199 ?_
      refine z_ior dX10_costNow_200 ?_
      rw [show (nI (rMask Q i) ||| (1 <<< (nI (Q i) &&& 31))) = nI (rMask Q i ||| 2 ^ Q i) from bit_or _ hk64 _ hq6]
      refine z_istore_n (i := 1) (fun y => [(1, .int y), (4, .int (nI n)), (3, .int (nI (Q i))), (2, .int (nI i)), (0, .ref 66)]) dX10_costNow_201 rfl rfl (fun _ => rfl) (fun x9 e9 => ?_)
      subst e9
      refine z_aload_n dX10_costNow_202 rfl ?_
      refine z_iload_n dX10_costNow_203 rfl ?_
      refine m_callVv (As := [.int _]) dX10_costNow_204 kX10_220 ⟨rfl, rfl⟩ rfl ⟨rfl, rfl⟩ rfl rfl sh66 rfl rfl (c_look (n := n) (w := Q i) (s := s) (g2 i) h6 hq6 (by rw [g4 i]; exact es) hs2 (rLooks_lat h6 hQ.1 rStart_lat i (by omega))) (fun μ204 ν204 hk204 => ?_)
      obtain ⟨rfl, rfl⟩ := hk204
      refine z_iinc (fun y => [(2, .int y), (1, .int (nI (rMask Q i ||| 2 ^ Q i))), (4, .int (nI n)), (3, .int (nI (Q i))), (0, .ref 66)]) dX10_costNow_207 rfl rfl (fun _ => rfl) (fun x2_207 ex2_207 => ?_)
      obtain rfl : x2_207 = nI (i + 1) := by rw [ex2_207]; exact nI_1 i
      refine z_goto 119 dX10_costNow_210 (by decide) ?_
      refine z_lv [0, 1, 4] rfl ?_
      rw [rLooks, g4 i, es, nI_clamp (Nat.lt_trans hs2 (by decide))] at H0
      exact H0)
    refine z_iconst (v := -1) dX10_costNow_127 rfl ?_
    refine z_istore_n (i := 3) (fun y => [(3, .int y), (2, .int (nI i)), (1, .int (nI (rMask Q i))), (0, .ref 66)]) dX10_costNow_128 rfl rfl (fun _ => rfl) (fun x9 e9 => ?_)
    subst e9
    refine z_iconst (v := 0) dX10_costNow_129 rfl ?_
    refine z_istore (i := 4) (fun y => [(4, .int y), (3, .int (-1)), (2, .int (nI i)), (1, .int (nI (rMask Q i))), (0, .ref 66)]) dX10_costNow_130 rfl (fun _ => rfl) (fun x9 e9 => ?_)
    subst e9
    exact hI 0 (Nat.zero_le n)) (by
    refine z_iload_n dX10_costNow_119 rfl ?_
    refine z_aload_n dX10_costNow_120 rfl ?_
    refine m_geti dX10_costNow_121 fX10_105 sh66 rfl ?_
    refine z_icmp_ge 213 dX10_costNow_124 (by decide) (fun h124 => ?_) (fun h124 => absurd (g2 n ▸ nI_le (Nat.le_refl n) (by omega)) h124)
    refine z_bipush (v := 10) dX10_costNow_213 rfl ?_
    refine z_aload_n dX10_costNow_215 rfl ?_
    refine m_geti dX10_costNow_216 fX10_187 sh66 rfl ?_
    refine z_imul dX10_costNow_219 ?_
    refine z_aload_n dX10_costNow_220 rfl ?_
    refine m_geti dX10_costNow_221 fX10_213 sh66 rfl ?_
    refine z_iadd dX10_costNow_224 ?_
    refine m_iret dX10_costNow_225 rfl rfl ?_
    exact ⟨rfl, rfl, rfl⟩)
  have g5 : ∀ i, rR6 (up2 (up2 (rR2 (rR4 μ 4) 2) 66 38 0) 66 39 0) i 66 17 = nI n := fun i => by
    rw [rR6_ne (by decide) (by decide) (by decide), up2_row, if_neg (by decide), up2_row, if_neg (by decide), rR2_ne (by decide) (by decide) (by decide), rR4_ne (by decide) (by decide) (by decide)]
    exact hn
  have hL3 := m_for (l := l) (G := G) (M := mX10_costNow) (pc := 80) (ν := ν) (K := (fun a9 b9 c9 => rCost (rRun μ n Q) = a9 ∧ rRun μ n Q = b9 ∧ ν = c9)) (N := n) (fun i => [(1, .int (nI i)), (0, .ref 66)]) (fun i => rR6 (up2 (up2 (rR2 (rR4 μ 4) 2) 66 38 0) 66 39 0) i) (fun i hi H => by
    refine z_iload_n dX10_costNow_80 rfl ?_
    refine z_aload_n dX10_costNow_81 rfl ?_
    refine m_geti dX10_costNow_82 fX10_105 sh66 rfl ?_
    refine z_icmp_ge 115 dX10_costNow_85 (by decide) (fun h85 => absurd (g5 i ▸ h85) (nI_ge hi (by omega))) (fun h85 => ?_)
    refine z_aload_n dX10_costNow_88 rfl ?_
    refine m_getr dX10_costNow_89 fX10_48 sh66 rfl ?_
    refine z_iload_n dX10_costNow_92 rfl ?_
    refine z_iconst (v := 0) dX10_costNow_93 rfl ?_
    refine m_iastN (j := i) dX10_costNow_94 sh78 rfl (by omega) rfl ?_
    refine z_aload_n dX10_costNow_95 rfl ?_
    refine m_getr dX10_costNow_96 fX10_60 sh66 rfl ?_
    refine z_iload_n dX10_costNow_99 rfl ?_
    refine z_iconst (v := 0) dX10_costNow_100 rfl ?_
    refine m_iastN (j := i) dX10_costNow_101 sh82 rfl (by omega) rfl ?_
    refine z_aload_n dX10_costNow_102 rfl ?_
    refine m_getr dX10_costNow_103 fX10_63 sh66 rfl ?_
    refine z_iload_n dX10_costNow_106 rfl ?_
    refine z_iconst (v := 0) dX10_costNow_107 rfl ?_
    refine m_zastN (j := i) dX10_costNow_108 sh83 rfl (by omega) rfl rfl ?_
    refine z_iinc (fun y => [(1, .int y), (0, .ref 66)]) dX10_costNow_109 rfl rfl (fun _ => rfl) (fun x1_109 ex1_109 => ?_)
    obtain rfl : x1_109 = nI (i + 1) := by rw [ex1_109]; exact nI_1 i
    refine z_goto 80 dX10_costNow_112 (by decide) ?_
    exact H) (by
    refine z_iload_n dX10_costNow_80 rfl ?_
    refine z_aload_n dX10_costNow_81 rfl ?_
    refine m_geti dX10_costNow_82 fX10_105 sh66 rfl ?_
    refine z_icmp_ge 115 dX10_costNow_85 (by decide) (fun h85 => ?_) (fun h85 => absurd (g5 n ▸ nI_le (Nat.le_refl n) (by omega)) h85)
    refine z_iconst (v := 0) dX10_costNow_115 rfl ?_
    refine z_istore_n (i := 1) (fun y => [(1, .int y), (0, .ref 66)]) dX10_costNow_116 rfl rfl (fun _ => rfl) (fun x9 e9 => ?_)
    subst e9
    refine z_iconst (v := 0) dX10_costNow_117 rfl ?_
    refine z_istore_n (i := 2) (fun y => [(2, .int y), (1, .int 0), (0, .ref 66)]) dX10_costNow_118 rfl rfl (fun _ => rfl) (fun x9 e9 => ?_)
    subst e9
    exact hL4 0 (Nat.zero_le n))
  have hL2 := m_for (l := l) (G := G) (M := mX10_costNow) (pc := 36) (ν := ν) (K := (fun a9 b9 c9 => rCost (rRun μ n Q) = a9 ∧ rRun μ n Q = b9 ∧ ν = c9)) (N := 2) (fun i => [(1, .int (nI i)), (0, .ref 66)]) (fun i => rR2 (rR4 μ 4) i) (fun i hi H => by
    refine z_iload_n dX10_costNow_36 rfl ?_
    refine z_iconst (v := 2) dX10_costNow_37 rfl ?_
    refine z_icmp_ge 68 dX10_costNow_38 (by decide) (fun h38 => absurd h38 (nI_ge hi (by decide))) (fun h38 => ?_)
    refine z_aload_n dX10_costNow_41 rfl ?_
    refine m_getr dX10_costNow_42 fX10_75 sh66 rfl ?_
    refine z_iload_n dX10_costNow_45 rfl ?_
    refine z_iconst (v := 0) dX10_costNow_46 rfl ?_
    refine m_iastN (j := i) dX10_costNow_47 sh87 rfl (by omega) rfl ?_
    refine z_aload_n dX10_costNow_48 rfl ?_
    refine m_getr dX10_costNow_49 fX10_78 sh66 rfl ?_
    refine z_iload_n dX10_costNow_52 rfl ?_
    refine z_iconst (v := 0) dX10_costNow_53 rfl ?_
    refine m_iastN (j := i) dX10_costNow_54 sh88 rfl (by omega) rfl ?_
    refine z_aload_n dX10_costNow_55 rfl ?_
    refine m_getr dX10_costNow_56 fX10_81 sh66 rfl ?_
    refine z_iload_n dX10_costNow_59 rfl ?_
    refine z_iconst (v := 0) dX10_costNow_60 rfl ?_
    refine m_iastN (j := i) dX10_costNow_61 sh89 rfl (by omega) rfl ?_
    refine z_iinc (fun y => [(1, .int y), (0, .ref 66)]) dX10_costNow_62 rfl rfl (fun _ => rfl) (fun x1_62 ex1_62 => ?_)
    obtain rfl : x1_62 = nI (i + 1) := by rw [ex1_62]; exact nI_1 i
    refine z_goto 36 dX10_costNow_65 (by decide) ?_
    exact H) (by
    refine z_iload_n dX10_costNow_36 rfl ?_
    refine z_iconst (v := 2) dX10_costNow_37 rfl ?_
    refine z_icmp_ge 68 dX10_costNow_38 (by decide) (fun h38 => ?_) (fun h38 => absurd (show (2 : Int32) ≤ nI 2 by decide) h38)
    refine z_aload_n dX10_costNow_68 rfl ?_
    refine z_iconst (v := 0) dX10_costNow_69 rfl ?_
    refine m_puti dX10_costNow_70 fX10_213 (fun q h => by cases h; rfl) rfl rfl sh66 rfl ?_
    refine z_aload_n dX10_costNow_73 rfl ?_
    refine z_iconst (v := 0) dX10_costNow_74 rfl ?_
    refine m_puti dX10_costNow_75 fX10_187 (fun q h => by cases h; rfl) rfl rfl sh66 rfl ?_
    refine z_iconst (v := 0) dX10_costNow_78 rfl ?_
    refine z_istore_n (i := 1) (fun y => [(1, .int y), (0, .ref 66)]) dX10_costNow_79 rfl rfl (fun _ => rfl) (fun x9 e9 => ?_)
    subst e9
    exact hL3 0 (Nat.zero_le n))
  have hL1 := m_for (l := l) (G := G) (M := mX10_costNow) (pc := 2) (ν := ν) (K := (fun a9 b9 c9 => rCost (rRun μ n Q) = a9 ∧ rRun μ n Q = b9 ∧ ν = c9)) (N := 4) (fun i => [(1, .int (nI i)), (0, .ref 66)]) (fun i => rR4 μ i) (fun i hi H => by
    refine z_iload_n dX10_costNow_2 rfl ?_
    refine z_iconst (v := 4) dX10_costNow_3 rfl ?_
    refine z_icmp_ge 34 dX10_costNow_4 (by decide) (fun h4 => absurd h4 (nI_ge hi (by decide))) (fun h4 => ?_)
    refine z_aload_n dX10_costNow_7 rfl ?_
    refine m_getr dX10_costNow_8 fX10_66 sh66 rfl ?_
    refine z_iload_n dX10_costNow_11 rfl ?_
    refine z_iconst (v := 0) dX10_costNow_12 rfl ?_
    refine m_iastN (j := i) dX10_costNow_13 sh84 rfl (by omega) rfl ?_
    refine z_aload_n dX10_costNow_14 rfl ?_
    refine m_getr dX10_costNow_15 fX10_69 sh66 rfl ?_
    refine z_iload_n dX10_costNow_18 rfl ?_
    refine z_iconst (v := 0) dX10_costNow_19 rfl ?_
    refine m_iastN (j := i) dX10_costNow_20 sh85 rfl (by omega) rfl ?_
    refine z_aload_n dX10_costNow_21 rfl ?_
    refine m_getr dX10_costNow_22 fX10_84 sh66 rfl ?_
    refine z_iload_n dX10_costNow_25 rfl ?_
    refine z_iconst (v := -1) dX10_costNow_26 rfl ?_
    refine m_iastN (j := i) dX10_costNow_27 sh90 rfl (by omega) rfl ?_
    refine z_iinc (fun y => [(1, .int y), (0, .ref 66)]) dX10_costNow_28 rfl rfl (fun _ => rfl) (fun x1_28 ex1_28 => ?_)
    obtain rfl : x1_28 = nI (i + 1) := by rw [ex1_28]; exact nI_1 i
    refine z_goto 2 dX10_costNow_31 (by decide) ?_
    exact H) (by
    refine z_iload_n dX10_costNow_2 rfl ?_
    refine z_iconst (v := 4) dX10_costNow_3 rfl ?_
    refine z_icmp_ge 34 dX10_costNow_4 (by decide) (fun h4 => ?_) (fun h4 => absurd (show (4 : Int32) ≤ nI 4 by decide) h4)
    refine z_iconst (v := 0) dX10_costNow_34 rfl ?_
    refine z_istore_n (i := 1) (fun y => [(1, .int y), (0, .ref 66)]) dX10_costNow_35 rfl rfl (fun _ => rfl) (fun x9 e9 => ?_)
    subst e9
    exact hL2 0 (by decide))
  refine z_iconst (v := 0) dX10_costNow_0 rfl ?_
  refine z_istore_n (i := 1) (fun y => [(1, .int y), (0, .ref 66)]) dX10_costNow_1 rfl rfl (fun _ => rfl) (fun x9 e9 => ?_)
  subst e9
  exact hL1 0 (by decide)
