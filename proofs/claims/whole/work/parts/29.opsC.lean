
theorem rRun_66 {μ : Mem} {n j : Nat} {Q : Nat → Nat} (h1 : j ≠ 38) (h2 : j ≠ 39) : rRun μ n Q 66 j = μ 66 j := rRun_eq.2 j h1 h2
theorem rRun_75 {μ : Mem} {n q : Nat} {Q : Nat → Nat} (h : q < 78 ∨ 90 < q) (h2 : q ≠ 66) : rRun μ n Q q = μ q := rRun_eq.1 q (by unfold zMe; omega)
theorem op_fault : zOp mX9_fault [.ref 0] mX10_fault [.ref 66] := by
  intro l G μ ν n h
  have h6 := h.1
  have hn := h.2.1
  have hm := h.2.2.1
  exact zOp.same h c_fault d_fault h.2.2.2.2.2.2.2.1.symm
theorem op_told (v : Int32) : zOp mX9_told [.ref 0, .int v] mX10_told [.ref 66, .int v] := by
  intro l G μ ν n h
  have h6 := h.1
  have hn := h.2.1
  have hm := h.2.2.1
  rcases zrng v 0 10 (by decide) (by decide) with hb | ⟨j, -, hj, rfl⟩
  · obtain ⟨Q, hQ, hps, hlv, e1, e2, e3, -⟩ := zEve (pl := 22) (by omega) h6 h.hp
    exact zOp.both (c_told_o hb) (d_told_o hm h6 hQ h.hp.sidesM hb) rfl (h.congr zKeepC.rf (zKeepT.eq rRun_eq)) rRun_lo
  · rcases (show j ≤ 4 ∨ 5 ≤ j by omega) with c | c
    · obtain ⟨Q, hQ, hps, hlv, e1, e2, e3, -⟩ := zEve (pl := 22) (by omega) h6 h.hp
      rcases (show j = 0 ∨ j = 1 ∨ j = 2 ∨ j = 3 ∨ j = 4 by omega) with rfl | rfl | rfl | rfl | rfl
      · exact zOp.both c_told_0 (d_told_0 hm h6 hQ h.hp.sidesM) hn.symm (h.congr zKeepC.rf (zKeepT.eq rRun_eq)) rRun_lo
      · exact zOp.both c_told_1 (d_told_1 hm h6 hQ h.hp.sidesM) (by rw [rRun_66 (by decide) (by decide)]; obtain ⟨L, -, a, b, -⟩ := h.2.2.2.2.2.2.1; rw [a, b]) (h.congr zKeepC.rf (zKeepT.eq rRun_eq)) rRun_lo
      · exact zOp.both c_told_2 (d_told_2 hm h6 hQ h.hp.sidesM) (by rw [rRun_75 (by decide) (by decide)]; exact h.hp.2.2.1.1.symm) (h.congr zKeepC.rf (zKeepT.eq rRun_eq)) rRun_lo
      · exact zOp.both c_told_3 (d_told_3 hm h6 hQ h.hp.sidesM) (by rw [rRun_75 (by decide) (by decide)]; exact h.hp.2.2.1.2.2.1.symm) (h.congr zKeepC.rf (zKeepT.eq rRun_eq)) rRun_lo
      · exact zOp.both c_told_4 (d_told_4 hm h6 hQ h.hp.sidesM) (by rw [rRun_66 (by decide) (by decide)]; obtain ⟨L, -, a, b, -⟩ := h.2.2.2.2.2.2.2.2.1; rw [a, b]) (h.congr zKeepC.rf (zKeepT.eq rRun_eq)) rRun_lo
    · obtain ⟨Q, hQ, hps, hlv, e1, e2, e3, -⟩ := zEve (μ := μ) (τ := gRun μ 22 n) (pl := 22) (by omega) h6 h.cls.hp
      have hm2 := h.cls (pl := 22)
      rcases (show j = 5 ∨ j = 6 ∨ j = 7 ∨ j = 8 ∨ j = 9 ∨ j = 10 by omega) with rfl | rfl | rfl | rfl | rfl | rfl
      · exact zOp.both (c_told_5 hn h6 h.hp.sides) (d_told_5 hm2.2.2.1 h6 hQ hm2.hp.sidesM) e1.symm hm2.eve rRun_lo
      · exact zOp.both (c_told_6 hn h6 h.hp.sides) (d_told_6 hm2.2.2.1 h6 hQ hm2.hp.sidesM) e2.symm hm2.eve rRun_lo
      · exact zOp.both (c_told_7 hn h6 h.hp.sides) (d_told_7 hm2.2.2.1 h6 hQ hm2.hp.sidesM) e3.symm hm2.eve rRun_lo
      · exact zOp.both (c_told_8 hn h6 h.hp.sides) (d_told_8 hm2.2.2.1 h6 hQ hm2.hp.sidesM) (zHow_rel hps n (Nat.le_refl n)).symm hm2.eve rRun_lo
      · exact zOp.both (c_told_9 hn h6 h.hp.sides) (d_told_9 hm2.2.2.1 h6 hQ hm2.hp.sidesM) (zHow_rel hps n (Nat.le_refl n)).symm hm2.eve rRun_lo
      · exact zOp.both (c_told_10 hn h6 h.hp.sides) (d_told_10 hm2.2.2.1 h6 hQ hm2.hp.sidesM) (zLast_rel hps n (Nat.le_refl n)).symm hm2.eve rRun_lo
theorem op_leaf (w v : Int32) : zOp mX9_leaf [.ref 0, .int w, .int v] mX10_leaf [.ref 66, .int w, .int v] := by
  intro l G μ ν n h
  have h6 := h.1
  have hn := h.2.1
  have hm := h.2.2.1
  rcases zrng w 0 1 (by decide) (by decide) with hw | ⟨a, -, ha, rfl⟩
  · exact zOp.same h (c_leaf_w hw) (d_leaf_w hw) rfl
  · rcases zrng v 0 3 (by decide) (by decide) with hb | ⟨j, -, hj, rfl⟩
    · obtain ⟨Q, hQ, hps, hlv, e1, e2, e3, -⟩ := zEve (pl := 22) (by omega) h6 h.hp
      exact zOp.both (c_leaf_o ha hb) (d_leaf_o hm h6 hQ h.hp.sidesM ha hb) rfl (h.congr zKeepC.rf (zKeepT.eq rRun_eq)) rRun_lo
    · have hm2 := h.cls (pl := 22)
      rcases (show j = 0 ∨ j = 1 ∨ j = 2 ∨ j = 3 by omega) with rfl | rfl | rfl | rfl
      · obtain ⟨Q, hQ, hps, hlv, e1, e2, e3, -⟩ := zEve (pl := 22) (by omega) h6 h.hp
        exact zOp.both (c_leaf_0 ha) (d_leaf_0 hm h6 hQ h.hp.sidesM ha) (by rw [rRun_75 (by decide) (by decide)]; exact (h.hp.2.2.2 a (by omega)).1.symm) (h.congr zKeepC.rf (zKeepT.eq rRun_eq)) rRun_lo
      · obtain ⟨Q, hQ, hps, hlv, e1, e2, e3, -⟩ := zEve (pl := 22) (by omega) h6 h.hp
        exact zOp.both (c_leaf_1 ha) (d_leaf_1 hm h6 hQ h.hp.sidesM ha) (by rw [rRun_75 (by decide) (by decide)]; exact (h.hp.2.2.2 a (by omega)).2.1.symm) (h.congr zKeepC.rf (zKeepT.eq rRun_eq)) rRun_lo
      · obtain ⟨Q, hQ, hps, hlv, e1, e2, e3, -⟩ := zEve (μ := μ) (τ := gRun μ 22 n) (pl := 22) (by omega) h6 h.cls.hp
        exact zOp.both (c_leaf_2 hn h6 h.hp.sides ha) (d_leaf_2 hm2.2.2.1 h6 hQ hm2.hp.sidesM ha) (hlv.2 a (by omega)).2.1.symm hm2.eve rRun_lo
      · obtain ⟨Q, hQ, hps, hlv, e1, e2, e3, -⟩ := zEve (μ := μ) (τ := gRun μ 22 n) (pl := 22) (by omega) h6 h.cls.hp
        exact zOp.both (c_leaf_3 hn h6 h.hp.sides ha) (d_leaf_3 hm2.2.2.1 h6 hQ hm2.hp.sidesM ha) (hlv.2 a (by omega)).2.2.symm hm2.eve rRun_lo
theorem op_waiter (w v : Int32) : zOp mX9_waiter [.ref 0, .int w, .int v] mX10_waiter [.ref 66, .int w, .int v] := by
  intro l G μ ν n h
  have h6 := h.1
  have hn := h.2.1
  have hm := h.2.2.1
  rcases zwho w n (by omega) with hw | ⟨a, ha, rfl⟩
  · exact zOp.same h (c_waiter_w hn h6 hw) (d_waiter_w hm h6 hw) rfl
  · obtain ⟨a1, a2, a3, a4, a5, a6, a7⟩ := h.hp.1 a ha
    rcases zrng v 0 6 (by decide) (by decide) with hb | ⟨j, -, hj, rfl⟩
    · exact zOp.same h (c_waiter_o hn h6 ha hb) (d_waiter_o hm h6 ha hb) rfl
    · rcases (show j = 0 ∨ j = 1 ∨ j = 2 ∨ j = 3 ∨ j = 4 ∨ j = 5 ∨ j = 6 by omega) with rfl | rfl | rfl | rfl | rfl | rfl | rfl
      · exact zOp.same h (c_waiter_0 hn h6 ha) (d_waiter_0 hm h6 ha) a1.symm
      · exact zOp.same h (c_waiter_1 hn h6 ha) (d_waiter_1 hm h6 ha) a5.symm
      · exact zOp.same h (c_waiter_2 hn h6 ha) (d_waiter_2 hm h6 ha) a2.symm
      · exact zOp.same h (c_waiter_3 hn h6 ha) (d_waiter_3 hm h6 ha) a3.symm
      · exact zOp.same h (c_waiter_4 hn h6 ha) (d_waiter_4 hm h6 ha) a6.symm
      · exact zOp.same h (c_waiter_5 hn h6 ha) (d_waiter_5 hm h6 ha) a7.symm
      · exact zOp.same h (c_waiter_6 hn h6 ha) (d_waiter_6 hm h6 ha) a4.symm
theorem op_pass (w v : Int32) : zOp mX9_pass [.ref 0, .int w, .int v] mX10_pass [.ref 66, .int w, .int v] := by
  intro l G μ ν n h
  have h6 := h.1
  have hn := h.2.1
  have hm := h.2.2.1
  rcases zwho w n (by omega) with hw | ⟨a, ha, rfl⟩
  · exact zOp.same h (c_pass_w hn h6 hw) (d_pass_w hm h6 hw) rfl
  · have hm2 := h.cls (pl := 22)
    rcases zrng v 0 5 (by decide) (by decide) with hb | ⟨j, -, hj, rfl⟩
    · obtain ⟨Q, hQ, hps, hlv, e1, e2, e3, -⟩ := zEve (pl := 22) (by omega) h6 h.hp
      exact zOp.both (c_pass_o hn h6 ha hb) (d_pass_o hm h6 hQ h.hp.sidesM ha hb) rfl (h.congr zKeepC.rf (zKeepT.eq rRun_eq)) rRun_lo
    · obtain ⟨Q, hQ, hps, hlv, e1, e2, e3, -⟩ := zEve (μ := μ) (τ := gRun μ 22 n) (pl := 22) (by omega) h6 h.cls.hp
      obtain ⟨a0, a1, a2, a3, a4, a5, a6, a7⟩ := hps a ha
      rcases (show j = 0 ∨ j = 1 ∨ j = 2 ∨ j = 3 ∨ j = 4 ∨ j = 5 by omega) with rfl | rfl | rfl | rfl | rfl | rfl
      · exact zOp.both (c_pass_0 hn h6 h.hp.sides ha) (d_pass_0 hm2.2.2.1 h6 hQ hm2.hp.sidesM ha) a0.symm hm2.eve rRun_lo
      · exact zOp.both (c_pass_1 hn h6 h.hp.sides ha) (d_pass_1 hm2.2.2.1 h6 hQ hm2.hp.sidesM ha) a1.symm hm2.eve rRun_lo
      · exact zOp.both (c_pass_2 hn h6 h.hp.sides ha) (d_pass_2 hm2.2.2.1 h6 hQ hm2.hp.sidesM ha) a2.symm hm2.eve rRun_lo
      · exact zOp.both (c_pass_3 hn h6 h.hp.sides ha) (d_pass_3 hm2.2.2.1 h6 hQ hm2.hp.sidesM ha) a3.symm hm2.eve rRun_lo
      · exact zOp.both (c_pass_4 hn h6 h.hp.sides ha) (d_pass_4 hm2.2.2.1 h6 hQ hm2.hp.sidesM ha) a4.symm hm2.eve rRun_lo
      · exact zOp.both (c_pass_5 hn h6 h.hp.sides ha) (d_pass_5 hm2.2.2.1 h6 hQ hm2.hp.sidesM ha) (by
          rw [a5]
          obtain ⟨x, x1, x2⟩ := a7
          rw [x2]
          rcases (show x = 0 ∨ x = 1 by omega) with rfl | rfl <;> rfl) hm2.eve rRun_lo
theorem op_leafAt (w v : Int32) : zOp mX9_leafAt [.ref 0, .int w, .int v] mX10_leafAt [.ref 66, .int w, .int v] := by
  intro l G μ ν n h
  have h6 := h.1
  have hn := h.2.1
  have hm := h.2.2.1
  rcases zrng w 0 1 (by decide) (by decide) with hw | ⟨a, -, ha, rfl⟩
  · exact zOp.same h (c_leafAt_w hw) (d_leafAt_w hw) rfl
  · rcases zrng v 0 9999 (by decide) (by decide) with hb | ⟨j, -, hj, rfl⟩
    · exact zOp.same h (c_leafAt_o ha hb) (d_leafAt_o ha hb) rfl
    · have hm2 := h.cls (pl := 22)
      obtain ⟨Q, hQ, hps, hlv, e1, e2, e3, -⟩ := zEve (μ := μ) (τ := gRun μ 22 n) (pl := 22) (by omega) h6 h.cls.hp
      obtain ⟨-, -, ⟨H, q1, q2, q3⟩, ⟨Bk, q4, q5⟩⟩ := hm2.hp.2.2.2 a (by omega)
      refine zOp.both (c_leafAt hn h6 h.hp.sides ha hj) (d_leafAt hm2.2.2.1 h6 hQ hm2.hp.sidesM ha hj) (doing_rel hlv (by omega) (by omega) hj q2 q4 ?_ ?_).symm hm2.eve rRun_lo
      · rw [rRun_75 (by decide) (by decide)]; exact q3
      · rw [rRun_75 (by decide) (by decide)]; exact q5

theorem zFirst_congr {p q : Nat → Bool} : ∀ (j d : Nat), (∀ i, j ≤ i → i < j + d → p i = q i) → zFirst p j d = zFirst q j d
  | _, 0, _ => rfl
  | j, d + 1, h => by
    unfold zFirst
    rw [h j (Nat.le_refl j) (by omega), zFirst_congr (j + 1) d (fun i h1 h2 => h i (by omega) (by omega))]
theorem op_judge : zOp mX9_judge [.ref 0] mX10_judge [.ref 66] := by
  intro l G μ ν n h
  have h6 := h.1
  have hn := h.2.1
  have hm := h.2.2.1
  obtain ⟨b, hb, b1, b2, b3⟩ := h.2.2.2.2.2.2.2.2.1
  have hm2 := h.cls (pl := 22)
  obtain ⟨Q, hQ, hps, hlv, e1, e2, e3, -⟩ := zEve (μ := μ) (τ := gRun μ 22 n) (pl := 22) (by omega) h6 h.cls.hp
  have hs := h.hp.sides
  have b2' : gRun μ 22 n 66 45 = nI b := by rw [gRun_ne h6 hs (by omega)]; exact b2
  refine zOp.both (c_judge hn h6 hs b1 hb (fun i hi => by rw [(b3 i hi).1]; exact (b3 i hi).2.2)) (d_judge hm2.2.2.1 h6 hQ hm2.hp.sidesM b2' hb (fun i hi => by rw [gRun_ne h6 hs (by omega)]; exact (b3 i hi).2.2)) ?_ hm2.eve rRun_lo
  refine zFirst_congr 0 b (fun i _ hi => ?_)
  unfold rJudge fJudge
  obtain ⟨c1, c2, m, c3, c4⟩ := b3 i (by omega)
  rw [rRun_75 (q := 96) (by decide) (by decide), gRun_ne h6 hs (q := 96) (by omega), gRun_ne h6 hs (q := 54) (by omega), gRun_ne h6 hs (q := 55) (by omega), c1, c2, c4, nI_clamp (show m < 2 ^ 31 by omega), (hps m c3).1]
