set_option maxRecDepth 100000 in
set_option maxHeartbeats 400000 in
theorem c_allBy {l : Launch} {G : zG} {μ : Mem} {ν : Lng} {n : Nat} (hn : μ 15 6 = nI n) (hz6 : n ≤ 6) (hsd : zSides μ n) {v : Nat} (hv : v ≤ 2)  : Cm l G mX8_allBy [.ref 44, .int (nI v)] μ ν (fun a9 b9 c9 => fCost (gRun (fFill (fPlanCp μ 45 22) 48 6 (nI v)) 45 n) n = a9 ∧ gRun (fFill (fPlanCp μ 45 22) 48 6 (nI v)) 45 n = b9 ∧ ν = c9) := by
  have f1 : zFc μ (fFill (fPlanCp μ 45 22) 48 6 (nI v)) := zFc.cp.tr (zFc.fill (by decide))
  refine Con.of (by decide) (Nat.le_of_ble_eq_true rfl) ?_
  show Am l G mX8_allBy 0 [(0, .ref 44), (1, .int (nI v))] [] μ ν _
  refine z_aload_n dX8_allBy_0 rfl ?_
  refine m_getr dX8_allBy_1 fX8_12 sh44 rfl ?_
  refine z_aload_n dX8_allBy_4 rfl ?_
  refine m_getr dX8_allBy_5 fX8_36 sh44 rfl ?_
  refine m_callVv (As := [.ref _]) dX8_allBy_8 kX8_43 ⟨rfl, rfl⟩ rfl ⟨rfl, rfl⟩ rfl rfl sh45 rfl rfl (c_planCp zPlan45 zPlan22) (fun μ8 ν8 hk8 => ?_)
  obtain ⟨rfl, rfl⟩ := hk8
  refine z_aload_n dX8_allBy_11 rfl ?_
  refine m_getr dX8_allBy_12 fX8_12 sh44 rfl ?_
  refine m_getr dX8_allBy_15 fX8_57 sh45 rfl ?_
  refine z_iload_n dX8_allBy_18 rfl ?_
  refine m_callSv (As := [.ref _, .int _]) dX8_allBy_19 kX8_61 ⟨rfl, rfl⟩ rfl ⟨rfl, rfl⟩ rfl rfl rfl (c_fill (k := 48) (n := 6) sh48 (by decide)) (fun μ19 ν19 hk19 => ?_)
  obtain ⟨rfl, rfl⟩ := hk19
  refine z_aload_n dX8_allBy_22 rfl ?_
  refine m_callV (As := []) dX8_allBy_23 kX8_67 ⟨rfl, rfl⟩ rfl ⟨rfl, rfl⟩ rfl rfl sh44 rfl rfl (c_trialCost (f1.n hn) hz6 (f1.sd hsd)) (fun r23 μ23 ν23 hk23 => ?_)
  obtain ⟨rfl, rfl, rfl⟩ := hk23
  refine m_iret dX8_allBy_26 rfl rfl ?_
  exact ⟨rfl, rfl, rfl⟩
set_option maxRecDepth 100000 in
set_option maxHeartbeats 400000 in
theorem c_all_o {l : Launch} {G : zG} {μ : Mem} {ν : Lng} {v : Int32} (hv : v < 0 ∨ 2 < v)  : Cm l G mX9_all [.ref 0, .int v] μ ν (fun a9 b9 c9 => (-1000000002) = a9 ∧ μ = b9 ∧ ν = c9) := by
  refine Con.of (by decide) (Nat.le_of_ble_eq_true rfl) ?_
  show Am l G mX9_all 0 [(0, .ref 0), (1, .int v)] [] μ ν _
  refine z_iload_n dX9_all_0 rfl ?_
  refine m_callS (As := [.int _]) dX9_all_1 kX9_220 ⟨rfl, rfl⟩ rfl ⟨rfl, rfl⟩ rfl rfl rfl (c_noRule1 hv) (fun r1 μ1 ν1 hk1 => ?_)
  obtain ⟨rfl, rfl, rfl⟩ := hk1
  refine z_if_eq 12 dX9_all_4 (by decide) (fun h4 => absurd h4 (by decide)) (fun h4 => ?_)
  refine z_ldc dX9_all_7 cX9_73 ?_
  refine z_goto 20 dX9_all_9 (by decide) ?_
  refine m_iret dX9_all_20 rfl rfl ?_
  exact ⟨rfl, rfl, rfl⟩
set_option maxRecDepth 100000 in
set_option maxHeartbeats 400000 in
theorem c_all {l : Launch} {G : zG} {μ : Mem} {ν : Lng} {n : Nat} (hn : μ 15 6 = nI n) (hz6 : n ≤ 6) (hsd : zSides μ n) {v : Nat} (hv : v ≤ 2)  : Cm l G mX9_all [.ref 0, .int (nI v)] μ ν (fun a9 b9 c9 => fCost (gRun (fFill (fPlanCp μ 45 22) 48 6 (nI v)) 45 n) n = a9 ∧ gRun (fFill (fPlanCp μ 45 22) 48 6 (nI v)) 45 n = b9 ∧ ν = c9) := by
  refine Con.of (by decide) (Nat.le_of_ble_eq_true rfl) ?_
  show Am l G mX9_all 0 [(0, .ref 0), (1, .int (nI v))] [] μ ν _
  refine z_iload_n dX9_all_0 rfl ?_
  refine m_callS (As := [.int _]) dX9_all_1 kX9_220 ⟨rfl, rfl⟩ rfl ⟨rfl, rfl⟩ rfl rfl rfl (c_noRule0 hv) (fun r1 μ1 ν1 hk1 => ?_)
  obtain ⟨rfl, rfl, rfl⟩ := hk1
  refine z_if_eq 12 dX9_all_4 (by decide) (fun h4 => ?_) (fun h4 => absurd (by decide) h4)
  refine z_aload_n dX9_all_12 rfl ?_
  refine m_getr dX9_all_13 fX9_44 sh0 rfl ?_
  refine z_iload_n dX9_all_16 rfl ?_
  refine m_callV (As := [.int _]) dX9_all_17 kX9_223 ⟨rfl, rfl⟩ rfl ⟨rfl, rfl⟩ rfl rfl sh44 rfl rfl (c_allBy hn hz6 hsd hv) (fun r17 μ17 ν17 hk17 => ?_)
  obtain ⟨rfl, rfl, rfl⟩ := hk17
  refine m_iret dX9_all_20 rfl rfl ?_
  exact ⟨rfl, rfl, rfl⟩

def rRul (μ : Mem) (v : Int32) : Nat → Mem
  | 0 => μ
  | i + 1 => up2 (rRul μ v i) 75 (6 + i) v
theorem rRul_fr {μ : Mem} {v : Int32} : ∀ i, i ≤ 6 → zFr μ (rRul μ v i)
  | 0, _ => zFr.rf
  | i + 1, h => (rRul_fr i (by omega)).tr (zFr.up (by omega))
theorem rRul_75 {μ : Mem} {v : Int32} : ∀ i k, rRul μ v i 75 k = if 6 ≤ k ∧ k < 6 + i then v else μ 75 k
  | 0, k => by rw [rRul, if_neg (by omega)]
  | i + 1, k => by
    rw [rRul, up2_row, rRul_75 i k]
    by_cases e : k = 6 + i
    · rw [if_pos e, if_pos (by omega)]
    · rw [if_neg e]
      by_cases e2 : 6 ≤ k ∧ k < 6 + i
      · rw [if_pos e2, if_pos (by omega)]
      · rw [if_neg e2, if_neg (by omega)]
theorem zFr.holdN {τ : Mem} {n : Nat} (hn : τ 66 17 = nI n) : rCp τ 91 75 0 0 21 66 17 = nI n := by rw [hold_n (by decide)]; exact hn
theorem zFr.holdS {τ : Mem} {n : Nat} (hs : zSidesM τ n) : zSidesM (rCp τ 91 75 0 0 21) n := fun w hw => by rw [hold_n (by decide)]; exact hs w hw
set_option maxRecDepth 100000 in
set_option maxHeartbeats 400000 in
theorem d_all_o {l : Launch} {G : zG} {μ : Mem} {ν : Lng} {v : Int32} (hv : v < 0 ∨ 2 < v)  : Cm l G mX10_all [.ref 66, .int v] μ ν (fun a9 b9 c9 => (-1000000002) = a9 ∧ μ = b9 ∧ ν = c9) := by
  refine Con.of (by decide) (Nat.le_of_ble_eq_true rfl) ?_
  show Am l G mX10_all 0 [(0, .ref 66), (1, .int v)] [] μ ν _
  refine z_iload_n dX10_all_0 rfl ?_
  refine z_iconst (v := 0) dX10_all_1 rfl ?_
  refine z_iconst (v := 2) dX10_all_2 rfl ?_
  refine m_callS (As := [.int _, .int _, .int _]) dX10_all_3 kX10_108 ⟨rfl, rfl⟩ rfl ⟨rfl, rfl⟩ rfl rfl rfl (c_inF hv) (fun r3 μ3 ν3 hk3 => ?_)
  obtain ⟨rfl, rfl, rfl⟩ := hk3
  refine z_if_ne 12 dX10_all_6 (by decide) (fun h6 => absurd (by decide) h6) (fun h6 => ?_)
  refine z_ldc dX10_all_9 cX10_112 ?_
  refine m_iret dX10_all_11 rfl rfl ?_
  exact ⟨rfl, rfl, rfl⟩
set_option maxRecDepth 100000 in
set_option maxHeartbeats 400000 in
theorem d_all {l : Launch} {G : zG} {μ : Mem} {ν : Lng} {n : Nat} (hn : μ 66 17 = nI n) (hz6 : n ≤ 6) (hsd : zSidesM μ n) {v : Nat} (hv : v ≤ 2)  : Cm l G mX10_all [.ref 66, .int (nI v)] μ ν (fun a9 b9 c9 => rCost (rNow (rRul (rCp μ 91 75 0 0 21) (nI v) n) n) = a9 ∧ rCp (rNow (rRul (rCp μ 91 75 0 0 21) (nI v) n) n) 75 91 0 0 21 = b9 ∧ ν = c9) := by
  refine Con.of (by decide) (Nat.le_of_ble_eq_true rfl) ?_
  show Am l G mX10_all 0 [(0, .ref 66), (1, .int (nI v))] [] μ ν _
  have g1 : ∀ i, i ≤ n → rRul (rCp μ 91 75 0 0 21) (nI v) i 66 17 = nI n := fun i hi => (rRul_fr i (by omega)).n (zFr.holdN hn)
  have hL := m_for (l := l) (G := G) (M := mX10_all) (pc := 18) (ν := ν) (K := (fun a9 b9 c9 => rCost (rNow (rRul (rCp μ 91 75 0 0 21) (nI v) n) n) = a9 ∧ rCp (rNow (rRul (rCp μ 91 75 0 0 21) (nI v) n) n) 75 91 0 0 21 = b9 ∧ ν = c9)) (N := n) (fun i => [(2, .int (nI i)), (0, .ref 66), (1, .int (nI v))]) (fun i => rRul (rCp μ 91 75 0 0 21) (nI v) i) (fun i hi H => by
    refine z_iload_n dX10_all_18 rfl ?_
    refine z_aload_n dX10_all_19 rfl ?_
    refine m_geti dX10_all_20 fX10_105 sh66 rfl ?_
    refine z_icmp_ge 42 dX10_all_23 (by decide) (fun h23 => absurd (g1 i (by omega) ▸ h23) (nI_ge hi (by omega))) (fun h23 => ?_)
    refine z_aload_n dX10_all_26 rfl ?_
    refine m_getr dX10_all_27 fX10_38 sh66 rfl ?_
    refine z_bipush (v := 6) dX10_all_30 rfl ?_
    refine z_iload_n dX10_all_32 rfl ?_
    refine z_iadd dX10_all_33 ?_
    rw [show (6 + nI i) = nI (6 + i) from z6a 6 i]
    refine z_iload_n dX10_all_34 rfl ?_
    refine m_iastN (j := (6 + i)) dX10_all_35 sh75 rfl (by omega) rfl ?_
    refine z_iinc (fun y => [(2, .int y), (0, .ref 66), (1, .int (nI v))]) dX10_all_36 rfl rfl (fun _ => rfl) (fun x2_36 ex2_36 => ?_)
    obtain rfl : x2_36 = nI (i + 1) := by rw [ex2_36]; exact nI_1 i
    refine z_goto 18 dX10_all_39 (by decide) ?_
    exact H) (by
    refine z_iload_n dX10_all_18 rfl ?_
    refine z_aload_n dX10_all_19 rfl ?_
    refine m_geti dX10_all_20 fX10_105 sh66 rfl ?_
    refine z_icmp_ge 42 dX10_all_23 (by decide) (fun h23 => ?_) (fun h23 => absurd (g1 n (Nat.le_refl n) ▸ nI_le (Nat.le_refl n) (by omega)) h23)
    refine z_aload_n dX10_all_42 rfl ?_
    refine m_callV (As := []) dX10_all_43 kX10_223 ⟨rfl, rfl⟩ rfl ⟨rfl, rfl⟩ rfl rfl sh66 rfl rfl (d_cost (g1 n (Nat.le_refl n)) hz6 ((rRul_fr n hz6).sd (zFr.holdS hsd))) (fun r43 μ43 ν43 hk43 => ?_)
    obtain ⟨rfl, rfl, rfl⟩ := hk43
    refine z_istore_n (i := 2) (fun y => [(2, .int y), (0, .ref 66), (1, .int (nI v))]) dX10_all_46 rfl rfl (fun _ => rfl) (fun x9 e9 => ?_)
    subst e9
    refine z_aload_n dX10_all_47 rfl ?_
    refine m_callVv (As := []) dX10_all_48 kX10_248 ⟨rfl, rfl⟩ rfl ⟨rfl, rfl⟩ rfl rfl sh66 rfl rfl d_release (fun μ48 ν48 hk48 => ?_)
    obtain ⟨rfl, rfl⟩ := hk48
    refine z_iload_n dX10_all_51 rfl ?_
    refine m_iret dX10_all_52 rfl rfl ?_
    exact ⟨rfl, rfl, rfl⟩)
  refine z_iload_n dX10_all_0 rfl ?_
  refine z_iconst (v := 0) dX10_all_1 rfl ?_
  refine z_iconst (v := 2) dX10_all_2 rfl ?_
  refine m_callS (As := [.int _, .int _, .int _]) dX10_all_3 kX10_108 ⟨rfl, rfl⟩ rfl ⟨rfl, rfl⟩ rfl rfl rfl (c_inT (v := v) (lo := 0) (hi := 2) (Nat.zero_le v) hv (by decide)) (fun r3 μ3 ν3 hk3 => ?_)
  obtain ⟨rfl, rfl, rfl⟩ := hk3
  refine z_if_ne 12 dX10_all_6 (by decide) (fun h6 => ?_) (fun h6 => absurd h6 (by decide))
  refine z_aload_n dX10_all_12 rfl ?_
  refine m_callVv (As := []) dX10_all_13 kX10_245 ⟨rfl, rfl⟩ rfl ⟨rfl, rfl⟩ rfl rfl sh66 rfl rfl d_hold (fun μ13 ν13 hk13 => ?_)
  obtain ⟨rfl, rfl⟩ := hk13
  refine z_iconst (v := 0) dX10_all_16 rfl ?_
  refine z_istore_n (i := 2) (fun y => [(2, .int y), (0, .ref 66), (1, .int (nI v))]) dX10_all_17 rfl rfl (fun _ => rfl) (fun x9 e9 => ?_)
  subst e9
  exact hL 0 (Nat.zero_le n)

theorem fFill_at {μ : Mem} {k m i : Nat} {v : Int32} (h : i < m) : fFill μ k m v k i = v := by
  unfold fFill
  rw [va_up_self, if_pos h]
/-- the trial's plan with one thing changed -/
theorem zPl.upc {σ : Mem} {pl n i : Nat} {p p' : Nat → Int32} {x : Int32} (h : zPl σ pl p n) (c : Nat) (hc : c = 1 ∨ c = 2 ∨ c = 3) (o : Nat) (ho : o = if c = 1 then 0 else if c = 2 then 12 else 6) (hi : i < 6) (h6 : n ≤ 6) (e : ∀ k, k < 20 → p' k = if k = o + i then x else p k) : zPl (up2 σ (pl + c) i x) pl p' n := by
  refine ⟨fun w hw => ⟨?_, ?_, ?_⟩, ?_, ?_⟩
  · rw [e w (by omega)]
    rcases hc with rfl | rfl | rfl
    · simp only [if_true] at ho
      subst ho
      rw [up2_row, Nat.zero_add]
      by_cases q : w = i
      · rw [if_pos q, if_pos q]
      · rw [if_neg q, if_neg q]; exact (h.1 w hw).1
    · simp only [if_neg (show ¬ 2 = 1 by decide), if_true] at ho
      subst ho
      rw [up2_ne (by omega), if_neg (by omega)]; exact (h.1 w hw).1
    · simp only [if_neg (show ¬ 3 = 1 by decide), if_neg (show ¬ 3 = 2 by decide)] at ho
      subst ho
      rw [up2_ne (by omega), if_neg (by omega)]; exact (h.1 w hw).1
  · rw [e (12 + w) (by omega)]
    rcases hc with rfl | rfl | rfl
    · simp only [if_true] at ho
      subst ho
      rw [up2_ne (by omega), if_neg (by omega)]; exact (h.1 w hw).2.1
    · simp only [if_neg (show ¬ 2 = 1 by decide), if_true] at ho
      subst ho
      rw [up2_row]
      by_cases q : w = i
      · rw [if_pos q, if_pos (by omega)]
      · rw [if_neg q, if_neg (by omega)]; exact (h.1 w hw).2.1
    · simp only [if_neg (show ¬ 3 = 1 by decide), if_neg (show ¬ 3 = 2 by decide)] at ho
      subst ho
      rw [up2_ne (by omega), if_neg (by omega)]; exact (h.1 w hw).2.1
  · rw [e (6 + w) (by omega)]
    rcases hc with rfl | rfl | rfl
    · simp only [if_true] at ho
      subst ho
      rw [up2_ne (by omega), if_neg (by omega)]; exact (h.1 w hw).2.2
    · simp only [if_neg (show ¬ 2 = 1 by decide), if_true] at ho
      subst ho
      rw [up2_ne (by omega), if_neg (by omega)]; exact (h.1 w hw).2.2
    · simp only [if_neg (show ¬ 3 = 1 by decide), if_neg (show ¬ 3 = 2 by decide)] at ho
      subst ho
      rw [up2_row]
      by_cases q : w = i
      · rw [if_pos q, if_pos (by omega)]
      · rw [if_neg q, if_neg (by omega)]; exact (h.1 w hw).2.2
  · have : ¬ 18 = o + i := by rcases hc with rfl | rfl | rfl <;> simp at ho <;> omega
    rw [up2_ne (by omega), e 18 (by omega), if_neg this]; exact h.2.1
  · have : ¬ 19 = o + i := by rcases hc with rfl | rfl | rfl <;> simp at ho <;> omega
    rw [up2_ne (by omega), e 19 (by omega), if_neg this]; exact h.2.2
/-- what is known of both before a try: the class's trial plan, the reference's row -/
theorem zRel.trial {μ : Mem} {ν : Lng} {n : Nat} (h : zRel μ ν μ n) : zPl (fPlanCp μ 45 22) 45 (μ 75) n := h.2.2.2.2.1.cp (by omega) h.1
theorem zRel.k13 {μ : Mem} {ν : Lng} {n : Nat} (h : zRel μ ν μ n) : zPk (μ 75) n 1300 := h.2.2.2.2.2.1.mono (by decide)
theorem op_all (v : Int32) : zOp mX9_all [.ref 0, .int v] mX10_all [.ref 66, .int v] := by
  intro l G μ ν n h
  have h6 := h.1
  have hn := h.2.1
  have hm := h.2.2.1
  rcases zrng v 0 2 (by decide) (by decide) with hb | ⟨j, -, hj, rfl⟩
  · exact zOp.same h (c_all_o hb) (d_all_o hb) rfl
  · have hs := h.hp.sides
    have hho := h.2.2.2.1
    have f1 : zFc μ (fFill (fPlanCp μ 45 22) 48 6 (nI j)) := zFc.cp.tr (zFc.fill (by decide))
    have f2 : zFc μ (gRun (fFill (fPlanCp μ 45 22) 48 6 (nI j)) 45 n) := f1.tr (zFc.run h6 (f1.sd hs))
    have h2 := h.congr zKeepC.rf f2.hi
    refine zOp.tried h (c_all hn h6 hs hj) (d_all h2.2.2.1 h6 h2.hp.sidesM hj) ?_ f2 ((rRul_fr n h6).tr zFr.now)
    have pk : zPk (fun k => if 6 ≤ k ∧ k < 12 then nI j else μ 75 k) n 1300 := by
      obtain ⟨k1, k2, k3⟩ := h.k13
      refine ⟨fun w hw => ⟨?_, ?_, ?_⟩, ?_, ?_⟩
      all_goals try dsimp only
      · rw [if_neg (by omega)]; exact (k1 w hw).1
      · rw [if_neg (by omega)]; exact (k1 w hw).2.1
      · rw [if_pos (by omega)]; exact ⟨j, hj, rfl⟩
      · rw [if_neg (by omega)]; exact k2
      · rw [if_neg (by omega)]; exact k3
    have pl : zPl (fFill (fPlanCp μ 45 22) 48 6 (nI j)) 45 (fun k => if 6 ≤ k ∧ k < 12 then nI j else μ 75 k) n := by
      obtain ⟨t1, t2, t3⟩ := h.trial
      have e : ∀ q, q ≠ 48 → fFill (fPlanCp μ 45 22) 48 6 (nI j) q = fPlanCp μ 45 22 q := fun q hq => by unfold fFill; exact va_up_ne _ _ hq
      refine ⟨fun w hw => ⟨?_, ?_, ?_⟩, ?_, ?_⟩
      all_goals try dsimp only
      · rw [e _ (by decide), if_neg (by omega)]; exact (t1 w hw).1
      · rw [e _ (by decide), if_neg (by omega)]; exact (t1 w hw).2.1
      · rw [if_pos (by omega)]; exact fFill_at (by omega)
      · rw [e _ (by decide), if_neg (by omega)]; exact t2
      · rw [e _ (by decide), if_neg (by omega)]; exact t3
    rw [zC_by (f1.ho hho) pl pk (by omega) h6]
    generalize hM : gRun (fFill (fPlanCp μ 45 22) 48 6 (nI j)) 45 n = M at f2 h2
    have hr : zFr (rCp M 91 75 0 0 21) (rRul (rCp M 91 75 0 0 21) (nI j) n) := rRul_fr n h6
    have rows : ∀ q, 70 ≤ q → q ≤ 74 → rRul (rCp M 91 75 0 0 21) (nI j) n q = μ q := fun q a b => by
      rw [hr.1 q (by omega) (by omega) (by omega), hold_n (by omega), f2 q (by omega)]
    have e75 : ∀ k, rRul (rCp M 91 75 0 0 21) (nI j) n 75 k = if 6 ≤ k ∧ k < 6 + n then nI j else μ 75 k := fun k => by
      rw [rRul_75, hold_n (by decide), f2 75 (by omega)]
    have pq : zPq (fun k => if 6 ≤ k ∧ k < 12 then nI j else μ 75 k) (rRul (rCp M 91 75 0 0 21) (nI j) n 75) n := by
      refine ⟨fun w hw => ⟨?_, ?_, ?_⟩, ?_, ?_⟩
      all_goals try dsimp only
      · rw [e75, if_neg (by omega), if_neg (by omega)]
      · rw [e75, if_neg (by omega), if_neg (by omega)]
      · rw [e75, if_pos (by omega), if_pos (by omega)]
      · rw [e75, if_neg (by omega), if_neg (by omega)]
      · rw [e75, if_neg (by omega), if_neg (by omega)]
    have hho2 : zHo μ (rRul (rCp M 91 75 0 0 21) (nI j) n) n := hho.congr (fun _ _ _ => rfl) rows
    rw [zC_ref hho2 (pk.pq pq) h6, zC_tau rows, zC_pq hho pk pq h6]
