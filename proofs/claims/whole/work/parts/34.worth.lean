
theorem zRel.refCost {μ M R : Mem} {ν : Lng} {n : Nat} {p : Nat → Int32} (h : zRel μ ν μ n) (hc : zFc μ M) (hr : zFr (rCp M 91 75 0 0 21) R) (pq : zPq p (R 75) n) (pk : zPk p n 1300) : rCost (rNow R n) = zCo μ p n := by
  have rows : ∀ q, 70 ≤ q → q ≤ 74 → R q = μ q := fun q a b => by
    rw [hr.1 q (by omega) (by omega) (by omega), hold_n (by omega), hc q (by omega)]
  have hho2 : zHo μ R n := h.2.2.2.1.congr (fun _ _ _ => rfl) rows
  rw [zC_ref hho2 (pk.pq pq) h.1, zC_tau rows, zC_pq h.2.2.2.1 pk pq h.1]
theorem zRel.clsCost {μ B : Mem} {ν : Lng} {n : Nat} {p : Nat → Int32} (h : zRel μ ν μ n) (hc : zFc μ B) (pl : zPl B 45 p n) (pk : zPk p n 1300) : fCost (gRun B 45 n) n = zCo μ p n := zC_by (hc.ho h.2.2.2.1) pl pk (by omega) h.1
theorem zRel.held {μ M : Mem} {ν : Lng} {n : Nat} (h : zRel μ ν μ n) (hc : zFc μ M) : rCp M 91 75 0 0 21 75 = μ 75 := by rw [hold_n (by decide), hc 75 (by omega)]
/-- a row with one thing changed -/
def zu (p : Nat → Int32) (i : Nat) (x : Int32) : Nat → Int32 := fun k => if k = i then x else p k
theorem zu_at {p : Nat → Int32} {i : Nat} {x : Int32} : zu p i x i = x := by unfold zu; rw [if_pos rfl]
theorem zu_ne {p : Nat → Int32} {i k : Nat} {x : Int32} (h : k ≠ i) : zu p i x k = p k := by unfold zu; rw [if_neg h]
theorem up2_zu {μ : Mem} {i : Nat} {x : Int32} : up2 μ 75 i x 75 = zu (μ 75) i x := by
  funext k
  rw [up2_row]; rfl
theorem zPk.g {p : Nat → Int32} {n T k : Nat} (h : zPk p n T) (hk : k ≤ 1) (h6 : n ≤ 6) : zPk (zu p 18 (nI k)) n T := by
  refine ⟨fun w hw => ?_, ?_, ?_⟩
  · rw [zu_ne (by omega), zu_ne (by omega), zu_ne (by omega)]; exact h.1 w hw
  · rw [zu_at]; exact ⟨k, hk, rfl⟩
  · rw [zu_ne (by decide)]; exact h.2.2
theorem zPk.z {p : Nat → Int32} {n T k : Nat} (h : zPk p n T) (hk : k ≤ 9) (h6 : n ≤ 6) : zPk (zu p 19 (nI k)) n T := by
  refine ⟨fun w hw => ?_, ?_, ?_⟩
  · rw [zu_ne (by omega), zu_ne (by omega), zu_ne (by omega)]; exact h.1 w hw
  · rw [zu_ne (by decide)]; exact h.2.1
  · rw [zu_at]; exact ⟨k, hk, rfl⟩
theorem zPk.r {p : Nat → Int32} {n T k i : Nat} (h : zPk p n T) (hk : k ≤ 2) (hi : i < 6) (h6 : n ≤ 6) : zPk (zu p (6 + i) (nI k)) n T := by
  refine ⟨fun w hw => ⟨?_, ?_, ?_⟩, ?_, ?_⟩
  · rw [zu_ne (by omega)]; exact (h.1 w hw).1
  · rw [zu_ne (by omega)]; exact (h.1 w hw).2.1
  · by_cases e : w = i
    · rw [e, zu_at]; exact ⟨k, hk, rfl⟩
    · rw [zu_ne (by omega)]; exact (h.1 w hw).2.2
  · rw [zu_ne (by omega)]; exact h.2.1
  · rw [zu_ne (by omega)]; exact h.2.2
theorem zPk.k {p : Nat → Int32} {n T k i : Nat} (h : zPk p n T) (hk1 : 1 ≤ k) (hk : k ≤ 9) (hi : i < 6) (h6 : n ≤ 6) : zPk (zu p (12 + i) (nI k)) n T := by
  refine ⟨fun w hw => ⟨?_, ?_, ?_⟩, ?_, ?_⟩
  · rw [zu_ne (by omega)]; exact (h.1 w hw).1
  · by_cases e : w = i
    · rw [e, zu_at]; exact ⟨k, hk1, hk, rfl⟩
    · rw [zu_ne (by omega)]; exact (h.1 w hw).2.1
  · rw [zu_ne (by omega)]; exact (h.1 w hw).2.2
  · rw [zu_ne (by omega)]; exact h.2.1
  · rw [zu_ne (by omega)]; exact h.2.2
theorem zPl.g {σ : Mem} {pl n : Nat} {p : Nat → Int32} {x : Int32} (h : zPl σ pl p n) (h6 : n ≤ 6) : zPl (up2 σ pl 3 x) pl (zu p 18 x) n := by
  refine ⟨fun w hw => ?_, ?_, ?_⟩
  · rw [up2_ne (by omega), up2_ne (by omega), up2_ne (by omega), zu_ne (by omega), zu_ne (by omega), zu_ne (by omega)]; exact h.1 w hw
  · rw [up2_same, zu_at]
  · rw [up2_row, if_neg (by decide), zu_ne (by decide)]; exact h.2.2
theorem zPl.z {σ : Mem} {pl n : Nat} {p : Nat → Int32} {x : Int32} (h : zPl σ pl p n) (h6 : n ≤ 6) : zPl (up2 σ pl 4 x) pl (zu p 19 x) n := by
  refine ⟨fun w hw => ?_, ?_, ?_⟩
  · rw [up2_ne (by omega), up2_ne (by omega), up2_ne (by omega), zu_ne (by omega), zu_ne (by omega), zu_ne (by omega)]; exact h.1 w hw
  · rw [up2_row, if_neg (by decide), zu_ne (by decide)]; exact h.2.1
  · rw [up2_same, zu_at]
theorem zPl.r {σ : Mem} {pl n i : Nat} {p : Nat → Int32} {x : Int32} (h : zPl σ pl p n) (hi : i < 6) (h6 : n ≤ 6) : zPl (up2 σ (pl + 3) i x) pl (zu p (6 + i) x) n := h.upc 3 (by omega) 6 rfl hi h6 (fun k _ => rfl)
theorem zPl.k {σ : Mem} {pl n i : Nat} {p : Nat → Int32} {x : Int32} (h : zPl σ pl p n) (hi : i < 6) (h6 : n ≤ 6) : zPl (up2 σ (pl + 2) i x) pl (zu p (12 + i) x) n := h.upc 2 (by omega) 12 rfl hi h6 (fun k _ => rfl)
theorem zPl.c {σ : Mem} {pl n i : Nat} {p : Nat → Int32} {x : Int32} (h : zPl σ pl p n) (hi : i < 6) (h6 : n ≤ 6) : zPl (up2 σ (pl + 1) i x) pl (zu p i x) n := h.upc 1 (by omega) 0 rfl hi h6 (fun k _ => by rw [Nat.zero_add]; rfl)
theorem zPl.rn {σ : Mem} {pl n : Nat} {p : Nat → Int32} {m : Nat} (h : zPl σ pl p n) (h6 : m ≤ 6) (hs : zSides σ m) (hpl : pl + 3 < 29 ∨ 43 < pl) {pl2 : Nat} : zPl (gRun σ pl2 m) pl p n := h.congr (gRun_ne h6 hs (by omega)) (gRun_ne h6 hs (by omega)) (gRun_ne h6 hs (by omega)) (gRun_ne h6 hs (by omega))
theorem zPq.rf {p : Nat → Int32} {n : Nat} : zPq p p n := ⟨fun _ _ => ⟨rfl, rfl, rfl⟩, rfl, rfl⟩
set_option maxRecDepth 100000 in
set_option maxHeartbeats 400000 in
theorem c_window {l : Launch} {G : zG} {μ : Mem} {ν : Lng} {n : Nat} (hn : μ 15 6 = nI n) (hz6 : n ≤ 6) (hsd : zSides μ n)  : Cm l G mX8_windowSaves [.ref 44] μ ν (fun a9 b9 c9 => (fCost (gRun (up2 (fPlanCp μ 45 22) 45 3 0) 45 n) n) - (fCost (gRun (up2 (gRun (up2 (fPlanCp μ 45 22) 45 3 0) 45 n) 45 3 1) 45 n) n) = a9 ∧ gRun (up2 (gRun (up2 (fPlanCp μ 45 22) 45 3 0) 45 n) 45 3 1) 45 n = b9 ∧ ν = c9) := by
  have f1 : zFc μ (up2 (fPlanCp μ 45 22) 45 3 0) := zFc.cp.tr (zFc.up (by decide))
  have f2 : zFc μ (up2 (gRun (up2 (fPlanCp μ 45 22) 45 3 0) 45 n) 45 3 1) := (f1.tr (zFc.run hz6 (f1.sd hsd))).tr (zFc.up (by decide))
  refine Con.of (by decide) (Nat.le_of_ble_eq_true rfl) ?_
  show Am l G mX8_windowSaves 0 [(0, .ref 44)] [] μ ν _
  refine z_aload_n dX8_windowSaves_0 rfl ?_
  refine m_getr dX8_windowSaves_1 fX8_12 sh44 rfl ?_
  refine z_aload_n dX8_windowSaves_4 rfl ?_
  refine m_getr dX8_windowSaves_5 fX8_36 sh44 rfl ?_
  refine m_callVv (As := [.ref _]) dX8_windowSaves_8 kX8_43 ⟨rfl, rfl⟩ rfl ⟨rfl, rfl⟩ rfl rfl sh45 rfl rfl (c_planCp zPlan45 zPlan22) (fun μ8 ν8 hk8 => ?_)
  obtain ⟨rfl, rfl⟩ := hk8
  refine z_aload_n dX8_windowSaves_11 rfl ?_
  refine m_getr dX8_windowSaves_12 fX8_12 sh44 rfl ?_
  refine z_iconst (v := 0) dX8_windowSaves_15 rfl ?_
  refine m_puti dX8_windowSaves_16 fX8_99 (fun q h => by cases h; rfl) rfl rfl sh45 rfl ?_
  refine z_aload_n dX8_windowSaves_19 rfl ?_
  refine m_callV (As := []) dX8_windowSaves_20 kX8_67 ⟨rfl, rfl⟩ rfl ⟨rfl, rfl⟩ rfl rfl sh44 rfl rfl (c_trialCost (f1.n hn) hz6 (f1.sd hsd)) (fun r20 μ20 ν20 hk20 => ?_)
  obtain ⟨rfl, rfl, rfl⟩ := hk20
  refine z_istore_n (i := 1) (fun y => [(1, .int y), (0, .ref 44)]) dX8_windowSaves_23 rfl rfl (fun _ => rfl) (fun x9 e9 => ?_)
  subst e9
  refine z_aload_n dX8_windowSaves_24 rfl ?_
  refine m_getr dX8_windowSaves_25 fX8_12 sh44 rfl ?_
  refine z_iconst (v := 1) dX8_windowSaves_28 rfl ?_
  refine m_puti dX8_windowSaves_29 fX8_99 (fun q h => by cases h; rfl) rfl rfl sh45 rfl ?_
  refine z_iload_n dX8_windowSaves_32 rfl ?_
  refine z_aload_n dX8_windowSaves_33 rfl ?_
  refine m_callV (As := []) dX8_windowSaves_34 kX8_67 ⟨rfl, rfl⟩ rfl ⟨rfl, rfl⟩ rfl rfl sh44 rfl rfl (c_trialCost (f2.n hn) hz6 (f2.sd hsd)) (fun r34 μ34 ν34 hk34 => ?_)
  obtain ⟨rfl, rfl, rfl⟩ := hk34
  refine z_isub dX8_windowSaves_37 ?_
  refine m_iret dX8_windowSaves_38 rfl rfl ?_
  exact ⟨rfl, rfl, rfl⟩
set_option maxRecDepth 100000 in
set_option maxHeartbeats 400000 in
theorem c_quiet {l : Launch} {G : zG} {μ : Mem} {ν : Lng} {n : Nat} (hn : μ 15 6 = nI n) (hz6 : n ≤ 6) (hsd : zSides μ n)  : Cm l G mX8_quietSaves [.ref 44] μ ν (fun a9 b9 c9 => (fCost (gRun (fPlanCp μ 45 22) 45 n) n) - (fCost (gRun (up2 (gRun (fPlanCp μ 45 22) 45 n) 45 4 9) 45 n) n) = a9 ∧ gRun (up2 (gRun (fPlanCp μ 45 22) 45 n) 45 4 9) 45 n = b9 ∧ ν = c9) := by
  have f1 : zFc μ (fPlanCp μ 45 22) := zFc.cp
  have f2 : zFc μ (up2 (gRun (fPlanCp μ 45 22) 45 n) 45 4 9) := (f1.tr (zFc.run hz6 (f1.sd hsd))).tr (zFc.up (by decide))
  refine Con.of (by decide) (Nat.le_of_ble_eq_true rfl) ?_
  show Am l G mX8_quietSaves 0 [(0, .ref 44)] [] μ ν _
  refine z_aload_n dX8_quietSaves_0 rfl ?_
  refine m_getr dX8_quietSaves_1 fX8_12 sh44 rfl ?_
  refine z_aload_n dX8_quietSaves_4 rfl ?_
  refine m_getr dX8_quietSaves_5 fX8_36 sh44 rfl ?_
  refine m_callVv (As := [.ref _]) dX8_quietSaves_8 kX8_43 ⟨rfl, rfl⟩ rfl ⟨rfl, rfl⟩ rfl rfl sh45 rfl rfl (c_planCp zPlan45 zPlan22) (fun μ8 ν8 hk8 => ?_)
  obtain ⟨rfl, rfl⟩ := hk8
  refine z_aload_n dX8_quietSaves_11 rfl ?_
  refine m_callV (As := []) dX8_quietSaves_12 kX8_67 ⟨rfl, rfl⟩ rfl ⟨rfl, rfl⟩ rfl rfl sh44 rfl rfl (c_trialCost (f1.n hn) hz6 (f1.sd hsd)) (fun r12 μ12 ν12 hk12 => ?_)
  obtain ⟨rfl, rfl, rfl⟩ := hk12
  refine z_istore_n (i := 1) (fun y => [(1, .int y), (0, .ref 44)]) dX8_quietSaves_15 rfl rfl (fun _ => rfl) (fun x9 e9 => ?_)
  subst e9
  refine z_aload_n dX8_quietSaves_16 rfl ?_
  refine m_getr dX8_quietSaves_17 fX8_12 sh44 rfl ?_
  refine z_bipush (v := 9) dX8_quietSaves_20 rfl ?_
  refine m_puti dX8_quietSaves_22 fX8_102 (fun q h => by cases h; rfl) rfl rfl sh45 rfl ?_
  refine z_iload_n dX8_quietSaves_25 rfl ?_
  refine z_aload_n dX8_quietSaves_26 rfl ?_
  refine m_callV (As := []) dX8_quietSaves_27 kX8_67 ⟨rfl, rfl⟩ rfl ⟨rfl, rfl⟩ rfl rfl sh44 rfl rfl (c_trialCost (f2.n hn) hz6 (f2.sd hsd)) (fun r27 μ27 ν27 hk27 => ?_)
  obtain ⟨rfl, rfl, rfl⟩ := hk27
  refine z_isub dX8_quietSaves_30 ?_
  refine m_iret dX8_quietSaves_31 rfl rfl ?_
  exact ⟨rfl, rfl, rfl⟩
set_option maxRecDepth 100000 in
set_option maxHeartbeats 400000 in
theorem c_worth_a {l : Launch} {G : zG} {μ : Mem} {ν : Lng} {v : Int32} (hv : v < 0 ∨ 1 < v) {x : Int32}  : Cm l G mX9_worth [.ref 0, .int v, .int x] μ ν (fun a9 b9 c9 => (-1000000002) = a9 ∧ μ = b9 ∧ ν = c9) := by
  refine Con.of (by decide) (Nat.le_of_ble_eq_true rfl) ?_
  show Am l G mX9_worth 0 [(0, .ref 0), (1, .int v), (2, .int x)] [] μ ν _
  refine z_iload_n dX9_worth_0 rfl ?_
  refine z_if_lt 20 dX9_worth_1 (by decide) (fun h1 => ?_) (fun h1 => ?_)
  · skip
    refine z_ldc dX9_worth_20 cX9_73 ?_
    refine m_iret dX9_worth_22 rfl rfl ?_
    exact ⟨rfl, rfl, rfl⟩
  · skip
    refine z_iload_n dX9_worth_4 rfl ?_
    refine z_iconst (v := 1) dX9_worth_5 rfl ?_
    refine z_icmp_gt 20 dX9_worth_6 (by decide) (fun h6 => ?_) (fun h6 => (hv.elim h1 h6).elim)
    refine z_ldc dX9_worth_20 cX9_73 ?_
    refine m_iret dX9_worth_22 rfl rfl ?_
    exact ⟨rfl, rfl, rfl⟩
set_option maxRecDepth 100000 in
set_option maxHeartbeats 400000 in
theorem c_worth_b {l : Launch} {G : zG} {μ : Mem} {ν : Lng} {j : Nat} (hj : j ≤ 1) {v : Int32} (hv : v < 0 ∨ 999 < v)  : Cm l G mX9_worth [.ref 0, .int (nI j), .int v] μ ν (fun a9 b9 c9 => (-1000000002) = a9 ∧ μ = b9 ∧ ν = c9) := by
  refine Con.of (by decide) (Nat.le_of_ble_eq_true rfl) ?_
  show Am l G mX9_worth 0 [(0, .ref 0), (1, .int (nI j)), (2, .int v)] [] μ ν _
  refine z_iload_n dX9_worth_0 rfl ?_
  refine z_if_lt 20 dX9_worth_1 (by decide) (fun h1 => absurd h1 (nI_nlt (a := j) (b := 0) (by omega) (by omega))) (fun h1 => ?_)
  refine z_iload_n dX9_worth_4 rfl ?_
  refine z_iconst (v := 1) dX9_worth_5 rfl ?_
  refine z_icmp_gt 20 dX9_worth_6 (by decide) (fun h6 => absurd h6 (nI_nlt (a := 1) (b := j) (by omega) (by omega))) (fun h6 => ?_)
  refine z_iload_n dX9_worth_9 rfl ?_
  refine z_if_lt 20 dX9_worth_10 (by decide) (fun h10 => ?_) (fun h10 => ?_)
  · skip
    refine z_ldc dX9_worth_20 cX9_73 ?_
    refine m_iret dX9_worth_22 rfl rfl ?_
    exact ⟨rfl, rfl, rfl⟩
  · skip
    refine z_iload_n dX9_worth_13 rfl ?_
    refine z_sipush (v := 999) dX9_worth_14 rfl ?_
    refine z_icmp_le 23 dX9_worth_17 (by decide) (fun h17 => (zbad hv h10 h17).elim) (fun h17 => ?_)
    refine z_ldc dX9_worth_20 cX9_73 ?_
    refine m_iret dX9_worth_22 rfl rfl ?_
    exact ⟨rfl, rfl, rfl⟩
set_option maxRecDepth 100000 in
set_option maxHeartbeats 400000 in
theorem c_worth_0 {l : Launch} {G : zG} {μ : Mem} {ν : Lng} {n : Nat} (hn : μ 15 6 = nI n) (hz6 : n ≤ 6) (hsd : zSides μ n) {v : Nat} (hv : v ≤ 999)  : Cm l G mX9_worth [.ref 0, .int 0, .int (nI v)] μ ν (fun a9 b9 c9 => nI v * ((fCost (gRun (up2 (fPlanCp μ 45 22) 45 3 0) 45 n) n) - (fCost (gRun (up2 (gRun (up2 (fPlanCp μ 45 22) 45 3 0) 45 n) 45 3 1) 45 n) n)) = a9 ∧ gRun (up2 (gRun (up2 (fPlanCp μ 45 22) 45 3 0) 45 n) 45 3 1) 45 n = b9 ∧ ν = c9) := by
  refine Con.of (by decide) (Nat.le_of_ble_eq_true rfl) ?_
  show Am l G mX9_worth 0 [(0, .ref 0), (1, .int 0), (2, .int (nI v))] [] μ ν _
  refine z_iload_n dX9_worth_0 rfl ?_
  refine z_if_lt 20 dX9_worth_1 (by decide) (fun h1 => absurd h1 (by decide)) (fun h1 => ?_)
  refine z_iload_n dX9_worth_4 rfl ?_
  refine z_iconst (v := 1) dX9_worth_5 rfl ?_
  refine z_icmp_gt 20 dX9_worth_6 (by decide) (fun h6 => absurd h6 (by decide)) (fun h6 => ?_)
  refine z_iload_n dX9_worth_9 rfl ?_
  refine z_if_lt 20 dX9_worth_10 (by decide) (fun h10 => absurd h10 (nI_nlt (a := v) (b := 0) (by omega) (by omega))) (fun h10 => ?_)
  refine z_iload_n dX9_worth_13 rfl ?_
  refine z_sipush (v := 999) dX9_worth_14 rfl ?_
  refine z_icmp_le 23 dX9_worth_17 (by decide) (fun h17 => ?_) (fun h17 => absurd (nI_le (a := v) (b := 999) (by omega) (by omega)) h17)
  refine z_iload_n dX9_worth_23 rfl ?_
  refine z_iload_n dX9_worth_24 rfl ?_
  refine z_if_ne 38 dX9_worth_25 (by decide) (fun h25 => absurd (by decide) h25) (fun h25 => ?_)
  refine z_aload_n dX9_worth_28 rfl ?_
  refine m_getr dX9_worth_29 fX9_44 sh0 rfl ?_
  refine m_callV (As := []) dX9_worth_32 kX9_243 ⟨rfl, rfl⟩ rfl ⟨rfl, rfl⟩ rfl rfl sh44 rfl rfl (c_window hn hz6 hsd) (fun r32 μ32 ν32 hk32 => ?_)
  obtain ⟨rfl, rfl, rfl⟩ := hk32
  refine z_goto 45 dX9_worth_35 (by decide) ?_
  refine z_imul dX9_worth_45 ?_
  refine m_iret dX9_worth_46 rfl rfl ?_
  exact ⟨rfl, rfl, rfl⟩
set_option maxRecDepth 100000 in
set_option maxHeartbeats 400000 in
theorem c_worth_1 {l : Launch} {G : zG} {μ : Mem} {ν : Lng} {n : Nat} (hn : μ 15 6 = nI n) (hz6 : n ≤ 6) (hsd : zSides μ n) {v : Nat} (hv : v ≤ 999)  : Cm l G mX9_worth [.ref 0, .int 1, .int (nI v)] μ ν (fun a9 b9 c9 => nI v * ((fCost (gRun (fPlanCp μ 45 22) 45 n) n) - (fCost (gRun (up2 (gRun (fPlanCp μ 45 22) 45 n) 45 4 9) 45 n) n)) = a9 ∧ gRun (up2 (gRun (fPlanCp μ 45 22) 45 n) 45 4 9) 45 n = b9 ∧ ν = c9) := by
  refine Con.of (by decide) (Nat.le_of_ble_eq_true rfl) ?_
  show Am l G mX9_worth 0 [(0, .ref 0), (1, .int 1), (2, .int (nI v))] [] μ ν _
  refine z_iload_n dX9_worth_0 rfl ?_
  refine z_if_lt 20 dX9_worth_1 (by decide) (fun h1 => absurd h1 (by decide)) (fun h1 => ?_)
  refine z_iload_n dX9_worth_4 rfl ?_
  refine z_iconst (v := 1) dX9_worth_5 rfl ?_
  refine z_icmp_gt 20 dX9_worth_6 (by decide) (fun h6 => absurd h6 (by decide)) (fun h6 => ?_)
  refine z_iload_n dX9_worth_9 rfl ?_
  refine z_if_lt 20 dX9_worth_10 (by decide) (fun h10 => absurd h10 (nI_nlt (a := v) (b := 0) (by omega) (by omega))) (fun h10 => ?_)
  refine z_iload_n dX9_worth_13 rfl ?_
  refine z_sipush (v := 999) dX9_worth_14 rfl ?_
  refine z_icmp_le 23 dX9_worth_17 (by decide) (fun h17 => ?_) (fun h17 => absurd (nI_le (a := v) (b := 999) (by omega) (by omega)) h17)
  refine z_iload_n dX9_worth_23 rfl ?_
  refine z_iload_n dX9_worth_24 rfl ?_
  refine z_if_ne 38 dX9_worth_25 (by decide) (fun h25 => ?_) (fun h25 => absurd h25 (by decide))
  refine z_aload_n dX9_worth_38 rfl ?_
  refine m_getr dX9_worth_39 fX9_44 sh0 rfl ?_
  refine m_callV (As := []) dX9_worth_42 kX9_246 ⟨rfl, rfl⟩ rfl ⟨rfl, rfl⟩ rfl rfl sh44 rfl rfl (c_quiet hn hz6 hsd) (fun r42 μ42 ν42 hk42 => ?_)
  obtain ⟨rfl, rfl, rfl⟩ := hk42
  refine z_imul dX9_worth_45 ?_
  refine m_iret dX9_worth_46 rfl rfl ?_
  exact ⟨rfl, rfl, rfl⟩
set_option maxRecDepth 100000 in
set_option maxHeartbeats 400000 in
theorem d_worth_a {l : Launch} {G : zG} {μ : Mem} {ν : Lng} {v : Int32} (hv : v < 0 ∨ 1 < v) {x : Int32}  : Cm l G mX10_worth [.ref 66, .int v, .int x] μ ν (fun a9 b9 c9 => (-1000000002) = a9 ∧ μ = b9 ∧ ν = c9) := by
  refine Con.of (by decide) (Nat.le_of_ble_eq_true rfl) ?_
  show Am l G mX10_worth 0 [(0, .ref 66), (1, .int v), (2, .int x)] [] μ ν _
  refine z_iload_n dX10_worth_0 rfl ?_
  refine z_iconst (v := 0) dX10_worth_1 rfl ?_
  refine z_iconst (v := 1) dX10_worth_2 rfl ?_
  refine m_callS (As := [.int _, .int _, .int _]) dX10_worth_3 kX10_108 ⟨rfl, rfl⟩ rfl ⟨rfl, rfl⟩ rfl rfl rfl (c_inF hv) (fun r3 μ3 ν3 hk3 => ?_)
  obtain ⟨rfl, rfl, rfl⟩ := hk3
  refine z_if_eq 20 dX10_worth_6 (by decide) (fun h6 => ?_) (fun h6 => absurd (by decide) h6)
  refine z_ldc dX10_worth_20 cX10_112 ?_
  refine m_iret dX10_worth_22 rfl rfl ?_
  exact ⟨rfl, rfl, rfl⟩
set_option maxRecDepth 100000 in
set_option maxHeartbeats 400000 in
theorem d_worth_b {l : Launch} {G : zG} {μ : Mem} {ν : Lng} {j : Nat} (hj : j ≤ 1) {v : Int32} (hv : v < 0 ∨ 999 < v)  : Cm l G mX10_worth [.ref 66, .int (nI j), .int v] μ ν (fun a9 b9 c9 => (-1000000002) = a9 ∧ μ = b9 ∧ ν = c9) := by
  refine Con.of (by decide) (Nat.le_of_ble_eq_true rfl) ?_
  show Am l G mX10_worth 0 [(0, .ref 66), (1, .int (nI j)), (2, .int v)] [] μ ν _
  refine z_iload_n dX10_worth_0 rfl ?_
  refine z_iconst (v := 0) dX10_worth_1 rfl ?_
  refine z_iconst (v := 1) dX10_worth_2 rfl ?_
  refine m_callS (As := [.int _, .int _, .int _]) dX10_worth_3 kX10_108 ⟨rfl, rfl⟩ rfl ⟨rfl, rfl⟩ rfl rfl rfl (c_inT (v := j) (lo := 0) (hi := 1) (Nat.zero_le j) hj (by decide)) (fun r3 μ3 ν3 hk3 => ?_)
  obtain ⟨rfl, rfl, rfl⟩ := hk3
  refine z_if_eq 20 dX10_worth_6 (by decide) (fun h6 => absurd h6 (by decide)) (fun h6 => ?_)
  refine z_iload_n dX10_worth_9 rfl ?_
  refine z_iconst (v := 0) dX10_worth_10 rfl ?_
  refine z_sipush (v := 999) dX10_worth_11 rfl ?_
  refine m_callS (As := [.int _, .int _, .int _]) dX10_worth_14 kX10_108 ⟨rfl, rfl⟩ rfl ⟨rfl, rfl⟩ rfl rfl rfl (c_inF hv) (fun r14 μ14 ν14 hk14 => ?_)
  obtain ⟨rfl, rfl, rfl⟩ := hk14
  refine z_if_ne 23 dX10_worth_17 (by decide) (fun h17 => absurd (by decide) h17) (fun h17 => ?_)
  refine z_ldc dX10_worth_20 cX10_112 ?_
  refine m_iret dX10_worth_22 rfl rfl ?_
  exact ⟨rfl, rfl, rfl⟩
set_option maxRecDepth 100000 in
set_option maxHeartbeats 400000 in
theorem d_worth_0 {l : Launch} {G : zG} {μ : Mem} {ν : Lng} {n : Nat} (hn : μ 66 17 = nI n) (hz6 : n ≤ 6) (hsd : zSidesM μ n) {v : Nat} (hv : v ≤ 999)  : Cm l G mX10_worth [.ref 66, .int 0, .int (nI v)] μ ν (fun a9 b9 c9 => nI v * ((rCost (rNow (up2 (rCp μ 91 75 0 0 21) 75 18 0) n)) - (rCost (rNow (up2 (rNow (up2 (rCp μ 91 75 0 0 21) 75 18 0) n) 75 18 1) n))) = a9 ∧ rCp (rNow (up2 (rNow (up2 (rCp μ 91 75 0 0 21) 75 18 0) n) 75 18 1) n) 75 91 0 0 21 = b9 ∧ ν = c9) := by
  have g1 : zFr (rCp μ 91 75 0 0 21) (up2 (rCp μ 91 75 0 0 21) 75 18 0) := zFr.up (by decide)
  have g2 : zFr (rCp μ 91 75 0 0 21) (up2 (rNow (up2 (rCp μ 91 75 0 0 21) 75 18 0) n) 75 18 1) := (g1.tr zFr.now).tr (zFr.up (by decide))
  refine Con.of (by decide) (Nat.le_of_ble_eq_true rfl) ?_
  show Am l G mX10_worth 0 [(0, .ref 66), (1, .int 0), (2, .int (nI v))] [] μ ν _
  refine z_iload_n dX10_worth_0 rfl ?_
  refine z_iconst (v := 0) dX10_worth_1 rfl ?_
  refine z_iconst (v := 1) dX10_worth_2 rfl ?_
  refine m_callS (As := [.int _, .int _, .int _]) dX10_worth_3 kX10_108 ⟨rfl, rfl⟩ rfl ⟨rfl, rfl⟩ rfl rfl rfl (c_inT (v := 0) (lo := 0) (hi := 1) (by decide) (by decide) (by decide)) (fun r3 μ3 ν3 hk3 => ?_)
  obtain ⟨rfl, rfl, rfl⟩ := hk3
  refine z_if_eq 20 dX10_worth_6 (by decide) (fun h6 => absurd h6 (by decide)) (fun h6 => ?_)
  refine z_iload_n dX10_worth_9 rfl ?_
  refine z_iconst (v := 0) dX10_worth_10 rfl ?_
  refine z_sipush (v := 999) dX10_worth_11 rfl ?_
  refine m_callS (As := [.int _, .int _, .int _]) dX10_worth_14 kX10_108 ⟨rfl, rfl⟩ rfl ⟨rfl, rfl⟩ rfl rfl rfl (c_inT (v := v) (lo := 0) (hi := 999) (Nat.zero_le v) hv (by decide)) (fun r14 μ14 ν14 hk14 => ?_)
  obtain ⟨rfl, rfl, rfl⟩ := hk14
  refine z_if_ne 23 dX10_worth_17 (by decide) (fun h17 => ?_) (fun h17 => absurd h17 (by decide))
  refine z_aload_n dX10_worth_23 rfl ?_
  refine m_callVv (As := []) dX10_worth_24 kX10_245 ⟨rfl, rfl⟩ rfl ⟨rfl, rfl⟩ rfl rfl sh66 rfl rfl d_hold (fun μ24 ν24 hk24 => ?_)
  obtain ⟨rfl, rfl⟩ := hk24
  refine z_iload_n dX10_worth_27 rfl ?_
  refine z_if_ne 39 dX10_worth_28 (by decide) (fun h28 => absurd (by decide) h28) (fun h28 => ?_)
  refine z_aload_n dX10_worth_31 rfl ?_
  refine m_getr dX10_worth_32 fX10_38 sh66 rfl ?_
  refine z_bipush (v := 18) dX10_worth_35 rfl ?_
  refine z_iconst (v := 0) dX10_worth_37 rfl ?_
  refine m_iastN (j := 18) dX10_worth_38 sh75 (by decide) (by decide) rfl ?_
  refine z_aload_n dX10_worth_39 rfl ?_
  refine m_callV (As := []) dX10_worth_40 kX10_223 ⟨rfl, rfl⟩ rfl ⟨rfl, rfl⟩ rfl rfl sh66 rfl rfl (d_cost (g1.n (zFr.holdN hn)) hz6 (g1.sd (zFr.holdS hsd))) (fun r40 μ40 ν40 hk40 => ?_)
  obtain ⟨rfl, rfl, rfl⟩ := hk40
  refine z_istore_n (i := 3) (fun y => [(3, .int y), (0, .ref 66), (1, .int 0), (2, .int (nI v))]) dX10_worth_43 rfl rfl (fun _ => rfl) (fun x9 e9 => ?_)
  subst e9
  refine z_iload_n dX10_worth_44 rfl ?_
  refine z_if_ne 59 dX10_worth_45 (by decide) (fun h45 => absurd (by decide) h45) (fun h45 => ?_)
  refine z_aload_n dX10_worth_48 rfl ?_
  refine m_getr dX10_worth_49 fX10_38 sh66 rfl ?_
  refine z_bipush (v := 18) dX10_worth_52 rfl ?_
  refine z_iconst (v := 1) dX10_worth_54 rfl ?_
  refine m_iastN (j := 18) dX10_worth_55 sh75 (by decide) (by decide) rfl ?_
  refine z_goto 68 dX10_worth_56 (by decide) ?_
  refine z_aload_n dX10_worth_68 rfl ?_
  refine m_callV (As := []) dX10_worth_69 kX10_223 ⟨rfl, rfl⟩ rfl ⟨rfl, rfl⟩ rfl rfl sh66 rfl rfl (d_cost (g2.n (zFr.holdN hn)) hz6 (g2.sd (zFr.holdS hsd))) (fun r69 μ69 ν69 hk69 => ?_)
  obtain ⟨rfl, rfl, rfl⟩ := hk69
  refine z_istore (i := 4) (fun y => [(4, .int y), (3, .int (rCost (rNow (up2 (rCp μ 91 75 0 0 21) 75 18 0) n))), (0, .ref 66), (1, .int 0), (2, .int (nI v))]) dX10_worth_72 rfl (fun _ => rfl) (fun x9 e9 => ?_)
  subst e9
  refine z_aload_n dX10_worth_74 rfl ?_
  refine m_callVv (As := []) dX10_worth_75 kX10_248 ⟨rfl, rfl⟩ rfl ⟨rfl, rfl⟩ rfl rfl sh66 rfl rfl d_release (fun μ75 ν75 hk75 => ?_)
  obtain ⟨rfl, rfl⟩ := hk75
  refine z_iload_n dX10_worth_78 rfl ?_
  refine z_iload_n dX10_worth_79 rfl ?_
  refine z_iload dX10_worth_80 rfl ?_
  refine z_isub dX10_worth_82 ?_
  refine z_imul dX10_worth_83 ?_
  refine m_iret dX10_worth_84 rfl rfl ?_
  exact ⟨rfl, rfl, rfl⟩
set_option maxRecDepth 100000 in
set_option maxHeartbeats 400000 in
theorem d_worth_1 {l : Launch} {G : zG} {μ : Mem} {ν : Lng} {n : Nat} (hn : μ 66 17 = nI n) (hz6 : n ≤ 6) (hsd : zSidesM μ n) {v : Nat} (hv : v ≤ 999)  : Cm l G mX10_worth [.ref 66, .int 1, .int (nI v)] μ ν (fun a9 b9 c9 => nI v * ((rCost (rNow (rCp μ 91 75 0 0 21) n)) - (rCost (rNow (up2 (rNow (rCp μ 91 75 0 0 21) n) 75 19 9) n))) = a9 ∧ rCp (rNow (up2 (rNow (rCp μ 91 75 0 0 21) n) 75 19 9) n) 75 91 0 0 21 = b9 ∧ ν = c9) := by
  have g1 : zFr (rCp μ 91 75 0 0 21) (rCp μ 91 75 0 0 21) := zFr.rf
  have g2 : zFr (rCp μ 91 75 0 0 21) (up2 (rNow (rCp μ 91 75 0 0 21) n) 75 19 9) := (g1.tr zFr.now).tr (zFr.up (by decide))
  refine Con.of (by decide) (Nat.le_of_ble_eq_true rfl) ?_
  show Am l G mX10_worth 0 [(0, .ref 66), (1, .int 1), (2, .int (nI v))] [] μ ν _
  refine z_iload_n dX10_worth_0 rfl ?_
  refine z_iconst (v := 0) dX10_worth_1 rfl ?_
  refine z_iconst (v := 1) dX10_worth_2 rfl ?_
  refine m_callS (As := [.int _, .int _, .int _]) dX10_worth_3 kX10_108 ⟨rfl, rfl⟩ rfl ⟨rfl, rfl⟩ rfl rfl rfl (c_inT (v := 1) (lo := 0) (hi := 1) (by decide) (by decide) (by decide)) (fun r3 μ3 ν3 hk3 => ?_)
  obtain ⟨rfl, rfl, rfl⟩ := hk3
  refine z_if_eq 20 dX10_worth_6 (by decide) (fun h6 => absurd h6 (by decide)) (fun h6 => ?_)
  refine z_iload_n dX10_worth_9 rfl ?_
  refine z_iconst (v := 0) dX10_worth_10 rfl ?_
  refine z_sipush (v := 999) dX10_worth_11 rfl ?_
  refine m_callS (As := [.int _, .int _, .int _]) dX10_worth_14 kX10_108 ⟨rfl, rfl⟩ rfl ⟨rfl, rfl⟩ rfl rfl rfl (c_inT (v := v) (lo := 0) (hi := 999) (Nat.zero_le v) hv (by decide)) (fun r14 μ14 ν14 hk14 => ?_)
  obtain ⟨rfl, rfl, rfl⟩ := hk14
  refine z_if_ne 23 dX10_worth_17 (by decide) (fun h17 => ?_) (fun h17 => absurd h17 (by decide))
  refine z_aload_n dX10_worth_23 rfl ?_
  refine m_callVv (As := []) dX10_worth_24 kX10_245 ⟨rfl, rfl⟩ rfl ⟨rfl, rfl⟩ rfl rfl sh66 rfl rfl d_hold (fun μ24 ν24 hk24 => ?_)
  obtain ⟨rfl, rfl⟩ := hk24
  refine z_iload_n dX10_worth_27 rfl ?_
  refine z_if_ne 39 dX10_worth_28 (by decide) (fun h28 => ?_) (fun h28 => absurd h28 (by decide))
  refine z_aload_n dX10_worth_39 rfl ?_
  refine m_callV (As := []) dX10_worth_40 kX10_223 ⟨rfl, rfl⟩ rfl ⟨rfl, rfl⟩ rfl rfl sh66 rfl rfl (d_cost (g1.n (zFr.holdN hn)) hz6 (g1.sd (zFr.holdS hsd))) (fun r40 μ40 ν40 hk40 => ?_)
  obtain ⟨rfl, rfl, rfl⟩ := hk40
  refine z_istore_n (i := 3) (fun y => [(3, .int y), (0, .ref 66), (1, .int 1), (2, .int (nI v))]) dX10_worth_43 rfl rfl (fun _ => rfl) (fun x9 e9 => ?_)
  subst e9
  refine z_iload_n dX10_worth_44 rfl ?_
  refine z_if_ne 59 dX10_worth_45 (by decide) (fun h45 => ?_) (fun h45 => absurd h45 (by decide))
  refine z_aload_n dX10_worth_59 rfl ?_
  refine m_getr dX10_worth_60 fX10_38 sh66 rfl ?_
  refine z_bipush (v := 19) dX10_worth_63 rfl ?_
  refine z_bipush (v := 9) dX10_worth_65 rfl ?_
  refine m_iastN (j := 19) dX10_worth_67 sh75 (by decide) (by decide) rfl ?_
  refine z_aload_n dX10_worth_68 rfl ?_
  refine m_callV (As := []) dX10_worth_69 kX10_223 ⟨rfl, rfl⟩ rfl ⟨rfl, rfl⟩ rfl rfl sh66 rfl rfl (d_cost (g2.n (zFr.holdN hn)) hz6 (g2.sd (zFr.holdS hsd))) (fun r69 μ69 ν69 hk69 => ?_)
  obtain ⟨rfl, rfl, rfl⟩ := hk69
  refine z_istore (i := 4) (fun y => [(4, .int y), (3, .int (rCost (rNow (rCp μ 91 75 0 0 21) n))), (0, .ref 66), (1, .int 1), (2, .int (nI v))]) dX10_worth_72 rfl (fun _ => rfl) (fun x9 e9 => ?_)
  subst e9
  refine z_aload_n dX10_worth_74 rfl ?_
  refine m_callVv (As := []) dX10_worth_75 kX10_248 ⟨rfl, rfl⟩ rfl ⟨rfl, rfl⟩ rfl rfl sh66 rfl rfl d_release (fun μ75 ν75 hk75 => ?_)
  obtain ⟨rfl, rfl⟩ := hk75
  refine z_iload_n dX10_worth_78 rfl ?_
  refine z_iload_n dX10_worth_79 rfl ?_
  refine z_iload dX10_worth_80 rfl ?_
  refine z_isub dX10_worth_82 ?_
  refine z_imul dX10_worth_83 ?_
  refine m_iret dX10_worth_84 rfl rfl ?_
  exact ⟨rfl, rfl, rfl⟩
theorem op_worth (w v : Int32) : zOp mX9_worth [.ref 0, .int w, .int v] mX10_worth [.ref 66, .int w, .int v] := by
  intro l G μ ν n h
  have h6 := h.1
  have hn := h.2.1
  have hm := h.2.2.1
  rcases zrng w 0 1 (by decide) (by decide) with hw | ⟨a, -, ha, rfl⟩
  · exact zOp.same h (c_worth_a hw) (d_worth_a hw) rfl
  · rcases zrng v 0 999 (by decide) (by decide) with hb | ⟨j, -, hj, rfl⟩
    · exact zOp.same h (c_worth_b ha hb) (d_worth_b ha hb) rfl
    · have hs := h.hp.sides
      rcases (show a = 0 ∨ a = 1 by omega) with rfl | rfl
      · have f1 : zFc μ (up2 (fPlanCp μ 45 22) 45 3 0) := zFc.cp.tr (zFc.up (by decide))
        have f2 : zFc μ (up2 (gRun (up2 (fPlanCp μ 45 22) 45 3 0) 45 n) 45 3 1) := (f1.tr (zFc.run h6 (f1.sd hs))).tr (zFc.up (by decide))
        have f3 := f2.tr (zFc.run (pl := 45) h6 (f2.sd hs))
        have h2 := h.congr zKeepC.rf f3.hi
        refine zOp.tried h (c_worth_0 hn h6 hs hj) (d_worth_0 h2.2.2.1 h6 h2.hp.sidesM hj) ?_ f3 (((zFr.up (by decide)).tr zFr.now).tr ((zFr.up (by decide)).tr zFr.now))
        have p1 : zPl (up2 (fPlanCp μ 45 22) 45 3 0) 45 (zu (μ 75) 18 0) n := h.trial.g h6
        have p2 : zPl (up2 (gRun (up2 (fPlanCp μ 45 22) 45 3 0) 45 n) 45 3 1) 45 (zu (zu (μ 75) 18 0) 18 1) n := (p1.rn h6 (f1.sd hs) (by omega)).g h6
        have k1 : zPk (zu (μ 75) 18 0) n 1300 := h.k13.g (k := 0) (by decide) h6
        have k2 : zPk (zu (zu (μ 75) 18 0) 18 1) n 1300 := k1.g (k := 1) (by decide) h6
        rw [h.clsCost f1 p1 k1, h.clsCost f2 p2 k2]
        rw [h.refCost f3 (zFr.up (by decide)) (by rw [up2_zu, h.held f3]; exact zPq.rf) k1]
        rw [h.refCost f3 (((zFr.up (by decide)).tr zFr.now).tr (zFr.up (by decide))) (by rw [up2_zu, rNow_eq.1 75 (by unfold zMe; omega), up2_zu, h.held f3]; exact zPq.rf) k2]
      · have f1 : zFc μ (fPlanCp μ 45 22) := zFc.cp
        have f2 : zFc μ (up2 (gRun (fPlanCp μ 45 22) 45 n) 45 4 9) := (f1.tr (zFc.run h6 (f1.sd hs))).tr (zFc.up (by decide))
        have f3 := f2.tr (zFc.run (pl := 45) h6 (f2.sd hs))
        have h2 := h.congr zKeepC.rf f3.hi
        refine zOp.tried h (c_worth_1 hn h6 hs hj) (d_worth_1 h2.2.2.1 h6 h2.hp.sidesM hj) ?_ f3 (zFr.now.tr ((zFr.up (by decide)).tr zFr.now))
        have p1 := h.trial
        have p2 : zPl (up2 (gRun (fPlanCp μ 45 22) 45 n) 45 4 9) 45 (zu (μ 75) 19 9) n := (p1.rn h6 (f1.sd hs) (by omega)).z h6
        have k1 := h.k13
        have k2 : zPk (zu (μ 75) 19 9) n 1300 := k1.z (k := 9) (by decide) h6
        rw [h.clsCost f1 p1 k1, h.clsCost f2 p2 k2]
        rw [h.refCost f3 zFr.rf (by rw [h.held f3]; exact zPq.rf) k1]
        rw [h.refCost f3 (zFr.now.tr (zFr.up (by decide))) (by rw [up2_zu, rNow_eq.1 75 (by unfold zMe; omega), h.held f3]; exact zPq.rf) k2]
set_option maxRecDepth 100000 in
set_option maxHeartbeats 400000 in
theorem c_kindO {l : Launch} {G : zG} {μ : Mem} {ν : Lng} {n : Nat} (hn : μ 15 6 = nI n) (hz6 : n ≤ 6) (hsd : zSides μ n) {j : Nat} (hj : j < n)  : Cm l G mX8_kindOnOtherLeaf [.ref 44, .int (nI j)] μ ν (fun a9 b9 c9 => gRun (up2 (fPlanCp μ 45 22) 48 j 1) 45 n (38 + j) 0 = a9 ∧ gRun (up2 (fPlanCp μ 45 22) 48 j 1) 45 n = b9 ∧ ν = c9) := by
  have f1 : zFc μ (up2 (fPlanCp μ 45 22) 48 j 1) := zFc.cp.tr (zFc.up (by decide))
  refine Con.of (by decide) (Nat.le_of_ble_eq_true rfl) ?_
  show Am l G mX8_kindOnOtherLeaf 0 [(0, .ref 44), (1, .int (nI j))] [] μ ν _
  refine z_aload_n dX8_kindOnOtherLeaf_0 rfl ?_
  refine m_getr dX8_kindOnOtherLeaf_1 fX8_12 sh44 rfl ?_
  refine z_aload_n dX8_kindOnOtherLeaf_4 rfl ?_
  refine m_getr dX8_kindOnOtherLeaf_5 fX8_36 sh44 rfl ?_
  refine m_callVv (As := [.ref _]) dX8_kindOnOtherLeaf_8 kX8_43 ⟨rfl, rfl⟩ rfl ⟨rfl, rfl⟩ rfl rfl sh45 rfl rfl (c_planCp zPlan45 zPlan22) (fun μ8 ν8 hk8 => ?_)
  obtain ⟨rfl, rfl⟩ := hk8
  refine z_aload_n dX8_kindOnOtherLeaf_11 rfl ?_
  refine m_getr dX8_kindOnOtherLeaf_12 fX8_12 sh44 rfl ?_
  refine m_getr dX8_kindOnOtherLeaf_15 fX8_57 sh45 rfl ?_
  refine z_iload_n dX8_kindOnOtherLeaf_18 rfl ?_
  refine z_iconst (v := 1) dX8_kindOnOtherLeaf_19 rfl ?_
  refine m_iastN (j := j) dX8_kindOnOtherLeaf_20 sh48 rfl (by omega) rfl ?_
  refine z_aload_n dX8_kindOnOtherLeaf_21 rfl ?_
  refine m_getr dX8_kindOnOtherLeaf_22 fX8_39 sh44 rfl ?_
  refine z_aload_n dX8_kindOnOtherLeaf_25 rfl ?_
  refine m_getr dX8_kindOnOtherLeaf_26 fX8_12 sh44 rfl ?_
  refine m_callVv (As := [.ref _]) dX8_kindOnOtherLeaf_29 kX8_48 ⟨rfl, rfl⟩ rfl ⟨rfl, rfl⟩ rfl rfl sh26 rfl rfl (c_run zPlan45 (by omega) (f1.n hn) hz6 (f1.sd hsd)) (fun μ29 ν29 hk29 => ?_)
  obtain ⟨rfl, rfl⟩ := hk29
  refine z_aload_n dX8_kindOnOtherLeaf_32 rfl ?_
  refine m_getr dX8_kindOnOtherLeaf_33 fX8_39 sh44 rfl ?_
  refine m_getr dX8_kindOnOtherLeaf_36 fX8_137 sh26 rfl ?_
  refine z_iload_n dX8_kindOnOtherLeaf_39 rfl ?_
  refine m_aaldN (j := j) (q := (38 + j)) dX8_kindOnOtherLeaf_40 sh28 rfl rfl (by omega) rfl (zPas_row j (by omega)) ?_
  refine m_geti dX8_kindOnOtherLeaf_41 fX8_141 (zPas_of j (by omega)) rfl ?_
  refine m_iret dX8_kindOnOtherLeaf_44 rfl rfl ?_
  exact ⟨rfl, rfl, rfl⟩
def zLe (k : Int32) (v : Int32) : Int32 := if k = 6 then (v + 1) / 2 else if k = 5 then v else -1
def zLf (k : Int32) (v : Int32) : Int32 := if k = 6 then (v + 2 - 1) / 2 else if k = 5 then (v + 1 - 1) / 1 else -1
theorem zLe_f {k : Int32} {v : Nat} (h : v ≤ 9) : zLf k (nI v) = zLe k (nI v) := by
  have e1 : (nI v + 2 - 1) / 2 = (nI v + 1) / 2 := congrArg (· / 2) (by grind)
  have e2 : (nI v + 1 - 1) / 1 = nI v := by
    rw [show nI v + 1 - 1 = nI v by grind]
    exact Int32.div_one
  unfold zLe zLf
  rw [e1, e2]
set_option maxRecDepth 100000 in
set_option maxHeartbeats 400000 in
theorem c_learns_w {l : Launch} {G : zG} {μ : Mem} {ν : Lng} {n : Nat} (hn : μ 15 6 = nI n) (hz6 : n ≤ 6) {w : Int32} (hw : w < 0 ∨ nI n ≤ w) {v : Int32}  : Cm l G mX9_learns [.ref 0, .int w, .int v] μ ν (fun a9 b9 c9 => (-1000000001) = a9 ∧ μ = b9 ∧ ν = c9) := by
  refine Con.of (by decide) (Nat.le_of_ble_eq_true rfl) ?_
  show Am l G mX9_learns 0 [(0, .ref 0), (1, .int w), (2, .int v)] [] μ ν _
  refine z_aload_n dX9_learns_0 rfl ?_
  refine z_iload_n dX9_learns_1 rfl ?_
  refine m_callV (As := [.int _]) dX9_learns_2 kX9_155 ⟨rfl, rfl⟩ rfl ⟨rfl, rfl⟩ rfl rfl sh0 rfl rfl (c_noW1 hn hz6 hw) (fun r2 μ2 ν2 hk2 => ?_)
  obtain ⟨rfl, rfl, rfl⟩ := hk2
  refine z_if_eq 11 dX9_learns_5 (by decide) (fun h5 => absurd h5 (by decide)) (fun h5 => ?_)
  refine z_ldc dX9_learns_8 cX9_136 ?_
  refine m_iret dX9_learns_10 rfl rfl ?_
  exact ⟨rfl, rfl, rfl⟩
set_option maxRecDepth 100000 in
set_option maxHeartbeats 400000 in
theorem c_learns_o {l : Launch} {G : zG} {μ : Mem} {ν : Lng} {n : Nat} (hn : μ 15 6 = nI n) (hz6 : n ≤ 6) {j : Nat} (hj : j < n) {v : Int32} (hv : v < 1 ∨ 9 < v)  : Cm l G mX9_learns [.ref 0, .int (nI j), .int v] μ ν (fun a9 b9 c9 => (-1000000002) = a9 ∧ μ = b9 ∧ ν = c9) := by
  refine Con.of (by decide) (Nat.le_of_ble_eq_true rfl) ?_
  show Am l G mX9_learns 0 [(0, .ref 0), (1, .int (nI j)), (2, .int v)] [] μ ν _
  refine z_aload_n dX9_learns_0 rfl ?_
  refine z_iload_n dX9_learns_1 rfl ?_
  refine m_callV (As := [.int _]) dX9_learns_2 kX9_155 ⟨rfl, rfl⟩ rfl ⟨rfl, rfl⟩ rfl rfl sh0 rfl rfl (c_noW0 hn hz6 hj) (fun r2 μ2 ν2 hk2 => ?_)
  obtain ⟨rfl, rfl, rfl⟩ := hk2
  refine z_if_eq 11 dX9_learns_5 (by decide) (fun h5 => ?_) (fun h5 => absurd (by decide) h5)
  refine z_iload_n dX9_learns_11 rfl ?_
  refine z_iconst (v := 1) dX9_learns_12 rfl ?_
  refine z_icmp_lt 22 dX9_learns_13 (by decide) (fun h13 => ?_) (fun h13 => ?_)
  · skip
    refine z_ldc dX9_learns_22 cX9_73 ?_
    refine m_iret dX9_learns_24 rfl rfl ?_
    exact ⟨rfl, rfl, rfl⟩
  · skip
    refine z_iload_n dX9_learns_16 rfl ?_
    refine z_bipush (v := 9) dX9_learns_17 rfl ?_
    refine z_icmp_le 25 dX9_learns_19 (by decide) (fun h19 => (zbad hv h13 h19).elim) (fun h19 => ?_)
    refine z_ldc dX9_learns_22 cX9_73 ?_
    refine m_iret dX9_learns_24 rfl rfl ?_
    exact ⟨rfl, rfl, rfl⟩
set_option maxRecDepth 100000 in
set_option maxHeartbeats 400000 in
theorem c_learns {l : Launch} {G : zG} {μ : Mem} {ν : Lng} {n : Nat} (hn : μ 15 6 = nI n) (hz6 : n ≤ 6) (hsd : zSides μ n) {j : Nat} (hj : j < n) {v : Nat} (hv1 : 1 ≤ v) (hv2 : v ≤ 9)  : Cm l G mX9_learns [.ref 0, .int (nI j), .int (nI v)] μ ν (fun a9 b9 c9 => zLe (gRun (up2 (fPlanCp μ 45 22) 48 j 1) 45 n (38 + j) 0) (nI v) = a9 ∧ gRun (up2 (fPlanCp μ 45 22) 48 j 1) 45 n = b9 ∧ ν = c9) := by
  refine Con.of (by decide) (Nat.le_of_ble_eq_true rfl) ?_
  show Am l G mX9_learns 0 [(0, .ref 0), (1, .int (nI j)), (2, .int (nI v))] [] μ ν _
  refine z_aload_n dX9_learns_0 rfl ?_
  refine z_iload_n dX9_learns_1 rfl ?_
  refine m_callV (As := [.int _]) dX9_learns_2 kX9_155 ⟨rfl, rfl⟩ rfl ⟨rfl, rfl⟩ rfl rfl sh0 rfl rfl (c_noW0 hn hz6 hj) (fun r2 μ2 ν2 hk2 => ?_)
  obtain ⟨rfl, rfl, rfl⟩ := hk2
  refine z_if_eq 11 dX9_learns_5 (by decide) (fun h5 => ?_) (fun h5 => absurd (by decide) h5)
  refine z_iload_n dX9_learns_11 rfl ?_
  refine z_iconst (v := 1) dX9_learns_12 rfl ?_
  refine z_icmp_lt 22 dX9_learns_13 (by decide) (fun h13 => absurd h13 (nI_nlt (a := v) (b := 1) (by omega) (by omega))) (fun h13 => ?_)
  refine z_iload_n dX9_learns_16 rfl ?_
  refine z_bipush (v := 9) dX9_learns_17 rfl ?_
  refine z_icmp_le 25 dX9_learns_19 (by decide) (fun h19 => ?_) (fun h19 => absurd (nI_le (a := v) (b := 9) (by omega) (by omega)) h19)
  refine z_aload_n dX9_learns_25 rfl ?_
  refine m_getr dX9_learns_26 fX9_44 sh0 rfl ?_
  refine z_iload_n dX9_learns_29 rfl ?_
  refine m_callV (As := [.int _]) dX9_learns_30 kX9_279 ⟨rfl, rfl⟩ rfl ⟨rfl, rfl⟩ rfl rfl sh44 rfl rfl (c_kindO hn hz6 hsd hj) (fun r30 μ30 ν30 hk30 => ?_)
  obtain ⟨rfl, rfl, rfl⟩ := hk30
  refine z_istore_n (i := 3) (fun y => [(3, .int y), (0, .ref 0), (1, .int (nI j)), (2, .int (nI v))]) dX9_learns_33 rfl rfl (fun _ => rfl) (fun x9 e9 => ?_)
  subst e9
  refine z_iload_n dX9_learns_34 rfl ?_
  refine z_bipush (v := 6) dX9_learns_35 rfl ?_
  refine z_icmp_ne 46 dX9_learns_37 (by decide) (fun h37 => ?_) (fun h37 => ?_)
  · skip
    refine z_iload_n dX9_learns_46 rfl ?_
    refine z_iconst (v := 5) dX9_learns_47 rfl ?_
    refine z_icmp_ne 55 dX9_learns_48 (by decide) (fun h48 => ?_) (fun h48 => ?_)
    · skip
      refine z_iconst (v := -1) dX9_learns_55 rfl ?_
      refine m_iret dX9_learns_56 rfl rfl ?_
      refine ⟨?_, rfl, rfl⟩
      simp only [zLe, if_neg h37, if_neg h48]
    · skip
      refine z_iload_n dX9_learns_51 rfl ?_
      refine z_goto 56 dX9_learns_52 (by decide) ?_
      refine m_iret dX9_learns_56 rfl rfl ?_
      refine ⟨?_, rfl, rfl⟩
      simp only [zLe, if_neg h37, if_pos h48]
  · skip
    refine z_iload_n dX9_learns_40 rfl ?_
    refine z_iconst (v := 1) dX9_learns_41 rfl ?_
    refine z_iadd dX9_learns_42 ?_
    refine z_iconst (v := 2) dX9_learns_43 rfl ?_
    refine z_idiv dX9_learns_44 (by decide) ?_
    refine m_iret dX9_learns_45 rfl rfl ?_
    refine ⟨?_, rfl, rfl⟩
    simp only [zLe, if_pos h37]
set_option maxRecDepth 100000 in
set_option maxHeartbeats 400000 in
theorem d_learns_w {l : Launch} {G : zG} {μ : Mem} {ν : Lng} {n : Nat} (hn : μ 66 17 = nI n) (hz6 : n ≤ 6) {w : Int32} (hw : w < 0 ∨ nI n ≤ w) {v : Int32}  : Cm l G mX10_learns [.ref 66, .int w, .int v] μ ν (fun a9 b9 c9 => (-1000000001) = a9 ∧ μ = b9 ∧ ν = c9) := by
  refine Con.of (by decide) (Nat.le_of_ble_eq_true rfl) ?_
  show Am l G mX10_learns 0 [(0, .ref 66), (1, .int w), (2, .int v)] [] μ ν _
  refine z_aload_n dX10_learns_0 rfl ?_
  refine z_iload_n dX10_learns_1 rfl ?_
  refine m_callV (As := [.int _]) dX10_learns_2 kX10_228 ⟨rfl, rfl⟩ rfl ⟨rfl, rfl⟩ rfl rfl sh66 rfl rfl (c_isOneF hn hz6 hw) (fun r2 μ2 ν2 hk2 => ?_)
  obtain ⟨rfl, rfl, rfl⟩ := hk2
  refine z_if_ne 11 dX10_learns_5 (by decide) (fun h5 => absurd (by decide) h5) (fun h5 => ?_)
  refine z_ldc dX10_learns_8 cX10_227 ?_
  refine m_iret dX10_learns_10 rfl rfl ?_
  exact ⟨rfl, rfl, rfl⟩
set_option maxRecDepth 100000 in
set_option maxHeartbeats 400000 in
theorem d_learns_o {l : Launch} {G : zG} {μ : Mem} {ν : Lng} {n : Nat} (hn : μ 66 17 = nI n) (hz6 : n ≤ 6) {j : Nat} (hj : j < n) {v : Int32} (hv : v < 1 ∨ 9 < v)  : Cm l G mX10_learns [.ref 66, .int (nI j), .int v] μ ν (fun a9 b9 c9 => (-1000000002) = a9 ∧ μ = b9 ∧ ν = c9) := by
  refine Con.of (by decide) (Nat.le_of_ble_eq_true rfl) ?_
  show Am l G mX10_learns 0 [(0, .ref 66), (1, .int (nI j)), (2, .int v)] [] μ ν _
  refine z_aload_n dX10_learns_0 rfl ?_
  refine z_iload_n dX10_learns_1 rfl ?_
  refine m_callV (As := [.int _]) dX10_learns_2 kX10_228 ⟨rfl, rfl⟩ rfl ⟨rfl, rfl⟩ rfl rfl sh66 rfl rfl (c_isOneT hn hz6 hj) (fun r2 μ2 ν2 hk2 => ?_)
  obtain ⟨rfl, rfl, rfl⟩ := hk2
  refine z_if_ne 11 dX10_learns_5 (by decide) (fun h5 => ?_) (fun h5 => absurd h5 (by decide))
  refine z_iload_n dX10_learns_11 rfl ?_
  refine z_iconst (v := 1) dX10_learns_12 rfl ?_
  refine z_bipush (v := 9) dX10_learns_13 rfl ?_
  refine m_callS (As := [.int _, .int _, .int _]) dX10_learns_15 kX10_108 ⟨rfl, rfl⟩ rfl ⟨rfl, rfl⟩ rfl rfl rfl (c_inF hv) (fun r15 μ15 ν15 hk15 => ?_)
  obtain ⟨rfl, rfl, rfl⟩ := hk15
  refine z_if_ne 24 dX10_learns_18 (by decide) (fun h18 => absurd (by decide) h18) (fun h18 => ?_)
  refine z_ldc dX10_learns_21 cX10_112 ?_
  refine m_iret dX10_learns_23 rfl rfl ?_
  exact ⟨rfl, rfl, rfl⟩
set_option maxRecDepth 100000 in
set_option maxHeartbeats 400000 in
theorem d_learns {l : Launch} {G : zG} {μ : Mem} {ν : Lng} {n : Nat} (hn : μ 66 17 = nI n) (hz6 : n ≤ 6) (hsd : zSidesM μ n) {j : Nat} (hj : j < n) {v : Nat} (hv1 : 1 ≤ v) (hv2 : v ≤ 9)  : Cm l G mX10_learns [.ref 66, .int (nI j), .int (nI v)] μ ν (fun a9 b9 c9 => zLf (rNow (up2 (rCp μ 91 75 0 0 21) 75 (6 + j) 1) n 78 j) (nI v) = a9 ∧ rCp (rNow (up2 (rCp μ 91 75 0 0 21) 75 (6 + j) 1) n) 75 91 0 0 21 = b9 ∧ ν = c9) := by
  have g1 : zFr (rCp μ 91 75 0 0 21) (up2 (rCp μ 91 75 0 0 21) 75 (6 + j) 1) := zFr.up (by omega)
  refine Con.of (by decide) (Nat.le_of_ble_eq_true rfl) ?_
  show Am l G mX10_learns 0 [(0, .ref 66), (1, .int (nI j)), (2, .int (nI v))] [] μ ν _
  refine z_aload_n dX10_learns_0 rfl ?_
  refine z_iload_n dX10_learns_1 rfl ?_
  refine m_callV (As := [.int _]) dX10_learns_2 kX10_228 ⟨rfl, rfl⟩ rfl ⟨rfl, rfl⟩ rfl rfl sh66 rfl rfl (c_isOneT hn hz6 hj) (fun r2 μ2 ν2 hk2 => ?_)
  obtain ⟨rfl, rfl, rfl⟩ := hk2
  refine z_if_ne 11 dX10_learns_5 (by decide) (fun h5 => ?_) (fun h5 => absurd h5 (by decide))
  refine z_iload_n dX10_learns_11 rfl ?_
  refine z_iconst (v := 1) dX10_learns_12 rfl ?_
  refine z_bipush (v := 9) dX10_learns_13 rfl ?_
  refine m_callS (As := [.int _, .int _, .int _]) dX10_learns_15 kX10_108 ⟨rfl, rfl⟩ rfl ⟨rfl, rfl⟩ rfl rfl rfl (c_inT (v := v) (lo := 1) (hi := 9) hv1 hv2 (by decide)) (fun r15 μ15 ν15 hk15 => ?_)
  obtain ⟨rfl, rfl, rfl⟩ := hk15
  refine z_if_ne 24 dX10_learns_18 (by decide) (fun h18 => ?_) (fun h18 => absurd h18 (by decide))
  refine z_aload_n dX10_learns_24 rfl ?_
  refine m_callVv (As := []) dX10_learns_25 kX10_245 ⟨rfl, rfl⟩ rfl ⟨rfl, rfl⟩ rfl rfl sh66 rfl rfl d_hold (fun μ25 ν25 hk25 => ?_)
  obtain ⟨rfl, rfl⟩ := hk25
  refine z_aload_n dX10_learns_28 rfl ?_
  refine m_getr dX10_learns_29 fX10_38 sh66 rfl ?_
  refine z_bipush (v := 6) dX10_learns_32 rfl ?_
  refine z_iload_n dX10_learns_34 rfl ?_
  refine z_iadd dX10_learns_35 ?_
  rw [show (6 + nI j) = nI (6 + j) from z6a 6 j]
  refine z_iconst (v := 1) dX10_learns_36 rfl ?_
  refine m_iastN (j := (6 + j)) dX10_learns_37 sh75 rfl (by omega) rfl ?_
  refine z_aload_n dX10_learns_38 rfl ?_
  refine m_callV (As := []) dX10_learns_39 kX10_223 ⟨rfl, rfl⟩ rfl ⟨rfl, rfl⟩ rfl rfl sh66 rfl rfl (d_cost (g1.n (zFr.holdN hn)) hz6 (g1.sd (zFr.holdS hsd))) (fun r39 μ39 ν39 hk39 => ?_)
  obtain ⟨rfl, rfl, rfl⟩ := hk39
  refine z_pop dX10_learns_42 rfl ?_
  refine z_aload_n dX10_learns_43 rfl ?_
  refine m_getr dX10_learns_44 fX10_48 sh66 rfl ?_
  refine z_iload_n dX10_learns_47 rfl ?_
  refine m_ialdN (j := j) dX10_learns_48 sh78 rfl (by omega) rfl ?_
  refine z_bipush (v := 6) dX10_learns_49 rfl ?_
  refine z_icmp_ne 58 dX10_learns_51 (by decide) (fun h51 => ?_) (fun h51 => ?_)
  · skip
    refine z_aload_n dX10_learns_58 rfl ?_
    refine m_getr dX10_learns_59 fX10_48 sh66 rfl ?_
    refine z_iload_n dX10_learns_62 rfl ?_
    refine m_ialdN (j := j) dX10_learns_63 sh78 rfl (by omega) rfl ?_
    refine z_iconst (v := 5) dX10_learns_64 rfl ?_
    refine z_icmp_ne 72 dX10_learns_65 (by decide) (fun h65 => ?_) (fun h65 => ?_)
    · skip
      refine z_iconst (v := 0) dX10_learns_72 rfl ?_
      refine z_istore_n (i := 3) (fun y => [(3, .int y), (0, .ref 66), (1, .int (nI j)), (2, .int (nI v))]) dX10_learns_73 rfl rfl (fun _ => rfl) (fun x9 e9 => ?_)
      subst e9
      refine z_aload_n dX10_learns_74 rfl ?_
      refine m_callVv (As := []) dX10_learns_75 kX10_248 ⟨rfl, rfl⟩ rfl ⟨rfl, rfl⟩ rfl rfl sh66 rfl rfl d_release (fun μ75 ν75 hk75 => ?_)
      obtain ⟨rfl, rfl⟩ := hk75
      refine z_iload_n dX10_learns_78 rfl ?_
      refine z_if_ne 86 dX10_learns_79 (by decide) (fun h79 => absurd (by decide) h79) (fun h79 => ?_)
      refine z_iconst (v := -1) dX10_learns_82 rfl ?_
      refine z_goto 93 dX10_learns_83 (by decide) ?_
      refine m_iret dX10_learns_93 rfl rfl ?_
      refine ⟨?_, rfl, rfl⟩
      simp only [zLf, if_neg h51, if_neg h65]
    · skip
      refine z_iconst (v := 1) dX10_learns_68 rfl ?_
      refine z_goto 73 dX10_learns_69 (by decide) ?_
      refine z_istore_n (i := 3) (fun y => [(3, .int y), (0, .ref 66), (1, .int (nI j)), (2, .int (nI v))]) dX10_learns_73 rfl rfl (fun _ => rfl) (fun x9 e9 => ?_)
      subst e9
      refine z_aload_n dX10_learns_74 rfl ?_
      refine m_callVv (As := []) dX10_learns_75 kX10_248 ⟨rfl, rfl⟩ rfl ⟨rfl, rfl⟩ rfl rfl sh66 rfl rfl d_release (fun μ75 ν75 hk75 => ?_)
      obtain ⟨rfl, rfl⟩ := hk75
      refine z_iload_n dX10_learns_78 rfl ?_
      refine z_if_ne 86 dX10_learns_79 (by decide) (fun h79 => ?_) (fun h79 => absurd h79 (by decide))
      refine z_iload_n dX10_learns_86 rfl ?_
      refine z_iload_n dX10_learns_87 rfl ?_
      refine z_iadd dX10_learns_88 ?_
      refine z_iconst (v := 1) dX10_learns_89 rfl ?_
      refine z_isub dX10_learns_90 ?_
      refine z_iload_n dX10_learns_91 rfl ?_
      refine z_idiv dX10_learns_92 (by decide) ?_
      refine m_iret dX10_learns_93 rfl rfl ?_
      refine ⟨?_, rfl, rfl⟩
      simp only [zLf, if_neg h51, if_pos h65]
  · skip
    refine z_iconst (v := 2) dX10_learns_54 rfl ?_
    refine z_goto 73 dX10_learns_55 (by decide) ?_
    refine z_istore_n (i := 3) (fun y => [(3, .int y), (0, .ref 66), (1, .int (nI j)), (2, .int (nI v))]) dX10_learns_73 rfl rfl (fun _ => rfl) (fun x9 e9 => ?_)
    subst e9
    refine z_aload_n dX10_learns_74 rfl ?_
    refine m_callVv (As := []) dX10_learns_75 kX10_248 ⟨rfl, rfl⟩ rfl ⟨rfl, rfl⟩ rfl rfl sh66 rfl rfl d_release (fun μ75 ν75 hk75 => ?_)
    obtain ⟨rfl, rfl⟩ := hk75
    refine z_iload_n dX10_learns_78 rfl ?_
    refine z_if_ne 86 dX10_learns_79 (by decide) (fun h79 => ?_) (fun h79 => absurd h79 (by decide))
    refine z_iload_n dX10_learns_86 rfl ?_
    refine z_iload_n dX10_learns_87 rfl ?_
    refine z_iadd dX10_learns_88 ?_
    refine z_iconst (v := 1) dX10_learns_89 rfl ?_
    refine z_isub dX10_learns_90 ?_
    refine z_iload_n dX10_learns_91 rfl ?_
    refine z_idiv dX10_learns_92 (by decide) ?_
    refine m_iret dX10_learns_93 rfl rfl ?_
    refine ⟨?_, rfl, rfl⟩
    simp only [zLf, if_pos h51]
theorem op_learns (w v : Int32) : zOp mX9_learns [.ref 0, .int w, .int v] mX10_learns [.ref 66, .int w, .int v] := by
  intro l G μ ν n h
  have h6 := h.1
  have hn := h.2.1
  have hm := h.2.2.1
  rcases zwho w n (by omega) with hw | ⟨a, ha, rfl⟩
  · exact zOp.same h (c_learns_w hn h6 hw) (d_learns_w hm h6 hw) rfl
  · rcases zrng v 1 9 (by decide) (by decide) with hb | ⟨j, hj1, hj, rfl⟩
    · exact zOp.same h (c_learns_o hn h6 ha hb) (d_learns_o hm h6 ha hb) rfl
    · have hs := h.hp.sides
      have f1 : zFc μ (up2 (fPlanCp μ 45 22) 48 a 1) := zFc.cp.tr (zFc.up (by decide))
      have f2 := f1.tr (zFc.run (pl := 45) h6 (f1.sd hs))
      have h2 := h.congr zKeepC.rf f2.hi
      refine zOp.tried h (c_learns hn h6 hs ha hj1 hj) (d_learns h2.2.2.1 h6 h2.hp.sidesM ha hj1 hj) ?_ f2 ((zFr.up (by omega)).tr zFr.now)
      rw [zLe_f hj]
      have p1 : zPl (up2 (fPlanCp μ 45 22) 48 a 1) 45 (zu (μ 75) (6 + a) 1) n := h.trial.r (by omega) h6
      have k1 : zPk (zu (μ 75) (6 + a) 1) n 1300 := h.k13.r (k := 1) (by decide) (by omega) h6
      have e75 : up2 (rCp (gRun (up2 (fPlanCp μ 45 22) 48 a 1) 45 n) 91 75 0 0 21) 75 (6 + a) 1 75 = zu (μ 75) (6 + a) 1 := by rw [up2_zu, h.held f2]
      have hho : zHo (up2 (fPlanCp μ 45 22) 48 a 1) (up2 (rCp (gRun (up2 (fPlanCp μ 45 22) 48 a 1) 45 n) 91 75 0 0 21) 75 (6 + a) 1) n := (f1.ho h.2.2.2.1).congr (fun _ _ _ => rfl) (fun q a b => by rw [up2_ne (by omega), hold_n (by omega), f2 q (by omega)])
      have hp : zHP (up2 (fPlanCp μ 45 22) 48 a 1) (up2 (rCp (gRun (up2 (fPlanCp μ 45 22) 48 a 1) 45 n) 91 75 0 0 21) 75 (6 + a) 1) 45 n := hho.hp (by rw [e75]; exact p1) (by rw [e75]; exact k1) (Nat.le_refl _)
      obtain ⟨Q, hQ, hps, -⟩ := zEve (by omega) h6 hp
      have e := (hps a ha).1
      rw [rRun_Q h6 hQ (zQ_ord h6)] at e
      unfold rNow
      rw [e]
