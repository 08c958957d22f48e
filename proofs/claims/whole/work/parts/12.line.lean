set_option maxRecDepth 100000 in
set_option maxHeartbeats 4000000 in
theorem c_seconds {l : Launch} {G : zG} {μ : Mem} {ν : Lng} {n : Nat} (hn : μ 15 6 = nI n) (h6 : n ≤ 6)  : Cm l G mX0_seconds [.ref 26] μ ν (fun a9 b9 c9 => fSec μ n = a9 ∧ μ = b9 ∧ ν = c9) := by
  refine Con.of (by decide) (Nat.le_of_ble_eq_true rfl) ?_
  show Am l G mX0_seconds 0 [(0, .ref 26)] [] μ ν _
  have hL := m_for (l := l) (G := G) (M := mX0_seconds) (pc := 4) (ν := ν) (K := (fun a9 b9 c9 => fSec μ n = a9 ∧ μ = b9 ∧ ν = c9)) (N := n) (fun i => [(2, .int (nI i)), (1, .int (fSum (fun w => μ (38 + w) 4) i)), (0, .ref 26)]) (fun i => μ) (fun i hi H => by
    refine z_iload_n dX0_seconds_4 rfl ?_
    refine z_aload_n dX0_seconds_5 rfl ?_
    refine m_getr dX0_seconds_6 fX0_27 sh26 rfl ?_
    refine m_geti dX0_seconds_9 fX0_40 sh15 rfl ?_
    refine z_icmp_ge 33 dX0_seconds_12 (by decide) (fun h12 => absurd (hn ▸ h12) (nI_ge hi (by omega))) (fun h12 => ?_)
    refine z_iload_n dX0_seconds_15 rfl ?_
    refine z_aload_n dX0_seconds_16 rfl ?_
    refine m_getr dX0_seconds_17 fX0_19 sh26 rfl ?_
    refine z_iload_n dX0_seconds_20 rfl ?_
    refine m_aaldN (j := i) (q := (38 + i)) dX0_seconds_21 sh28 rfl rfl (by omega) rfl (zPas_row i (by omega)) ?_
    refine m_geti dX0_seconds_22 fX0_105 (zPas_of i (by omega)) rfl ?_
    refine z_iadd dX0_seconds_25 ?_
    refine z_istore_n (i := 1) (fun y => [(1, .int y), (2, .int (nI i)), (0, .ref 26)]) dX0_seconds_26 rfl rfl (fun _ => rfl) (fun x1_26 ex1_26 => ?_)
    refine z_iinc (fun y => [(2, .int y), (1, .int x1_26), (0, .ref 26)]) dX0_seconds_27 rfl rfl (fun _ => rfl) (fun x2_27 ex2_27 => ?_)
    obtain rfl : x2_27 = nI (i + 1) := by rw [ex2_27]; exact nI_1 i
    refine z_goto 4 dX0_seconds_30 (by decide) ?_
    subst ex1_26
    exact H) (by
    refine z_iload_n dX0_seconds_4 rfl ?_
    refine z_aload_n dX0_seconds_5 rfl ?_
    refine m_getr dX0_seconds_6 fX0_27 sh26 rfl ?_
    refine m_geti dX0_seconds_9 fX0_40 sh15 rfl ?_
    refine z_icmp_ge 33 dX0_seconds_12 (by decide) (fun h12 => ?_) (fun h12 => absurd (hn ▸ nI_le (Nat.le_refl n) (by omega)) h12)
    refine z_iload_n dX0_seconds_33 rfl ?_
    refine m_iret dX0_seconds_34 rfl rfl ?_
    exact ⟨rfl, rfl, rfl⟩)
  refine z_iconst (v := 0) dX0_seconds_0 rfl ?_
  refine z_istore_n (i := 1) (fun y => [(1, .int y), (0, .ref 26)]) dX0_seconds_1 rfl rfl (fun _ => rfl) (fun x9 e9 => ?_)
  subst e9
  refine z_iconst (v := 0) dX0_seconds_2 rfl ?_
  refine z_istore_n (i := 2) (fun y => [(2, .int y), (1, .int 0), (0, .ref 26)]) dX0_seconds_3 rfl rfl (fun _ => rfl) (fun x9 e9 => ?_)
  subst e9
  exact hL 0 (Nat.zero_le n)
set_option maxRecDepth 100000 in
set_option maxHeartbeats 4000000 in
theorem c_losses {l : Launch} {G : zG} {μ : Mem} {ν : Lng} {n : Nat} (hn : μ 15 6 = nI n) (h6 : n ≤ 6)  : Cm l G mX0_losses [.ref 26] μ ν (fun a9 b9 c9 => fLoss μ n = a9 ∧ μ = b9 ∧ ν = c9) := by
  refine Con.of (by decide) (Nat.le_of_ble_eq_true rfl) ?_
  show Am l G mX0_losses 0 [(0, .ref 26)] [] μ ν _
  have hL := m_for (l := l) (G := G) (M := mX0_losses) (pc := 4) (ν := ν) (K := (fun a9 b9 c9 => fLoss μ n = a9 ∧ μ = b9 ∧ ν = c9)) (N := n) (fun i => [(2, .int (nI i)), (1, .int (fSum (fun w => μ (38 + w) 5 * μ 20 w) i)), (0, .ref 26)]) (fun i => μ) (fun i hi H => by
    refine z_iload_n dX0_losses_4 rfl ?_
    refine z_aload_n dX0_losses_5 rfl ?_
    refine m_getr dX0_losses_6 fX0_27 sh26 rfl ?_
    refine m_geti dX0_losses_9 fX0_40 sh15 rfl ?_
    refine z_icmp_ge 43 dX0_losses_12 (by decide) (fun h12 => absurd (hn ▸ h12) (nI_ge hi (by omega))) (fun h12 => ?_)
    refine z_iload_n dX0_losses_15 rfl ?_
    refine z_aload_n dX0_losses_16 rfl ?_
    refine m_getr dX0_losses_17 fX0_19 sh26 rfl ?_
    refine z_iload_n dX0_losses_20 rfl ?_
    refine m_aaldN (j := i) (q := (38 + i)) dX0_losses_21 sh28 rfl rfl (by omega) rfl (zPas_row i (by omega)) ?_
    refine m_geti dX0_losses_22 fX0_64 (zPas_of i (by omega)) rfl ?_
    refine z_aload_n dX0_losses_25 rfl ?_
    refine m_getr dX0_losses_26 fX0_27 sh26 rfl ?_
    refine m_getr dX0_losses_29 fX0_153 sh15 rfl ?_
    refine z_iload_n dX0_losses_32 rfl ?_
    refine m_ialdN (j := i) dX0_losses_33 sh20 rfl (by omega) rfl ?_
    refine z_imul dX0_losses_34 ?_
    refine z_iadd dX0_losses_35 ?_
    refine z_istore_n (i := 1) (fun y => [(1, .int y), (2, .int (nI i)), (0, .ref 26)]) dX0_losses_36 rfl rfl (fun _ => rfl) (fun x1_36 ex1_36 => ?_)
    refine z_iinc (fun y => [(2, .int y), (1, .int x1_36), (0, .ref 26)]) dX0_losses_37 rfl rfl (fun _ => rfl) (fun x2_37 ex2_37 => ?_)
    obtain rfl : x2_37 = nI (i + 1) := by rw [ex2_37]; exact nI_1 i
    refine z_goto 4 dX0_losses_40 (by decide) ?_
    subst ex1_36
    exact H) (by
    refine z_iload_n dX0_losses_4 rfl ?_
    refine z_aload_n dX0_losses_5 rfl ?_
    refine m_getr dX0_losses_6 fX0_27 sh26 rfl ?_
    refine m_geti dX0_losses_9 fX0_40 sh15 rfl ?_
    refine z_icmp_ge 43 dX0_losses_12 (by decide) (fun h12 => ?_) (fun h12 => absurd (hn ▸ nI_le (Nat.le_refl n) (by omega)) h12)
    refine z_iload_n dX0_losses_43 rfl ?_
    refine m_iret dX0_losses_44 rfl rfl ?_
    exact ⟨rfl, rfl, rfl⟩)
  refine z_iconst (v := 0) dX0_losses_0 rfl ?_
  refine z_istore_n (i := 1) (fun y => [(1, .int y), (0, .ref 26)]) dX0_losses_1 rfl rfl (fun _ => rfl) (fun x9 e9 => ?_)
  subst e9
  refine z_iconst (v := 0) dX0_losses_2 rfl ?_
  refine z_istore_n (i := 2) (fun y => [(2, .int y), (1, .int 0), (0, .ref 26)]) dX0_losses_3 rfl rfl (fun _ => rfl) (fun x9 e9 => ?_)
  subst e9
  exact hL 0 (Nat.zero_le n)
set_option maxRecDepth 100000 in
set_option maxHeartbeats 4000000 in
theorem c_cost {l : Launch} {G : zG} {μ : Mem} {ν : Lng} {n : Nat} (hn : μ 15 6 = nI n) (h6 : n ≤ 6)  : Cm l G mX0_cost [.ref 26] μ ν (fun a9 b9 c9 => fCost μ n = a9 ∧ μ = b9 ∧ ν = c9) := by
  refine Con.of (by decide) (Nat.le_of_ble_eq_true rfl) ?_
  show Am l G mX0_cost 0 [(0, .ref 26)] [] μ ν _
  refine z_aload_n dX0_cost_0 rfl ?_
  refine m_callV (As := []) dX0_cost_1 kX0_156 ⟨rfl, rfl⟩ rfl ⟨rfl, rfl⟩ rfl rfl sh26 rfl rfl (c_losses hn h6) (fun r1 μ1 ν1 hk1 => ?_)
  obtain ⟨rfl, rfl, rfl⟩ := hk1
  refine z_bipush (v := 10) dX0_cost_4 rfl ?_
  refine z_imul dX0_cost_6 ?_
  refine z_aload_n dX0_cost_7 rfl ?_
  refine m_callV (As := []) dX0_cost_8 kX0_160 ⟨rfl, rfl⟩ rfl ⟨rfl, rfl⟩ rfl rfl sh26 rfl rfl (c_seconds hn h6) (fun r8 μ8 ν8 hk8 => ?_)
  obtain ⟨rfl, rfl, rfl⟩ := hk8
  refine z_iadd dX0_cost_11 ?_
  refine m_iret dX0_cost_12 rfl rfl ?_
  exact ⟨rfl, rfl, rfl⟩
set_option maxRecDepth 100000 in
set_option maxHeartbeats 4000000 in
theorem c_howMany {l : Launch} {G : zG} {μ : Mem} {ν : Lng} {n : Nat} (hn : μ 15 6 = nI n) (h6 : n ≤ 6) {kd : Int32} : Cm l G mX0_howMany [.ref 26, .int kd] μ ν (fun a9 b9 c9 => fHow μ kd n = a9 ∧ μ = b9 ∧ ν = c9) := by
  refine Con.of (by decide) (Nat.le_of_ble_eq_true rfl) ?_
  show Am l G mX0_howMany 0 [(0, .ref 26), (1, .int kd)] [] μ ν _
  have hL := m_for (l := l) (G := G) (M := mX0_howMany) (pc := 4) (ν := ν) (K := (fun a9 b9 c9 => fHow μ kd n = a9 ∧ μ = b9 ∧ ν = c9)) (N := n) (fun i => [(3, .int (nI i)), (2, .int (fHow μ kd i)), (0, .ref 26), (1, .int kd)]) (fun i => μ) (fun i hi H => by
    refine z_iload_n dX0_howMany_4 rfl ?_
    refine z_aload_n dX0_howMany_5 rfl ?_
    refine m_getr dX0_howMany_6 fX0_27 sh26 rfl ?_
    refine m_geti dX0_howMany_9 fX0_40 sh15 rfl ?_
    refine z_icmp_ge 37 dX0_howMany_12 (by decide) (fun h12 => absurd (hn ▸ h12) (nI_ge hi (by omega))) (fun h12 => ?_)
    refine z_aload_n dX0_howMany_15 rfl ?_
    refine m_getr dX0_howMany_16 fX0_19 sh26 rfl ?_
    refine z_iload_n dX0_howMany_19 rfl ?_
    refine m_aaldN (j := i) (q := (38 + i)) dX0_howMany_20 sh28 rfl rfl (by omega) rfl (zPas_row i (by omega)) ?_
    refine m_geti dX0_howMany_21 fX0_61 (zPas_of i (by omega)) rfl ?_
    refine z_iload_n dX0_howMany_24 rfl ?_
    refine z_icmp_ne 31 dX0_howMany_25 (by decide) (fun h25 => ?_) (fun h25 => ?_)
    · skip
      refine z_iinc (fun y => [(3, .int y), (2, .int (fHow μ kd i)), (0, .ref 26), (1, .int kd)]) dX0_howMany_31 rfl rfl (fun _ => rfl) (fun x3_31 ex3_31 => ?_)
      obtain rfl : x3_31 = nI (i + 1) := by rw [ex3_31]; exact nI_1 i
      refine z_goto 4 dX0_howMany_34 (by decide) ?_
      simp only [fHow, if_neg h25] at H
      try subst ex2_28
      exact H
    · skip
      refine z_iinc (fun y => [(2, .int y), (3, .int (nI i)), (0, .ref 26), (1, .int kd)]) dX0_howMany_28 rfl rfl (fun _ => rfl) (fun x2_28 ex2_28 => ?_)
      refine z_iinc (fun y => [(3, .int y), (2, .int x2_28), (0, .ref 26), (1, .int kd)]) dX0_howMany_31 rfl rfl (fun _ => rfl) (fun x3_31 ex3_31 => ?_)
      obtain rfl : x3_31 = nI (i + 1) := by rw [ex3_31]; exact nI_1 i
      refine z_goto 4 dX0_howMany_34 (by decide) ?_
      simp only [fHow, if_pos h25] at H
      try subst ex2_28
      exact H) (by
    refine z_iload_n dX0_howMany_4 rfl ?_
    refine z_aload_n dX0_howMany_5 rfl ?_
    refine m_getr dX0_howMany_6 fX0_27 sh26 rfl ?_
    refine m_geti dX0_howMany_9 fX0_40 sh15 rfl ?_
    refine z_icmp_ge 37 dX0_howMany_12 (by decide) (fun h12 => ?_) (fun h12 => absurd (hn ▸ nI_le (Nat.le_refl n) (by omega)) h12)
    refine z_iload_n dX0_howMany_37 rfl ?_
    refine m_iret dX0_howMany_38 rfl rfl ?_
    exact ⟨rfl, rfl, rfl⟩)
  refine z_iconst (v := 0) dX0_howMany_0 rfl ?_
  refine z_istore_n (i := 2) (fun y => [(2, .int y), (0, .ref 26), (1, .int kd)]) dX0_howMany_1 rfl rfl (fun _ => rfl) (fun x9 e9 => ?_)
  subst e9
  refine z_iconst (v := 0) dX0_howMany_2 rfl ?_
  refine z_istore_n (i := 3) (fun y => [(3, .int y), (2, .int 0), (0, .ref 26), (1, .int kd)]) dX0_howMany_3 rfl rfl (fun _ => rfl) (fun x9 e9 => ?_)
  subst e9
  exact hL 0 (Nat.zero_le n)
set_option maxRecDepth 100000 in
set_option maxHeartbeats 4000000 in
theorem c_end {l : Launch} {G : zG} {μ : Mem} {ν : Lng} {n : Nat} (hn : μ 15 6 = nI n) (h6 : n ≤ 6)  : Cm l G mX0_end [.ref 26] μ ν (fun a9 b9 c9 => fLast μ n = a9 ∧ μ = b9 ∧ ν = c9) := by
  refine Con.of (by decide) (Nat.le_of_ble_eq_true rfl) ?_
  show Am l G mX0_end 0 [(0, .ref 26)] [] μ ν _
  have hL := m_for (l := l) (G := G) (M := mX0_end) (pc := 4) (ν := ν) (K := (fun a9 b9 c9 => fLast μ n = a9 ∧ μ = b9 ∧ ν = c9)) (N := n) (fun i => [(2, .int (nI i)), (1, .int (fLast μ i)), (0, .ref 26)]) (fun i => μ) (fun i hi H => by
    refine z_iload_n dX0_end_4 rfl ?_
    refine z_aload_n dX0_end_5 rfl ?_
    refine m_getr dX0_end_6 fX0_27 sh26 rfl ?_
    refine m_geti dX0_end_9 fX0_40 sh15 rfl ?_
    refine z_icmp_ge 35 dX0_end_12 (by decide) (fun h12 => absurd (hn ▸ h12) (nI_ge hi (by omega))) (fun h12 => ?_)
    refine z_iload_n dX0_end_15 rfl ?_
    refine z_aload_n dX0_end_16 rfl ?_
    refine m_getr dX0_end_17 fX0_19 sh26 rfl ?_
    refine z_iload_n dX0_end_20 rfl ?_
    refine m_aaldN (j := i) (q := (38 + i)) dX0_end_21 sh28 rfl rfl (by omega) rfl (zPas_row i (by omega)) ?_
    refine m_geti dX0_end_22 fX0_111 (zPas_of i (by omega)) rfl ?_
    refine z_max dX0_end_25 kX0_128 wSt_max wIniMath wCo_max rfl rfl rfl rfl ?_
    refine z_istore_n (i := 1) (fun y => [(1, .int y), (2, .int (nI i)), (0, .ref 26)]) dX0_end_28 rfl rfl (fun _ => rfl) (fun x1_28 ex1_28 => ?_)
    refine z_iinc (fun y => [(2, .int y), (1, .int x1_28), (0, .ref 26)]) dX0_end_29 rfl rfl (fun _ => rfl) (fun x2_29 ex2_29 => ?_)
    obtain rfl : x2_29 = nI (i + 1) := by rw [ex2_29]; exact nI_1 i
    refine z_goto 4 dX0_end_32 (by decide) ?_
    subst ex1_28
    exact H) (by
    refine z_iload_n dX0_end_4 rfl ?_
    refine z_aload_n dX0_end_5 rfl ?_
    refine m_getr dX0_end_6 fX0_27 sh26 rfl ?_
    refine m_geti dX0_end_9 fX0_40 sh15 rfl ?_
    refine z_icmp_ge 35 dX0_end_12 (by decide) (fun h12 => ?_) (fun h12 => absurd (hn ▸ nI_le (Nat.le_refl n) (by omega)) h12)
    refine z_iload_n dX0_end_35 rfl ?_
    refine m_iret dX0_end_36 rfl rfl ?_
    exact ⟨rfl, rfl, rfl⟩)
  refine z_iconst (v := 0) dX0_end_0 rfl ?_
  refine z_istore_n (i := 1) (fun y => [(1, .int y), (0, .ref 26)]) dX0_end_1 rfl rfl (fun _ => rfl) (fun x9 e9 => ?_)
  subst e9
  refine z_iconst (v := 0) dX0_end_2 rfl ?_
  refine z_istore_n (i := 2) (fun y => [(2, .int y), (1, .int 0), (0, .ref 26)]) dX0_end_3 rfl rfl (fun _ => rfl) (fun x9 e9 => ?_)
  subst e9
  exact hL 0 (Nat.zero_le n)

/-- the inner while: w is put behind all that come no later -/
def gIns (pl w : Nat) : Nat → Mem → Mem
  | 0, μ => up2 μ 29 0 (nI w)
  | p + 1, μ => if μ (pl + 1) (μ 29 p).toNatClampNeg ≤ μ (pl + 1) w then up2 μ 29 (p + 1) (nI w) else gIns pl w p (up2 μ 29 (p + 1) (μ 29 p))
def gLine (μ : Mem) (pl : Nat) : Nat → Mem
  | 0 => μ
  | i + 1 => gIns pl i i (gLine μ pl i)
theorem gIns_ne {pl w q : Nat} (hq : q ≠ 29) : ∀ (p : Nat) (μ : Mem), gIns pl w p μ q = μ q
  | 0, μ => up2_ne hq
  | p + 1, μ => by
    unfold gIns
    split
    · exact up2_ne hq
    · rw [gIns_ne hq p, up2_ne hq]
theorem gLine_ne {μ : Mem} {pl q : Nat} (hq : q ≠ 29) : ∀ i, gLine μ pl i q = μ q
  | 0 => rfl
  | i + 1 => by rw [gLine, gIns_ne hq, gLine_ne hq i]
/-- the queue's first places hold waiters -/
def zQu (μ : Mem) (c b : Nat) : Prop := ∀ j, j < c → ∃ m : Nat, m < b ∧ μ 29 j = nI m
theorem gIns_qu {pl w : Nat} : ∀ (p : Nat) (μ : Mem), p ≤ w → (∀ j, j ≤ w → j ≠ p → ∃ m : Nat, m < w + 1 ∧ μ 29 j = nI m) → zQu (gIns pl w p μ) (w + 1) (w + 1)
  | 0, μ, h, hq => by
    intro j hj
    unfold gIns
    by_cases e : j = 0
    · subst e; exact ⟨w, by omega, up2_same _ _ _ _⟩
    · rw [up2_row, if_neg e]; exact hq j (by omega) e
  | p + 1, μ, h, hq => by
    unfold gIns
    split
    · intro j hj
      by_cases e : j = p + 1
      · subst e; exact ⟨w, by omega, up2_same _ _ _ _⟩
      · rw [up2_row, if_neg e]; exact hq j (by omega) e
    · refine gIns_qu p _ (by omega) (fun j hj hne => ?_)
      by_cases e : j = p + 1
      · subst e
        rw [up2_same]
        exact hq p (by omega) (by omega)
      · rw [up2_row, if_neg e]; exact hq j hj e
theorem gLine_qu {μ : Mem} {pl : Nat} : ∀ i, zQu (gLine μ pl i) i i
  | 0 => fun j hj => absurd hj (Nat.not_lt_zero j)
  | i + 1 => by
    rw [gLine]
    refine gIns_qu i _ (Nat.le_refl i) (fun j hj hne => ?_)
    obtain ⟨m, h1, h2⟩ := gLine_qu (μ := μ) (pl := pl) i j (by omega)
    exact ⟨m, by omega, h2⟩
set_option maxRecDepth 100000 in
set_option maxHeartbeats 4000000 in
theorem c_lineIn {l : Launch} {G : zG} {pl w : Nat} (hp : zPlan pl) (hpe : pl + 1 ≠ 29) (hw : w < 6) {ν : Lng} {K : Int32 → Mem → Lng → Prop} : ∀ (p : Nat) (μ : Mem), p ≤ w → (∀ j, j < p → ∃ m : Nat, m < 6 ∧ μ 29 j = nI m) → Am l G mX0_lineUp 2 [(2, .int (nI (w + 1))), (0, .ref 26), (1, .ref pl)] [] (gIns pl w p μ) ν K → Am l G mX0_lineUp 15 [(3, .int (nI p)), (2, .int (nI w)), (0, .ref 26), (1, .ref pl)] [] μ ν K
  | 0, μ, hpw, hq, H => by
    refine z_iload_n dX0_lineUp_15 rfl ?_
    refine z_if_le 61 dX0_lineUp_16 (by decide) (fun h16 => ?_) (fun h16 => absurd (show nI 0 ≤ 0 by decide) h16)
    refine z_aload_n dX0_lineUp_61 rfl ?_
    refine m_getr dX0_lineUp_62 fX0_23 sh26 rfl ?_
    refine z_iload_n dX0_lineUp_65 rfl ?_
    refine z_iload_n dX0_lineUp_66 rfl ?_
    refine m_iastN (j := 0) dX0_lineUp_67 sh29 rfl (by decide) rfl ?_
    refine z_iinc (fun y => [(2, .int y), (3, .int (nI 0)), (0, .ref 26), (1, .ref pl)]) dX0_lineUp_68 rfl rfl (fun _ => rfl) (fun x2_68 ex2_68 => ?_)
    obtain rfl : x2_68 = nI (w + 1) := by rw [ex2_68]; exact nI_1 w
    refine z_goto 2 dX0_lineUp_71 (by decide) ?_
    refine z_lv [0, 2, 3] rfl ?_
    exact H
  | p + 1, μ, hpw, hq, H => by
    obtain ⟨m, hm, em⟩ := hq p (by omega)
    have e1 : nI (p + 1) - 1 = nI p := nI_pred p
    refine z_iload_n dX0_lineUp_15 rfl ?_
    refine z_if_le 61 dX0_lineUp_16 (by decide) (fun h16 => absurd h16 (nI_nle (by omega) (by omega))) (fun h16 => ?_)
    refine z_aload_n dX0_lineUp_19 rfl ?_
    refine m_getr dX0_lineUp_20 fX0_50 hp.1 rfl ?_
    refine z_aload_n dX0_lineUp_23 rfl ?_
    refine m_getr dX0_lineUp_24 fX0_23 sh26 rfl ?_
    refine z_iload_n dX0_lineUp_27 rfl ?_
    refine z_iconst (v := 1) dX0_lineUp_28 rfl ?_
    refine z_isub dX0_lineUp_29 ?_
    rw [show (nI (p + 1) - 1) = nI p from e1]
    refine m_ialdN (j := p) dX0_lineUp_30 sh29 rfl (by omega) rfl ?_
    refine m_ialdN (j := m) dX0_lineUp_31 hp.2.1 em hm rfl ?_
    refine z_aload_n dX0_lineUp_32 rfl ?_
    refine m_getr dX0_lineUp_33 fX0_50 hp.1 rfl ?_
    refine z_iload_n dX0_lineUp_36 rfl ?_
    refine m_ialdN (j := w) dX0_lineUp_37 hp.2.1 rfl (by omega) rfl ?_
    refine z_icmp_le 61 dX0_lineUp_38 (by decide) (fun h38 => ?_) (fun h38 => ?_)
    · skip
      refine z_aload_n dX0_lineUp_61 rfl ?_
      refine m_getr dX0_lineUp_62 fX0_23 sh26 rfl ?_
      refine z_iload_n dX0_lineUp_65 rfl ?_
      refine z_iload_n dX0_lineUp_66 rfl ?_
      refine m_iastN (j := (p + 1)) dX0_lineUp_67 sh29 rfl (by omega) rfl ?_
      refine z_iinc (fun y => [(2, .int y), (3, .int (nI (p + 1))), (0, .ref 26), (1, .ref pl)]) dX0_lineUp_68 rfl rfl (fun _ => rfl) (fun x2_68 ex2_68 => ?_)
      obtain rfl : x2_68 = nI (w + 1) := by rw [ex2_68]; exact nI_1 w
      refine z_goto 2 dX0_lineUp_71 (by decide) ?_
      refine z_lv [0, 2, 3] rfl ?_
      rw [gIns, em, nI_clamp (show m < 2 ^ 31 by omega), if_pos h38] at H
      exact H
    · skip
      refine z_aload_n dX0_lineUp_41 rfl ?_
      refine m_getr dX0_lineUp_42 fX0_23 sh26 rfl ?_
      refine z_iload_n dX0_lineUp_45 rfl ?_
      refine z_aload_n dX0_lineUp_46 rfl ?_
      refine m_getr dX0_lineUp_47 fX0_23 sh26 rfl ?_
      refine z_iload_n dX0_lineUp_50 rfl ?_
      refine z_iconst (v := 1) dX0_lineUp_51 rfl ?_
      refine z_isub dX0_lineUp_52 ?_
      rw [show (nI (p + 1) - 1) = nI p from e1]
      refine m_ialdN (j := p) dX0_lineUp_53 sh29 rfl (by omega) rfl ?_
      refine m_iastN (j := (p + 1)) dX0_lineUp_54 sh29 rfl (by omega) rfl ?_
      refine z_iinc (fun y => [(3, .int y), (2, .int (nI w)), (0, .ref 26), (1, .ref pl)]) dX0_lineUp_55 rfl rfl (fun _ => rfl) (fun x3_55 ex3_55 => ?_)
      obtain rfl : x3_55 = nI p := by rw [ex3_55]; exact pk_m1 p
      refine z_goto 15 dX0_lineUp_58 (by decide) ?_
      refine c_lineIn hp hpe hw p _ (by omega) (fun j hj => ?_) ?_
      · obtain ⟨m2, h1, h2⟩ := hq j (by omega)
        exact ⟨m2, h1, by rw [up2_row, if_neg (by omega)]; exact h2⟩
      · rw [gIns, em, nI_clamp (show m < 2 ^ 31 by omega), if_neg h38] at H
        rw [← em] at H
        exact H
set_option maxRecDepth 100000 in
set_option maxHeartbeats 4000000 in
theorem c_lineUp {l : Launch} {G : zG} {pl : Nat} (hp : zPlan pl) (hpe : pl + 1 ≠ 29) {μ : Mem} {ν : Lng} {n : Nat} (hn : μ 15 6 = nI n) (h6 : n ≤ 6)  : Cm l G mX0_lineUp [.ref 26, .ref pl] μ ν (fun _ b9 c9 => gLine μ pl n = b9 ∧ ν = c9) := by
  refine Con.of (by decide) (Nat.le_of_ble_eq_true rfl) ?_
  show Am l G mX0_lineUp 0 [(0, .ref 26), (1, .ref pl)] [] μ ν _
  have hn9 : ∀ i, gLine μ pl i 15 6 = nI n := fun i => by rw [gLine_ne (by decide)]; exact hn
  have hL := m_for (l := l) (G := G) (M := mX0_lineUp) (pc := 2) (ν := ν) (K := (fun _ b9 c9 => gLine μ pl n = b9 ∧ ν = c9)) (N := n) (fun i => [(2, .int (nI i)), (0, .ref 26), (1, .ref pl)]) (fun i => gLine μ pl i) (fun i hi H => by
    refine z_iload_n dX0_lineUp_2 rfl ?_
    refine z_aload_n dX0_lineUp_3 rfl ?_
    refine m_getr dX0_lineUp_4 fX0_27 sh26 rfl ?_
    refine m_geti dX0_lineUp_7 fX0_40 sh15 rfl ?_
    refine z_icmp_ge 74 dX0_lineUp_10 (by decide) (fun h10 => absurd (hn9 i ▸ h10) (nI_ge hi (by omega))) (fun h10 => ?_)
    refine z_iload_n dX0_lineUp_13 rfl ?_
    refine z_istore_n (i := 3) (fun y => [(3, .int y), (2, .int (nI i)), (0, .ref 26), (1, .ref pl)]) dX0_lineUp_14 rfl rfl (fun _ => rfl) (fun x9 e9 => ?_)
    subst e9
    exact c_lineIn hp hpe (by omega) i _ (Nat.le_refl i) (fun j hj => by obtain ⟨m, h1, h2⟩ := gLine_qu (μ := μ) (pl := pl) i j hj; exact ⟨m, by omega, h2⟩) H) (by
    refine z_iload_n dX0_lineUp_2 rfl ?_
    refine z_aload_n dX0_lineUp_3 rfl ?_
    refine m_getr dX0_lineUp_4 fX0_27 sh26 rfl ?_
    refine m_geti dX0_lineUp_7 fX0_40 sh15 rfl ?_
    refine z_icmp_ge 74 dX0_lineUp_10 (by decide) (fun h10 => ?_) (fun h10 => absurd (hn9 n ▸ nI_le (Nat.le_refl n) (by omega)) h10)
    refine m_ret dX0_lineUp_74 rfl ?_
    exact ⟨rfl, rfl⟩)
  refine z_iconst (v := 0) dX0_lineUp_0 rfl ?_
  refine z_istore_n (i := 2) (fun y => [(2, .int y), (0, .ref 26), (1, .ref pl)]) dX0_lineUp_1 rfl rfl (fun _ => rfl) (fun x9 e9 => ?_)
  subst e9
  exact hL 0 (Nat.zero_le n)
