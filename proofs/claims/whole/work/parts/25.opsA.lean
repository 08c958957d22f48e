
theorem zbad {v a b : Int32} (h : v < a ∨ b < v) (h1 : ¬ v < a) (h2 : v ≤ b) : False := by
  rcases h with h | h
  · exact h1 h
  · have := Int32.lt_iff_toInt_lt.mp h
    have := Int32.le_iff_toInt_le.mp h2
    omega
theorem zbad1 {v a b c : Int32} (h : v < a ∨ b < v) (h1 : ¬ v < a) (h2 : v < c) (hc : c.toInt = b.toInt + 1) : False := by
  rcases h with h | h
  · exact h1 h
  · have := Int32.lt_iff_toInt_lt.mp h
    have := Int32.lt_iff_toInt_lt.mp h2
    omega
theorem zne {a b : Nat} (h : a ≠ b) (ha : a < 2 ^ 31) (hb : b < 2 ^ 31) : ¬ nI a = nI b := fun e => h (by
  have := congrArg Int32.toInt e
  rw [nI_toInt ha, nI_toInt hb] at this
  omega)
theorem znle {v b : Int32} (h : b ≤ v) (h2 : v < b) : False := by
  have := Int32.lt_iff_toInt_lt.mp h2
  have := Int32.le_iff_toInt_le.mp h
  omega
/-- a number in bounds or not -/
theorem zrng (v : Int32) (a b : Nat) (hb : b < 2 ^ 31) (ha : a ≤ b) : (v < nI a ∨ nI b < v) ∨ ∃ j : Nat, a ≤ j ∧ j ≤ b ∧ v = nI j := by
  by_cases h1 : v < nI a
  · exact Or.inl (Or.inl h1)
  · by_cases h2 : nI b < v
    · exact Or.inl (Or.inr h2)
    · refine Or.inr ?_
      have e1 : ¬ v.toInt < (nI a).toInt := fun q => h1 (Int32.lt_iff_toInt_lt.mpr q)
      have e2 : ¬ (nI b).toInt < v.toInt := fun q => h2 (Int32.lt_iff_toInt_lt.mpr q)
      rw [nI_toInt (by omega)] at e1
      rw [nI_toInt (by omega)] at e2
      refine ⟨v.toInt.toNat, by omega, by omega, ?_⟩
      refine Int32.toInt_inj.mp ?_
      rw [nI_toInt (by omega)]
      omega
theorem zwho (w : Int32) (n : Nat) (hn : n < 2 ^ 31) : (w < 0 ∨ nI n ≤ w) ∨ ∃ j : Nat, j < n ∧ w = nI j := by
  by_cases h1 : w < 0
  · exact Or.inl (Or.inl h1)
  · by_cases h2 : nI n ≤ w
    · exact Or.inl (Or.inr h2)
    · refine Or.inr ?_
      have e1 : ¬ w.toInt < (0 : Int32).toInt := fun q => h1 (Int32.lt_iff_toInt_lt.mpr q)
      have e2 : ¬ (nI n).toInt ≤ w.toInt := fun q => h2 (Int32.le_iff_toInt_le.mpr q)
      rw [Int32.toInt_zero] at e1
      rw [nI_toInt (by omega)] at e2
      refine ⟨w.toInt.toNat, by omega, ?_⟩
      refine Int32.toInt_inj.mp ?_
      rw [nI_toInt (by omega)]
      omega
theorem m_forP {l : Launch} {G : zG} {M : zM} {pc : Nat} {ν : Lng} {K : Int32 → Mem → Lng → Prop} {N : Nat} (P : Nat → Prop) (lv' : Nat → List (Nat × Value)) (μ' : Nat → Mem) (hstep : ∀ i, i < N → P i → (P (i + 1) → Am l G M pc (lv' (i + 1)) [] (μ' (i + 1)) ν K) → Am l G M pc (lv' i) [] (μ' i) ν K) (hend : P N → Am l G M pc (lv' N) [] (μ' N) ν K) : ∀ i, i ≤ N → P i → Am l G M pc (lv' i) [] (μ' i) ν K := by
  have h : ∀ d i, i + d = N → P i → Am l G M pc (lv' i) [] (μ' i) ν K := by
    intro d
    induction d with
    | zero => intro i hi hp; rw [Nat.add_zero] at hi; subst hi; exact hend hp
    | succ d ih => intro i hi hp; exact hstep i (by omega) hp (ih (i + 1) (by omega))
  intro i hi
  exact h (N - i) i (by omega)
theorem zno {w : Int32} {x : Int32} {n : Nat} (h : w < 0 ∨ nI n ≤ w) (hx : x = nI n) (h1 : ¬ w < 0) (h2 : w < x) : False := by
  rcases h with h | h
  · exact h1 h
  · exact znle h (hx ▸ h2)
theorem zl0a : ∀ i : Nat, ([.ref 1, .ref 15, .ref 22, .ref 26, .ref 44, .ref 53, .ref 54, .ref 55, .int 0, .long 0, .int 0] : List Value)[i]? = some (Value.long 0) → i = 9
  | 0, h => by cases h
  | 1, h => by cases h
  | 2, h => by cases h
  | 3, h => by cases h
  | 4, h => by cases h
  | 5, h => by cases h
  | 6, h => by cases h
  | 7, h => by cases h
  | 8, h => by cases h
  | 9, _ => rfl
  | 10, h => by cases h
  | i + 11, h => by cases h
theorem zl0b : ∀ (i : Nat) (v : Int64), ([.ref 1, .ref 15, .ref 22, .ref 26, .ref 44, .ref 53, .ref 54, .ref 55, .int 0, .long 0, .int 0] : List Value)[i]? = some (Value.long v) → v = 0
  | 0, _, h => by cases h
  | 1, _, h => by cases h
  | 2, _, h => by cases h
  | 3, _, h => by cases h
  | 4, _, h => by cases h
  | 5, _, h => by cases h
  | 6, _, h => by cases h
  | 7, _, h => by cases h
  | 8, _, h => by cases h
  | 9, _, h => by cases h; rfl
  | 10, _, h => by cases h
  | i + 11, _, h => by cases h
theorem zlIa {k : Nat} : ∀ i : Nat, ([.ref (k + 1), .long 0, .int 0] : List Value)[i]? = some (Value.long 0) → i = 1
  | 0, h => by cases h
  | 1, _ => rfl
  | 2, h => by cases h
  | i + 3, h => by cases h
theorem zlIb {k : Nat} : ∀ (i : Nat) (v : Int64), ([.ref (k + 1), .long 0, .int 0] : List Value)[i]? = some (Value.long v) → v = 0
  | 0, _, h => by cases h
  | 1, _, h => by cases h; rfl
  | 2, _, h => by cases h
  | i + 3, _, h => by cases h
set_option maxRecDepth 100000 in
set_option maxHeartbeats 400000 in
theorem c_noW1 {l : Launch} {G : zG} {μ : Mem} {ν : Lng} {n : Nat} (hn : μ 15 6 = nI n) (h6 : n ≤ 6) {w : Int32} (hw : w < 0 ∨ nI n ≤ w)  : Cm l G mX9_noWaiter [.ref 0, .int w] μ ν (fun a9 b9 c9 => 1 = a9 ∧ μ = b9 ∧ ν = c9) := by
  refine Con.of (by decide) (Nat.le_of_ble_eq_true rfl) ?_
  show Am l G mX9_noWaiter 0 [(0, .ref 0), (1, .int w)] [] μ ν _
  refine z_iload_n dX9_noWaiter_0 rfl ?_
  refine z_if_lt 15 dX9_noWaiter_1 (by decide) (fun h1 => ?_) (fun h1 => ?_)
  · skip
    refine z_iconst (v := 1) dX9_noWaiter_15 rfl ?_
    refine z_goto 20 dX9_noWaiter_16 (by decide) ?_
    refine m_iret dX9_noWaiter_20 rfl rfl ?_
    exact ⟨rfl, rfl, rfl⟩
  · skip
    refine z_iload_n dX9_noWaiter_4 rfl ?_
    refine z_aload_n dX9_noWaiter_5 rfl ?_
    refine m_getr dX9_noWaiter_6 fX9_19 sh0 rfl ?_
    refine m_geti dX9_noWaiter_9 fX9_101 sh15 rfl ?_
    refine z_icmp_lt 19 dX9_noWaiter_12 (by decide) (fun h12 => (zno hw hn h1 h12).elim) (fun h12 => ?_)
    refine z_iconst (v := 1) dX9_noWaiter_15 rfl ?_
    refine z_goto 20 dX9_noWaiter_16 (by decide) ?_
    refine m_iret dX9_noWaiter_20 rfl rfl ?_
    exact ⟨rfl, rfl, rfl⟩
set_option maxRecDepth 100000 in
set_option maxHeartbeats 400000 in
theorem c_noW0 {l : Launch} {G : zG} {μ : Mem} {ν : Lng} {n : Nat} (hn : μ 15 6 = nI n) (h6 : n ≤ 6) {j : Nat} (hj : j < n)  : Cm l G mX9_noWaiter [.ref 0, .int (nI j)] μ ν (fun a9 b9 c9 => 0 = a9 ∧ μ = b9 ∧ ν = c9) := by
  refine Con.of (by decide) (Nat.le_of_ble_eq_true rfl) ?_
  show Am l G mX9_noWaiter 0 [(0, .ref 0), (1, .int (nI j))] [] μ ν _
  refine z_iload_n dX9_noWaiter_0 rfl ?_
  refine z_if_lt 15 dX9_noWaiter_1 (by decide) (fun h1 => absurd h1 (nI_nlt (a := j) (b := 0) (by omega) (by omega))) (fun h1 => ?_)
  refine z_iload_n dX9_noWaiter_4 rfl ?_
  refine z_aload_n dX9_noWaiter_5 rfl ?_
  refine m_getr dX9_noWaiter_6 fX9_19 sh0 rfl ?_
  refine m_geti dX9_noWaiter_9 fX9_101 sh15 rfl ?_
  rw [hn]
  refine z_icmp_lt 19 dX9_noWaiter_12 (by decide) (fun h12 => ?_) (fun h12 => absurd (nI_lt hj (by omega)) h12)
  refine z_iconst (v := 0) dX9_noWaiter_19 rfl ?_
  refine m_iret dX9_noWaiter_20 rfl rfl ?_
  exact ⟨rfl, rfl, rfl⟩
set_option maxRecDepth 100000 in
set_option maxHeartbeats 400000 in
theorem c_noLeaf1 {l : Launch} {G : zG} {μ : Mem} {ν : Lng} {v : Int32} (hv : v < 0 ∨ 1 < v) : Cm l G mX9_noLeaf [.int v] μ ν (fun a9 b9 c9 => 1 = a9 ∧ μ = b9 ∧ ν = c9) := by
  refine Con.of (by decide) (Nat.le_of_ble_eq_true rfl) ?_
  show Am l G mX9_noLeaf 0 [(0, .int v)] [] μ ν _
  refine z_iload_n dX9_noLeaf_0 rfl ?_
  refine z_if_lt 9 dX9_noLeaf_1 (by decide) (fun h1 => ?_) (fun h1 => ?_)
  · skip
    refine z_iconst (v := 1) dX9_noLeaf_9 rfl ?_
    refine z_goto 14 dX9_noLeaf_10 (by decide) ?_
    refine m_iret dX9_noLeaf_14 rfl rfl ?_
    exact ⟨rfl, rfl, rfl⟩
  · skip
    refine z_iload_n dX9_noLeaf_4 rfl ?_
    refine z_iconst (v := 2) dX9_noLeaf_5 rfl ?_
    refine z_icmp_lt 13 dX9_noLeaf_6 (by decide) (fun h6 => (zbad1 hv h1 h6 rfl).elim) (fun h6 => ?_)
    refine z_iconst (v := 1) dX9_noLeaf_9 rfl ?_
    refine z_goto 14 dX9_noLeaf_10 (by decide) ?_
    refine m_iret dX9_noLeaf_14 rfl rfl ?_
    exact ⟨rfl, rfl, rfl⟩
set_option maxRecDepth 100000 in
set_option maxHeartbeats 400000 in
theorem c_noLeaf0 {l : Launch} {G : zG} {μ : Mem} {ν : Lng} {j : Nat} (hj : j ≤ 1) : Cm l G mX9_noLeaf [.int (nI j)] μ ν (fun a9 b9 c9 => 0 = a9 ∧ μ = b9 ∧ ν = c9) := by
  refine Con.of (by decide) (Nat.le_of_ble_eq_true rfl) ?_
  show Am l G mX9_noLeaf 0 [(0, .int (nI j))] [] μ ν _
  refine z_iload_n dX9_noLeaf_0 rfl ?_
  refine z_if_lt 9 dX9_noLeaf_1 (by decide) (fun h1 => absurd h1 (nI_nlt (a := j) (b := 0) (by omega) (by omega))) (fun h1 => ?_)
  refine z_iload_n dX9_noLeaf_4 rfl ?_
  refine z_iconst (v := 2) dX9_noLeaf_5 rfl ?_
  refine z_icmp_lt 13 dX9_noLeaf_6 (by decide) (fun h6 => ?_) (fun h6 => absurd (nI_lt (a := j) (b := 2) (by omega) (by omega)) h6)
  refine z_iconst (v := 0) dX9_noLeaf_13 rfl ?_
  refine m_iret dX9_noLeaf_14 rfl rfl ?_
  exact ⟨rfl, rfl, rfl⟩
set_option maxRecDepth 100000 in
set_option maxHeartbeats 400000 in
theorem c_noSide1 {l : Launch} {G : zG} {μ : Mem} {ν : Lng} {v : Int32} (hv : v < 0 ∨ 1 < v) : Cm l G mX9_noSide [.int v] μ ν (fun a9 b9 c9 => 1 = a9 ∧ μ = b9 ∧ ν = c9) := by
  refine Con.of (by decide) (Nat.le_of_ble_eq_true rfl) ?_
  show Am l G mX9_noSide 0 [(0, .int v)] [] μ ν _
  refine z_iload_n dX9_noSide_0 rfl ?_
  refine z_if_lt 9 dX9_noSide_1 (by decide) (fun h1 => ?_) (fun h1 => ?_)
  · skip
    refine z_iconst (v := 1) dX9_noSide_9 rfl ?_
    refine z_goto 14 dX9_noSide_10 (by decide) ?_
    refine m_iret dX9_noSide_14 rfl rfl ?_
    exact ⟨rfl, rfl, rfl⟩
  · skip
    refine z_iload_n dX9_noSide_4 rfl ?_
    refine z_iconst (v := 2) dX9_noSide_5 rfl ?_
    refine z_icmp_lt 13 dX9_noSide_6 (by decide) (fun h6 => (zbad1 hv h1 h6 rfl).elim) (fun h6 => ?_)
    refine z_iconst (v := 1) dX9_noSide_9 rfl ?_
    refine z_goto 14 dX9_noSide_10 (by decide) ?_
    refine m_iret dX9_noSide_14 rfl rfl ?_
    exact ⟨rfl, rfl, rfl⟩
set_option maxRecDepth 100000 in
set_option maxHeartbeats 400000 in
theorem c_noSide0 {l : Launch} {G : zG} {μ : Mem} {ν : Lng} {j : Nat} (hj : j ≤ 1) : Cm l G mX9_noSide [.int (nI j)] μ ν (fun a9 b9 c9 => 0 = a9 ∧ μ = b9 ∧ ν = c9) := by
  refine Con.of (by decide) (Nat.le_of_ble_eq_true rfl) ?_
  show Am l G mX9_noSide 0 [(0, .int (nI j))] [] μ ν _
  refine z_iload_n dX9_noSide_0 rfl ?_
  refine z_if_lt 9 dX9_noSide_1 (by decide) (fun h1 => absurd h1 (nI_nlt (a := j) (b := 0) (by omega) (by omega))) (fun h1 => ?_)
  refine z_iload_n dX9_noSide_4 rfl ?_
  refine z_iconst (v := 2) dX9_noSide_5 rfl ?_
  refine z_icmp_lt 13 dX9_noSide_6 (by decide) (fun h6 => ?_) (fun h6 => absurd (nI_lt (a := j) (b := 2) (by omega) (by omega)) h6)
  refine z_iconst (v := 0) dX9_noSide_13 rfl ?_
  refine m_iret dX9_noSide_14 rfl rfl ?_
  exact ⟨rfl, rfl, rfl⟩
set_option maxRecDepth 100000 in
set_option maxHeartbeats 400000 in
theorem c_noRule1 {l : Launch} {G : zG} {μ : Mem} {ν : Lng} {v : Int32} (hv : v < 0 ∨ 2 < v) : Cm l G mX9_noRule [.int v] μ ν (fun a9 b9 c9 => 1 = a9 ∧ μ = b9 ∧ ν = c9) := by
  refine Con.of (by decide) (Nat.le_of_ble_eq_true rfl) ?_
  show Am l G mX9_noRule 0 [(0, .int v)] [] μ ν _
  refine z_iload_n dX9_noRule_0 rfl ?_
  refine z_if_lt 9 dX9_noRule_1 (by decide) (fun h1 => ?_) (fun h1 => ?_)
  · skip
    refine z_iconst (v := 1) dX9_noRule_9 rfl ?_
    refine z_goto 14 dX9_noRule_10 (by decide) ?_
    refine m_iret dX9_noRule_14 rfl rfl ?_
    exact ⟨rfl, rfl, rfl⟩
  · skip
    refine z_iload_n dX9_noRule_4 rfl ?_
    refine z_iconst (v := 3) dX9_noRule_5 rfl ?_
    refine z_icmp_lt 13 dX9_noRule_6 (by decide) (fun h6 => (zbad1 hv h1 h6 rfl).elim) (fun h6 => ?_)
    refine z_iconst (v := 1) dX9_noRule_9 rfl ?_
    refine z_goto 14 dX9_noRule_10 (by decide) ?_
    refine m_iret dX9_noRule_14 rfl rfl ?_
    exact ⟨rfl, rfl, rfl⟩
set_option maxRecDepth 100000 in
set_option maxHeartbeats 400000 in
theorem c_noRule0 {l : Launch} {G : zG} {μ : Mem} {ν : Lng} {j : Nat} (hj : j ≤ 2) : Cm l G mX9_noRule [.int (nI j)] μ ν (fun a9 b9 c9 => 0 = a9 ∧ μ = b9 ∧ ν = c9) := by
  refine Con.of (by decide) (Nat.le_of_ble_eq_true rfl) ?_
  show Am l G mX9_noRule 0 [(0, .int (nI j))] [] μ ν _
  refine z_iload_n dX9_noRule_0 rfl ?_
  refine z_if_lt 9 dX9_noRule_1 (by decide) (fun h1 => absurd h1 (nI_nlt (a := j) (b := 0) (by omega) (by omega))) (fun h1 => ?_)
  refine z_iload_n dX9_noRule_4 rfl ?_
  refine z_iconst (v := 3) dX9_noRule_5 rfl ?_
  refine z_icmp_lt 13 dX9_noRule_6 (by decide) (fun h6 => ?_) (fun h6 => absurd (nI_lt (a := j) (b := 3) (by omega) (by omega)) h6)
  refine z_iconst (v := 0) dX9_noRule_13 rfl ?_
  refine m_iret dX9_noRule_14 rfl rfl ?_
  exact ⟨rfl, rfl, rfl⟩
set_option maxRecDepth 100000 in
set_option maxHeartbeats 400000 in
theorem c_noImage1 {l : Launch} {G : zG} {μ : Mem} {ν : Lng} {v : Int32} (hv : v < 0 ∨ 1 < v) : Cm l G mX9_noImage [.int v] μ ν (fun a9 b9 c9 => 1 = a9 ∧ μ = b9 ∧ ν = c9) := by
  refine Con.of (by decide) (Nat.le_of_ble_eq_true rfl) ?_
  show Am l G mX9_noImage 0 [(0, .int v)] [] μ ν _
  refine z_iload_n dX9_noImage_0 rfl ?_
  refine z_if_lt 9 dX9_noImage_1 (by decide) (fun h1 => ?_) (fun h1 => ?_)
  · skip
    refine z_iconst (v := 1) dX9_noImage_9 rfl ?_
    refine z_goto 14 dX9_noImage_10 (by decide) ?_
    refine m_iret dX9_noImage_14 rfl rfl ?_
    exact ⟨rfl, rfl, rfl⟩
  · skip
    refine z_iload_n dX9_noImage_4 rfl ?_
    refine z_iconst (v := 2) dX9_noImage_5 rfl ?_
    refine z_icmp_lt 13 dX9_noImage_6 (by decide) (fun h6 => (zbad1 hv h1 h6 rfl).elim) (fun h6 => ?_)
    refine z_iconst (v := 1) dX9_noImage_9 rfl ?_
    refine z_goto 14 dX9_noImage_10 (by decide) ?_
    refine m_iret dX9_noImage_14 rfl rfl ?_
    exact ⟨rfl, rfl, rfl⟩
set_option maxRecDepth 100000 in
set_option maxHeartbeats 400000 in
theorem c_noImage0 {l : Launch} {G : zG} {μ : Mem} {ν : Lng} {j : Nat} (hj : j ≤ 1) : Cm l G mX9_noImage [.int (nI j)] μ ν (fun a9 b9 c9 => 0 = a9 ∧ μ = b9 ∧ ν = c9) := by
  refine Con.of (by decide) (Nat.le_of_ble_eq_true rfl) ?_
  show Am l G mX9_noImage 0 [(0, .int (nI j))] [] μ ν _
  refine z_iload_n dX9_noImage_0 rfl ?_
  refine z_if_lt 9 dX9_noImage_1 (by decide) (fun h1 => absurd h1 (nI_nlt (a := j) (b := 0) (by omega) (by omega))) (fun h1 => ?_)
  refine z_iload_n dX9_noImage_4 rfl ?_
  refine z_iconst (v := 2) dX9_noImage_5 rfl ?_
  refine z_icmp_lt 13 dX9_noImage_6 (by decide) (fun h6 => ?_) (fun h6 => absurd (nI_lt (a := j) (b := 2) (by omega) (by omega)) h6)
  refine z_iconst (v := 0) dX9_noImage_13 rfl ?_
  refine m_iret dX9_noImage_14 rfl rfl ?_
  exact ⟨rfl, rfl, rfl⟩
set_option maxRecDepth 100000 in
set_option maxHeartbeats 400000 in
theorem c_waiter_w {l : Launch} {G : zG} {μ : Mem} {ν : Lng} {n : Nat} (hn : μ 15 6 = nI n) (h6 : n ≤ 6) {w : Int32} (hw : w < 0 ∨ nI n ≤ w) {v : Int32}  : Cm l G mX9_waiter [.ref 0, .int w, .int v] μ ν (fun a9 b9 c9 => (-1000000001) = a9 ∧ μ = b9 ∧ ν = c9) := by
  refine Con.of (by decide) (Nat.le_of_ble_eq_true rfl) ?_
  show Am l G mX9_waiter 0 [(0, .ref 0), (1, .int w), (2, .int v)] [] μ ν _
  refine z_aload_n dX9_waiter_0 rfl ?_
  refine z_iload_n dX9_waiter_1 rfl ?_
  refine m_callV (As := [.int _]) dX9_waiter_2 kX9_155 ⟨rfl, rfl⟩ rfl ⟨rfl, rfl⟩ rfl rfl sh0 rfl rfl (c_noW1 hn h6 hw) (fun r2 μ2 ν2 hk2 => ?_)
  obtain ⟨rfl, rfl, rfl⟩ := hk2
  refine z_if_eq 11 dX9_waiter_5 (by decide) (fun h5 => absurd h5 (by decide)) (fun h5 => ?_)
  refine z_ldc dX9_waiter_8 cX9_136 ?_
  refine m_iret dX9_waiter_10 rfl rfl ?_
  exact ⟨rfl, rfl, rfl⟩
set_option maxRecDepth 100000 in
set_option maxHeartbeats 400000 in
theorem c_waiter_o {l : Launch} {G : zG} {μ : Mem} {ν : Lng} {n : Nat} (hn : μ 15 6 = nI n) (h6 : n ≤ 6) {j : Nat} (hj : j < n) {v : Int32} (hv : v < 0 ∨ 6 < v)  : Cm l G mX9_waiter [.ref 0, .int (nI j), .int v] μ ν (fun a9 b9 c9 => (-1000000002) = a9 ∧ μ = b9 ∧ ν = c9) := by
  refine Con.of (by decide) (Nat.le_of_ble_eq_true rfl) ?_
  show Am l G mX9_waiter 0 [(0, .ref 0), (1, .int (nI j)), (2, .int v)] [] μ ν _
  refine z_aload_n dX9_waiter_0 rfl ?_
  refine z_iload_n dX9_waiter_1 rfl ?_
  refine m_callV (As := [.int _]) dX9_waiter_2 kX9_155 ⟨rfl, rfl⟩ rfl ⟨rfl, rfl⟩ rfl rfl sh0 rfl rfl (c_noW0 hn h6 hj) (fun r2 μ2 ν2 hk2 => ?_)
  obtain ⟨rfl, rfl, rfl⟩ := hk2
  refine z_if_eq 11 dX9_waiter_5 (by decide) (fun h5 => ?_) (fun h5 => absurd (by decide) h5)
  refine z_iload_n dX9_waiter_11 rfl ?_
  refine z_if_lt 21 dX9_waiter_12 (by decide) (fun h12 => ?_) (fun h12 => ?_)
  · skip
    refine z_ldc dX9_waiter_21 cX9_73 ?_
    refine m_iret dX9_waiter_23 rfl rfl ?_
    exact ⟨rfl, rfl, rfl⟩
  · skip
    refine z_iload_n dX9_waiter_15 rfl ?_
    refine z_bipush (v := 6) dX9_waiter_16 rfl ?_
    refine z_icmp_le 24 dX9_waiter_18 (by decide) (fun h18 => (zbad hv h12 h18).elim) (fun h18 => ?_)
    refine z_ldc dX9_waiter_21 cX9_73 ?_
    refine m_iret dX9_waiter_23 rfl rfl ?_
    exact ⟨rfl, rfl, rfl⟩
set_option maxRecDepth 100000 in
set_option maxHeartbeats 400000 in
theorem c_waiter_0 {l : Launch} {G : zG} {μ : Mem} {ν : Lng} {n : Nat} (hn : μ 15 6 = nI n) (h6 : n ≤ 6) {j : Nat} (hj : j < n)  : Cm l G mX9_waiter [.ref 0, .int (nI j), .int 0] μ ν (fun a9 b9 c9 => μ 18 j = a9 ∧ μ = b9 ∧ ν = c9) := by
  refine Con.of (by decide) (Nat.le_of_ble_eq_true rfl) ?_
  show Am l G mX9_waiter 0 [(0, .ref 0), (1, .int (nI j)), (2, .int 0)] [] μ ν _
  refine z_aload_n dX9_waiter_0 rfl ?_
  refine z_iload_n dX9_waiter_1 rfl ?_
  refine m_callV (As := [.int _]) dX9_waiter_2 kX9_155 ⟨rfl, rfl⟩ rfl ⟨rfl, rfl⟩ rfl rfl sh0 rfl rfl (c_noW0 hn h6 hj) (fun r2 μ2 ν2 hk2 => ?_)
  obtain ⟨rfl, rfl, rfl⟩ := hk2
  refine z_if_eq 11 dX9_waiter_5 (by decide) (fun h5 => ?_) (fun h5 => absurd (by decide) h5)
  refine z_iload_n dX9_waiter_11 rfl ?_
  refine z_if_lt 21 dX9_waiter_12 (by decide) (fun h12 => absurd h12 (by decide)) (fun h12 => ?_)
  refine z_iload_n dX9_waiter_15 rfl ?_
  refine z_bipush (v := 6) dX9_waiter_16 rfl ?_
  refine z_icmp_le 24 dX9_waiter_18 (by decide) (fun h18 => ?_) (fun h18 => absurd (by decide) h18)
  refine z_iload_n dX9_waiter_24 rfl ?_
  refine z_tableIn 64 dX9_waiter_25 (by decide) (by decide) rfl (by decide) ?_
  refine z_aload_n dX9_waiter_64 rfl ?_
  refine m_getr dX9_waiter_65 fX9_19 sh0 rfl ?_
  refine m_getr dX9_waiter_68 fX9_158 sh15 rfl ?_
  refine z_iload_n dX9_waiter_71 rfl ?_
  refine m_ialdN (j := j) dX9_waiter_72 sh18 rfl (by omega) rfl ?_
  refine m_iret dX9_waiter_73 rfl rfl ?_
  exact ⟨rfl, rfl, rfl⟩
set_option maxRecDepth 100000 in
set_option maxHeartbeats 400000 in
theorem c_waiter_1 {l : Launch} {G : zG} {μ : Mem} {ν : Lng} {n : Nat} (hn : μ 15 6 = nI n) (h6 : n ≤ 6) {j : Nat} (hj : j < n)  : Cm l G mX9_waiter [.ref 0, .int (nI j), .int 1] μ ν (fun a9 b9 c9 => μ 23 j = a9 ∧ μ = b9 ∧ ν = c9) := by
  refine Con.of (by decide) (Nat.le_of_ble_eq_true rfl) ?_
  show Am l G mX9_waiter 0 [(0, .ref 0), (1, .int (nI j)), (2, .int 1)] [] μ ν _
  refine z_aload_n dX9_waiter_0 rfl ?_
  refine z_iload_n dX9_waiter_1 rfl ?_
  refine m_callV (As := [.int _]) dX9_waiter_2 kX9_155 ⟨rfl, rfl⟩ rfl ⟨rfl, rfl⟩ rfl rfl sh0 rfl rfl (c_noW0 hn h6 hj) (fun r2 μ2 ν2 hk2 => ?_)
  obtain ⟨rfl, rfl, rfl⟩ := hk2
  refine z_if_eq 11 dX9_waiter_5 (by decide) (fun h5 => ?_) (fun h5 => absurd (by decide) h5)
  refine z_iload_n dX9_waiter_11 rfl ?_
  refine z_if_lt 21 dX9_waiter_12 (by decide) (fun h12 => absurd h12 (by decide)) (fun h12 => ?_)
  refine z_iload_n dX9_waiter_15 rfl ?_
  refine z_bipush (v := 6) dX9_waiter_16 rfl ?_
  refine z_icmp_le 24 dX9_waiter_18 (by decide) (fun h18 => ?_) (fun h18 => absurd (by decide) h18)
  refine z_iload_n dX9_waiter_24 rfl ?_
  refine z_tableIn 74 dX9_waiter_25 (by decide) (by decide) rfl (by decide) ?_
  refine z_aload_n dX9_waiter_74 rfl ?_
  refine m_getr dX9_waiter_75 fX9_26 sh0 rfl ?_
  refine m_getr dX9_waiter_78 fX9_161 sh22 rfl ?_
  refine z_iload_n dX9_waiter_81 rfl ?_
  refine m_ialdN (j := j) dX9_waiter_82 sh23 rfl (by omega) rfl ?_
  refine m_iret dX9_waiter_83 rfl rfl ?_
  exact ⟨rfl, rfl, rfl⟩
set_option maxRecDepth 100000 in
set_option maxHeartbeats 400000 in
theorem c_waiter_2 {l : Launch} {G : zG} {μ : Mem} {ν : Lng} {n : Nat} (hn : μ 15 6 = nI n) (h6 : n ≤ 6) {j : Nat} (hj : j < n)  : Cm l G mX9_waiter [.ref 0, .int (nI j), .int 2] μ ν (fun a9 b9 c9 => μ 19 j = a9 ∧ μ = b9 ∧ ν = c9) := by
  refine Con.of (by decide) (Nat.le_of_ble_eq_true rfl) ?_
  show Am l G mX9_waiter 0 [(0, .ref 0), (1, .int (nI j)), (2, .int 2)] [] μ ν _
  refine z_aload_n dX9_waiter_0 rfl ?_
  refine z_iload_n dX9_waiter_1 rfl ?_
  refine m_callV (As := [.int _]) dX9_waiter_2 kX9_155 ⟨rfl, rfl⟩ rfl ⟨rfl, rfl⟩ rfl rfl sh0 rfl rfl (c_noW0 hn h6 hj) (fun r2 μ2 ν2 hk2 => ?_)
  obtain ⟨rfl, rfl, rfl⟩ := hk2
  refine z_if_eq 11 dX9_waiter_5 (by decide) (fun h5 => ?_) (fun h5 => absurd (by decide) h5)
  refine z_iload_n dX9_waiter_11 rfl ?_
  refine z_if_lt 21 dX9_waiter_12 (by decide) (fun h12 => absurd h12 (by decide)) (fun h12 => ?_)
  refine z_iload_n dX9_waiter_15 rfl ?_
  refine z_bipush (v := 6) dX9_waiter_16 rfl ?_
  refine z_icmp_le 24 dX9_waiter_18 (by decide) (fun h18 => ?_) (fun h18 => absurd (by decide) h18)
  refine z_iload_n dX9_waiter_24 rfl ?_
  refine z_tableIn 84 dX9_waiter_25 (by decide) (by decide) rfl (by decide) ?_
  refine z_aload_n dX9_waiter_84 rfl ?_
  refine m_getr dX9_waiter_85 fX9_19 sh0 rfl ?_
  refine m_getr dX9_waiter_88 fX9_164 sh15 rfl ?_
  refine z_iload_n dX9_waiter_91 rfl ?_
  refine m_ialdN (j := j) dX9_waiter_92 sh19 rfl (by omega) rfl ?_
  refine m_iret dX9_waiter_93 rfl rfl ?_
  exact ⟨rfl, rfl, rfl⟩
set_option maxRecDepth 100000 in
set_option maxHeartbeats 400000 in
theorem c_waiter_3 {l : Launch} {G : zG} {μ : Mem} {ν : Lng} {n : Nat} (hn : μ 15 6 = nI n) (h6 : n ≤ 6) {j : Nat} (hj : j < n)  : Cm l G mX9_waiter [.ref 0, .int (nI j), .int 3] μ ν (fun a9 b9 c9 => μ 20 j = a9 ∧ μ = b9 ∧ ν = c9) := by
  refine Con.of (by decide) (Nat.le_of_ble_eq_true rfl) ?_
  show Am l G mX9_waiter 0 [(0, .ref 0), (1, .int (nI j)), (2, .int 3)] [] μ ν _
  refine z_aload_n dX9_waiter_0 rfl ?_
  refine z_iload_n dX9_waiter_1 rfl ?_
  refine m_callV (As := [.int _]) dX9_waiter_2 kX9_155 ⟨rfl, rfl⟩ rfl ⟨rfl, rfl⟩ rfl rfl sh0 rfl rfl (c_noW0 hn h6 hj) (fun r2 μ2 ν2 hk2 => ?_)
  obtain ⟨rfl, rfl, rfl⟩ := hk2
  refine z_if_eq 11 dX9_waiter_5 (by decide) (fun h5 => ?_) (fun h5 => absurd (by decide) h5)
  refine z_iload_n dX9_waiter_11 rfl ?_
  refine z_if_lt 21 dX9_waiter_12 (by decide) (fun h12 => absurd h12 (by decide)) (fun h12 => ?_)
  refine z_iload_n dX9_waiter_15 rfl ?_
  refine z_bipush (v := 6) dX9_waiter_16 rfl ?_
  refine z_icmp_le 24 dX9_waiter_18 (by decide) (fun h18 => ?_) (fun h18 => absurd (by decide) h18)
  refine z_iload_n dX9_waiter_24 rfl ?_
  refine z_tableIn 94 dX9_waiter_25 (by decide) (by decide) rfl (by decide) ?_
  refine z_aload_n dX9_waiter_94 rfl ?_
  refine m_getr dX9_waiter_95 fX9_19 sh0 rfl ?_
  refine m_getr dX9_waiter_98 fX9_167 sh15 rfl ?_
  refine z_iload_n dX9_waiter_101 rfl ?_
  refine m_ialdN (j := j) dX9_waiter_102 sh20 rfl (by omega) rfl ?_
  refine m_iret dX9_waiter_103 rfl rfl ?_
  exact ⟨rfl, rfl, rfl⟩
set_option maxRecDepth 100000 in
set_option maxHeartbeats 400000 in
theorem c_waiter_4 {l : Launch} {G : zG} {μ : Mem} {ν : Lng} {n : Nat} (hn : μ 15 6 = nI n) (h6 : n ≤ 6) {j : Nat} (hj : j < n)  : Cm l G mX9_waiter [.ref 0, .int (nI j), .int 4] μ ν (fun a9 b9 c9 => μ 24 j = a9 ∧ μ = b9 ∧ ν = c9) := by
  refine Con.of (by decide) (Nat.le_of_ble_eq_true rfl) ?_
  show Am l G mX9_waiter 0 [(0, .ref 0), (1, .int (nI j)), (2, .int 4)] [] μ ν _
  refine z_aload_n dX9_waiter_0 rfl ?_
  refine z_iload_n dX9_waiter_1 rfl ?_
  refine m_callV (As := [.int _]) dX9_waiter_2 kX9_155 ⟨rfl, rfl⟩ rfl ⟨rfl, rfl⟩ rfl rfl sh0 rfl rfl (c_noW0 hn h6 hj) (fun r2 μ2 ν2 hk2 => ?_)
  obtain ⟨rfl, rfl, rfl⟩ := hk2
  refine z_if_eq 11 dX9_waiter_5 (by decide) (fun h5 => ?_) (fun h5 => absurd (by decide) h5)
  refine z_iload_n dX9_waiter_11 rfl ?_
  refine z_if_lt 21 dX9_waiter_12 (by decide) (fun h12 => absurd h12 (by decide)) (fun h12 => ?_)
  refine z_iload_n dX9_waiter_15 rfl ?_
  refine z_bipush (v := 6) dX9_waiter_16 rfl ?_
  refine z_icmp_le 24 dX9_waiter_18 (by decide) (fun h18 => ?_) (fun h18 => absurd (by decide) h18)
  refine z_iload_n dX9_waiter_24 rfl ?_
  refine z_tableIn 104 dX9_waiter_25 (by decide) (by decide) rfl (by decide) ?_
  refine z_aload_n dX9_waiter_104 rfl ?_
  refine m_getr dX9_waiter_105 fX9_26 sh0 rfl ?_
  refine m_getr dX9_waiter_108 fX9_170 sh22 rfl ?_
  refine z_iload_n dX9_waiter_111 rfl ?_
  refine m_ialdN (j := j) dX9_waiter_112 sh24 rfl (by omega) rfl ?_
  refine m_iret dX9_waiter_113 rfl rfl ?_
  exact ⟨rfl, rfl, rfl⟩
set_option maxRecDepth 100000 in
set_option maxHeartbeats 400000 in
theorem c_waiter_5 {l : Launch} {G : zG} {μ : Mem} {ν : Lng} {n : Nat} (hn : μ 15 6 = nI n) (h6 : n ≤ 6) {j : Nat} (hj : j < n)  : Cm l G mX9_waiter [.ref 0, .int (nI j), .int 5] μ ν (fun a9 b9 c9 => μ 25 j = a9 ∧ μ = b9 ∧ ν = c9) := by
  refine Con.of (by decide) (Nat.le_of_ble_eq_true rfl) ?_
  show Am l G mX9_waiter 0 [(0, .ref 0), (1, .int (nI j)), (2, .int 5)] [] μ ν _
  refine z_aload_n dX9_waiter_0 rfl ?_
  refine z_iload_n dX9_waiter_1 rfl ?_
  refine m_callV (As := [.int _]) dX9_waiter_2 kX9_155 ⟨rfl, rfl⟩ rfl ⟨rfl, rfl⟩ rfl rfl sh0 rfl rfl (c_noW0 hn h6 hj) (fun r2 μ2 ν2 hk2 => ?_)
  obtain ⟨rfl, rfl, rfl⟩ := hk2
  refine z_if_eq 11 dX9_waiter_5 (by decide) (fun h5 => ?_) (fun h5 => absurd (by decide) h5)
  refine z_iload_n dX9_waiter_11 rfl ?_
  refine z_if_lt 21 dX9_waiter_12 (by decide) (fun h12 => absurd h12 (by decide)) (fun h12 => ?_)
  refine z_iload_n dX9_waiter_15 rfl ?_
  refine z_bipush (v := 6) dX9_waiter_16 rfl ?_
  refine z_icmp_le 24 dX9_waiter_18 (by decide) (fun h18 => ?_) (fun h18 => absurd (by decide) h18)
  refine z_iload_n dX9_waiter_24 rfl ?_
  refine z_tableIn 114 dX9_waiter_25 (by decide) (by decide) rfl (by decide) ?_
  refine z_aload_n dX9_waiter_114 rfl ?_
  refine m_getr dX9_waiter_115 fX9_26 sh0 rfl ?_
  refine m_getr dX9_waiter_118 fX9_172 sh22 rfl ?_
  refine z_iload_n dX9_waiter_121 rfl ?_
  refine m_ialdN (j := j) dX9_waiter_122 sh25 rfl (by omega) rfl ?_
  refine m_iret dX9_waiter_123 rfl rfl ?_
  exact ⟨rfl, rfl, rfl⟩
set_option maxRecDepth 100000 in
set_option maxHeartbeats 400000 in
theorem c_waiter_6 {l : Launch} {G : zG} {μ : Mem} {ν : Lng} {n : Nat} (hn : μ 15 6 = nI n) (h6 : n ≤ 6) {j : Nat} (hj : j < n)  : Cm l G mX9_waiter [.ref 0, .int (nI j), .int 6] μ ν (fun a9 b9 c9 => μ 21 j = a9 ∧ μ = b9 ∧ ν = c9) := by
  refine Con.of (by decide) (Nat.le_of_ble_eq_true rfl) ?_
  show Am l G mX9_waiter 0 [(0, .ref 0), (1, .int (nI j)), (2, .int 6)] [] μ ν _
  refine z_aload_n dX9_waiter_0 rfl ?_
  refine z_iload_n dX9_waiter_1 rfl ?_
  refine m_callV (As := [.int _]) dX9_waiter_2 kX9_155 ⟨rfl, rfl⟩ rfl ⟨rfl, rfl⟩ rfl rfl sh0 rfl rfl (c_noW0 hn h6 hj) (fun r2 μ2 ν2 hk2 => ?_)
  obtain ⟨rfl, rfl, rfl⟩ := hk2
  refine z_if_eq 11 dX9_waiter_5 (by decide) (fun h5 => ?_) (fun h5 => absurd (by decide) h5)
  refine z_iload_n dX9_waiter_11 rfl ?_
  refine z_if_lt 21 dX9_waiter_12 (by decide) (fun h12 => absurd h12 (by decide)) (fun h12 => ?_)
  refine z_iload_n dX9_waiter_15 rfl ?_
  refine z_bipush (v := 6) dX9_waiter_16 rfl ?_
  refine z_icmp_le 24 dX9_waiter_18 (by decide) (fun h18 => ?_) (fun h18 => absurd (by decide) h18)
  refine z_iload_n dX9_waiter_24 rfl ?_
  refine z_tableOut 124 dX9_waiter_25 (by decide) (by decide) ?_
  refine z_aload_n dX9_waiter_124 rfl ?_
  refine m_getr dX9_waiter_125 fX9_19 sh0 rfl ?_
  refine m_getr dX9_waiter_128 fX9_175 sh15 rfl ?_
  refine z_iload_n dX9_waiter_131 rfl ?_
  refine m_ialdN (j := j) dX9_waiter_132 sh21 rfl (by omega) rfl ?_
  refine m_iret dX9_waiter_133 rfl rfl ?_
  exact ⟨rfl, rfl, rfl⟩
set_option maxRecDepth 100000 in
set_option maxHeartbeats 400000 in
theorem c_putcome_w {l : Launch} {G : zG} {μ : Mem} {ν : Lng} {n : Nat} (hn : μ 15 6 = nI n) (h6 : n ≤ 6) {w : Int32} (hw : w < 0 ∨ nI n ≤ w) {v : Int32}  : Cm l G mX9_put [.ref 0, .ref 23, .int w, .int v, .int 0, .int 999] μ ν (fun a9 b9 c9 => (-1000000001) = a9 ∧ μ = b9 ∧ ν = c9) := by
  refine Con.of (by decide) (Nat.le_of_ble_eq_true rfl) ?_
  show Am l G mX9_put 0 [(0, .ref 0), (1, .ref 23), (2, .int w), (3, .int v), (4, .int 0), (5, .int 999)] [] μ ν _
  refine z_aload_n dX9_put_0 rfl ?_
  refine z_iload_n dX9_put_1 rfl ?_
  refine m_callV (As := [.int _]) dX9_put_2 kX9_155 ⟨rfl, rfl⟩ rfl ⟨rfl, rfl⟩ rfl rfl sh0 rfl rfl (c_noW1 hn h6 hw) (fun r2 μ2 ν2 hk2 => ?_)
  obtain ⟨rfl, rfl, rfl⟩ := hk2
  refine z_if_eq 11 dX9_put_5 (by decide) (fun h5 => absurd h5 (by decide)) (fun h5 => ?_)
  refine z_ldc dX9_put_8 cX9_136 ?_
  refine m_iret dX9_put_10 rfl rfl ?_
  exact ⟨rfl, rfl, rfl⟩
set_option maxRecDepth 100000 in
set_option maxHeartbeats 400000 in
theorem c_putcome_o {l : Launch} {G : zG} {μ : Mem} {ν : Lng} {n : Nat} (hn : μ 15 6 = nI n) (h6 : n ≤ 6) {j : Nat} (hj : j < n) {v : Int32} (hv : v < 0 ∨ 999 < v)  : Cm l G mX9_put [.ref 0, .ref 23, .int (nI j), .int v, .int 0, .int 999] μ ν (fun a9 b9 c9 => (-1000000002) = a9 ∧ μ = b9 ∧ ν = c9) := by
  refine Con.of (by decide) (Nat.le_of_ble_eq_true rfl) ?_
  show Am l G mX9_put 0 [(0, .ref 0), (1, .ref 23), (2, .int (nI j)), (3, .int v), (4, .int 0), (5, .int 999)] [] μ ν _
  refine z_aload_n dX9_put_0 rfl ?_
  refine z_iload_n dX9_put_1 rfl ?_
  refine m_callV (As := [.int _]) dX9_put_2 kX9_155 ⟨rfl, rfl⟩ rfl ⟨rfl, rfl⟩ rfl rfl sh0 rfl rfl (c_noW0 hn h6 hj) (fun r2 μ2 ν2 hk2 => ?_)
  obtain ⟨rfl, rfl, rfl⟩ := hk2
  refine z_if_eq 11 dX9_put_5 (by decide) (fun h5 => ?_) (fun h5 => absurd (by decide) h5)
  refine z_iload_n dX9_put_11 rfl ?_
  refine z_iload dX9_put_12 rfl ?_
  refine z_icmp_lt 23 dX9_put_14 (by decide) (fun h14 => ?_) (fun h14 => ?_)
  · skip
    refine z_ldc dX9_put_23 cX9_73 ?_
    refine m_iret dX9_put_25 rfl rfl ?_
    exact ⟨rfl, rfl, rfl⟩
  · skip
    refine z_iload_n dX9_put_17 rfl ?_
    refine z_iload dX9_put_18 rfl ?_
    refine z_icmp_le 26 dX9_put_20 (by decide) (fun h20 => (zbad hv h14 h20).elim) (fun h20 => ?_)
    refine z_ldc dX9_put_23 cX9_73 ?_
    refine m_iret dX9_put_25 rfl rfl ?_
    exact ⟨rfl, rfl, rfl⟩
set_option maxRecDepth 100000 in
set_option maxHeartbeats 400000 in
theorem c_putcome {l : Launch} {G : zG} {μ : Mem} {ν : Lng} {n : Nat} (hn : μ 15 6 = nI n) (h6 : n ≤ 6) {j : Nat} (hj : j < n) {v : Nat} (hv1 : 0 ≤ v) (hv2 : v ≤ 999)  : Cm l G mX9_put [.ref 0, .ref 23, .int (nI j), .int (nI v), .int 0, .int 999] μ ν (fun a9 b9 c9 => μ 23 j = a9 ∧ up2 μ 23 j (nI v) = b9 ∧ ν = c9) := by
  refine Con.of (by decide) (Nat.le_of_ble_eq_true rfl) ?_
  show Am l G mX9_put 0 [(0, .ref 0), (1, .ref 23), (2, .int (nI j)), (3, .int (nI v)), (4, .int 0), (5, .int 999)] [] μ ν _
  refine z_aload_n dX9_put_0 rfl ?_
  refine z_iload_n dX9_put_1 rfl ?_
  refine m_callV (As := [.int _]) dX9_put_2 kX9_155 ⟨rfl, rfl⟩ rfl ⟨rfl, rfl⟩ rfl rfl sh0 rfl rfl (c_noW0 hn h6 hj) (fun r2 μ2 ν2 hk2 => ?_)
  obtain ⟨rfl, rfl, rfl⟩ := hk2
  refine z_if_eq 11 dX9_put_5 (by decide) (fun h5 => ?_) (fun h5 => absurd (by decide) h5)
  refine z_iload_n dX9_put_11 rfl ?_
  refine z_iload dX9_put_12 rfl ?_
  refine z_icmp_lt 23 dX9_put_14 (by decide) (fun h14 => absurd h14 (nI_nlt (a := v) (b := 0) (by omega) (by omega))) (fun h14 => ?_)
  refine z_iload_n dX9_put_17 rfl ?_
  refine z_iload dX9_put_18 rfl ?_
  refine z_icmp_le 26 dX9_put_20 (by decide) (fun h20 => ?_) (fun h20 => absurd (nI_le (a := v) (b := 999) (by omega) (by omega)) h20)
  refine z_aload_n dX9_put_26 rfl ?_
  refine z_iload_n dX9_put_27 rfl ?_
  refine m_ialdN (j := j) dX9_put_28 sh23 rfl (by omega) rfl ?_
  refine z_istore (i := 6) (fun y => [(6, .int y), (0, .ref 0), (1, .ref 23), (2, .int (nI j)), (3, .int (nI v)), (4, .int 0), (5, .int 999)]) dX9_put_29 rfl (fun _ => rfl) (fun x9 e9 => ?_)
  subst e9
  refine z_aload_n dX9_put_31 rfl ?_
  refine z_iload_n dX9_put_32 rfl ?_
  refine z_iload_n dX9_put_33 rfl ?_
  refine m_iastN (j := j) dX9_put_34 sh23 rfl (by omega) rfl ?_
  refine z_iload dX9_put_35 rfl ?_
  refine m_iret dX9_put_37 rfl rfl ?_
  exact ⟨rfl, rfl, rfl⟩
set_option maxRecDepth 100000 in
set_option maxHeartbeats 400000 in
theorem c_come_w {l : Launch} {G : zG} {μ : Mem} {ν : Lng} {n : Nat} (hn : μ 15 6 = nI n) (h6 : n ≤ 6) {w : Int32} (hw : w < 0 ∨ nI n ≤ w) {v : Int32}  : Cm l G mX9_come [.ref 0, .int w, .int v] μ ν (fun a9 b9 c9 => (-1000000001) = a9 ∧ μ = b9 ∧ ν = c9) := by
  refine Con.of (by decide) (Nat.le_of_ble_eq_true rfl) ?_
  show Am l G mX9_come 0 [(0, .ref 0), (1, .int w), (2, .int v)] [] μ ν _
  refine z_aload_n dX9_come_0 rfl ?_
  refine z_aload_n dX9_come_1 rfl ?_
  refine m_getr dX9_come_2 fX9_26 sh0 rfl ?_
  refine m_getr dX9_come_5 fX9_161 sh22 rfl ?_
  refine z_iload_n dX9_come_8 rfl ?_
  refine z_iload_n dX9_come_9 rfl ?_
  refine z_iconst (v := 0) dX9_come_10 rfl ?_
  refine z_sipush (v := 999) dX9_come_11 rfl ?_
  refine m_callV (As := [.ref _, .int _, .int _, .int _, .int _]) dX9_come_14 kX9_178 ⟨rfl, rfl⟩ rfl ⟨rfl, rfl⟩ rfl rfl sh0 rfl rfl (c_putcome_w hn h6 hw) (fun r14 μ14 ν14 hk14 => ?_)
  obtain ⟨rfl, rfl, rfl⟩ := hk14
  refine m_iret dX9_come_17 rfl rfl ?_
  exact ⟨rfl, rfl, rfl⟩
set_option maxRecDepth 100000 in
set_option maxHeartbeats 400000 in
theorem c_come_o {l : Launch} {G : zG} {μ : Mem} {ν : Lng} {n : Nat} (hn : μ 15 6 = nI n) (h6 : n ≤ 6) {j : Nat} (hj : j < n) {v : Int32} (hv : v < 0 ∨ 999 < v)  : Cm l G mX9_come [.ref 0, .int (nI j), .int v] μ ν (fun a9 b9 c9 => (-1000000002) = a9 ∧ μ = b9 ∧ ν = c9) := by
  refine Con.of (by decide) (Nat.le_of_ble_eq_true rfl) ?_
  show Am l G mX9_come 0 [(0, .ref 0), (1, .int (nI j)), (2, .int v)] [] μ ν _
  refine z_aload_n dX9_come_0 rfl ?_
  refine z_aload_n dX9_come_1 rfl ?_
  refine m_getr dX9_come_2 fX9_26 sh0 rfl ?_
  refine m_getr dX9_come_5 fX9_161 sh22 rfl ?_
  refine z_iload_n dX9_come_8 rfl ?_
  refine z_iload_n dX9_come_9 rfl ?_
  refine z_iconst (v := 0) dX9_come_10 rfl ?_
  refine z_sipush (v := 999) dX9_come_11 rfl ?_
  refine m_callV (As := [.ref _, .int _, .int _, .int _, .int _]) dX9_come_14 kX9_178 ⟨rfl, rfl⟩ rfl ⟨rfl, rfl⟩ rfl rfl sh0 rfl rfl (c_putcome_o hn h6 hj hv) (fun r14 μ14 ν14 hk14 => ?_)
  obtain ⟨rfl, rfl, rfl⟩ := hk14
  refine m_iret dX9_come_17 rfl rfl ?_
  exact ⟨rfl, rfl, rfl⟩
set_option maxRecDepth 100000 in
set_option maxHeartbeats 400000 in
theorem c_come {l : Launch} {G : zG} {μ : Mem} {ν : Lng} {n : Nat} (hn : μ 15 6 = nI n) (h6 : n ≤ 6) {j : Nat} (hj : j < n) {v : Nat} (hv1 : 0 ≤ v) (hv2 : v ≤ 999)  : Cm l G mX9_come [.ref 0, .int (nI j), .int (nI v)] μ ν (fun a9 b9 c9 => μ 23 j = a9 ∧ up2 μ 23 j (nI v) = b9 ∧ ν = c9) := by
  refine Con.of (by decide) (Nat.le_of_ble_eq_true rfl) ?_
  show Am l G mX9_come 0 [(0, .ref 0), (1, .int (nI j)), (2, .int (nI v))] [] μ ν _
  refine z_aload_n dX9_come_0 rfl ?_
  refine z_aload_n dX9_come_1 rfl ?_
  refine m_getr dX9_come_2 fX9_26 sh0 rfl ?_
  refine m_getr dX9_come_5 fX9_161 sh22 rfl ?_
  refine z_iload_n dX9_come_8 rfl ?_
  refine z_iload_n dX9_come_9 rfl ?_
  refine z_iconst (v := 0) dX9_come_10 rfl ?_
  refine z_sipush (v := 999) dX9_come_11 rfl ?_
  refine m_callV (As := [.ref _, .int _, .int _, .int _, .int _]) dX9_come_14 kX9_178 ⟨rfl, rfl⟩ rfl ⟨rfl, rfl⟩ rfl rfl sh0 rfl rfl (c_putcome hn h6 hj hv1 hv2) (fun r14 μ14 ν14 hk14 => ?_)
  obtain ⟨rfl, rfl, rfl⟩ := hk14
  refine m_iret dX9_come_17 rfl rfl ?_
  exact ⟨rfl, rfl, rfl⟩
set_option maxRecDepth 100000 in
set_option maxHeartbeats 400000 in
theorem c_putrule_w {l : Launch} {G : zG} {μ : Mem} {ν : Lng} {n : Nat} (hn : μ 15 6 = nI n) (h6 : n ≤ 6) {w : Int32} (hw : w < 0 ∨ nI n ≤ w) {v : Int32}  : Cm l G mX9_put [.ref 0, .ref 25, .int w, .int v, .int 0, .int 2] μ ν (fun a9 b9 c9 => (-1000000001) = a9 ∧ μ = b9 ∧ ν = c9) := by
  refine Con.of (by decide) (Nat.le_of_ble_eq_true rfl) ?_
  show Am l G mX9_put 0 [(0, .ref 0), (1, .ref 25), (2, .int w), (3, .int v), (4, .int 0), (5, .int 2)] [] μ ν _
  refine z_aload_n dX9_put_0 rfl ?_
  refine z_iload_n dX9_put_1 rfl ?_
  refine m_callV (As := [.int _]) dX9_put_2 kX9_155 ⟨rfl, rfl⟩ rfl ⟨rfl, rfl⟩ rfl rfl sh0 rfl rfl (c_noW1 hn h6 hw) (fun r2 μ2 ν2 hk2 => ?_)
  obtain ⟨rfl, rfl, rfl⟩ := hk2
  refine z_if_eq 11 dX9_put_5 (by decide) (fun h5 => absurd h5 (by decide)) (fun h5 => ?_)
  refine z_ldc dX9_put_8 cX9_136 ?_
  refine m_iret dX9_put_10 rfl rfl ?_
  exact ⟨rfl, rfl, rfl⟩
set_option maxRecDepth 100000 in
set_option maxHeartbeats 400000 in
theorem c_putrule_o {l : Launch} {G : zG} {μ : Mem} {ν : Lng} {n : Nat} (hn : μ 15 6 = nI n) (h6 : n ≤ 6) {j : Nat} (hj : j < n) {v : Int32} (hv : v < 0 ∨ 2 < v)  : Cm l G mX9_put [.ref 0, .ref 25, .int (nI j), .int v, .int 0, .int 2] μ ν (fun a9 b9 c9 => (-1000000002) = a9 ∧ μ = b9 ∧ ν = c9) := by
  refine Con.of (by decide) (Nat.le_of_ble_eq_true rfl) ?_
  show Am l G mX9_put 0 [(0, .ref 0), (1, .ref 25), (2, .int (nI j)), (3, .int v), (4, .int 0), (5, .int 2)] [] μ ν _
  refine z_aload_n dX9_put_0 rfl ?_
  refine z_iload_n dX9_put_1 rfl ?_
  refine m_callV (As := [.int _]) dX9_put_2 kX9_155 ⟨rfl, rfl⟩ rfl ⟨rfl, rfl⟩ rfl rfl sh0 rfl rfl (c_noW0 hn h6 hj) (fun r2 μ2 ν2 hk2 => ?_)
  obtain ⟨rfl, rfl, rfl⟩ := hk2
  refine z_if_eq 11 dX9_put_5 (by decide) (fun h5 => ?_) (fun h5 => absurd (by decide) h5)
  refine z_iload_n dX9_put_11 rfl ?_
  refine z_iload dX9_put_12 rfl ?_
  refine z_icmp_lt 23 dX9_put_14 (by decide) (fun h14 => ?_) (fun h14 => ?_)
  · skip
    refine z_ldc dX9_put_23 cX9_73 ?_
    refine m_iret dX9_put_25 rfl rfl ?_
    exact ⟨rfl, rfl, rfl⟩
  · skip
    refine z_iload_n dX9_put_17 rfl ?_
    refine z_iload dX9_put_18 rfl ?_
    refine z_icmp_le 26 dX9_put_20 (by decide) (fun h20 => (zbad hv h14 h20).elim) (fun h20 => ?_)
    refine z_ldc dX9_put_23 cX9_73 ?_
    refine m_iret dX9_put_25 rfl rfl ?_
    exact ⟨rfl, rfl, rfl⟩
set_option maxRecDepth 100000 in
set_option maxHeartbeats 400000 in
theorem c_putrule {l : Launch} {G : zG} {μ : Mem} {ν : Lng} {n : Nat} (hn : μ 15 6 = nI n) (h6 : n ≤ 6) {j : Nat} (hj : j < n) {v : Nat} (hv1 : 0 ≤ v) (hv2 : v ≤ 2)  : Cm l G mX9_put [.ref 0, .ref 25, .int (nI j), .int (nI v), .int 0, .int 2] μ ν (fun a9 b9 c9 => μ 25 j = a9 ∧ up2 μ 25 j (nI v) = b9 ∧ ν = c9) := by
  refine Con.of (by decide) (Nat.le_of_ble_eq_true rfl) ?_
  show Am l G mX9_put 0 [(0, .ref 0), (1, .ref 25), (2, .int (nI j)), (3, .int (nI v)), (4, .int 0), (5, .int 2)] [] μ ν _
  refine z_aload_n dX9_put_0 rfl ?_
  refine z_iload_n dX9_put_1 rfl ?_
  refine m_callV (As := [.int _]) dX9_put_2 kX9_155 ⟨rfl, rfl⟩ rfl ⟨rfl, rfl⟩ rfl rfl sh0 rfl rfl (c_noW0 hn h6 hj) (fun r2 μ2 ν2 hk2 => ?_)
  obtain ⟨rfl, rfl, rfl⟩ := hk2
  refine z_if_eq 11 dX9_put_5 (by decide) (fun h5 => ?_) (fun h5 => absurd (by decide) h5)
  refine z_iload_n dX9_put_11 rfl ?_
  refine z_iload dX9_put_12 rfl ?_
  refine z_icmp_lt 23 dX9_put_14 (by decide) (fun h14 => absurd h14 (nI_nlt (a := v) (b := 0) (by omega) (by omega))) (fun h14 => ?_)
  refine z_iload_n dX9_put_17 rfl ?_
  refine z_iload dX9_put_18 rfl ?_
  refine z_icmp_le 26 dX9_put_20 (by decide) (fun h20 => ?_) (fun h20 => absurd (nI_le (a := v) (b := 2) (by omega) (by omega)) h20)
  refine z_aload_n dX9_put_26 rfl ?_
  refine z_iload_n dX9_put_27 rfl ?_
  refine m_ialdN (j := j) dX9_put_28 sh25 rfl (by omega) rfl ?_
  refine z_istore (i := 6) (fun y => [(6, .int y), (0, .ref 0), (1, .ref 25), (2, .int (nI j)), (3, .int (nI v)), (4, .int 0), (5, .int 2)]) dX9_put_29 rfl (fun _ => rfl) (fun x9 e9 => ?_)
  subst e9
  refine z_aload_n dX9_put_31 rfl ?_
  refine z_iload_n dX9_put_32 rfl ?_
  refine z_iload_n dX9_put_33 rfl ?_
  refine m_iastN (j := j) dX9_put_34 sh25 rfl (by omega) rfl ?_
  refine z_iload dX9_put_35 rfl ?_
  refine m_iret dX9_put_37 rfl rfl ?_
  exact ⟨rfl, rfl, rfl⟩
set_option maxRecDepth 100000 in
set_option maxHeartbeats 400000 in
theorem c_rule_w {l : Launch} {G : zG} {μ : Mem} {ν : Lng} {n : Nat} (hn : μ 15 6 = nI n) (h6 : n ≤ 6) {w : Int32} (hw : w < 0 ∨ nI n ≤ w) {v : Int32}  : Cm l G mX9_rule [.ref 0, .int w, .int v] μ ν (fun a9 b9 c9 => (-1000000001) = a9 ∧ μ = b9 ∧ ν = c9) := by
  refine Con.of (by decide) (Nat.le_of_ble_eq_true rfl) ?_
  show Am l G mX9_rule 0 [(0, .ref 0), (1, .int w), (2, .int v)] [] μ ν _
  refine z_aload_n dX9_rule_0 rfl ?_
  refine z_aload_n dX9_rule_1 rfl ?_
  refine m_getr dX9_rule_2 fX9_26 sh0 rfl ?_
  refine m_getr dX9_rule_5 fX9_172 sh22 rfl ?_
  refine z_iload_n dX9_rule_8 rfl ?_
  refine z_iload_n dX9_rule_9 rfl ?_
  refine z_iconst (v := 0) dX9_rule_10 rfl ?_
  refine z_iconst (v := 2) dX9_rule_11 rfl ?_
  refine m_callV (As := [.ref _, .int _, .int _, .int _, .int _]) dX9_rule_12 kX9_178 ⟨rfl, rfl⟩ rfl ⟨rfl, rfl⟩ rfl rfl sh0 rfl rfl (c_putrule_w hn h6 hw) (fun r12 μ12 ν12 hk12 => ?_)
  obtain ⟨rfl, rfl, rfl⟩ := hk12
  refine m_iret dX9_rule_15 rfl rfl ?_
  exact ⟨rfl, rfl, rfl⟩
set_option maxRecDepth 100000 in
set_option maxHeartbeats 400000 in
theorem c_rule_o {l : Launch} {G : zG} {μ : Mem} {ν : Lng} {n : Nat} (hn : μ 15 6 = nI n) (h6 : n ≤ 6) {j : Nat} (hj : j < n) {v : Int32} (hv : v < 0 ∨ 2 < v)  : Cm l G mX9_rule [.ref 0, .int (nI j), .int v] μ ν (fun a9 b9 c9 => (-1000000002) = a9 ∧ μ = b9 ∧ ν = c9) := by
  refine Con.of (by decide) (Nat.le_of_ble_eq_true rfl) ?_
  show Am l G mX9_rule 0 [(0, .ref 0), (1, .int (nI j)), (2, .int v)] [] μ ν _
  refine z_aload_n dX9_rule_0 rfl ?_
  refine z_aload_n dX9_rule_1 rfl ?_
  refine m_getr dX9_rule_2 fX9_26 sh0 rfl ?_
  refine m_getr dX9_rule_5 fX9_172 sh22 rfl ?_
  refine z_iload_n dX9_rule_8 rfl ?_
  refine z_iload_n dX9_rule_9 rfl ?_
  refine z_iconst (v := 0) dX9_rule_10 rfl ?_
  refine z_iconst (v := 2) dX9_rule_11 rfl ?_
  refine m_callV (As := [.ref _, .int _, .int _, .int _, .int _]) dX9_rule_12 kX9_178 ⟨rfl, rfl⟩ rfl ⟨rfl, rfl⟩ rfl rfl sh0 rfl rfl (c_putrule_o hn h6 hj hv) (fun r12 μ12 ν12 hk12 => ?_)
  obtain ⟨rfl, rfl, rfl⟩ := hk12
  refine m_iret dX9_rule_15 rfl rfl ?_
  exact ⟨rfl, rfl, rfl⟩
set_option maxRecDepth 100000 in
set_option maxHeartbeats 400000 in
theorem c_rule {l : Launch} {G : zG} {μ : Mem} {ν : Lng} {n : Nat} (hn : μ 15 6 = nI n) (h6 : n ≤ 6) {j : Nat} (hj : j < n) {v : Nat} (hv1 : 0 ≤ v) (hv2 : v ≤ 2)  : Cm l G mX9_rule [.ref 0, .int (nI j), .int (nI v)] μ ν (fun a9 b9 c9 => μ 25 j = a9 ∧ up2 μ 25 j (nI v) = b9 ∧ ν = c9) := by
  refine Con.of (by decide) (Nat.le_of_ble_eq_true rfl) ?_
  show Am l G mX9_rule 0 [(0, .ref 0), (1, .int (nI j)), (2, .int (nI v))] [] μ ν _
  refine z_aload_n dX9_rule_0 rfl ?_
  refine z_aload_n dX9_rule_1 rfl ?_
  refine m_getr dX9_rule_2 fX9_26 sh0 rfl ?_
  refine m_getr dX9_rule_5 fX9_172 sh22 rfl ?_
  refine z_iload_n dX9_rule_8 rfl ?_
  refine z_iload_n dX9_rule_9 rfl ?_
  refine z_iconst (v := 0) dX9_rule_10 rfl ?_
  refine z_iconst (v := 2) dX9_rule_11 rfl ?_
  refine m_callV (As := [.ref _, .int _, .int _, .int _, .int _]) dX9_rule_12 kX9_178 ⟨rfl, rfl⟩ rfl ⟨rfl, rfl⟩ rfl rfl sh0 rfl rfl (c_putrule hn h6 hj hv1 hv2) (fun r12 μ12 ν12 hk12 => ?_)
  obtain ⟨rfl, rfl, rfl⟩ := hk12
  refine m_iret dX9_rule_15 rfl rfl ?_
  exact ⟨rfl, rfl, rfl⟩
set_option maxRecDepth 100000 in
set_option maxHeartbeats 400000 in
theorem c_putkick_w {l : Launch} {G : zG} {μ : Mem} {ν : Lng} {n : Nat} (hn : μ 15 6 = nI n) (h6 : n ≤ 6) {w : Int32} (hw : w < 0 ∨ nI n ≤ w) {v : Int32}  : Cm l G mX9_put [.ref 0, .ref 24, .int w, .int v, .int 1, .int 9] μ ν (fun a9 b9 c9 => (-1000000001) = a9 ∧ μ = b9 ∧ ν = c9) := by
  refine Con.of (by decide) (Nat.le_of_ble_eq_true rfl) ?_
  show Am l G mX9_put 0 [(0, .ref 0), (1, .ref 24), (2, .int w), (3, .int v), (4, .int 1), (5, .int 9)] [] μ ν _
  refine z_aload_n dX9_put_0 rfl ?_
  refine z_iload_n dX9_put_1 rfl ?_
  refine m_callV (As := [.int _]) dX9_put_2 kX9_155 ⟨rfl, rfl⟩ rfl ⟨rfl, rfl⟩ rfl rfl sh0 rfl rfl (c_noW1 hn h6 hw) (fun r2 μ2 ν2 hk2 => ?_)
  obtain ⟨rfl, rfl, rfl⟩ := hk2
  refine z_if_eq 11 dX9_put_5 (by decide) (fun h5 => absurd h5 (by decide)) (fun h5 => ?_)
  refine z_ldc dX9_put_8 cX9_136 ?_
  refine m_iret dX9_put_10 rfl rfl ?_
  exact ⟨rfl, rfl, rfl⟩
set_option maxRecDepth 100000 in
set_option maxHeartbeats 400000 in
theorem c_putkick_o {l : Launch} {G : zG} {μ : Mem} {ν : Lng} {n : Nat} (hn : μ 15 6 = nI n) (h6 : n ≤ 6) {j : Nat} (hj : j < n) {v : Int32} (hv : v < 1 ∨ 9 < v)  : Cm l G mX9_put [.ref 0, .ref 24, .int (nI j), .int v, .int 1, .int 9] μ ν (fun a9 b9 c9 => (-1000000002) = a9 ∧ μ = b9 ∧ ν = c9) := by
  refine Con.of (by decide) (Nat.le_of_ble_eq_true rfl) ?_
  show Am l G mX9_put 0 [(0, .ref 0), (1, .ref 24), (2, .int (nI j)), (3, .int v), (4, .int 1), (5, .int 9)] [] μ ν _
  refine z_aload_n dX9_put_0 rfl ?_
  refine z_iload_n dX9_put_1 rfl ?_
  refine m_callV (As := [.int _]) dX9_put_2 kX9_155 ⟨rfl, rfl⟩ rfl ⟨rfl, rfl⟩ rfl rfl sh0 rfl rfl (c_noW0 hn h6 hj) (fun r2 μ2 ν2 hk2 => ?_)
  obtain ⟨rfl, rfl, rfl⟩ := hk2
  refine z_if_eq 11 dX9_put_5 (by decide) (fun h5 => ?_) (fun h5 => absurd (by decide) h5)
  refine z_iload_n dX9_put_11 rfl ?_
  refine z_iload dX9_put_12 rfl ?_
  refine z_icmp_lt 23 dX9_put_14 (by decide) (fun h14 => ?_) (fun h14 => ?_)
  · skip
    refine z_ldc dX9_put_23 cX9_73 ?_
    refine m_iret dX9_put_25 rfl rfl ?_
    exact ⟨rfl, rfl, rfl⟩
  · skip
    refine z_iload_n dX9_put_17 rfl ?_
    refine z_iload dX9_put_18 rfl ?_
    refine z_icmp_le 26 dX9_put_20 (by decide) (fun h20 => (zbad hv h14 h20).elim) (fun h20 => ?_)
    refine z_ldc dX9_put_23 cX9_73 ?_
    refine m_iret dX9_put_25 rfl rfl ?_
    exact ⟨rfl, rfl, rfl⟩
set_option maxRecDepth 100000 in
set_option maxHeartbeats 400000 in
theorem c_putkick {l : Launch} {G : zG} {μ : Mem} {ν : Lng} {n : Nat} (hn : μ 15 6 = nI n) (h6 : n ≤ 6) {j : Nat} (hj : j < n) {v : Nat} (hv1 : 1 ≤ v) (hv2 : v ≤ 9)  : Cm l G mX9_put [.ref 0, .ref 24, .int (nI j), .int (nI v), .int 1, .int 9] μ ν (fun a9 b9 c9 => μ 24 j = a9 ∧ up2 μ 24 j (nI v) = b9 ∧ ν = c9) := by
  refine Con.of (by decide) (Nat.le_of_ble_eq_true rfl) ?_
  show Am l G mX9_put 0 [(0, .ref 0), (1, .ref 24), (2, .int (nI j)), (3, .int (nI v)), (4, .int 1), (5, .int 9)] [] μ ν _
  refine z_aload_n dX9_put_0 rfl ?_
  refine z_iload_n dX9_put_1 rfl ?_
  refine m_callV (As := [.int _]) dX9_put_2 kX9_155 ⟨rfl, rfl⟩ rfl ⟨rfl, rfl⟩ rfl rfl sh0 rfl rfl (c_noW0 hn h6 hj) (fun r2 μ2 ν2 hk2 => ?_)
  obtain ⟨rfl, rfl, rfl⟩ := hk2
  refine z_if_eq 11 dX9_put_5 (by decide) (fun h5 => ?_) (fun h5 => absurd (by decide) h5)
  refine z_iload_n dX9_put_11 rfl ?_
  refine z_iload dX9_put_12 rfl ?_
  refine z_icmp_lt 23 dX9_put_14 (by decide) (fun h14 => absurd h14 (nI_nlt (a := v) (b := 1) (by omega) (by omega))) (fun h14 => ?_)
  refine z_iload_n dX9_put_17 rfl ?_
  refine z_iload dX9_put_18 rfl ?_
  refine z_icmp_le 26 dX9_put_20 (by decide) (fun h20 => ?_) (fun h20 => absurd (nI_le (a := v) (b := 9) (by omega) (by omega)) h20)
  refine z_aload_n dX9_put_26 rfl ?_
  refine z_iload_n dX9_put_27 rfl ?_
  refine m_ialdN (j := j) dX9_put_28 sh24 rfl (by omega) rfl ?_
  refine z_istore (i := 6) (fun y => [(6, .int y), (0, .ref 0), (1, .ref 24), (2, .int (nI j)), (3, .int (nI v)), (4, .int 1), (5, .int 9)]) dX9_put_29 rfl (fun _ => rfl) (fun x9 e9 => ?_)
  subst e9
  refine z_aload_n dX9_put_31 rfl ?_
  refine z_iload_n dX9_put_32 rfl ?_
  refine z_iload_n dX9_put_33 rfl ?_
  refine m_iastN (j := j) dX9_put_34 sh24 rfl (by omega) rfl ?_
  refine z_iload dX9_put_35 rfl ?_
  refine m_iret dX9_put_37 rfl rfl ?_
  exact ⟨rfl, rfl, rfl⟩
set_option maxRecDepth 100000 in
set_option maxHeartbeats 400000 in
theorem c_kick_w {l : Launch} {G : zG} {μ : Mem} {ν : Lng} {n : Nat} (hn : μ 15 6 = nI n) (h6 : n ≤ 6) {w : Int32} (hw : w < 0 ∨ nI n ≤ w) {v : Int32}  : Cm l G mX9_kick [.ref 0, .int w, .int v] μ ν (fun a9 b9 c9 => (-1000000001) = a9 ∧ μ = b9 ∧ ν = c9) := by
  refine Con.of (by decide) (Nat.le_of_ble_eq_true rfl) ?_
  show Am l G mX9_kick 0 [(0, .ref 0), (1, .int w), (2, .int v)] [] μ ν _
  refine z_aload_n dX9_kick_0 rfl ?_
  refine z_aload_n dX9_kick_1 rfl ?_
  refine m_getr dX9_kick_2 fX9_26 sh0 rfl ?_
  refine m_getr dX9_kick_5 fX9_170 sh22 rfl ?_
  refine z_iload_n dX9_kick_8 rfl ?_
  refine z_iload_n dX9_kick_9 rfl ?_
  refine z_iconst (v := 1) dX9_kick_10 rfl ?_
  refine z_bipush (v := 9) dX9_kick_11 rfl ?_
  refine m_callV (As := [.ref _, .int _, .int _, .int _, .int _]) dX9_kick_13 kX9_178 ⟨rfl, rfl⟩ rfl ⟨rfl, rfl⟩ rfl rfl sh0 rfl rfl (c_putkick_w hn h6 hw) (fun r13 μ13 ν13 hk13 => ?_)
  obtain ⟨rfl, rfl, rfl⟩ := hk13
  refine m_iret dX9_kick_16 rfl rfl ?_
  exact ⟨rfl, rfl, rfl⟩
set_option maxRecDepth 100000 in
set_option maxHeartbeats 400000 in
theorem c_kick_o {l : Launch} {G : zG} {μ : Mem} {ν : Lng} {n : Nat} (hn : μ 15 6 = nI n) (h6 : n ≤ 6) {j : Nat} (hj : j < n) {v : Int32} (hv : v < 1 ∨ 9 < v)  : Cm l G mX9_kick [.ref 0, .int (nI j), .int v] μ ν (fun a9 b9 c9 => (-1000000002) = a9 ∧ μ = b9 ∧ ν = c9) := by
  refine Con.of (by decide) (Nat.le_of_ble_eq_true rfl) ?_
  show Am l G mX9_kick 0 [(0, .ref 0), (1, .int (nI j)), (2, .int v)] [] μ ν _
  refine z_aload_n dX9_kick_0 rfl ?_
  refine z_aload_n dX9_kick_1 rfl ?_
  refine m_getr dX9_kick_2 fX9_26 sh0 rfl ?_
  refine m_getr dX9_kick_5 fX9_170 sh22 rfl ?_
  refine z_iload_n dX9_kick_8 rfl ?_
  refine z_iload_n dX9_kick_9 rfl ?_
  refine z_iconst (v := 1) dX9_kick_10 rfl ?_
  refine z_bipush (v := 9) dX9_kick_11 rfl ?_
  refine m_callV (As := [.ref _, .int _, .int _, .int _, .int _]) dX9_kick_13 kX9_178 ⟨rfl, rfl⟩ rfl ⟨rfl, rfl⟩ rfl rfl sh0 rfl rfl (c_putkick_o hn h6 hj hv) (fun r13 μ13 ν13 hk13 => ?_)
  obtain ⟨rfl, rfl, rfl⟩ := hk13
  refine m_iret dX9_kick_16 rfl rfl ?_
  exact ⟨rfl, rfl, rfl⟩
set_option maxRecDepth 100000 in
set_option maxHeartbeats 400000 in
theorem c_kick {l : Launch} {G : zG} {μ : Mem} {ν : Lng} {n : Nat} (hn : μ 15 6 = nI n) (h6 : n ≤ 6) {j : Nat} (hj : j < n) {v : Nat} (hv1 : 1 ≤ v) (hv2 : v ≤ 9)  : Cm l G mX9_kick [.ref 0, .int (nI j), .int (nI v)] μ ν (fun a9 b9 c9 => μ 24 j = a9 ∧ up2 μ 24 j (nI v) = b9 ∧ ν = c9) := by
  refine Con.of (by decide) (Nat.le_of_ble_eq_true rfl) ?_
  show Am l G mX9_kick 0 [(0, .ref 0), (1, .int (nI j)), (2, .int (nI v))] [] μ ν _
  refine z_aload_n dX9_kick_0 rfl ?_
  refine z_aload_n dX9_kick_1 rfl ?_
  refine m_getr dX9_kick_2 fX9_26 sh0 rfl ?_
  refine m_getr dX9_kick_5 fX9_170 sh22 rfl ?_
  refine z_iload_n dX9_kick_8 rfl ?_
  refine z_iload_n dX9_kick_9 rfl ?_
  refine z_iconst (v := 1) dX9_kick_10 rfl ?_
  refine z_bipush (v := 9) dX9_kick_11 rfl ?_
  refine m_callV (As := [.ref _, .int _, .int _, .int _, .int _]) dX9_kick_13 kX9_178 ⟨rfl, rfl⟩ rfl ⟨rfl, rfl⟩ rfl rfl sh0 rfl rfl (c_putkick hn h6 hj hv1 hv2) (fun r13 μ13 ν13 hk13 => ?_)
  obtain ⟨rfl, rfl, rfl⟩ := hk13
  refine m_iret dX9_kick_16 rfl rfl ?_
  exact ⟨rfl, rfl, rfl⟩
set_option maxRecDepth 100000 in
set_option maxHeartbeats 400000 in
theorem c_glass {l : Launch} {G : zG} {μ : Mem} {ν : Lng} {b : Int32} : Cm l G mX9_glass [.ref 0, .int b] μ ν (fun a9 b9 c9 => μ 22 3 = a9 ∧ up2 μ 22 3 (if b = 0 then 0 else 1) = b9 ∧ ν = c9) := by
  refine Con.of (by decide) (Nat.le_of_ble_eq_true rfl) ?_
  show Am l G mX9_glass 0 [(0, .ref 0), (1, .int b)] [] μ ν _
  refine z_aload_n dX9_glass_0 rfl ?_
  refine m_getr dX9_glass_1 fX9_26 sh0 rfl ?_
  refine m_geti dX9_glass_4 fX9_104 sh22 rfl ?_
  refine z_istore_n (i := 2) (fun y => [(2, .int y), (0, .ref 0), (1, .int b)]) dX9_glass_7 rfl rfl (fun _ => rfl) (fun x9 e9 => ?_)
  subst e9
  refine z_aload_n dX9_glass_8 rfl ?_
  refine m_getr dX9_glass_9 fX9_26 sh0 rfl ?_
  refine z_iload_n dX9_glass_12 rfl ?_
  refine z_if_eq 20 dX9_glass_13 (by decide) (fun h13 => ?_) (fun h13 => ?_)
  · skip
    refine z_iconst (v := 0) dX9_glass_20 rfl ?_
    refine m_puti dX9_glass_21 fX9_104 (fun q h => by cases h; rfl) rfl rfl sh22 rfl ?_
    refine z_iload_n dX9_glass_24 rfl ?_
    refine m_iret dX9_glass_25 rfl rfl ?_
    refine ⟨rfl, ?_, rfl⟩
    simp only [if_pos h13]
  · skip
    refine z_iconst (v := 1) dX9_glass_16 rfl ?_
    refine z_goto 21 dX9_glass_17 (by decide) ?_
    refine m_puti dX9_glass_21 fX9_104 (fun q h => by cases h; rfl) rfl rfl sh22 rfl ?_
    refine z_iload_n dX9_glass_24 rfl ?_
    refine m_iret dX9_glass_25 rfl rfl ?_
    refine ⟨rfl, ?_, rfl⟩
    simp only [if_neg h13]
set_option maxRecDepth 100000 in
set_option maxHeartbeats 400000 in
theorem c_noise_o {l : Launch} {G : zG} {μ : Mem} {ν : Lng} {v : Int32} (hv : v < 0 ∨ 9 < v)  : Cm l G mX9_noise [.ref 0, .int v] μ ν (fun a9 b9 c9 => (-1000000002) = a9 ∧ μ = b9 ∧ ν = c9) := by
  refine Con.of (by decide) (Nat.le_of_ble_eq_true rfl) ?_
  show Am l G mX9_noise 0 [(0, .ref 0), (1, .int v)] [] μ ν _
  refine z_iload_n dX9_noise_0 rfl ?_
  refine z_if_lt 10 dX9_noise_1 (by decide) (fun h1 => ?_) (fun h1 => ?_)
  · skip
    refine z_ldc dX9_noise_10 cX9_73 ?_
    refine m_iret dX9_noise_12 rfl rfl ?_
    exact ⟨rfl, rfl, rfl⟩
  · skip
    refine z_iload_n dX9_noise_4 rfl ?_
    refine z_bipush (v := 9) dX9_noise_5 rfl ?_
    refine z_icmp_le 13 dX9_noise_7 (by decide) (fun h7 => (zbad hv h1 h7).elim) (fun h7 => ?_)
    refine z_ldc dX9_noise_10 cX9_73 ?_
    refine m_iret dX9_noise_12 rfl rfl ?_
    exact ⟨rfl, rfl, rfl⟩
set_option maxRecDepth 100000 in
set_option maxHeartbeats 400000 in
theorem c_noise {l : Launch} {G : zG} {μ : Mem} {ν : Lng} {v : Nat} (hv : v ≤ 9)  : Cm l G mX9_noise [.ref 0, .int (nI v)] μ ν (fun a9 b9 c9 => μ 22 4 = a9 ∧ up2 μ 22 4 (nI v) = b9 ∧ ν = c9) := by
  refine Con.of (by decide) (Nat.le_of_ble_eq_true rfl) ?_
  show Am l G mX9_noise 0 [(0, .ref 0), (1, .int (nI v))] [] μ ν _
  refine z_iload_n dX9_noise_0 rfl ?_
  refine z_if_lt 10 dX9_noise_1 (by decide) (fun h1 => absurd h1 (nI_nlt (a := v) (b := 0) (by omega) (by omega))) (fun h1 => ?_)
  refine z_iload_n dX9_noise_4 rfl ?_
  refine z_bipush (v := 9) dX9_noise_5 rfl ?_
  refine z_icmp_le 13 dX9_noise_7 (by decide) (fun h7 => ?_) (fun h7 => absurd (nI_le (a := v) (b := 9) (by omega) (by omega)) h7)
  refine z_aload_n dX9_noise_13 rfl ?_
  refine m_getr dX9_noise_14 fX9_26 sh0 rfl ?_
  refine m_geti dX9_noise_17 fX9_107 sh22 rfl ?_
  refine z_istore_n (i := 2) (fun y => [(2, .int y), (0, .ref 0), (1, .int (nI v))]) dX9_noise_20 rfl rfl (fun _ => rfl) (fun x9 e9 => ?_)
  subst e9
  refine z_aload_n dX9_noise_21 rfl ?_
  refine m_getr dX9_noise_22 fX9_26 sh0 rfl ?_
  refine z_iload_n dX9_noise_25 rfl ?_
  refine m_puti dX9_noise_26 fX9_107 (fun q h => by cases h; rfl) rfl rfl sh22 rfl ?_
  refine z_iload_n dX9_noise_29 rfl ?_
  refine m_iret dX9_noise_30 rfl rfl ?_
  exact ⟨rfl, rfl, rfl⟩
set_option maxRecDepth 100000 in
set_option maxHeartbeats 400000 in
theorem c_fault {l : Launch} {G : zG} {μ : Mem} {ν : Lng}  : Cm l G mX9_fault [.ref 0] μ ν (fun a9 b9 c9 => μ 0 10 = a9 ∧ μ = b9 ∧ ν = c9) := by
  refine Con.of (by decide) (Nat.le_of_ble_eq_true rfl) ?_
  show Am l G mX9_fault 0 [(0, .ref 0)] [] μ ν _
  refine z_aload_n dX9_fault_0 rfl ?_
  refine m_geti dX9_fault_1 fX9_69 sh0 rfl ?_
  refine m_iret dX9_fault_4 rfl rfl ?_
  exact ⟨rfl, rfl, rfl⟩
set_option maxRecDepth 100000 in
set_option maxHeartbeats 400000 in
theorem c_tear {l : Launch} {G : zG} {μ : Mem} {ν : Lng}  : Cm l G mX9_tear [.ref 0] μ ν (fun a9 b9 c9 => μ 0 8 = a9 ∧ up2 μ 0 8 0 = b9 ∧ ν = c9) := by
  refine Con.of (by decide) (Nat.le_of_ble_eq_true rfl) ?_
  show Am l G mX9_tear 0 [(0, .ref 0)] [] μ ν _
  refine z_aload_n dX9_tear_0 rfl ?_
  refine m_geti dX9_tear_1 fX9_61 sh0 rfl ?_
  refine z_istore_n (i := 1) (fun y => [(1, .int y), (0, .ref 0)]) dX9_tear_4 rfl rfl (fun _ => rfl) (fun x9 e9 => ?_)
  subst e9
  refine z_aload_n dX9_tear_5 rfl ?_
  refine z_iconst (v := 0) dX9_tear_6 rfl ?_
  refine m_puti dX9_tear_7 fX9_61 (fun q h => by cases h; rfl) rfl rfl sh0 rfl ?_
  refine z_iload_n dX9_tear_10 rfl ?_
  refine m_iret dX9_tear_11 rfl rfl ?_
  exact ⟨rfl, rfl, rfl⟩
set_option maxRecDepth 100000 in
set_option maxHeartbeats 400000 in
theorem c_seed_o {l : Launch} {G : zG} {μ : Mem} {ν : Lng} {v : Int32} (hv : v < 0)  : Cm l G mX9_seed [.ref 0, .int v] μ ν (fun a9 b9 c9 => (-1000000002) = a9 ∧ μ = b9 ∧ ν = c9) := by
  refine Con.of (by decide) (Nat.le_of_ble_eq_true rfl) ?_
  show Am l G mX9_seed 0 [(0, .ref 0), (1, .int v)] [] μ ν _
  refine z_iload_n dX9_seed_0 rfl ?_
  refine z_if_ge 7 dX9_seed_1 (by decide) (fun h1 => (znle h1 hv).elim) (fun h1 => ?_)
  refine z_ldc dX9_seed_4 cX9_73 ?_
  refine m_iret dX9_seed_6 rfl rfl ?_
  exact ⟨rfl, rfl, rfl⟩
set_option maxRecDepth 100000 in
set_option maxHeartbeats 400000 in
theorem c_seed {l : Launch} {G : zG} {μ : Mem} {ν : Lng} {v : Int32} (hv : 0 ≤ v)  : Cm l G mX9_seed [.ref 0, .int v] μ ν (fun a9 b9 c9 => (ν 0).toInt32 = a9 ∧ μ = b9 ∧ va_up ν 0 v.toInt64 = c9) := by
  refine Con.of (by decide) (Nat.le_of_ble_eq_true rfl) ?_
  show Am l G mX9_seed 0 [(0, .ref 0), (1, .int v)] [] μ ν _
  refine z_iload_n dX9_seed_0 rfl ?_
  refine z_if_ge 7 dX9_seed_1 (by decide) (fun h1 => ?_) (fun h1 => absurd hv h1)
  refine z_aload_n dX9_seed_7 rfl ?_
  refine m_getl dX9_seed_8 fX9_65 sh0 rfl ?_
  refine z_l2i dX9_seed_11 ?_
  refine z_istore_n (i := 2) (fun y => [(2, .int y), (0, .ref 0), (1, .int v)]) dX9_seed_12 rfl rfl (fun _ => rfl) (fun x9 e9 => ?_)
  subst e9
  refine z_aload_n dX9_seed_13 rfl ?_
  refine z_iload_n dX9_seed_14 rfl ?_
  refine z_i2l dX9_seed_15 ?_
  refine m_putl dX9_seed_16 fX9_65 (fun q h => by cases h; rfl) rfl sh0 rfl zl0a zl0b ?_
  refine z_iload_n dX9_seed_19 rfl ?_
  refine m_iret dX9_seed_20 rfl rfl ?_
  exact ⟨rfl, rfl, rfl⟩
set_option maxRecDepth 100000 in
set_option maxHeartbeats 400000 in
theorem c_write_w {l : Launch} {G : zG} {μ : Mem} {ν : Lng} {n : Nat} (hn : μ 15 6 = nI n) (h6 : n ≤ 6) {w : Int32} (hw : w < 0 ∨ nI n ≤ w) {v : Int32}  : Cm l G mX9_write [.ref 0, .int w, .int v] μ ν (fun a9 b9 c9 => (-1000000001) = a9 ∧ μ = b9 ∧ ν = c9) := by
  refine Con.of (by decide) (Nat.le_of_ble_eq_true rfl) ?_
  show Am l G mX9_write 0 [(0, .ref 0), (1, .int w), (2, .int v)] [] μ ν _
  refine z_aload_n dX9_write_0 rfl ?_
  refine z_iload_n dX9_write_1 rfl ?_
  refine m_callV (As := [.int _]) dX9_write_2 kX9_155 ⟨rfl, rfl⟩ rfl ⟨rfl, rfl⟩ rfl rfl sh0 rfl rfl (c_noW1 hn h6 hw) (fun r2 μ2 ν2 hk2 => ?_)
  obtain ⟨rfl, rfl, rfl⟩ := hk2
  refine z_if_eq 11 dX9_write_5 (by decide) (fun h5 => absurd h5 (by decide)) (fun h5 => ?_)
  refine z_ldc dX9_write_8 cX9_136 ?_
  refine m_iret dX9_write_10 rfl rfl ?_
  exact ⟨rfl, rfl, rfl⟩
set_option maxRecDepth 100000 in
set_option maxHeartbeats 400000 in
theorem c_write_o {l : Launch} {G : zG} {μ : Mem} {ν : Lng} {n : Nat} (hn : μ 15 6 = nI n) (h6 : n ≤ 6) {j : Nat} (hj : j < n) {v : Int32} (hv : v < 0 ∨ 6 < v)  : Cm l G mX9_write [.ref 0, .int (nI j), .int v] μ ν (fun a9 b9 c9 => (-1000000002) = a9 ∧ μ = b9 ∧ ν = c9) := by
  refine Con.of (by decide) (Nat.le_of_ble_eq_true rfl) ?_
  show Am l G mX9_write 0 [(0, .ref 0), (1, .int (nI j)), (2, .int v)] [] μ ν _
  refine z_aload_n dX9_write_0 rfl ?_
  refine z_iload_n dX9_write_1 rfl ?_
  refine m_callV (As := [.int _]) dX9_write_2 kX9_155 ⟨rfl, rfl⟩ rfl ⟨rfl, rfl⟩ rfl rfl sh0 rfl rfl (c_noW0 hn h6 hj) (fun r2 μ2 ν2 hk2 => ?_)
  obtain ⟨rfl, rfl, rfl⟩ := hk2
  refine z_if_eq 11 dX9_write_5 (by decide) (fun h5 => ?_) (fun h5 => absurd (by decide) h5)
  refine z_iload_n dX9_write_11 rfl ?_
  refine z_if_lt 21 dX9_write_12 (by decide) (fun h12 => ?_) (fun h12 => ?_)
  · skip
    refine z_ldc dX9_write_21 cX9_73 ?_
    refine m_iret dX9_write_23 rfl rfl ?_
    exact ⟨rfl, rfl, rfl⟩
  · skip
    refine z_iload_n dX9_write_15 rfl ?_
    refine z_bipush (v := 6) dX9_write_16 rfl ?_
    refine z_icmp_le 24 dX9_write_18 (by decide) (fun h18 => (zbad hv h12 h18).elim) (fun h18 => ?_)
    refine z_ldc dX9_write_21 cX9_73 ?_
    refine m_iret dX9_write_23 rfl rfl ?_
    exact ⟨rfl, rfl, rfl⟩
set_option maxRecDepth 100000 in
set_option maxHeartbeats 400000 in
theorem c_write_f {l : Launch} {G : zG} {μ : Mem} {ν : Lng} {n : Nat} (hn : μ 15 6 = nI n) (h6 : n ≤ 6) {j : Nat} (hj : j < n) {v : Nat} (hv : v ≤ 6) (hb : μ 0 8 = nI 20)  : Cm l G mX9_write [.ref 0, .int (nI j), .int (nI v)] μ ν (fun a9 b9 c9 => (-1000000004) = a9 ∧ μ = b9 ∧ ν = c9) := by
  refine Con.of (by decide) (Nat.le_of_ble_eq_true rfl) ?_
  show Am l G mX9_write 0 [(0, .ref 0), (1, .int (nI j)), (2, .int (nI v))] [] μ ν _
  refine z_aload_n dX9_write_0 rfl ?_
  refine z_iload_n dX9_write_1 rfl ?_
  refine m_callV (As := [.int _]) dX9_write_2 kX9_155 ⟨rfl, rfl⟩ rfl ⟨rfl, rfl⟩ rfl rfl sh0 rfl rfl (c_noW0 hn h6 hj) (fun r2 μ2 ν2 hk2 => ?_)
  obtain ⟨rfl, rfl, rfl⟩ := hk2
  refine z_if_eq 11 dX9_write_5 (by decide) (fun h5 => ?_) (fun h5 => absurd (by decide) h5)
  refine z_iload_n dX9_write_11 rfl ?_
  refine z_if_lt 21 dX9_write_12 (by decide) (fun h12 => absurd h12 (nI_nlt (a := v) (b := 0) (by omega) (by omega))) (fun h12 => ?_)
  refine z_iload_n dX9_write_15 rfl ?_
  refine z_bipush (v := 6) dX9_write_16 rfl ?_
  refine z_icmp_le 24 dX9_write_18 (by decide) (fun h18 => ?_) (fun h18 => absurd (nI_le (a := v) (b := 6) (by omega) (by omega)) h18)
  refine z_aload_n dX9_write_24 rfl ?_
  refine m_geti dX9_write_25 fX9_61 sh0 rfl ?_
  rw [hb]
  refine z_bipush (v := 20) dX9_write_28 rfl ?_
  refine z_icmp_lt 36 dX9_write_30 (by decide) (fun h30 => absurd h30 (by decide)) (fun h30 => ?_)
  refine z_ldc dX9_write_33 cX9_77 ?_
  refine m_iret dX9_write_35 rfl rfl ?_
  exact ⟨rfl, rfl, rfl⟩
set_option maxRecDepth 100000 in
set_option maxHeartbeats 400000 in
theorem c_write {l : Launch} {G : zG} {μ : Mem} {ν : Lng} {n : Nat} (hn : μ 15 6 = nI n) (h6 : n ≤ 6) {j : Nat} (hj : j < n) {v b : Nat} (hv : v ≤ 6) (hb : μ 0 8 = nI b) (hb2 : b < 20)  : Cm l G mX9_write [.ref 0, .int (nI j), .int (nI v)] μ ν (fun a9 b9 c9 => nI (b + 1) = a9 ∧ up2 (up2 (up2 μ 54 b (nI j)) 55 b (nI v)) 0 8 (nI (b + 1)) = b9 ∧ ν = c9) := by
  refine Con.of (by decide) (Nat.le_of_ble_eq_true rfl) ?_
  show Am l G mX9_write 0 [(0, .ref 0), (1, .int (nI j)), (2, .int (nI v))] [] μ ν _
  refine z_aload_n dX9_write_0 rfl ?_
  refine z_iload_n dX9_write_1 rfl ?_
  refine m_callV (As := [.int _]) dX9_write_2 kX9_155 ⟨rfl, rfl⟩ rfl ⟨rfl, rfl⟩ rfl rfl sh0 rfl rfl (c_noW0 hn h6 hj) (fun r2 μ2 ν2 hk2 => ?_)
  obtain ⟨rfl, rfl, rfl⟩ := hk2
  refine z_if_eq 11 dX9_write_5 (by decide) (fun h5 => ?_) (fun h5 => absurd (by decide) h5)
  refine z_iload_n dX9_write_11 rfl ?_
  refine z_if_lt 21 dX9_write_12 (by decide) (fun h12 => absurd h12 (nI_nlt (a := v) (b := 0) (by omega) (by omega))) (fun h12 => ?_)
  refine z_iload_n dX9_write_15 rfl ?_
  refine z_bipush (v := 6) dX9_write_16 rfl ?_
  refine z_icmp_le 24 dX9_write_18 (by decide) (fun h18 => ?_) (fun h18 => absurd (nI_le (a := v) (b := 6) (by omega) (by omega)) h18)
  refine z_aload_n dX9_write_24 rfl ?_
  refine m_geti dX9_write_25 fX9_61 sh0 rfl ?_
  rw [hb]
  refine z_bipush (v := 20) dX9_write_28 rfl ?_
  refine z_icmp_lt 36 dX9_write_30 (by decide) (fun h30 => ?_) (fun h30 => absurd (nI_lt (a := b) (b := 20) (by omega) (by omega)) h30)
  refine z_aload_n dX9_write_36 rfl ?_
  refine m_getr dX9_write_37 fX9_54 sh0 rfl ?_
  refine z_aload_n dX9_write_40 rfl ?_
  refine m_geti dX9_write_41 fX9_61 sh0 rfl ?_
  rw [hb]
  refine z_iload_n dX9_write_44 rfl ?_
  refine m_iastN (j := b) dX9_write_45 sh54 rfl (by omega) rfl ?_
  refine z_aload_n dX9_write_46 rfl ?_
  refine m_getr dX9_write_47 fX9_58 sh0 rfl ?_
  refine z_aload_n dX9_write_50 rfl ?_
  refine m_geti dX9_write_51 fX9_61 sh0 rfl ?_
  rw [up2_ne (by decide), hb]
  refine z_iload_n dX9_write_54 rfl ?_
  refine m_iastN (j := b) dX9_write_55 sh55 rfl (by omega) rfl ?_
  refine z_aload_n dX9_write_56 rfl ?_
  refine z_dup dX9_write_57 rfl ?_
  refine m_geti dX9_write_58 fX9_61 sh0 rfl ?_
  rw [up2_ne (by decide), up2_ne (by decide), hb]
  refine z_iconst (v := 1) dX9_write_61 rfl ?_
  refine z_iadd dX9_write_62 ?_
  rw [show ((nI b) + 1) = (nI (b + 1)) from nI_1 b]
  refine m_puti dX9_write_63 fX9_61 (fun q h => by cases h; rfl) rfl rfl sh0 rfl ?_
  refine z_aload_n dX9_write_66 rfl ?_
  refine m_geti dX9_write_67 fX9_61 sh0 rfl ?_
  refine m_iret dX9_write_70 rfl rfl ?_
  exact ⟨(up2_same _ _ _ _).symm, rfl, rfl⟩
set_option maxRecDepth 100000 in
set_option maxHeartbeats 400000 in
theorem c_feed_o {l : Launch} {G : zG} {μ : Mem} {ν : Lng} {v : Int32} (hv : v < 0 ∨ 255 < v)  : Cm l G mX9_feed [.ref 0, .int v] μ ν (fun a9 b9 c9 => (-1000000002) = a9 ∧ μ = b9 ∧ ν = c9) := by
  refine Con.of (by decide) (Nat.le_of_ble_eq_true rfl) ?_
  show Am l G mX9_feed 0 [(0, .ref 0), (1, .int v)] [] μ ν _
  refine z_iload_n dX9_feed_0 rfl ?_
  refine z_if_lt 11 dX9_feed_1 (by decide) (fun h1 => ?_) (fun h1 => ?_)
  · skip
    refine z_ldc dX9_feed_11 cX9_73 ?_
    refine m_iret dX9_feed_13 rfl rfl ?_
    exact ⟨rfl, rfl, rfl⟩
  · skip
    refine z_iload_n dX9_feed_4 rfl ?_
    refine z_sipush (v := 255) dX9_feed_5 rfl ?_
    refine z_icmp_le 14 dX9_feed_8 (by decide) (fun h8 => (zbad hv h1 h8).elim) (fun h8 => ?_)
    refine z_ldc dX9_feed_11 cX9_73 ?_
    refine m_iret dX9_feed_13 rfl rfl ?_
    exact ⟨rfl, rfl, rfl⟩
set_option maxRecDepth 100000 in
set_option maxHeartbeats 400000 in
theorem c_feed_f {l : Launch} {G : zG} {μ : Mem} {ν : Lng} {v : Nat} (hv : v ≤ 255) (hL : μ 1 4 = nI 250) : Cm l G mX9_feed [.ref 0, .int (nI v)] μ ν (fun a9 b9 c9 => (-1000000004) = a9 ∧ μ = b9 ∧ ν = c9) := by
  refine Con.of (by decide) (Nat.le_of_ble_eq_true rfl) ?_
  show Am l G mX9_feed 0 [(0, .ref 0), (1, .int (nI v))] [] μ ν _
  refine z_iload_n dX9_feed_0 rfl ?_
  refine z_if_lt 11 dX9_feed_1 (by decide) (fun h1 => absurd h1 (nI_nlt (a := v) (b := 0) (by omega) (by omega))) (fun h1 => ?_)
  refine z_iload_n dX9_feed_4 rfl ?_
  refine z_sipush (v := 255) dX9_feed_5 rfl ?_
  refine z_icmp_le 14 dX9_feed_8 (by decide) (fun h8 => ?_) (fun h8 => absurd (nI_le (a := v) (b := 255) (by omega) (by omega)) h8)
  refine z_aload_n dX9_feed_14 rfl ?_
  refine m_getr dX9_feed_15 fX9_10 sh0 rfl ?_
  refine m_geti dX9_feed_18 fX9_74 sh1 rfl ?_
  rw [hL]
  refine z_sipush (v := 250) dX9_feed_21 rfl ?_
  refine z_icmp_lt 30 dX9_feed_24 (by decide) (fun h24 => absurd h24 (by decide)) (fun h24 => ?_)
  refine z_ldc dX9_feed_27 cX9_77 ?_
  refine m_iret dX9_feed_29 rfl rfl ?_
  exact ⟨rfl, rfl, rfl⟩
set_option maxRecDepth 100000 in
set_option maxHeartbeats 400000 in
theorem c_take {l : Launch} {G : zG} {μ : Mem} {ν : Lng} {v b : Nat} (hv : v ≤ 255) (hL : μ 1 4 = nI b) (hb : b < 250)  : Cm l G mX5_take [.ref 1, .int (nI v)] μ ν (fun a9 b9 c9 => nI (b + 1) = a9 ∧ up2 (up2 μ 13 b (nI v)) 1 4 (nI (b + 1)) = b9 ∧ ν = c9) := by
  refine Con.of (by decide) (Nat.le_of_ble_eq_true rfl) ?_
  show Am l G mX5_take 0 [(0, .ref 1), (1, .int (nI v))] [] μ ν _
  refine z_aload_n dX5_take_0 rfl ?_
  refine m_geti dX5_take_1 fX5_32 sh1 rfl ?_
  rw [hL]
  refine z_sipush (v := 250) dX5_take_4 rfl ?_
  refine z_icmp_ge 30 dX5_take_7 (by decide) (fun h7 => absurd h7 (nI_ge (a := b) (b := 250) (by omega) (by omega))) (fun h7 => ?_)
  refine z_aload_n dX5_take_10 rfl ?_
  refine m_getr dX5_take_11 fX5_25 sh1 rfl ?_
  refine z_aload_n dX5_take_14 rfl ?_
  refine m_geti dX5_take_15 fX5_32 sh1 rfl ?_
  rw [hL]
  refine z_iload_n dX5_take_18 rfl ?_
  refine m_iastN (j := b) dX5_take_19 sh13 rfl (by omega) rfl ?_
  refine z_aload_n dX5_take_20 rfl ?_
  refine z_dup dX5_take_21 rfl ?_
  refine m_geti dX5_take_22 fX5_32 sh1 rfl ?_
  rw [up2_ne (by decide), hL]
  refine z_iconst (v := 1) dX5_take_25 rfl ?_
  refine z_iadd dX5_take_26 ?_
  rw [show ((nI b) + 1) = (nI (b + 1)) from nI_1 b]
  refine m_puti dX5_take_27 fX5_32 (fun q h => by cases h; rfl) rfl rfl sh1 rfl ?_
  refine z_aload_n dX5_take_30 rfl ?_
  refine m_geti dX5_take_31 fX5_32 sh1 rfl ?_
  refine m_iret dX5_take_34 rfl rfl ?_
  exact ⟨(up2_same _ _ _ _).symm, rfl, rfl⟩
set_option maxRecDepth 100000 in
set_option maxHeartbeats 400000 in
theorem c_feed {l : Launch} {G : zG} {μ : Mem} {ν : Lng} {v b : Nat} (hv : v ≤ 255) (hL : μ 1 4 = nI b) (hb : b < 250)  : Cm l G mX9_feed [.ref 0, .int (nI v)] μ ν (fun a9 b9 c9 => nI (b + 1) = a9 ∧ up2 (up2 μ 13 b (nI v)) 1 4 (nI (b + 1)) = b9 ∧ ν = c9) := by
  refine Con.of (by decide) (Nat.le_of_ble_eq_true rfl) ?_
  show Am l G mX9_feed 0 [(0, .ref 0), (1, .int (nI v))] [] μ ν _
  refine z_iload_n dX9_feed_0 rfl ?_
  refine z_if_lt 11 dX9_feed_1 (by decide) (fun h1 => absurd h1 (nI_nlt (a := v) (b := 0) (by omega) (by omega))) (fun h1 => ?_)
  refine z_iload_n dX9_feed_4 rfl ?_
  refine z_sipush (v := 255) dX9_feed_5 rfl ?_
  refine z_icmp_le 14 dX9_feed_8 (by decide) (fun h8 => ?_) (fun h8 => absurd (nI_le (a := v) (b := 255) (by omega) (by omega)) h8)
  refine z_aload_n dX9_feed_14 rfl ?_
  refine m_getr dX9_feed_15 fX9_10 sh0 rfl ?_
  refine m_geti dX9_feed_18 fX9_74 sh1 rfl ?_
  rw [hL]
  refine z_sipush (v := 250) dX9_feed_21 rfl ?_
  refine z_icmp_lt 30 dX9_feed_24 (by decide) (fun h24 => ?_) (fun h24 => absurd (nI_lt (a := b) (b := 250) (by omega) (by omega)) h24)
  refine z_aload_n dX9_feed_30 rfl ?_
  refine m_getr dX9_feed_31 fX9_10 sh0 rfl ?_
  refine z_iload_n dX9_feed_34 rfl ?_
  refine m_callV (As := [.int _]) dX9_feed_35 kX9_78 ⟨rfl, rfl⟩ rfl ⟨rfl, rfl⟩ rfl rfl sh1 rfl rfl (c_take hv hL hb) (fun r35 μ35 ν35 hk35 => ?_)
  obtain ⟨rfl, rfl, rfl⟩ := hk35
  refine m_iret dX9_feed_38 rfl rfl ?_
  exact ⟨rfl, rfl, rfl⟩
