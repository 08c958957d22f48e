set_option maxRecDepth 100000 in
set_option maxHeartbeats 400000 in
theorem c_order_o {l : Launch} {G : zG} {μ : Mem} {ν : Lng} {v : Int32} (hv : v < 0 ∨ 1 < v) {x : Int32}  : Cm l G mX9_order [.ref 0, .int v, .int x] μ ν (fun a9 b9 c9 => (-1000000002) = a9 ∧ μ = b9 ∧ ν = c9) := by
  refine Con.of (by decide) (Nat.le_of_ble_eq_true rfl) ?_
  show Am l G mX9_order 0 [(0, .ref 0), (1, .int v), (2, .int x)] [] μ ν _
  refine z_iload_n dX9_order_0 rfl ?_
  refine m_callS (As := [.int _]) dX9_order_1 kX9_249 ⟨rfl, rfl⟩ rfl ⟨rfl, rfl⟩ rfl rfl rfl (c_noSide1 hv) (fun r1 μ1 ν1 hk1 => ?_)
  obtain ⟨rfl, rfl, rfl⟩ := hk1
  refine z_if_eq 10 dX9_order_4 (by decide) (fun h4 => absurd h4 (by decide)) (fun h4 => ?_)
  refine z_ldc dX9_order_7 cX9_73 ?_
  refine m_iret dX9_order_9 rfl rfl ?_
  exact ⟨rfl, rfl, rfl⟩
set_option maxRecDepth 100000 in
set_option maxHeartbeats 400000 in
theorem c_order_c {l : Launch} {G : zG} {μ : Mem} {ν : Lng} {n : Nat} (hn : μ 15 6 = nI n) (hz6 : n ≤ 6) (hsd : zSides μ n) {a N : Nat} (ha : a ≤ 1) (hN : N = zFa (zGa (μ 18) (μ 23) (nI a) (μ 50) (μ 52) n).1)  : Cm l G mX9_order [.ref 0, .int (nI a), .int (-1)] μ ν (fun a9 b9 c9 => gSe (fun i M => gOr (zGa (μ 18) (μ 23) (nI a) (μ 50) (μ 52) n).1 i M) (fun _ => true) nI n (mGa (gSt μ) (zGa (μ 18) (μ 23) (nI a) (μ 50) (μ 52) n).1 (zGa (μ 18) (μ 23) (nI a) (μ 50) (μ 52) n).2.1 (zGa (μ 18) (μ 23) (nI a) (μ 50) (μ 52) n).2.2) N 44 6 = a9 ∧ gSe (fun i M => gOr (zGa (μ 18) (μ 23) (nI a) (μ 50) (μ 52) n).1 i M) (fun _ => true) nI n (mGa (gSt μ) (zGa (μ 18) (μ 23) (nI a) (μ 50) (μ 52) n).1 (zGa (μ 18) (μ 23) (nI a) (μ 50) (μ 52) n).2.1 (zGa (μ 18) (μ 23) (nI a) (μ 50) (μ 52) n).2.2) N = b9 ∧ ν = c9) := by
  refine Con.of (by decide) (Nat.le_of_ble_eq_true rfl) ?_
  show Am l G mX9_order 0 [(0, .ref 0), (1, .int (nI a)), (2, .int (-1))] [] μ ν _
  refine z_iload_n dX9_order_0 rfl ?_
  refine m_callS (As := [.int _]) dX9_order_1 kX9_249 ⟨rfl, rfl⟩ rfl ⟨rfl, rfl⟩ rfl rfl rfl (c_noSide0 ha) (fun r1 μ1 ν1 hk1 => ?_)
  obtain ⟨rfl, rfl, rfl⟩ := hk1
  refine z_if_eq 10 dX9_order_4 (by decide) (fun h4 => ?_) (fun h4 => absurd (by decide) h4)
  refine z_aload_n dX9_order_10 rfl ?_
  refine m_getr dX9_order_11 fX9_44 sh0 rfl ?_
  refine z_iload_n dX9_order_14 rfl ?_
  refine z_iload_n dX9_order_15 rfl ?_
  refine m_callV (As := [.int _, .int _]) dX9_order_16 kX9_256 ⟨rfl, rfl⟩ rfl ⟨rfl, rfl⟩ rfl rfl sh44 rfl rfl (c_bestOrder_c hn hz6 hsd hN) (fun r16 μ16 ν16 hk16 => ?_)
  obtain ⟨rfl, rfl, rfl⟩ := hk16
  refine m_iret dX9_order_19 rfl rfl ?_
  exact ⟨rfl, rfl, rfl⟩
set_option maxRecDepth 100000 in
set_option maxHeartbeats 400000 in
theorem c_order_n {l : Launch} {G : zG} {μ : Mem} {ν : Lng} {n : Nat} (hn : μ 15 6 = nI n) (hz6 : n ≤ 6) (hsd : zSides μ n) {a N : Nat} (ha : a ≤ 1) (hN : N = zFa (zGa (μ 18) (μ 23) (nI a) (μ 50) (μ 52) n).1) {x : Int32} (hx : x < 0 ∨ nI (zGa (μ 18) (μ 23) (nI a) (μ 50) (μ 52) n).1 ≤ x) (hne : ¬ x = -1)  : Cm l G mX9_order [.ref 0, .int (nI a), .int x] μ ν (fun a9 b9 c9 => (-1) = a9 ∧ gSe (fun i M => gOr (zGa (μ 18) (μ 23) (nI a) (μ 50) (μ 52) n).1 i M) (fun _ => true) nI n (mGa (gSt μ) (zGa (μ 18) (μ 23) (nI a) (μ 50) (μ 52) n).1 (zGa (μ 18) (μ 23) (nI a) (μ 50) (μ 52) n).2.1 (zGa (μ 18) (μ 23) (nI a) (μ 50) (μ 52) n).2.2) N = b9 ∧ ν = c9) := by
  refine Con.of (by decide) (Nat.le_of_ble_eq_true rfl) ?_
  show Am l G mX9_order 0 [(0, .ref 0), (1, .int (nI a)), (2, .int x)] [] μ ν _
  refine z_iload_n dX9_order_0 rfl ?_
  refine m_callS (As := [.int _]) dX9_order_1 kX9_249 ⟨rfl, rfl⟩ rfl ⟨rfl, rfl⟩ rfl rfl rfl (c_noSide0 ha) (fun r1 μ1 ν1 hk1 => ?_)
  obtain ⟨rfl, rfl, rfl⟩ := hk1
  refine z_if_eq 10 dX9_order_4 (by decide) (fun h4 => ?_) (fun h4 => absurd (by decide) h4)
  refine z_aload_n dX9_order_10 rfl ?_
  refine m_getr dX9_order_11 fX9_44 sh0 rfl ?_
  refine z_iload_n dX9_order_14 rfl ?_
  refine z_iload_n dX9_order_15 rfl ?_
  refine m_callV (As := [.int _, .int _]) dX9_order_16 kX9_256 ⟨rfl, rfl⟩ rfl ⟨rfl, rfl⟩ rfl rfl sh44 rfl rfl (c_bestOrder_n hn hz6 hsd hN hx hne) (fun r16 μ16 ν16 hk16 => ?_)
  obtain ⟨rfl, rfl, rfl⟩ := hk16
  refine m_iret dX9_order_19 rfl rfl ?_
  exact ⟨rfl, rfl, rfl⟩
set_option maxRecDepth 100000 in
set_option maxHeartbeats 400000 in
theorem c_order_w {l : Launch} {G : zG} {μ : Mem} {ν : Lng} {n : Nat} (hn : μ 15 6 = nI n) (hz6 : n ≤ 6) (hsd : zSides μ n) {a N : Nat} (ha : a ≤ 1) (hN : N = zFa (zGa (μ 18) (μ 23) (nI a) (μ 50) (μ 52) n).1) {j fo : Nat} (hj : j < (zGa (μ 18) (μ 23) (nI a) (μ 50) (μ 52) n).1) (hfo : gSe (fun i M => gOr (zGa (μ 18) (μ 23) (nI a) (μ 50) (μ 52) n).1 i M) (fun _ => true) nI n (mGa (gSt μ) (zGa (μ 18) (μ 23) (nI a) (μ 50) (μ 52) n).1 (zGa (μ 18) (μ 23) (nI a) (μ 50) (μ 52) n).2.1 (zGa (μ 18) (μ 23) (nI a) (μ 50) (μ 52) n).2.2) N 44 5 = nI fo) (hfo2 : fo < zFa (zGa (μ 18) (μ 23) (nI a) (μ 50) (μ 52) n).1)  : Cm l G mX9_order [.ref 0, .int (nI a), .int (nI j)] μ ν (fun a9 b9 c9 => (zSb (zGa (μ 18) (μ 23) (nI a) (μ 50) (μ 52) n).1 fo (va_cpy ((gSe (fun i M => gOr (zGa (μ 18) (μ 23) (nI a) (μ 50) (μ 52) n).1 i M) (fun _ => true) nI n (mGa (gSt μ) (zGa (μ 18) (μ 23) (nI a) (μ 50) (μ 52) n).1 (zGa (μ 18) (μ 23) (nI a) (μ 50) (μ 52) n).2.1 (zGa (μ 18) (μ 23) (nI a) (μ 50) (μ 52) n).2.2) N) 52) ((gSe (fun i M => gOr (zGa (μ 18) (μ 23) (nI a) (μ 50) (μ 52) n).1 i M) (fun _ => true) nI n (mGa (gSt μ) (zGa (μ 18) (μ 23) (nI a) (μ 50) (μ 52) n).1 (zGa (μ 18) (μ 23) (nI a) (μ 50) (μ 52) n).2.1 (zGa (μ 18) (μ 23) (nI a) (μ 50) (μ 52) n).2.2) N) 51) 0 0 (zGa (μ 18) (μ 23) (nI a) (μ 50) (μ 52) n).1) (zGa (μ 18) (μ 23) (nI a) (μ 50) (μ 52) n).1).2 j = a9 ∧ va_up (gSe (fun i M => gOr (zGa (μ 18) (μ 23) (nI a) (μ 50) (μ 52) n).1 i M) (fun _ => true) nI n (mGa (gSt μ) (zGa (μ 18) (μ 23) (nI a) (μ 50) (μ 52) n).1 (zGa (μ 18) (μ 23) (nI a) (μ 50) (μ 52) n).2.1 (zGa (μ 18) (μ 23) (nI a) (μ 50) (μ 52) n).2.2) N) 51 (zSb (zGa (μ 18) (μ 23) (nI a) (μ 50) (μ 52) n).1 fo (va_cpy ((gSe (fun i M => gOr (zGa (μ 18) (μ 23) (nI a) (μ 50) (μ 52) n).1 i M) (fun _ => true) nI n (mGa (gSt μ) (zGa (μ 18) (μ 23) (nI a) (μ 50) (μ 52) n).1 (zGa (μ 18) (μ 23) (nI a) (μ 50) (μ 52) n).2.1 (zGa (μ 18) (μ 23) (nI a) (μ 50) (μ 52) n).2.2) N) 52) ((gSe (fun i M => gOr (zGa (μ 18) (μ 23) (nI a) (μ 50) (μ 52) n).1 i M) (fun _ => true) nI n (mGa (gSt μ) (zGa (μ 18) (μ 23) (nI a) (μ 50) (μ 52) n).1 (zGa (μ 18) (μ 23) (nI a) (μ 50) (μ 52) n).2.1 (zGa (μ 18) (μ 23) (nI a) (μ 50) (μ 52) n).2.2) N) 51) 0 0 (zGa (μ 18) (μ 23) (nI a) (μ 50) (μ 52) n).1) (zGa (μ 18) (μ 23) (nI a) (μ 50) (μ 52) n).1).2 = b9 ∧ ν = c9) := by
  refine Con.of (by decide) (Nat.le_of_ble_eq_true rfl) ?_
  show Am l G mX9_order 0 [(0, .ref 0), (1, .int (nI a)), (2, .int (nI j))] [] μ ν _
  refine z_iload_n dX9_order_0 rfl ?_
  refine m_callS (As := [.int _]) dX9_order_1 kX9_249 ⟨rfl, rfl⟩ rfl ⟨rfl, rfl⟩ rfl rfl rfl (c_noSide0 ha) (fun r1 μ1 ν1 hk1 => ?_)
  obtain ⟨rfl, rfl, rfl⟩ := hk1
  refine z_if_eq 10 dX9_order_4 (by decide) (fun h4 => ?_) (fun h4 => absurd (by decide) h4)
  refine z_aload_n dX9_order_10 rfl ?_
  refine m_getr dX9_order_11 fX9_44 sh0 rfl ?_
  refine z_iload_n dX9_order_14 rfl ?_
  refine z_iload_n dX9_order_15 rfl ?_
  refine m_callV (As := [.int _, .int _]) dX9_order_16 kX9_256 ⟨rfl, rfl⟩ rfl ⟨rfl, rfl⟩ rfl rfl sh44 rfl rfl (c_bestOrder_w hn hz6 hsd hN hj hfo hfo2) (fun r16 μ16 ν16 hk16 => ?_)
  obtain ⟨rfl, rfl, rfl⟩ := hk16
  refine m_iret dX9_order_19 rfl rfl ?_
  exact ⟨rfl, rfl, rfl⟩

/-- tenths g apart -/
def zAp (f : Nat → Int32) (g : Int32) : Nat → Nat → Int32
  | 0 => f
  | i + 1 => zu (zAp f g i) (i + 1) (zAp f g i 0 + nI (i + 1) * g)
set_option maxRecDepth 100000 in
set_option maxHeartbeats 400000 in
theorem c_spread {l : Launch} {G : zG} {μ : Mem} {ν : Lng} {n : Nat} (hn : μ 15 6 = nI n) (hz6 : n ≤ 6) (hsd : zSides μ n) {s g : Int32}  : Cm l G mX8_spread [.ref 44, .int s, .int g] μ ν (fun a9 b9 c9 => fCost (gRun (va_up (va_up (va_up (mGa (fPlanCp μ 45 22) (zGa (μ 18) (μ 23) s (μ 50) (μ 52) n).1 (zGa (μ 18) (μ 23) s (μ 50) (μ 52) n).2.1 (zGa (μ 18) (μ 23) s (μ 50) (μ 52) n).2.2) 51 (zSb (zGa (μ 18) (μ 23) s (μ 50) (μ 52) n).1 0 (va_cpy (zGa (μ 18) (μ 23) s (μ 50) (μ 52) n).2.2 (μ 51) 0 0 (zGa (μ 18) (μ 23) s (μ 50) (μ 52) n).1) (zGa (μ 18) (μ 23) s (μ 50) (μ 52) n).1).2) 50 (zAp (zGa (μ 18) (μ 23) s (μ 50) (μ 52) n).2.1 g ((zGa (μ 18) (μ 23) s (μ 50) (μ 52) n).1 - 1))) 46 (zGt ((fPlanCp μ 45 22) 46) (zSb (zGa (μ 18) (μ 23) s (μ 50) (μ 52) n).1 0 (va_cpy (zGa (μ 18) (μ 23) s (μ 50) (μ 52) n).2.2 (μ 51) 0 0 (zGa (μ 18) (μ 23) s (μ 50) (μ 52) n).1) (zGa (μ 18) (μ 23) s (μ 50) (μ 52) n).1).2 (zAp (zGa (μ 18) (μ 23) s (μ 50) (μ 52) n).2.1 g ((zGa (μ 18) (μ 23) s (μ 50) (μ 52) n).1 - 1)) (zGa (μ 18) (μ 23) s (μ 50) (μ 52) n).1)) 45 n) n = a9 ∧ gRun (va_up (va_up (va_up (mGa (fPlanCp μ 45 22) (zGa (μ 18) (μ 23) s (μ 50) (μ 52) n).1 (zGa (μ 18) (μ 23) s (μ 50) (μ 52) n).2.1 (zGa (μ 18) (μ 23) s (μ 50) (μ 52) n).2.2) 51 (zSb (zGa (μ 18) (μ 23) s (μ 50) (μ 52) n).1 0 (va_cpy (zGa (μ 18) (μ 23) s (μ 50) (μ 52) n).2.2 (μ 51) 0 0 (zGa (μ 18) (μ 23) s (μ 50) (μ 52) n).1) (zGa (μ 18) (μ 23) s (μ 50) (μ 52) n).1).2) 50 (zAp (zGa (μ 18) (μ 23) s (μ 50) (μ 52) n).2.1 g ((zGa (μ 18) (μ 23) s (μ 50) (μ 52) n).1 - 1))) 46 (zGt ((fPlanCp μ 45 22) 46) (zSb (zGa (μ 18) (μ 23) s (μ 50) (μ 52) n).1 0 (va_cpy (zGa (μ 18) (μ 23) s (μ 50) (μ 52) n).2.2 (μ 51) 0 0 (zGa (μ 18) (μ 23) s (μ 50) (μ 52) n).1) (zGa (μ 18) (μ 23) s (μ 50) (μ 52) n).1).2 (zAp (zGa (μ 18) (μ 23) s (μ 50) (μ 52) n).2.1 g ((zGa (μ 18) (μ 23) s (μ 50) (μ 52) n).1 - 1)) (zGa (μ 18) (μ 23) s (μ 50) (μ 52) n).1)) 45 n = b9 ∧ ν = c9) := by
  refine Con.of (by decide) (Nat.le_of_ble_eq_true rfl) ?_
  show Am l G mX8_spread 0 [(0, .ref 44), (1, .int s), (2, .int g)] [] μ ν _
  have f0 : zFc μ (mGa (fPlanCp μ 45 22) (zGa (μ 18) (μ 23) s (μ 50) (μ 52) n).1 (zGa (μ 18) (μ 23) s (μ 50) (μ 52) n).2.1 (zGa (μ 18) (μ 23) s (μ 50) (μ 52) n).2.2) := zFc.cp.tr zFc.ga
  have f1 : ∀ i, zFc μ (va_up (va_up (mGa (fPlanCp μ 45 22) (zGa (μ 18) (μ 23) s (μ 50) (μ 52) n).1 (zGa (μ 18) (μ 23) s (μ 50) (μ 52) n).2.1 (zGa (μ 18) (μ 23) s (μ 50) (μ 52) n).2.2) 51 (zSb (zGa (μ 18) (μ 23) s (μ 50) (μ 52) n).1 0 (va_cpy (zGa (μ 18) (μ 23) s (μ 50) (μ 52) n).2.2 (μ 51) 0 0 (zGa (μ 18) (μ 23) s (μ 50) (μ 52) n).1) (zGa (μ 18) (μ 23) s (μ 50) (μ 52) n).1).2) 50 (zAp (zGa (μ 18) (μ 23) s (μ 50) (μ 52) n).2.1 g i)) := fun i => (f0.tr (zFc.va (by decide))).tr (zFc.va (by decide))
  have f3 : zFc μ (va_up (va_up (va_up (mGa (fPlanCp μ 45 22) (zGa (μ 18) (μ 23) s (μ 50) (μ 52) n).1 (zGa (μ 18) (μ 23) s (μ 50) (μ 52) n).2.1 (zGa (μ 18) (μ 23) s (μ 50) (μ 52) n).2.2) 51 (zSb (zGa (μ 18) (μ 23) s (μ 50) (μ 52) n).1 0 (va_cpy (zGa (μ 18) (μ 23) s (μ 50) (μ 52) n).2.2 (μ 51) 0 0 (zGa (μ 18) (μ 23) s (μ 50) (μ 52) n).1) (zGa (μ 18) (μ 23) s (μ 50) (μ 52) n).1).2) 50 (zAp (zGa (μ 18) (μ 23) s (μ 50) (μ 52) n).2.1 g ((zGa (μ 18) (μ 23) s (μ 50) (μ 52) n).1 - 1))) 46 (zGt ((fPlanCp μ 45 22) 46) (zSb (zGa (μ 18) (μ 23) s (μ 50) (μ 52) n).1 0 (va_cpy (zGa (μ 18) (μ 23) s (μ 50) (μ 52) n).2.2 (μ 51) 0 0 (zGa (μ 18) (μ 23) s (μ 50) (μ 52) n).1) (zGa (μ 18) (μ 23) s (μ 50) (μ 52) n).1).2 (zAp (zGa (μ 18) (μ 23) s (μ 50) (μ 52) n).2.1 g ((zGa (μ 18) (μ 23) s (μ 50) (μ 52) n).1 - 1)) (zGa (μ 18) (μ 23) s (μ 50) (μ 52) n).1)) := (f1 _).tr (zFc.va (by decide))
  have hcn : (zGa (μ 18) (μ 23) s (μ 50) (μ 52) n).1 ≤ n := zGa_le n
  have hc6 : (zGa (μ 18) (μ 23) s (μ 50) (μ 52) n).1 ≤ 6 := by omega
  have hc0 : (mGa (fPlanCp μ 45 22) (zGa (μ 18) (μ 23) s (μ 50) (μ 52) n).1 (zGa (μ 18) (μ 23) s (μ 50) (μ 52) n).2.1 (zGa (μ 18) (μ 23) s (μ 50) (μ 52) n).2.2) 49 3 = nI (zGa (μ 18) (μ 23) s (μ 50) (μ 52) n).1 := rfl
  have hc : ∀ i, (va_up (va_up (mGa (fPlanCp μ 45 22) (zGa (μ 18) (μ 23) s (μ 50) (μ 52) n).1 (zGa (μ 18) (μ 23) s (μ 50) (μ 52) n).2.1 (zGa (μ 18) (μ 23) s (μ 50) (μ 52) n).2.2) 51 (zSb (zGa (μ 18) (μ 23) s (μ 50) (μ 52) n).1 0 (va_cpy (zGa (μ 18) (μ 23) s (μ 50) (μ 52) n).2.2 (μ 51) 0 0 (zGa (μ 18) (μ 23) s (μ 50) (μ 52) n).1) (zGa (μ 18) (μ 23) s (μ 50) (μ 52) n).1).2) 50 (zAp (zGa (μ 18) (μ 23) s (μ 50) (μ 52) n).2.1 g i)) 49 3 = nI (zGa (μ 18) (μ 23) s (μ 50) (μ 52) n).1 := fun i => rfl
  have hin : ∀ p, p < (zGa (μ 18) (μ 23) s (μ 50) (μ 52) n).1 → ∃ v : Nat, v < 6 ∧ va_cpy (zGa (μ 18) (μ 23) s (μ 50) (μ 52) n).2.2 (μ 51) 0 0 (zGa (μ 18) (μ 23) s (μ 50) (μ 52) n).1 p = nI v := fun p hp => by
    unfold va_cpy
    rw [if_pos (by omega), show 0 + (p - 0) = p by omega]
    obtain ⟨v, v1, v2⟩ := zGa_in n p hp
    exact ⟨v, by omega, v2⟩
  have hseat : ∀ p, p < (zGa (μ 18) (μ 23) s (μ 50) (μ 52) n).1 → ∃ v : Nat, v < 6 ∧ (zSb (zGa (μ 18) (μ 23) s (μ 50) (μ 52) n).1 0 (va_cpy (zGa (μ 18) (μ 23) s (μ 50) (μ 52) n).2.2 (μ 51) 0 0 (zGa (μ 18) (μ 23) s (μ 50) (μ 52) n).1) (zGa (μ 18) (μ 23) s (μ 50) (μ 52) n).1).2 p = nI v := fun p hp => zSb_in (P := fun x => ∃ v : Nat, v < 6 ∧ x = nI v) (zFa_pos _) hin _ (Nat.le_refl _) p hp
  have hT : ∀ xx : Int32, Am l G mX8_spread 76 [(3, .int xx), (0, .ref 44), (1, .int s), (2, .int g)] [] (va_up (va_up (mGa (fPlanCp μ 45 22) (zGa (μ 18) (μ 23) s (μ 50) (μ 52) n).1 (zGa (μ 18) (μ 23) s (μ 50) (μ 52) n).2.1 (zGa (μ 18) (μ 23) s (μ 50) (μ 52) n).2.2) 51 (zSb (zGa (μ 18) (μ 23) s (μ 50) (μ 52) n).1 0 (va_cpy (zGa (μ 18) (μ 23) s (μ 50) (μ 52) n).2.2 (μ 51) 0 0 (zGa (μ 18) (μ 23) s (μ 50) (μ 52) n).1) (zGa (μ 18) (μ 23) s (μ 50) (μ 52) n).1).2) 50 (zAp (zGa (μ 18) (μ 23) s (μ 50) (μ 52) n).2.1 g ((zGa (μ 18) (μ 23) s (μ 50) (μ 52) n).1 - 1))) ν (fun a9 b9 c9 => fCost (gRun (va_up (va_up (va_up (mGa (fPlanCp μ 45 22) (zGa (μ 18) (μ 23) s (μ 50) (μ 52) n).1 (zGa (μ 18) (μ 23) s (μ 50) (μ 52) n).2.1 (zGa (μ 18) (μ 23) s (μ 50) (μ 52) n).2.2) 51 (zSb (zGa (μ 18) (μ 23) s (μ 50) (μ 52) n).1 0 (va_cpy (zGa (μ 18) (μ 23) s (μ 50) (μ 52) n).2.2 (μ 51) 0 0 (zGa (μ 18) (μ 23) s (μ 50) (μ 52) n).1) (zGa (μ 18) (μ 23) s (μ 50) (μ 52) n).1).2) 50 (zAp (zGa (μ 18) (μ 23) s (μ 50) (μ 52) n).2.1 g ((zGa (μ 18) (μ 23) s (μ 50) (μ 52) n).1 - 1))) 46 (zGt ((fPlanCp μ 45 22) 46) (zSb (zGa (μ 18) (μ 23) s (μ 50) (μ 52) n).1 0 (va_cpy (zGa (μ 18) (μ 23) s (μ 50) (μ 52) n).2.2 (μ 51) 0 0 (zGa (μ 18) (μ 23) s (μ 50) (μ 52) n).1) (zGa (μ 18) (μ 23) s (μ 50) (μ 52) n).1).2 (zAp (zGa (μ 18) (μ 23) s (μ 50) (μ 52) n).2.1 g ((zGa (μ 18) (μ 23) s (μ 50) (μ 52) n).1 - 1)) (zGa (μ 18) (μ 23) s (μ 50) (μ 52) n).1)) 45 n) n = a9 ∧ gRun (va_up (va_up (va_up (mGa (fPlanCp μ 45 22) (zGa (μ 18) (μ 23) s (μ 50) (μ 52) n).1 (zGa (μ 18) (μ 23) s (μ 50) (μ 52) n).2.1 (zGa (μ 18) (μ 23) s (μ 50) (μ 52) n).2.2) 51 (zSb (zGa (μ 18) (μ 23) s (μ 50) (μ 52) n).1 0 (va_cpy (zGa (μ 18) (μ 23) s (μ 50) (μ 52) n).2.2 (μ 51) 0 0 (zGa (μ 18) (μ 23) s (μ 50) (μ 52) n).1) (zGa (μ 18) (μ 23) s (μ 50) (μ 52) n).1).2) 50 (zAp (zGa (μ 18) (μ 23) s (μ 50) (μ 52) n).2.1 g ((zGa (μ 18) (μ 23) s (μ 50) (μ 52) n).1 - 1))) 46 (zGt ((fPlanCp μ 45 22) 46) (zSb (zGa (μ 18) (μ 23) s (μ 50) (μ 52) n).1 0 (va_cpy (zGa (μ 18) (μ 23) s (μ 50) (μ 52) n).2.2 (μ 51) 0 0 (zGa (μ 18) (μ 23) s (μ 50) (μ 52) n).1) (zGa (μ 18) (μ 23) s (μ 50) (μ 52) n).1).2 (zAp (zGa (μ 18) (μ 23) s (μ 50) (μ 52) n).2.1 g ((zGa (μ 18) (μ 23) s (μ 50) (μ 52) n).1 - 1)) (zGa (μ 18) (μ 23) s (μ 50) (μ 52) n).1)) 45 n = b9 ∧ ν = c9) := fun xx => by
    refine z_aload_n dX8_spread_76 rfl ?_
    refine m_getr dX8_spread_77 fX8_21 sh44 rfl ?_
    refine z_aload_n dX8_spread_80 rfl ?_
    refine m_getr dX8_spread_81 fX8_12 sh44 rfl ?_
    refine m_callVv (As := [.ref _]) dX8_spread_84 kX8_118 ⟨rfl, rfl⟩ rfl ⟨rfl, rfl⟩ rfl rfl sh49 rfl rfl (c_give (c := (zGa (μ 18) (μ 23) s (μ 50) (μ 52) n).1) (hc _) hc6 hseat) (fun μ84 ν84 hk84 => ?_)
    obtain ⟨rfl, rfl⟩ := hk84
    refine z_aload_n dX8_spread_87 rfl ?_
    refine m_callV (As := []) dX8_spread_88 kX8_67 ⟨rfl, rfl⟩ rfl ⟨rfl, rfl⟩ rfl rfl sh44 rfl rfl (c_trialCost (f3.n hn) hz6 (f3.sd hsd)) (fun r88 μ88 ν88 hk88 => ?_)
    obtain ⟨rfl, rfl, rfl⟩ := hk88
    refine m_iret dX8_spread_91 rfl rfl ?_
    exact ⟨rfl, rfl, rfl⟩
  have hL := m_for (l := l) (G := G) (M := mX8_spread) (pc := 37) (ν := ν) (K := (fun a9 b9 c9 => fCost (gRun (va_up (va_up (va_up (mGa (fPlanCp μ 45 22) (zGa (μ 18) (μ 23) s (μ 50) (μ 52) n).1 (zGa (μ 18) (μ 23) s (μ 50) (μ 52) n).2.1 (zGa (μ 18) (μ 23) s (μ 50) (μ 52) n).2.2) 51 (zSb (zGa (μ 18) (μ 23) s (μ 50) (μ 52) n).1 0 (va_cpy (zGa (μ 18) (μ 23) s (μ 50) (μ 52) n).2.2 (μ 51) 0 0 (zGa (μ 18) (μ 23) s (μ 50) (μ 52) n).1) (zGa (μ 18) (μ 23) s (μ 50) (μ 52) n).1).2) 50 (zAp (zGa (μ 18) (μ 23) s (μ 50) (μ 52) n).2.1 g ((zGa (μ 18) (μ 23) s (μ 50) (μ 52) n).1 - 1))) 46 (zGt ((fPlanCp μ 45 22) 46) (zSb (zGa (μ 18) (μ 23) s (μ 50) (μ 52) n).1 0 (va_cpy (zGa (μ 18) (μ 23) s (μ 50) (μ 52) n).2.2 (μ 51) 0 0 (zGa (μ 18) (μ 23) s (μ 50) (μ 52) n).1) (zGa (μ 18) (μ 23) s (μ 50) (μ 52) n).1).2 (zAp (zGa (μ 18) (μ 23) s (μ 50) (μ 52) n).2.1 g ((zGa (μ 18) (μ 23) s (μ 50) (μ 52) n).1 - 1)) (zGa (μ 18) (μ 23) s (μ 50) (μ 52) n).1)) 45 n) n = a9 ∧ gRun (va_up (va_up (va_up (mGa (fPlanCp μ 45 22) (zGa (μ 18) (μ 23) s (μ 50) (μ 52) n).1 (zGa (μ 18) (μ 23) s (μ 50) (μ 52) n).2.1 (zGa (μ 18) (μ 23) s (μ 50) (μ 52) n).2.2) 51 (zSb (zGa (μ 18) (μ 23) s (μ 50) (μ 52) n).1 0 (va_cpy (zGa (μ 18) (μ 23) s (μ 50) (μ 52) n).2.2 (μ 51) 0 0 (zGa (μ 18) (μ 23) s (μ 50) (μ 52) n).1) (zGa (μ 18) (μ 23) s (μ 50) (μ 52) n).1).2) 50 (zAp (zGa (μ 18) (μ 23) s (μ 50) (μ 52) n).2.1 g ((zGa (μ 18) (μ 23) s (μ 50) (μ 52) n).1 - 1))) 46 (zGt ((fPlanCp μ 45 22) 46) (zSb (zGa (μ 18) (μ 23) s (μ 50) (μ 52) n).1 0 (va_cpy (zGa (μ 18) (μ 23) s (μ 50) (μ 52) n).2.2 (μ 51) 0 0 (zGa (μ 18) (μ 23) s (μ 50) (μ 52) n).1) (zGa (μ 18) (μ 23) s (μ 50) (μ 52) n).1).2 (zAp (zGa (μ 18) (μ 23) s (μ 50) (μ 52) n).2.1 g ((zGa (μ 18) (μ 23) s (μ 50) (μ 52) n).1 - 1)) (zGa (μ 18) (μ 23) s (μ 50) (μ 52) n).1)) 45 n = b9 ∧ ν = c9)) (N := ((zGa (μ 18) (μ 23) s (μ 50) (μ 52) n).1 - 1)) (fun i => [(3, .int (nI (i + 1))), (0, .ref 44), (1, .int s), (2, .int g)]) (fun i => (va_up (va_up (mGa (fPlanCp μ 45 22) (zGa (μ 18) (μ 23) s (μ 50) (μ 52) n).1 (zGa (μ 18) (μ 23) s (μ 50) (μ 52) n).2.1 (zGa (μ 18) (μ 23) s (μ 50) (μ 52) n).2.2) 51 (zSb (zGa (μ 18) (μ 23) s (μ 50) (μ 52) n).1 0 (va_cpy (zGa (μ 18) (μ 23) s (μ 50) (μ 52) n).2.2 (μ 51) 0 0 (zGa (μ 18) (μ 23) s (μ 50) (μ 52) n).1) (zGa (μ 18) (μ 23) s (μ 50) (μ 52) n).1).2) 50 (zAp (zGa (μ 18) (μ 23) s (μ 50) (μ 52) n).2.1 g i))) (fun i hi H => by
    refine z_iload_n dX8_spread_37 rfl ?_
    refine z_aload_n dX8_spread_38 rfl ?_
    refine m_getr dX8_spread_39 fX8_21 sh44 rfl ?_
    refine m_geti dX8_spread_42 fX8_112 sh49 rfl ?_
    refine z_icmp_ge 76 dX8_spread_45 (by decide) (fun h45 => absurd (hc i ▸ h45) (nI_ge (a := i + 1) (b := (zGa (μ 18) (μ 23) s (μ 50) (μ 52) n).1) (by omega) (by omega))) (fun h45 => ?_)
    refine z_aload_n dX8_spread_48 rfl ?_
    refine m_getr dX8_spread_49 fX8_21 sh44 rfl ?_
    refine m_getr dX8_spread_52 fX8_115 sh49 rfl ?_
    refine z_iload_n dX8_spread_55 rfl ?_
    refine z_aload_n dX8_spread_56 rfl ?_
    refine m_getr dX8_spread_57 fX8_21 sh44 rfl ?_
    refine m_getr dX8_spread_60 fX8_115 sh49 rfl ?_
    refine z_iconst (v := 0) dX8_spread_63 rfl ?_
    refine m_ialdN (j := 0) dX8_spread_64 sh50 (by decide) (by decide) rfl ?_
    refine z_iload_n dX8_spread_65 rfl ?_
    refine z_iload_n dX8_spread_66 rfl ?_
    refine z_imul dX8_spread_67 ?_
    refine z_iadd dX8_spread_68 ?_
    refine m_iastN (j := i + 1) dX8_spread_69 sh50 rfl (by omega) rfl ?_
    refine z_iinc (fun y => [(3, .int y), (0, .ref 44), (1, .int s), (2, .int g)]) dX8_spread_70 rfl rfl (fun _ => rfl) (fun x3_70 ex3_70 => ?_)
    obtain rfl : x3_70 = nI (i + 1 + 1) := by rw [ex3_70]; exact nI_1 (i + 1)
    refine z_goto 37 dX8_spread_73 (by decide) ?_
    rw [va_up_self, up2_va]
    exact H) (by
    refine z_iload_n dX8_spread_37 rfl ?_
    refine z_aload_n dX8_spread_38 rfl ?_
    refine m_getr dX8_spread_39 fX8_21 sh44 rfl ?_
    refine m_geti dX8_spread_42 fX8_112 sh49 rfl ?_
    refine z_icmp_ge 76 dX8_spread_45 (by decide) (fun h45 => ?_) (fun h45 => absurd (by rw [hc]; exact nI_le (by omega) (by omega)) h45)
    exact hT _)
  refine z_aload_n dX8_spread_0 rfl ?_
  refine m_getr dX8_spread_1 fX8_12 sh44 rfl ?_
  refine z_aload_n dX8_spread_4 rfl ?_
  refine m_getr dX8_spread_5 fX8_36 sh44 rfl ?_
  refine m_callVv (As := [.ref _]) dX8_spread_8 kX8_43 ⟨rfl, rfl⟩ rfl ⟨rfl, rfl⟩ rfl rfl sh45 rfl rfl (c_planCp zPlan45 zPlan22) (fun μ8 ν8 hk8 => ?_)
  obtain ⟨rfl, rfl⟩ := hk8
  refine z_aload_n dX8_spread_11 rfl ?_
  refine m_getr dX8_spread_12 fX8_21 sh44 rfl ?_
  refine z_aload_n dX8_spread_15 rfl ?_
  refine m_getr dX8_spread_16 fX8_32 sh44 rfl ?_
  refine z_aload_n dX8_spread_19 rfl ?_
  refine m_getr dX8_spread_20 fX8_36 sh44 rfl ?_
  refine z_iload_n dX8_spread_23 rfl ?_
  refine m_callVv (As := [.ref _, .ref _, .int _]) dX8_spread_24 kX8_105 ⟨rfl, rfl⟩ rfl ⟨rfl, rfl⟩ rfl rfl sh49 rfl rfl (c_gather (μ := fPlanCp μ 45 22) (zFc.cp.n hn) hz6) (fun μ24 ν24 hk24 => ?_)
  obtain ⟨rfl, rfl⟩ := hk24
  refine z_aload_n dX8_spread_27 rfl ?_
  refine m_getr dX8_spread_28 fX8_21 sh44 rfl ?_
  refine z_iconst (v := 0) dX8_spread_31 rfl ?_
  refine m_callVv (As := [.int _]) dX8_spread_32 kX8_109 ⟨rfl, rfl⟩ rfl ⟨rfl, rfl⟩ rfl rfl sh49 rfl rfl (c_seatBy (c := (zGa (μ 18) (μ 23) s (μ 50) (μ 52) n).1) (m := 0) hc0 hc6 (zFa_pos _)) (fun μ32 ν32 hk32 => ?_)
  obtain ⟨rfl, rfl⟩ := hk32
  refine z_iconst (v := 1) dX8_spread_35 rfl ?_
  refine z_istore_n (i := 3) (fun y => [(3, .int y), (0, .ref 44), (1, .int s), (2, .int g)]) dX8_spread_36 rfl rfl (fun _ => rfl) (fun x9 e9 => ?_)
  subst e9
  have e0 := hL 0 (Nat.zero_le _)
  rw [show va_up (va_up (mGa (fPlanCp μ 45 22) (zGa (μ 18) (μ 23) s (μ 50) (μ 52) n).1 (zGa (μ 18) (μ 23) s (μ 50) (μ 52) n).2.1 (zGa (μ 18) (μ 23) s (μ 50) (μ 52) n).2.2) 51 (zSb (zGa (μ 18) (μ 23) s (μ 50) (μ 52) n).1 0 (va_cpy (zGa (μ 18) (μ 23) s (μ 50) (μ 52) n).2.2 (μ 51) 0 0 (zGa (μ 18) (μ 23) s (μ 50) (μ 52) n).1) (zGa (μ 18) (μ 23) s (μ 50) (μ 52) n).1).2) 50 (zAp (zGa (μ 18) (μ 23) s (μ 50) (μ 52) n).2.1 g 0) = (va_up (mGa (fPlanCp μ 45 22) (zGa (μ 18) (μ 23) s (μ 50) (μ 52) n).1 (zGa (μ 18) (μ 23) s (μ 50) (μ 52) n).2.1 (zGa (μ 18) (μ 23) s (μ 50) (μ 52) n).2.2) 51 (zSb (zGa (μ 18) (μ 23) s (μ 50) (μ 52) n).1 0 (va_cpy (zGa (μ 18) (μ 23) s (μ 50) (μ 52) n).2.2 (μ 51) 0 0 (zGa (μ 18) (μ 23) s (μ 50) (μ 52) n).1) (zGa (μ 18) (μ 23) s (μ 50) (μ 52) n).1).2) from va_same rfl] at e0
  exact e0
