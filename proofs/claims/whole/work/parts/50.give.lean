
/-- tenths given to those in a row -/
def zGt (h s t : Nat → Int32) : Nat → Nat → Int32
  | 0 => h
  | p + 1 => zu (zGt h s t p) (s p).toNatClampNeg (t p)
set_option maxRecDepth 100000 in
set_option maxHeartbeats 400000 in
theorem c_give {l : Launch} {G : zG} {μ : Mem} {ν : Lng} {c : Nat} (hc : μ 49 3 = nI c) (hc6 : c ≤ 6) (hs : ∀ p, p < c → ∃ v : Nat, v < 6 ∧ μ 51 p = nI v)  : Cm l G mX6_giveTenths [.ref 49, .ref 45] μ ν (fun _ b9 c9 => va_up μ 46 (zGt (μ 46) (μ 51) (μ 50) c) = b9 ∧ ν = c9) := by
  refine Con.of (by decide) (Nat.le_of_ble_eq_true rfl) ?_
  show Am l G mX6_giveTenths 0 [(0, .ref 49), (1, .ref 45)] [] μ ν _
  have hq : ∀ p, (va_up μ 46 (zGt (μ 46) (μ 51) (μ 50) p)) 49 3 = nI c := fun p => hc
  have hL := m_for (l := l) (G := G) (M := mX6_giveTenths) (pc := 2) (ν := ν) (K := (fun _ b9 c9 => va_up μ 46 (zGt (μ 46) (μ 51) (μ 50) c) = b9 ∧ ν = c9)) (N := c) (fun p => [(2, .int (nI p)), (0, .ref 49), (1, .ref 45)]) (fun p => va_up μ 46 (zGt (μ 46) (μ 51) (μ 50) p)) (fun p hi H => by
    refine z_iload_n dX6_giveTenths_2 rfl ?_
    refine z_aload_n dX6_giveTenths_3 rfl ?_
    refine m_geti dX6_giveTenths_4 fX6_21 sh49 rfl ?_
    refine z_icmp_ge 33 dX6_giveTenths_7 (by decide) (fun h7 => absurd (hq p ▸ h7) (nI_ge hi (by omega))) (fun h7 => ?_)
    obtain ⟨v, hv, ev⟩ := hs p hi
    have ev1 : (va_up μ 46 (zGt (μ 46) (μ 51) (μ 50) p)) 51 p = nI v := ev
    refine z_aload_n dX6_giveTenths_10 rfl ?_
    refine m_getr dX6_giveTenths_11 fX6_33 sh45 rfl ?_
    refine z_aload_n dX6_giveTenths_14 rfl ?_
    refine m_getr dX6_giveTenths_15 fX6_15 sh49 rfl ?_
    refine z_iload_n dX6_giveTenths_18 rfl ?_
    refine m_ialdN (j := p) dX6_giveTenths_19 sh51 rfl (by omega) rfl ?_
    refine z_aload_n dX6_giveTenths_20 rfl ?_
    refine m_getr dX6_giveTenths_21 fX6_9 sh49 rfl ?_
    refine z_iload_n dX6_giveTenths_24 rfl ?_
    refine m_ialdN (j := p) dX6_giveTenths_25 sh50 rfl (by omega) rfl ?_
    refine m_iastN (j := v) dX6_giveTenths_26 sh46 ev1 hv rfl ?_
    refine z_iinc (fun y => [(2, .int y), (0, .ref 49), (1, .ref 45)]) dX6_giveTenths_27 rfl rfl (fun _ => rfl) (fun x2_27 ex2_27 => ?_)
    obtain rfl : x2_27 = nI (p + 1) := by rw [ex2_27]; exact nI_1 p
    refine z_goto 2 dX6_giveTenths_30 (by decide) ?_
    rw [up2_va]
    rw [show zGt (μ 46) (μ 51) (μ 50) (p + 1) = zu (zGt (μ 46) (μ 51) (μ 50) p) v (μ 50 p) by rw [zGt, ev, nI_clamp (show v < 2 ^ 31 by omega)]] at H
    exact H) (by
    refine z_iload_n dX6_giveTenths_2 rfl ?_
    refine z_aload_n dX6_giveTenths_3 rfl ?_
    refine m_geti dX6_giveTenths_4 fX6_21 sh49 rfl ?_
    refine z_icmp_ge 33 dX6_giveTenths_7 (by decide) (fun h7 => ?_) (fun h7 => absurd (hq c ▸ nI_le (Nat.le_refl c) (by omega)) h7)
    refine m_ret dX6_giveTenths_33 rfl ?_
    exact ⟨rfl, rfl⟩)
  refine z_iconst (v := 0) dX6_giveTenths_0 rfl ?_
  refine z_istore_n (i := 2) (fun y => [(2, .int y), (0, .ref 49), (1, .ref 45)]) dX6_giveTenths_1 rfl rfl (fun _ => rfl) (fun x9 e9 => ?_)
  subst e9
  exact hL 0 (Nat.zero_le _)
set_option maxRecDepth 100000 in
set_option maxHeartbeats 400000 in
theorem c_orders {l : Launch} {G : zG} {μ : Mem} {ν : Lng} {c : Nat} (hc : μ 49 3 = nI c) (hc6 : c ≤ 6)  : Cm l G mX6_orders [.ref 49] μ ν (fun a9 b9 c9 => nI (zFa c) = a9 ∧ μ = b9 ∧ ν = c9) := by
  refine Con.of (by decide) (Nat.le_of_ble_eq_true rfl) ?_
  show Am l G mX6_orders 0 [(0, .ref 49)] [] μ ν _
  refine z_gets dX6_orders_0 gX6_42 ?_
  refine z_aload_n dX6_orders_3 rfl ?_
  refine m_geti dX6_orders_4 fX6_21 sh49 rfl ?_
  rw [hc]
  refine m_oald (j := c) dX6_orders_7 rfl (by omega) ?_
  rw [zord_fa hc6]
  refine m_iret dX6_orders_8 rfl rfl ?_
  exact ⟨rfl, rfl, rfl⟩
