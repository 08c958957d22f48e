
/-- a tenth put behind all that are no later -/
def zIt (t : Int32) : Nat → (Nat → Int32) → Nat → Int32
  | 0, f => zu f 0 t
  | p + 1, f => if f p ≤ t then zu f (p + 1) t else zIt t p (zu f (p + 1) (f p))
theorem up2_va {μ : Mem} {q i : Nat} {f : Nat → Int32} {x : Int32} : up2 (va_up μ q f) q i x = va_up μ q (zu f i x) := by
  funext a b
  by_cases h : a = q
  · subst h
    rw [up2_row, va_up_self, va_up_self]
    rfl
  · rw [up2_ne h, va_up_ne _ _ h, va_up_ne _ _ h]
set_option maxRecDepth 100000 in
set_option maxHeartbeats 400000 in
theorem c_itIn {l : Launch} {G : zG} {t : Int32} {ν : Lng} {K : Int32 → Mem → Lng → Prop} {μ : Mem} : ∀ (p : Nat) (f : Nat → Int32), p < 6 → K 0 (va_up μ 50 (zIt t p f)) ν → Am l G mX6_insertTenth 5 [(2, .int (nI p)), (0, .ref 49), (1, .int t)] [] (va_up μ 50 f) ν K
  | 0, f, hp, H => by
    refine z_iload_n dX6_insertTenth_5 rfl ?_
    refine z_if_le 41 dX6_insertTenth_6 (by decide) (fun h6 => ?_) (fun h6 => absurd (show nI 0 ≤ 0 by decide) h6)
    refine z_aload_n dX6_insertTenth_41 rfl ?_
    refine m_getr dX6_insertTenth_42 fX6_9 sh49 rfl ?_
    refine z_iload_n dX6_insertTenth_45 rfl ?_
    refine z_iload_n dX6_insertTenth_46 rfl ?_
    refine m_iastN (j := 0) dX6_insertTenth_47 sh50 rfl (by decide) rfl ?_
    refine m_ret dX6_insertTenth_48 rfl ?_
    rw [up2_va]
    exact H
  | p + 1, f, hp, H => by
    have e1 : nI (p + 1) - 1 = nI p := nI_pred p
    refine z_iload_n dX6_insertTenth_5 rfl ?_
    refine z_if_le 41 dX6_insertTenth_6 (by decide) (fun h6 => absurd h6 (nI_nle (by omega) (by omega))) (fun h6 => ?_)
    refine z_aload_n dX6_insertTenth_9 rfl ?_
    refine m_getr dX6_insertTenth_10 fX6_9 sh49 rfl ?_
    refine z_iload_n dX6_insertTenth_13 rfl ?_
    refine z_iconst (v := 1) dX6_insertTenth_14 rfl ?_
    refine z_isub dX6_insertTenth_15 ?_
    rw [show (nI (p + 1) - 1) = nI p from e1]
    refine m_ialdN (j := p) dX6_insertTenth_16 sh50 rfl (by omega) rfl ?_
    refine z_iload_n dX6_insertTenth_17 rfl ?_
    refine z_icmp_le 41 dX6_insertTenth_18 (by decide) (fun h18 => ?_) (fun h18 => ?_)
    · skip
      refine z_aload_n dX6_insertTenth_41 rfl ?_
      refine m_getr dX6_insertTenth_42 fX6_9 sh49 rfl ?_
      refine z_iload_n dX6_insertTenth_45 rfl ?_
      refine z_iload_n dX6_insertTenth_46 rfl ?_
      refine m_iastN (j := (p + 1)) dX6_insertTenth_47 sh50 rfl (by omega) rfl ?_
      refine m_ret dX6_insertTenth_48 rfl ?_
      rw [up2_va]
      rw [va_up_self] at h18
      rw [zIt, if_pos h18] at H
      exact H
    · skip
      refine z_aload_n dX6_insertTenth_21 rfl ?_
      refine m_getr dX6_insertTenth_22 fX6_9 sh49 rfl ?_
      refine z_iload_n dX6_insertTenth_25 rfl ?_
      refine z_aload_n dX6_insertTenth_26 rfl ?_
      refine m_getr dX6_insertTenth_27 fX6_9 sh49 rfl ?_
      refine z_iload_n dX6_insertTenth_30 rfl ?_
      refine z_iconst (v := 1) dX6_insertTenth_31 rfl ?_
      refine z_isub dX6_insertTenth_32 ?_
      rw [show (nI (p + 1) - 1) = nI p from e1]
      refine m_ialdN (j := p) dX6_insertTenth_33 sh50 rfl (by omega) rfl ?_
      refine m_iastN (j := (p + 1)) dX6_insertTenth_34 sh50 rfl (by omega) rfl ?_
      refine z_iinc (fun y => [(2, .int y), (0, .ref 49), (1, .int t)]) dX6_insertTenth_35 rfl rfl (fun _ => rfl) (fun x2_35 ex2_35 => ?_)
      obtain rfl : x2_35 = nI p := by rw [ex2_35]; exact pk_m1 p
      refine z_goto 5 dX6_insertTenth_38 (by decide) ?_
      rw [va_up_self] at h18
      rw [va_up_self, up2_va]
      refine c_itIn p _ (by omega) ?_
      rw [zIt, if_neg h18] at H
      exact H
set_option maxRecDepth 100000 in
set_option maxHeartbeats 400000 in
theorem c_insertTenth {l : Launch} {G : zG} {μ : Mem} {ν : Lng} {c : Nat} (hc : μ 49 3 = nI c) (hc6 : c < 6) {t : Int32}  : Cm l G mX6_insertTenth [.ref 49, .int t] μ ν (fun _ b9 c9 => va_up μ 50 (zIt t c (μ 50)) = b9 ∧ ν = c9) := by
  refine Con.of (by decide) (Nat.le_of_ble_eq_true rfl) ?_
  show Am l G mX6_insertTenth 0 [(0, .ref 49), (1, .int t)] [] μ ν _
  refine z_aload_n dX6_insertTenth_0 rfl ?_
  refine m_geti dX6_insertTenth_1 fX6_21 sh49 rfl ?_
  rw [hc]
  refine z_istore_n (i := 2) (fun y => [(2, .int y), (0, .ref 49), (1, .int t)]) dX6_insertTenth_4 rfl rfl (fun _ => rfl) (fun x9 e9 => ?_)
  subst e9
  have e := c_itIn (l := l) (G := G) (t := t) (ν := ν) (μ := μ) (K := fun _ b9 c9 => va_up μ 50 (zIt t c (μ 50)) = b9 ∧ ν = c9) c (μ 50) hc6 ⟨rfl, rfl⟩
  rw [va_same rfl] at e
  exact e
