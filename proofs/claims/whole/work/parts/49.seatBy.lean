
def zFa : Nat → Nat
  | 0 => 1
  | n + 1 => (n + 1) * zFa n
theorem zFa_pos : ∀ n, 0 < zFa n
  | 0 => by decide
  | n + 1 => by
    rw [zFa]
    exact Nat.mul_pos (by omega) (zFa_pos n)
theorem zord_fa {j : Nat} (h : j ≤ 6) : zord j = nI (zFa j) := by
  rcases (show j = 0 ∨ j = 1 ∨ j = 2 ∨ j = 3 ∨ j = 4 ∨ j = 5 ∨ j = 6 by omega) with rfl | rfl | rfl | rfl | rfl | rfl | rfl <;> rfl
theorem zFa_le {j : Nat} (h : j ≤ 6) : zFa j ≤ 720 := by
  rcases (show j = 0 ∨ j = 1 ∨ j = 2 ∨ j = 3 ∨ j = 4 ∨ j = 5 ∨ j = 6 by omega) with rfl | rfl | rfl | rfl | rfl | rfl | rfl <;> decide
theorem zmx {j : Nat} (h0 : 0 < j) (h1 : j < 2 ^ 31) : (if (1 : Int32) < nI j then nI j else 1) = nI j := by
  by_cases h : (1 : Int32) < nI j
  · rw [if_pos h]
  · rw [if_neg h]
    rcases (show j = 1 ∨ 1 < j by omega) with rfl | q
    · rfl
    · exact absurd (show (1 : Int32) < nI j from nI_lt (a := 1) q h1) h
/-- an order by its number: what is left of the number, the row -/
def zSb (c m : Nat) (f : Nat → Int32) : Nat → Nat × (Nat → Int32)
  | 0 => (m, f)
  | p + 1 => ((zSb c m f p).1 % zFa (c - 1 - p), zBf (zSb c m f p).2 p ((zSb c m f p).1 / zFa (c - 1 - p)))
theorem zSb_lt {c m : Nat} {f : Nat → Int32} (hm : m < zFa c) : ∀ p, p ≤ c → (zSb c m f p).1 < zFa (c - p)
  | 0, _ => hm
  | p + 1, h => by
    rw [zSb, show c - (p + 1) = c - 1 - p by omega]
    exact Nat.mod_lt _ (zFa_pos _)
theorem zSb_div {c m p : Nat} {f : Nat → Int32} (hm : m < zFa c) (hp : p < c) : (zSb c m f p).1 / zFa (c - 1 - p) < c - p := by
  have h := zSb_lt (f := f) hm p (by omega)
  rw [show c - p = (c - 1 - p) + 1 by omega, zFa] at h
  rw [Nat.div_lt_iff_lt_mul (zFa_pos _)]
  rw [show c - p = (c - 1 - p) + 1 by omega]
  exact h
set_option maxRecDepth 100000 in
set_option maxHeartbeats 400000 in
theorem c_seatBy {l : Launch} {G : zG} {μ : Mem} {ν : Lng} {c m : Nat} (hc : μ 49 3 = nI c) (hc6 : c ≤ 6) (hm : m < zFa c)  : Cm l G mX6_seatBy [.ref 49, .int (nI m)] μ ν (fun _ b9 c9 => va_up μ 51 (zSb c m (va_cpy (μ 52) (μ 51) 0 0 c) c).2 = b9 ∧ ν = c9) := by
  refine Con.of (by decide) (Nat.le_of_ble_eq_true rfl) ?_
  show Am l G mX6_seatBy 0 [(0, .ref 49), (1, .int (nI m))] [] μ ν _
  have hfa := zFa_le hc6
  have hq : ∀ p, (va_up μ 51 (zSb c m (va_cpy (μ 52) (μ 51) 0 0 c) p).2) 49 3 = nI c := fun p => hc
  have hL := m_for (l := l) (G := G) (M := mX6_seatBy) (pc := 21) (ν := ν) (K := (fun _ b9 c9 => va_up μ 51 (zSb c m (va_cpy (μ 52) (μ 51) 0 0 c) c).2 = b9 ∧ ν = c9)) (N := c) (fun p => [(3, .int (nI p)), (2, .int (nI (zSb c m (va_cpy (μ 52) (μ 51) 0 0 c) p).1)), (0, .ref 49), (1, .int (nI m))]) (fun p => va_up μ 51 (zSb c m (va_cpy (μ 52) (μ 51) 0 0 c) p).2) (fun p hi H => by
    refine z_iload_n dX6_seatBy_21 rfl ?_
    refine z_aload_n dX6_seatBy_22 rfl ?_
    refine m_geti dX6_seatBy_23 fX6_21 sh49 rfl ?_
    refine z_icmp_ge 78 dX6_seatBy_26 (by decide) (fun h26 => absurd (hq p ▸ h26) (nI_ge hi (by omega))) (fun h26 => ?_)
    have hlt := zSb_lt (f := va_cpy (μ 52) (μ 51) 0 0 c) hm p (by omega)
    have hdv := zSb_div (f := va_cpy (μ 52) (μ 51) 0 0 c) hm hi
    have hf1 := zFa_le (j := c - p) (by omega)
    have hf2 := zFa_le (j := c - 1 - p) (by omega)
    have hf3 := zFa_pos (c - 1 - p)
    refine z_iconst (v := 1) dX6_seatBy_29 rfl ?_
    refine z_gets dX6_seatBy_30 gX6_42 ?_
    refine z_aload_n dX6_seatBy_33 rfl ?_
    refine m_geti dX6_seatBy_34 fX6_21 sh49 rfl ?_
    rw [hq p]
    refine z_iconst (v := 1) dX6_seatBy_37 rfl ?_
    refine z_isub dX6_seatBy_38 ?_
    rw [show (nI c - 1) = nI (c - 1) from zN_mono_pred (by omega)]
    refine z_iload_n dX6_seatBy_39 rfl ?_
    refine z_isub dX6_seatBy_40 ?_
    rw [show (nI (c - 1) - nI p) = nI (c - 1 - p) from pk_sub (by omega)]
    refine m_oald (j := (c - 1 - p)) dX6_seatBy_41 rfl (by omega) ?_
    rw [zord_fa (by omega)]
    refine z_max dX6_seatBy_42 kX6_51 wSt_max wIniMath wCo_max rfl rfl rfl rfl ?_
    rw [show (if 1 < nI (zFa (c - 1 - p)) then nI (zFa (c - 1 - p)) else 1) = nI (zFa (c - 1 - p)) from zmx hf3 (by omega)]
    refine z_istore (i := 4) (fun y => [(4, .int y), (3, .int (nI p)), (2, .int (nI (zSb c m (va_cpy (μ 52) (μ 51) 0 0 c) p).1)), (0, .ref 49), (1, .int (nI m))]) dX6_seatBy_45 rfl (fun _ => rfl) (fun x9 e9 => ?_)
    subst e9
    refine z_aload_n dX6_seatBy_47 rfl ?_
    refine z_iload_n dX6_seatBy_48 rfl ?_
    refine z_iload_n dX6_seatBy_49 rfl ?_
    refine z_iload dX6_seatBy_50 rfl ?_
    refine z_idiv dX6_seatBy_52 (nI_ne0 hf3 (by omega)) ?_
    rw [show (nI (zSb c m (va_cpy (μ 52) (μ 51) 0 0 c) p).1 / nI (zFa (c - 1 - p))) = nI ((zSb c m (va_cpy (μ 52) (μ 51) 0 0 c) p).1 / zFa (c - 1 - p)) from pk_div (by omega) hf3 (by omega)]
    refine z_iadd dX6_seatBy_53 ?_
    rw [show (nI p + nI ((zSb c m (va_cpy (μ 52) (μ 51) 0 0 c) p).1 / zFa (c - 1 - p))) = nI (p + ((zSb c m (va_cpy (μ 52) (μ 51) 0 0 c) p).1 / zFa (c - 1 - p))) from nI_add _ _]
    refine z_aload_n dX6_seatBy_54 rfl ?_
    refine m_geti dX6_seatBy_55 fX6_21 sh49 rfl ?_
    rw [hq p]
    refine z_iconst (v := 1) dX6_seatBy_58 rfl ?_
    refine z_isub dX6_seatBy_59 ?_
    rw [show (nI c - 1) = nI (c - 1) from zN_mono_pred (by omega)]
    refine z_min dX6_seatBy_60 kX6_57 wSt_min wIniMath wCo_min rfl rfl rfl rfl ?_
    rw [show (if nI (c - 1) < nI (p + ((zSb c m (va_cpy (μ 52) (μ 51) 0 0 c) p).1 / zFa (c - 1 - p))) then nI (c - 1) else nI (p + ((zSb c m (va_cpy (μ 52) (μ 51) 0 0 c) p).1 / zFa (c - 1 - p)))) = nI (p + ((zSb c m (va_cpy (μ 52) (μ 51) 0 0 c) p).1 / zFa (c - 1 - p))) from if_neg (nI_nlt (by omega) (by omega))]
    refine z_iload_n dX6_seatBy_63 rfl ?_
    refine m_callVv (As := [.int _, .int _]) dX6_seatBy_64 kX6_60 ⟨rfl, rfl⟩ rfl ⟨rfl, rfl⟩ rfl rfl sh49 rfl rfl (c_bring (b := p) (d := ((zSb c m (va_cpy (μ 52) (μ 51) 0 0 c) p).1 / zFa (c - 1 - p))) (by omega)) (fun μ64 ν64 hk64 => ?_)
    obtain ⟨rfl, rfl⟩ := hk64
    refine z_iload_n dX6_seatBy_67 rfl ?_
    refine z_iload dX6_seatBy_68 rfl ?_
    refine z_irem dX6_seatBy_70 (nI_ne0 hf3 (by omega)) ?_
    rw [show (nI (zSb c m (va_cpy (μ 52) (μ 51) 0 0 c) p).1 - nI (zSb c m (va_cpy (μ 52) (μ 51) 0 0 c) p).1 / nI (zFa (c - 1 - p)) * nI (zFa (c - 1 - p))) = nI ((zSb c m (va_cpy (μ 52) (μ 51) 0 0 c) p).1 % zFa (c - 1 - p)) from pk_rem (by omega) hf3 (by omega)]
    refine z_istore_n (i := 2) (fun y => [(2, .int y), (4, .int (nI (zFa (c - 1 - p)))), (3, .int (nI p)), (0, .ref 49), (1, .int (nI m))]) dX6_seatBy_71 rfl rfl (fun _ => rfl) (fun x9 e9 => ?_)
    subst e9
    refine z_iinc (fun y => [(3, .int y), (2, .int (nI ((zSb c m (va_cpy (μ 52) (μ 51) 0 0 c) p).1 % zFa (c - 1 - p)))), (4, .int (nI (zFa (c - 1 - p)))), (0, .ref 49), (1, .int (nI m))]) dX6_seatBy_72 rfl rfl (fun _ => rfl) (fun x3_72 ex3_72 => ?_)
    obtain rfl : x3_72 = nI (p + 1) := by rw [ex3_72]; exact nI_1 p
    refine z_goto 21 dX6_seatBy_75 (by decide) ?_
    refine z_lv [0, 1, 3, 4] rfl ?_
    rw [va_up_self, va_up2]
    exact H) (by
    refine z_iload_n dX6_seatBy_21 rfl ?_
    refine z_aload_n dX6_seatBy_22 rfl ?_
    refine m_geti dX6_seatBy_23 fX6_21 sh49 rfl ?_
    refine z_icmp_ge 78 dX6_seatBy_26 (by decide) (fun h26 => ?_) (fun h26 => absurd (hq c ▸ nI_le (Nat.le_refl c) (by omega)) h26)
    refine m_ret dX6_seatBy_78 rfl ?_
    exact ⟨rfl, rfl⟩)
  refine z_aload_n dX6_seatBy_0 rfl ?_
  refine m_getr dX6_seatBy_1 fX6_18 sh49 rfl ?_
  refine z_iconst (v := 0) dX6_seatBy_4 rfl ?_
  refine z_aload_n dX6_seatBy_5 rfl ?_
  refine m_getr dX6_seatBy_6 fX6_15 sh49 rfl ?_
  refine z_iconst (v := 0) dX6_seatBy_9 rfl ?_
  refine z_aload_n dX6_seatBy_10 rfl ?_
  refine m_geti dX6_seatBy_11 fX6_21 sh49 rfl ?_
  rw [hc]
  refine m_copy dX6_seatBy_14 kX6_45 wNat_copy wSt_copy wIniSys sh52 sh51 (by decide) (by decide) (nI_pos (by omega)) (by rw [nI_clamp (show c < 2 ^ 31 by omega)]; show 0 + c ≤ 6; omega) (by rw [nI_clamp (show c < 2 ^ 31 by omega)]; show 0 + c ≤ 6; omega) rfl rfl ?_
  rw [nI_clamp (show c < 2 ^ 31 by omega)]
  refine z_iload_n dX6_seatBy_17 rfl ?_
  refine z_istore_n (i := 2) (fun y => [(2, .int y), (0, .ref 49), (1, .int (nI m))]) dX6_seatBy_18 rfl rfl (fun _ => rfl) (fun x9 e9 => ?_)
  subst e9
  refine z_iconst (v := 0) dX6_seatBy_19 rfl ?_
  refine z_istore_n (i := 3) (fun y => [(3, .int y), (2, .int (nI m)), (0, .ref 49), (1, .int (nI m))]) dX6_seatBy_20 rfl rfl (fun _ => rfl) (fun x9 e9 => ?_)
  subst e9
  exact hL 0 (Nat.zero_le _)
