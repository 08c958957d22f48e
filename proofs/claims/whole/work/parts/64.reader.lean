
theorem zltL {M : Mem} {s : zCu} {L b : Nat} (hL : M 1 4 = nI L) (hL2 : L ≤ 250) (hb : b ≤ L) (h : ¬ mC M s 1 4 ≤ nI b) : b < L := by
  have e : ¬ M 1 4 ≤ nI b := h
  rw [hL] at e
  exact Nat.lt_of_not_le (fun q => e ((nI_leI (by omega) (by omega)).mpr q))
theorem zgeL {M : Mem} {s : zCu} {L b : Nat} (hL : M 1 4 = nI L) (hL2 : L ≤ 250) (h : mC M s 1 4 ≤ nI b) : ¬ b < L := fun q => by
  have e : M 1 4 ≤ nI b := h
  rw [hL] at e
  exact absurd e (nI_ge q (by omega))
set_option maxRecDepth 100000 in
set_option maxHeartbeats 400000 in
theorem c_fail {l : Launch} {G : zG} {M : Mem} {ν : Lng} {s : zCu} {x z : Int32}  : Cm l G mX5_fail [.ref 1, .int x, .int z] (mC M s) ν (fun _ b9 c9 => mC M (zFl s x z) = b9 ∧ ν = c9) := by
  refine Con.of (by decide) (Nat.le_of_ble_eq_true rfl) ?_
  show Am l G mX5_fail 0 [(0, .ref 1), (1, .int x), (2, .int z)] [] (mC M s) ν _
  refine z_aload_n dX5_fail_0 rfl ?_
  refine m_geti dX5_fail_1 fX5_36 sh1 rfl ?_
  refine z_if_ne 17 dX5_fail_4 (by decide) (fun h4 => ?_) (fun h4 => ?_)
  · skip
    refine m_ret dX5_fail_17 rfl ?_
    first | exact ⟨by rw [zFl_st h4], rfl⟩ | exact ⟨by rw [mC_uf, mC_upl]; unfold zFl; rw [if_pos (show s.1 = 0 from h4)], rfl⟩
  · skip
    refine z_aload_n dX5_fail_7 rfl ?_
    refine z_iload_n dX5_fail_8 rfl ?_
    refine m_puti dX5_fail_9 fX5_36 (fun q h => by cases h; rfl) rfl rfl sh1 rfl ?_
    refine z_aload_n dX5_fail_12 rfl ?_
    refine z_iload_n dX5_fail_13 rfl ?_
    refine m_puti dX5_fail_14 fX5_39 (fun q h => by cases h; rfl) rfl rfl sh1 rfl ?_
    refine m_ret dX5_fail_17 rfl ?_
    first | exact ⟨by rw [zFl_st h4], rfl⟩ | exact ⟨by rw [mC_uf, mC_upl]; unfold zFl; rw [if_pos (show s.1 = 0 from h4)], rfl⟩
set_option maxRecDepth 100000 in
set_option maxHeartbeats 400000 in
theorem c_fig1 {l : Launch} {G : zG} {μ : Mem} {ν : Lng} {L a : Nat} (hL : μ 1 4 = nI L) (hL2 : L ≤ 250) (h : a < L) (h0 : zDi (μ 13 a) = true)  : Cm l G mX5_figureAt [.ref 1, .int (nI a)] μ ν (fun a9 b9 c9 => (1 : Int32) = a9 ∧ μ = b9 ∧ ν = c9) := by
  have hd := zDi_iff.mp h0
  refine Con.of (by decide) (Nat.le_of_ble_eq_true rfl) ?_
  show Am l G mX5_figureAt 0 [(0, .ref 1), (1, .int (nI a))] [] μ ν _
  refine z_iload_n dX5_figureAt_0 rfl ?_
  refine z_aload_n dX5_figureAt_1 rfl ?_
  refine m_geti dX5_figureAt_2 fX5_32 sh1 rfl ?_
  refine z_icmp_ge 34 dX5_figureAt_5 (by decide) (fun h5 => absurd (hL ▸ h5) (nI_ge h (by omega))) (fun h5 => ?_)
  refine z_aload_n dX5_figureAt_8 rfl ?_
  refine m_getr dX5_figureAt_9 fX5_25 sh1 rfl ?_
  refine z_iload_n dX5_figureAt_12 rfl ?_
  refine m_ialdN (j := a) dX5_figureAt_13 sh13 rfl (by omega) rfl ?_
  refine z_bipush (v := 48) dX5_figureAt_14 rfl ?_
  refine z_icmp_lt 34 dX5_figureAt_16 (by decide) (fun h16 => (znle hd.1 h16).elim) (fun h16 => ?_)
  refine z_aload_n dX5_figureAt_19 rfl ?_
  refine m_getr dX5_figureAt_20 fX5_25 sh1 rfl ?_
  refine z_iload_n dX5_figureAt_23 rfl ?_
  refine m_ialdN (j := a) dX5_figureAt_24 sh13 rfl (by omega) rfl ?_
  refine z_bipush (v := 57) dX5_figureAt_25 rfl ?_
  refine z_icmp_gt 34 dX5_figureAt_27 (by decide) (fun h27 => (znle hd.2 h27).elim) (fun h27 => ?_)
  refine z_iconst (v := 1) dX5_figureAt_30 rfl ?_
  refine z_goto 35 dX5_figureAt_31 (by decide) ?_
  refine m_iret dX5_figureAt_35 rfl rfl ?_
  exact ⟨rfl, rfl, rfl⟩
set_option maxRecDepth 100000 in
set_option maxHeartbeats 400000 in
theorem c_fig0 {l : Launch} {G : zG} {μ : Mem} {ν : Lng} {L a : Nat} (hL : μ 1 4 = nI L) (hL2 : L ≤ 250) (ha : a ≤ L) (h0 : ¬ (a < L ∧ zDi (μ 13 a) = true))  : Cm l G mX5_figureAt [.ref 1, .int (nI a)] μ ν (fun a9 b9 c9 => (0 : Int32) = a9 ∧ μ = b9 ∧ ν = c9) := by
  refine Con.of (by decide) (Nat.le_of_ble_eq_true rfl) ?_
  show Am l G mX5_figureAt 0 [(0, .ref 1), (1, .int (nI a))] [] μ ν _
  refine z_iload_n dX5_figureAt_0 rfl ?_
  refine z_aload_n dX5_figureAt_1 rfl ?_
  refine m_geti dX5_figureAt_2 fX5_32 sh1 rfl ?_
  refine z_icmp_ge 34 dX5_figureAt_5 (by decide) (fun h5 => ?_) (fun h5 => ?_)
  · skip
    refine z_iconst (v := 0) dX5_figureAt_34 rfl ?_
    refine m_iret dX5_figureAt_35 rfl rfl ?_
    exact ⟨rfl, rfl, rfl⟩
  · skip
    have hlt : a < L := by
      rw [hL] at h5
      exact Nat.lt_of_not_le (fun q => h5 ((nI_leI (by omega) (by omega)).mpr q))
    refine z_aload_n dX5_figureAt_8 rfl ?_
    refine m_getr dX5_figureAt_9 fX5_25 sh1 rfl ?_
    refine z_iload_n dX5_figureAt_12 rfl ?_
    refine m_ialdN (j := a) dX5_figureAt_13 sh13 rfl (by omega) rfl ?_
    refine z_bipush (v := 48) dX5_figureAt_14 rfl ?_
    refine z_icmp_lt 34 dX5_figureAt_16 (by decide) (fun h16 => ?_) (fun h16 => ?_)
    · skip
      refine z_iconst (v := 0) dX5_figureAt_34 rfl ?_
      refine m_iret dX5_figureAt_35 rfl rfl ?_
      exact ⟨rfl, rfl, rfl⟩
    · skip
      refine z_aload_n dX5_figureAt_19 rfl ?_
      refine m_getr dX5_figureAt_20 fX5_25 sh1 rfl ?_
      refine z_iload_n dX5_figureAt_23 rfl ?_
      refine m_ialdN (j := a) dX5_figureAt_24 sh13 rfl (by omega) rfl ?_
      refine z_bipush (v := 57) dX5_figureAt_25 rfl ?_
      refine z_icmp_gt 34 dX5_figureAt_27 (by decide) (fun h27 => ?_) (fun h27 => (h0 ⟨hlt, zDi_iff.mpr ⟨Int32.not_lt.mp h16, Int32.not_lt.mp h27⟩⟩).elim)
      refine z_iconst (v := 0) dX5_figureAt_34 rfl ?_
      refine m_iret dX5_figureAt_35 rfl rfl ?_
      exact ⟨rfl, rfl, rfl⟩
set_option maxRecDepth 100000 in
set_option maxHeartbeats 400000 in
theorem c_skip {l : Launch} {G : zG} {M : Mem} {ν : Lng} {s : zCu} {T : Nat → Int32} {L : Nat} (hT : M 13 = T) (hL : M 1 4 = nI L) (hL2 : L ≤ 250) (ha : s.2.2.1 ≤ L)  : Cm l G mX5_skipBlanks [.ref 1] (mC M s) ν (fun _ b9 c9 => mC M (s.1, s.2.1, zBk T L s.2.2.1, s.2.2.2) = b9 ∧ ν = c9) := by
  refine Con.of (by decide) (Nat.le_of_ble_eq_true rfl) ?_
  show Am l G mX5_skipBlanks 0 [(0, .ref 1)] [] (mC M s) ν _
  obtain ⟨b1, b2, b3, b4⟩ := zBk_sp (T := T) ha
  have hL1 := m_for (l := l) (G := G) (M := mX5_skipBlanks) (pc := 2) (ν := ν) (K := (fun _ b9 c9 => mC M (s.1, s.2.1, zBk T L s.2.2.1, s.2.2.2) = b9 ∧ ν = c9)) (N := (zBk T L s.2.2.1 - s.2.2.1)) (fun i => [(1, .int (nI i)), (0, .ref 1)]) (fun i => mC M (s.1, s.2.1, s.2.2.1 + i, s.2.2.2)) (fun i hi H => by
    refine z_iload_n dX5_skipBlanks_2 rfl ?_
    refine z_sipush (v := 250) dX5_skipBlanks_3 rfl ?_
    refine z_icmp_ge 50 dX5_skipBlanks_6 (by decide) (fun h6 => absurd h6 (nI_ge (a := i) (b := 250) (by omega) (by omega))) (fun h6 => ?_)
    refine z_aload_n dX5_skipBlanks_9 rfl ?_
    refine m_geti dX5_skipBlanks_10 fX5_42 sh1 rfl ?_
    rw [show mC M (s.1, s.2.1, s.2.2.1 + i, s.2.2.2) 1 7 = nI (s.2.2.1 + i) from rfl]
    refine z_aload_n dX5_skipBlanks_13 rfl ?_
    refine m_geti dX5_skipBlanks_14 fX5_32 sh1 rfl ?_
    refine z_icmp_ge 50 dX5_skipBlanks_17 (by decide) (fun h17 => absurd (show s.2.2.1 + i < L by omega) (zgeL hL hL2 h17)) (fun h17 => ?_)
    refine z_aload_n dX5_skipBlanks_20 rfl ?_
    refine m_getr dX5_skipBlanks_21 fX5_25 sh1 rfl ?_
    refine z_aload_n dX5_skipBlanks_24 rfl ?_
    refine m_geti dX5_skipBlanks_25 fX5_42 sh1 rfl ?_
    refine m_ialdN (j := s.2.2.1 + i) dX5_skipBlanks_28 sh13 rfl (by omega) rfl ?_
    rw [mC_ne (show 13 ≠ 1 by decide), hT]
    refine z_bipush (v := 32) dX5_skipBlanks_29 rfl ?_
    refine z_icmp_ne 50 dX5_skipBlanks_31 (by decide) (fun h31 => absurd (b3 (s.2.2.1 + i) (by omega) (by omega)) h31) (fun h31 => ?_)
    refine z_aload_n dX5_skipBlanks_34 rfl ?_
    refine z_dup dX5_skipBlanks_35 rfl ?_
    refine m_geti dX5_skipBlanks_36 fX5_42 sh1 rfl ?_
    rw [show mC M (s.1, s.2.1, s.2.2.1 + i, s.2.2.2) 1 7 = nI (s.2.2.1 + i) from rfl]
    refine z_iconst (v := 1) dX5_skipBlanks_39 rfl ?_
    refine z_iadd dX5_skipBlanks_40 ?_
    rw [show (nI (s.2.2.1 + i) + 1) = nI (s.2.2.1 + i + 1) from nI_1 _]
    refine m_puti dX5_skipBlanks_41 fX5_42 (fun q h => by cases h; rfl) rfl rfl sh1 rfl ?_
    refine z_iinc (fun y => [(1, .int y), (0, .ref 1)]) dX5_skipBlanks_44 rfl rfl (fun _ => rfl) (fun x1_44 ex1_44 => ?_)
    obtain rfl : x1_44 = nI (i + 1) := by rw [ex1_44]; exact nI_1 i
    refine z_goto 2 dX5_skipBlanks_47 (by decide) ?_
    rw [mC_ua]
    exact H) (by
    rw [show s.2.2.1 + (zBk T L s.2.2.1 - s.2.2.1) = zBk T L s.2.2.1 by omega]
    refine z_iload_n dX5_skipBlanks_2 rfl ?_
    refine z_sipush (v := 250) dX5_skipBlanks_3 rfl ?_
    refine z_icmp_ge 50 dX5_skipBlanks_6 (by decide) (fun h6 => ?_) (fun h6 => ?_)
    · skip
      refine m_ret dX5_skipBlanks_50 rfl ?_
      exact ⟨rfl, rfl⟩
    · skip
      refine z_aload_n dX5_skipBlanks_9 rfl ?_
      refine m_geti dX5_skipBlanks_10 fX5_42 sh1 rfl ?_
      rw [show mC M (s.1, s.2.1, zBk T L s.2.2.1, s.2.2.2) 1 7 = nI (zBk T L s.2.2.1) from rfl]
      refine z_aload_n dX5_skipBlanks_13 rfl ?_
      refine m_geti dX5_skipBlanks_14 fX5_32 sh1 rfl ?_
      refine z_icmp_ge 50 dX5_skipBlanks_17 (by decide) (fun h17 => ?_) (fun h17 => ?_)
      · skip
        refine m_ret dX5_skipBlanks_50 rfl ?_
        exact ⟨rfl, rfl⟩
      · skip
        refine z_aload_n dX5_skipBlanks_20 rfl ?_
        refine m_getr dX5_skipBlanks_21 fX5_25 sh1 rfl ?_
        refine z_aload_n dX5_skipBlanks_24 rfl ?_
        refine m_geti dX5_skipBlanks_25 fX5_42 sh1 rfl ?_
        refine m_ialdN (j := zBk T L s.2.2.1) dX5_skipBlanks_28 sh13 rfl (by have := zltL hL hL2 b2 h17; omega) rfl ?_
        rw [mC_ne (show 13 ≠ 1 by decide), hT]
        refine z_bipush (v := 32) dX5_skipBlanks_29 rfl ?_
        refine z_icmp_ne 50 dX5_skipBlanks_31 (by decide) (fun h31 => ?_) (fun h31 => absurd h31 (b4 (zltL hL hL2 b2 h17)))
        refine m_ret dX5_skipBlanks_50 rfl ?_
        exact ⟨rfl, rfl⟩)
  refine z_iconst (v := 0) dX5_skipBlanks_0 rfl ?_
  refine z_istore_n (i := 1) (fun y => [(1, .int y), (0, .ref 1)]) dX5_skipBlanks_1 rfl rfl (fun _ => rfl) (fun x9 e9 => ?_)
  subst e9
  exact hL1 0 (Nat.zero_le _)
set_option maxRecDepth 100000 in
set_option maxHeartbeats 400000 in
theorem c_readEnd {l : Launch} {G : zG} {M : Mem} {ν : Lng} {s : zCu} {T : Nat → Int32} {L : Nat} (hT : M 13 = T) (hL : M 1 4 = nI L) (hL2 : L ≤ 250) (ha : s.2.2.1 ≤ L)  : Cm l G mX5_readEnd [.ref 1] (mC M s) ν (fun _ b9 c9 => mC M (zEn T L s) = b9 ∧ ν = c9) := by
  obtain ⟨b1, b2, b3, b4⟩ := zBk_sp (T := T) ha
  refine Con.of (by decide) (Nat.le_of_ble_eq_true rfl) ?_
  show Am l G mX5_readEnd 0 [(0, .ref 1)] [] (mC M s) ν _
  refine z_aload_n dX5_readEnd_0 rfl ?_
  refine m_callVv (As := []) dX5_readEnd_1 kX5_65 ⟨rfl, rfl⟩ rfl ⟨rfl, rfl⟩ rfl rfl sh1 rfl rfl (c_skip hT hL hL2 ha) (fun μ1 ν1 hk1 => ?_)
  obtain ⟨rfl, rfl⟩ := hk1
  refine z_aload_n dX5_readEnd_4 rfl ?_
  refine m_geti dX5_readEnd_5 fX5_42 sh1 rfl ?_
  rw [show mC M (s.1, s.2.1, zBk T L s.2.2.1, s.2.2.2) 1 7 = nI (zBk T L s.2.2.1) from rfl]
  refine z_aload_n dX5_readEnd_8 rfl ?_
  refine m_geti dX5_readEnd_9 fX5_32 sh1 rfl ?_
  refine z_icmp_ge 29 dX5_readEnd_12 (by decide) (fun h12 => ?_) (fun h12 => ?_)
  · skip
    refine z_aload_n dX5_readEnd_29 rfl ?_
    refine z_iconst (v := 1) dX5_readEnd_30 rfl ?_
    refine z_aload_n dX5_readEnd_31 rfl ?_
    refine m_geti dX5_readEnd_32 fX5_42 sh1 rfl ?_
    rw [show mC M (s.1, s.2.1, zBk T L s.2.2.1, s.2.2.2) 1 7 = nI (zBk T L s.2.2.1) from rfl]
    refine m_callVv (As := [.int _, .int _]) dX5_readEnd_35 kX5_84 ⟨rfl, rfl⟩ rfl ⟨rfl, rfl⟩ rfl rfl sh1 rfl rfl c_fail (fun μ35 ν35 hk35 => ?_)
    obtain ⟨rfl, rfl⟩ := hk35
    refine m_ret dX5_readEnd_38 rfl ?_
    first | exact ⟨by unfold zEn; rw [if_neg (fun e => zgeL hL hL2 h12 e.1)], rfl⟩ | exact ⟨by unfold zEn; rw [if_neg (fun e => h26 e.2)], rfl⟩
  · skip
    have hlt := zltL hL hL2 b2 h12
    refine z_aload_n dX5_readEnd_15 rfl ?_
    refine m_getr dX5_readEnd_16 fX5_25 sh1 rfl ?_
    refine z_aload_n dX5_readEnd_19 rfl ?_
    refine m_geti dX5_readEnd_20 fX5_42 sh1 rfl ?_
    refine m_ialdN (j := zBk T L s.2.2.1) dX5_readEnd_23 sh13 rfl (by omega) rfl ?_
    rw [mC_ne (show 13 ≠ 1 by decide), hT]
    refine z_bipush (v := 59) dX5_readEnd_24 rfl ?_
    refine z_icmp_eq 39 dX5_readEnd_26 (by decide) (fun h26 => ?_) (fun h26 => ?_)
    · skip
      refine z_aload_n dX5_readEnd_39 rfl ?_
      refine z_dup dX5_readEnd_40 rfl ?_
      refine m_geti dX5_readEnd_41 fX5_42 sh1 rfl ?_
      rw [show mC M (s.1, s.2.1, zBk T L s.2.2.1, s.2.2.2) 1 7 = nI (zBk T L s.2.2.1) from rfl]
      refine z_iconst (v := 1) dX5_readEnd_44 rfl ?_
      refine z_iadd dX5_readEnd_45 ?_
      rw [show (nI (zBk T L s.2.2.1) + 1) = nI (zBk T L s.2.2.1 + 1) from nI_1 _]
      refine m_puti dX5_readEnd_46 fX5_42 (fun q h => by cases h; rfl) rfl rfl sh1 rfl ?_
      refine m_ret dX5_readEnd_49 rfl ?_
      exact ⟨by unfold zEn; rw [mC_ua, if_pos ⟨hlt, h26⟩], rfl⟩
    · skip
      refine z_aload_n dX5_readEnd_29 rfl ?_
      refine z_iconst (v := 1) dX5_readEnd_30 rfl ?_
      refine z_aload_n dX5_readEnd_31 rfl ?_
      refine m_geti dX5_readEnd_32 fX5_42 sh1 rfl ?_
      rw [show mC M (s.1, s.2.1, zBk T L s.2.2.1, s.2.2.2) 1 7 = nI (zBk T L s.2.2.1) from rfl]
      refine m_callVv (As := [.int _, .int _]) dX5_readEnd_35 kX5_84 ⟨rfl, rfl⟩ rfl ⟨rfl, rfl⟩ rfl rfl sh1 rfl rfl c_fail (fun μ35 ν35 hk35 => ?_)
      obtain ⟨rfl, rfl⟩ := hk35
      refine m_ret dX5_readEnd_38 rfl ?_
      first | exact ⟨by unfold zEn; rw [if_neg (fun e => zgeL hL hL2 h12 e.1)], rfl⟩ | exact ⟨by unfold zEn; rw [if_neg (fun e => h26 e.2)], rfl⟩
set_option maxRecDepth 100000 in
set_option maxHeartbeats 400000 in
theorem c_readNumber {l : Launch} {G : zG} {M : Mem} {ν : Lng} {s : zCu} {T : Nat → Int32} {L : Nat} (hT : M 13 = T) (hL : M 1 4 = nI L) (hL2 : L ≤ 250) (ha : s.2.2.1 ≤ L) {lo up : Nat} (hlh : lo ≤ up) (hhi : up ≤ 999)  : Cm l G mX5_readNumber [.ref 1, .int (nI lo), .int (nI up)] (mC M s) ν (fun a9 b9 c9 => nI (zNu T L s lo up).2 = a9 ∧ mC M (zNu T L s lo up).1 = b9 ∧ ν = c9) := by
  refine Con.of (by decide) (Nat.le_of_ble_eq_true rfl) ?_
  show Am l G mX5_readNumber 0 [(0, .ref 1), (1, .int (nI lo)), (2, .int (nI up))] [] (mC M s) ν _
  obtain ⟨b1, b2, b3, b4⟩ := zBk_sp (T := T) ha
  obtain ⟨b, hb⟩ : ∃ b, zBk T L s.2.2.1 = b := ⟨_, rfl⟩
  rw [hb] at b1 b2 b3 b4
  have hT2 : ∀ s : zCu, mC M s 13 = T := fun s => (mC_ne (by decide)).trans hT
  by_cases hf : b < L ∧ zDi (T b) = true
  · obtain ⟨e, he⟩ : ∃ e, zEg T L b = e := ⟨_, rfl⟩
    obtain ⟨g1, g2, g3, g4⟩ := zEg_sp (T := T) b2
    rw [he] at g1 g2 g3 g4
    have gd : ∀ j, j < e - b → zDi (T (b + j)) = true := fun j hj => g3 (b + j) (by omega) (by omega)
    have eN1 : zNk T L b lo up = true → zNu T L s lo up = (⟨s.1, s.2.1, e, nI b⟩, zVl T b (e - b)) := fun hk => by
      unfold zNu
      rw [hb, if_pos hf, if_pos hk, he]
    have eN2 : ¬ zNk T L b lo up = true → zNu T L s lo up = (zFl ⟨s.1, s.2.1, e, nI b⟩ 2 (nI b), lo) := fun hk => by
      unfold zNu
      rw [hb, if_pos hf, if_neg hk, he]
    have hki := zNk_iff (T := T) (L := L) (a := b) (lo := lo) (hi := up)
    rw [he] at hki
    have hX : ∀ x4 : Int32, Am l G mX5_readNumber 98 [(4, .int x4), (3, .int (zCn T b (e - b))), (0, .ref 1), (1, .int (nI lo)), (2, .int (nI up))] [] (mC M (s.1, s.2.1, e, nI b)) ν (fun a9 b9 c9 => nI (zNu T L s lo up).2 = a9 ∧ mC M (zNu T L s lo up).1 = b9 ∧ ν = c9) := fun x4 => by
      by_cases c1 : 3 < e - b
      · skip
        refine z_aload_n dX5_readNumber_98 rfl ?_
        refine m_geti dX5_readNumber_99 fX5_42 sh1 rfl ?_
        rw [show mC M (s.1, s.2.1, e, nI b) 1 7 = nI e from rfl]
        refine z_aload_n dX5_readNumber_102 rfl ?_
        refine m_geti dX5_readNumber_103 fX5_45 sh1 rfl ?_
        rw [show mC M (s.1, s.2.1, e, nI b) 1 8 = nI b from rfl]
        refine z_isub dX5_readNumber_106 ?_
        rw [show (nI e - nI b) = nI (e - b) from pk_sub (by omega)]
        refine z_iconst (v := 3) dX5_readNumber_107 rfl ?_
        refine z_icmp_gt 121 dX5_readNumber_108 (by decide) (fun h108 => ?_) (fun h108 => absurd (nI_lt (a := 3) (b := e - b) (by omega) (by omega)) h108)
        refine z_aload_n dX5_readNumber_121 rfl ?_
        refine z_iconst (v := 2) dX5_readNumber_122 rfl ?_
        refine z_aload_n dX5_readNumber_123 rfl ?_
        refine m_geti dX5_readNumber_124 fX5_45 sh1 rfl ?_
        rw [show mC M (s.1, s.2.1, e, nI b) 1 8 = nI b from rfl]
        refine m_callVv (As := [.int _, .int _]) dX5_readNumber_127 kX5_84 ⟨rfl, rfl⟩ rfl ⟨rfl, rfl⟩ rfl rfl sh1 rfl rfl c_fail (fun μ127 ν127 hk127 => ?_)
        obtain ⟨rfl, rfl⟩ := hk127
        refine z_iload_n dX5_readNumber_130 rfl ?_
        refine m_iret dX5_readNumber_131 rfl rfl ?_
        rw [eN2 (fun q => absurd (hki.mp q) (by omega))]
        exact ⟨rfl, rfl, rfl⟩
      have hv := zVl_lt (T := T) (b := b) (e - b) gd
      have hp : 10 ^ (e - b) ≤ 10 ^ 3 := Nat.pow_le_pow_right (by decide) (by omega)
      rw [zCn_eq (e - b) (by omega) gd]
      by_cases c2 : zVl T b (e - b) < lo
      · skip
        refine z_aload_n dX5_readNumber_98 rfl ?_
        refine m_geti dX5_readNumber_99 fX5_42 sh1 rfl ?_
        rw [show mC M (s.1, s.2.1, e, nI b) 1 7 = nI e from rfl]
        refine z_aload_n dX5_readNumber_102 rfl ?_
        refine m_geti dX5_readNumber_103 fX5_45 sh1 rfl ?_
        rw [show mC M (s.1, s.2.1, e, nI b) 1 8 = nI b from rfl]
        refine z_isub dX5_readNumber_106 ?_
        rw [show (nI e - nI b) = nI (e - b) from pk_sub (by omega)]
        refine z_iconst (v := 3) dX5_readNumber_107 rfl ?_
        refine z_icmp_gt 121 dX5_readNumber_108 (by decide) (fun h108 => absurd h108 (nI_nlt (a := 3) (b := e - b) (by omega) (by omega))) (fun h108 => ?_)
        refine z_iload_n dX5_readNumber_111 rfl ?_
        refine z_iload_n dX5_readNumber_112 rfl ?_
        refine z_icmp_lt 121 dX5_readNumber_113 (by decide) (fun h113 => ?_) (fun h113 => absurd (nI_lt c2 (by omega)) h113)
        refine z_aload_n dX5_readNumber_121 rfl ?_
        refine z_iconst (v := 2) dX5_readNumber_122 rfl ?_
        refine z_aload_n dX5_readNumber_123 rfl ?_
        refine m_geti dX5_readNumber_124 fX5_45 sh1 rfl ?_
        rw [show mC M (s.1, s.2.1, e, nI b) 1 8 = nI b from rfl]
        refine m_callVv (As := [.int _, .int _]) dX5_readNumber_127 kX5_84 ⟨rfl, rfl⟩ rfl ⟨rfl, rfl⟩ rfl rfl sh1 rfl rfl c_fail (fun μ127 ν127 hk127 => ?_)
        obtain ⟨rfl, rfl⟩ := hk127
        refine z_iload_n dX5_readNumber_130 rfl ?_
        refine m_iret dX5_readNumber_131 rfl rfl ?_
        rw [eN2 (fun q => absurd (hki.mp q) (by omega))]
        exact ⟨rfl, rfl, rfl⟩
      by_cases c3 : up < zVl T b (e - b)
      · skip
        refine z_aload_n dX5_readNumber_98 rfl ?_
        refine m_geti dX5_readNumber_99 fX5_42 sh1 rfl ?_
        rw [show mC M (s.1, s.2.1, e, nI b) 1 7 = nI e from rfl]
        refine z_aload_n dX5_readNumber_102 rfl ?_
        refine m_geti dX5_readNumber_103 fX5_45 sh1 rfl ?_
        rw [show mC M (s.1, s.2.1, e, nI b) 1 8 = nI b from rfl]
        refine z_isub dX5_readNumber_106 ?_
        rw [show (nI e - nI b) = nI (e - b) from pk_sub (by omega)]
        refine z_iconst (v := 3) dX5_readNumber_107 rfl ?_
        refine z_icmp_gt 121 dX5_readNumber_108 (by decide) (fun h108 => absurd h108 (nI_nlt (a := 3) (b := e - b) (by omega) (by omega))) (fun h108 => ?_)
        refine z_iload_n dX5_readNumber_111 rfl ?_
        refine z_iload_n dX5_readNumber_112 rfl ?_
        refine z_icmp_lt 121 dX5_readNumber_113 (by decide) (fun h113 => absurd h113 (nI_nlt (by omega) (by omega))) (fun h113 => ?_)
        refine z_iload_n dX5_readNumber_116 rfl ?_
        refine z_iload_n dX5_readNumber_117 rfl ?_
        refine z_icmp_le 132 dX5_readNumber_118 (by decide) (fun h118 => absurd h118 (nI_ge c3 (by omega))) (fun h118 => ?_)
        refine z_aload_n dX5_readNumber_121 rfl ?_
        refine z_iconst (v := 2) dX5_readNumber_122 rfl ?_
        refine z_aload_n dX5_readNumber_123 rfl ?_
        refine m_geti dX5_readNumber_124 fX5_45 sh1 rfl ?_
        rw [show mC M (s.1, s.2.1, e, nI b) 1 8 = nI b from rfl]
        refine m_callVv (As := [.int _, .int _]) dX5_readNumber_127 kX5_84 ⟨rfl, rfl⟩ rfl ⟨rfl, rfl⟩ rfl rfl sh1 rfl rfl c_fail (fun μ127 ν127 hk127 => ?_)
        obtain ⟨rfl, rfl⟩ := hk127
        refine z_iload_n dX5_readNumber_130 rfl ?_
        refine m_iret dX5_readNumber_131 rfl rfl ?_
        rw [eN2 (fun q => absurd (hki.mp q) (by omega))]
        exact ⟨rfl, rfl, rfl⟩
      refine z_aload_n dX5_readNumber_98 rfl ?_
      refine m_geti dX5_readNumber_99 fX5_42 sh1 rfl ?_
      rw [show mC M (s.1, s.2.1, e, nI b) 1 7 = nI e from rfl]
      refine z_aload_n dX5_readNumber_102 rfl ?_
      refine m_geti dX5_readNumber_103 fX5_45 sh1 rfl ?_
      rw [show mC M (s.1, s.2.1, e, nI b) 1 8 = nI b from rfl]
      refine z_isub dX5_readNumber_106 ?_
      rw [show (nI e - nI b) = nI (e - b) from pk_sub (by omega)]
      refine z_iconst (v := 3) dX5_readNumber_107 rfl ?_
      refine z_icmp_gt 121 dX5_readNumber_108 (by decide) (fun h108 => absurd h108 (nI_nlt (a := 3) (b := e - b) (by omega) (by omega))) (fun h108 => ?_)
      refine z_iload_n dX5_readNumber_111 rfl ?_
      refine z_iload_n dX5_readNumber_112 rfl ?_
      refine z_icmp_lt 121 dX5_readNumber_113 (by decide) (fun h113 => absurd h113 (nI_nlt (by omega) (by omega))) (fun h113 => ?_)
      refine z_iload_n dX5_readNumber_116 rfl ?_
      refine z_iload_n dX5_readNumber_117 rfl ?_
      refine z_icmp_le 132 dX5_readNumber_118 (by decide) (fun h118 => ?_) (fun h118 => absurd (nI_le (by omega) (by omega)) h118)
      refine z_iload_n dX5_readNumber_132 rfl ?_
      refine m_iret dX5_readNumber_133 rfl rfl ?_
      rw [eN1 (hki.mpr ⟨by omega, by omega, by omega⟩)]
      exact ⟨rfl, rfl, rfl⟩
    have hL1 := m_for (l := l) (G := G) (M := mX5_readNumber) (pc := 39) (ν := ν) (K := (fun a9 b9 c9 => nI (zNu T L s lo up).2 = a9 ∧ mC M (zNu T L s lo up).1 = b9 ∧ ν = c9)) (N := (e - b)) (fun i => [(4, .int (nI i)), (3, .int (zCn T b i)), (0, .ref 1), (1, .int (nI lo)), (2, .int (nI up))]) (fun i => mC M (s.1, s.2.1, b + i, nI b)) (fun i hi H => by
      refine z_iload dX5_readNumber_39 rfl ?_
      refine z_sipush (v := 250) dX5_readNumber_41 rfl ?_
      refine z_icmp_ge 98 dX5_readNumber_44 (by decide) (fun h44 => absurd h44 (nI_ge (a := i) (b := 250) (by omega) (by omega))) (fun h44 => ?_)
      refine z_aload_n dX5_readNumber_47 rfl ?_
      refine z_aload_n dX5_readNumber_48 rfl ?_
      refine m_geti dX5_readNumber_49 fX5_42 sh1 rfl ?_
      rw [show mC M (s.1, s.2.1, b + i, nI b) 1 7 = nI (b + i) from rfl]
      refine m_callV (As := [.int _]) dX5_readNumber_52 kX5_131 ⟨rfl, rfl⟩ rfl ⟨rfl, rfl⟩ rfl rfl sh1 rfl rfl (c_fig1 (a := b + i) hL hL2 (by omega) (by rw [hT2]; exact gd i hi)) (fun r52 μ52 ν52 hk52 => ?_)
      obtain ⟨rfl, rfl, rfl⟩ := hk52
      refine z_if_eq 98 dX5_readNumber_55 (by decide) (fun h55 => absurd h55 (by decide)) (fun h55 => ?_)
      refine z_iload_n dX5_readNumber_58 rfl ?_
      refine z_bipush (v := 10) dX5_readNumber_59 rfl ?_
      refine z_imul dX5_readNumber_61 ?_
      refine z_aload_n dX5_readNumber_62 rfl ?_
      refine m_getr dX5_readNumber_63 fX5_25 sh1 rfl ?_
      refine z_aload_n dX5_readNumber_66 rfl ?_
      refine m_geti dX5_readNumber_67 fX5_42 sh1 rfl ?_
      rw [show mC M (s.1, s.2.1, b + i, nI b) 1 7 = nI (b + i) from rfl]
      refine m_ialdN (j := b + i) dX5_readNumber_70 sh13 rfl (by omega) rfl ?_
      rw [hT2]
      refine z_iadd dX5_readNumber_71 ?_
      refine z_bipush (v := 48) dX5_readNumber_72 rfl ?_
      refine z_isub dX5_readNumber_74 ?_
      refine z_sipush (v := 10000) dX5_readNumber_75 rfl ?_
      refine z_min dX5_readNumber_78 kX5_135 wSt_min wIniMath wCo_min rfl rfl rfl rfl ?_
      refine z_istore_n (i := 3) (fun y => [(3, .int y), (4, .int (nI i)), (0, .ref 1), (1, .int (nI lo)), (2, .int (nI up))]) dX5_readNumber_81 rfl rfl (fun _ => rfl) (fun x9 e9 => ?_)
      subst e9
      refine z_aload_n dX5_readNumber_82 rfl ?_
      refine z_dup dX5_readNumber_83 rfl ?_
      refine m_geti dX5_readNumber_84 fX5_42 sh1 rfl ?_
      rw [show mC M (s.1, s.2.1, b + i, nI b) 1 7 = nI (b + i) from rfl]
      refine z_iconst (v := 1) dX5_readNumber_87 rfl ?_
      refine z_iadd dX5_readNumber_88 ?_
      rw [show (nI (b + i) + 1) = nI (b + i + 1) from nI_1 _]
      refine m_puti dX5_readNumber_89 fX5_42 (fun q h => by cases h; rfl) rfl rfl sh1 rfl ?_
      refine z_iinc (fun y => [(4, .int y), (3, .int (if 10000 < ((((zCn T b i) * 10) + T (b + i)) - 48) then 10000 else ((((zCn T b i) * 10) + T (b + i)) - 48))), (0, .ref 1), (1, .int (nI lo)), (2, .int (nI up))]) dX5_readNumber_92 rfl rfl (fun _ => rfl) (fun x4_92 ex4_92 => ?_)
      obtain rfl : x4_92 = nI (i + 1) := by rw [ex4_92]; exact nI_1 i
      refine z_goto 39 dX5_readNumber_95 (by decide) ?_
      rw [mC_ua]
      exact H) (by
      rw [show b + (e - b) = e by omega]
      refine z_iload dX5_readNumber_39 rfl ?_
      refine z_sipush (v := 250) dX5_readNumber_41 rfl ?_
      refine z_icmp_ge 98 dX5_readNumber_44 (by decide) (fun h44 => ?_) (fun h44 => ?_)
      · skip
        exact hX _
      · skip
        refine z_aload_n dX5_readNumber_47 rfl ?_
        refine z_aload_n dX5_readNumber_48 rfl ?_
        refine m_geti dX5_readNumber_49 fX5_42 sh1 rfl ?_
        rw [show mC M (s.1, s.2.1, e, nI b) 1 7 = nI (e) from rfl]
        refine m_callV (As := [.int _]) dX5_readNumber_52 kX5_131 ⟨rfl, rfl⟩ rfl ⟨rfl, rfl⟩ rfl rfl sh1 rfl rfl (c_fig0 (a := e) hL hL2 g2 (by rw [hT2]; exact fun q => g4 q.1 q.2)) (fun r52 μ52 ν52 hk52 => ?_)
        obtain ⟨rfl, rfl, rfl⟩ := hk52
        refine z_if_eq 98 dX5_readNumber_55 (by decide) (fun h55 => ?_) (fun h55 => absurd (by decide) h55)
        exact hX _)
    refine z_aload_n dX5_readNumber_0 rfl ?_
    refine m_callVv (As := []) dX5_readNumber_1 kX5_65 ⟨rfl, rfl⟩ rfl ⟨rfl, rfl⟩ rfl rfl sh1 rfl rfl (c_skip hT hL hL2 ha) (fun μ1 ν1 hk1 => ?_)
    obtain ⟨rfl, rfl⟩ := hk1
    rw [hb]
    refine z_aload_n dX5_readNumber_4 rfl ?_
    refine z_aload_n dX5_readNumber_5 rfl ?_
    refine m_geti dX5_readNumber_6 fX5_42 sh1 rfl ?_
    rw [show mC M (s.1, s.2.1, b, s.2.2.2) 1 7 = nI (b) from rfl]
    refine m_callV (As := [.int _]) dX5_readNumber_9 kX5_131 ⟨rfl, rfl⟩ rfl ⟨rfl, rfl⟩ rfl rfl sh1 rfl rfl (c_fig1 (a := b) hL hL2 hf.1 (by rw [hT2]; exact hf.2)) (fun r9 μ9 ν9 hk9 => ?_)
    obtain ⟨rfl, rfl, rfl⟩ := hk9
    refine z_if_ne 26 dX5_readNumber_12 (by decide) (fun h12 => ?_) (fun h12 => absurd h12 (by decide))
    refine z_aload_n dX5_readNumber_26 rfl ?_
    refine z_aload_n dX5_readNumber_27 rfl ?_
    refine m_geti dX5_readNumber_28 fX5_42 sh1 rfl ?_
    rw [show mC M (s.1, s.2.1, b, s.2.2.2) 1 7 = nI (b) from rfl]
    refine m_puti dX5_readNumber_31 fX5_45 (fun q h => by cases h; rfl) rfl rfl sh1 rfl ?_
    refine z_iconst (v := 0) dX5_readNumber_34 rfl ?_
    refine z_istore_n (i := 3) (fun y => [(3, .int y), (0, .ref 1), (1, .int (nI lo)), (2, .int (nI up))]) dX5_readNumber_35 rfl rfl (fun _ => rfl) (fun x9 e9 => ?_)
    subst e9
    refine z_iconst (v := 0) dX5_readNumber_36 rfl ?_
    refine z_istore (i := 4) (fun y => [(4, .int y), (3, .int 0), (0, .ref 1), (1, .int (nI lo)), (2, .int (nI up))]) dX5_readNumber_37 rfl (fun _ => rfl) (fun x9 e9 => ?_)
    subst e9
    rw [mC_uq]
    exact hL1 0 (Nat.zero_le _)
  · have eN : zNu T L s lo up = (zFl (s.1, s.2.1, b, s.2.2.2) 1 (nI b), lo) := by
      unfold zNu
      rw [hb, if_neg hf]
    refine z_aload_n dX5_readNumber_0 rfl ?_
    refine m_callVv (As := []) dX5_readNumber_1 kX5_65 ⟨rfl, rfl⟩ rfl ⟨rfl, rfl⟩ rfl rfl sh1 rfl rfl (c_skip hT hL hL2 ha) (fun μ1 ν1 hk1 => ?_)
    obtain ⟨rfl, rfl⟩ := hk1
    rw [hb]
    refine z_aload_n dX5_readNumber_4 rfl ?_
    refine z_aload_n dX5_readNumber_5 rfl ?_
    refine m_geti dX5_readNumber_6 fX5_42 sh1 rfl ?_
    rw [show mC M (s.1, s.2.1, b, s.2.2.2) 1 7 = nI (b) from rfl]
    refine m_callV (As := [.int _]) dX5_readNumber_9 kX5_131 ⟨rfl, rfl⟩ rfl ⟨rfl, rfl⟩ rfl rfl sh1 rfl rfl (c_fig0 (a := b) hL hL2 b2 (by rw [hT2]; exact hf)) (fun r9 μ9 ν9 hk9 => ?_)
    obtain ⟨rfl, rfl, rfl⟩ := hk9
    refine z_if_ne 26 dX5_readNumber_12 (by decide) (fun h12 => absurd (by decide) h12) (fun h12 => ?_)
    refine z_aload_n dX5_readNumber_15 rfl ?_
    refine z_iconst (v := 1) dX5_readNumber_16 rfl ?_
    refine z_aload_n dX5_readNumber_17 rfl ?_
    refine m_geti dX5_readNumber_18 fX5_42 sh1 rfl ?_
    rw [show mC M (s.1, s.2.1, b, s.2.2.2) 1 7 = nI (b) from rfl]
    refine m_callVv (As := [.int _, .int _]) dX5_readNumber_21 kX5_84 ⟨rfl, rfl⟩ rfl ⟨rfl, rfl⟩ rfl rfl sh1 rfl rfl c_fail (fun μ21 ν21 hk21 => ?_)
    obtain ⟨rfl, rfl⟩ := hk21
    refine z_iload_n dX5_readNumber_24 rfl ?_
    refine m_iret dX5_readNumber_25 rfl rfl ?_
    rw [eN]
    exact ⟨rfl, rfl, rfl⟩
