
def zlo (k : Nat) : Nat := if k = 2 ∨ k = 4 then 1 else 0
def zhi (k : Nat) : Nat := if k = 0 ∨ k = 6 then 1 else if k = 1 then 999 else if k = 2 then 30 else if k = 3 then 99 else if k = 4 then 9 else 2
theorem zlo_hi (k : Nat) : zlo k ≤ zhi k ∧ zhi k ≤ 999 := by
  unfold zlo zhi
  split <;> (repeat' split) <;> omega
/-- after k numbers of a waiter -/
def zWn (T : Nat → Int32) (L : Nat) (s : zCu) : Nat → zCu
  | 0 => s
  | k + 1 => (zNu T L (zWn T L s k) (zlo k) (zhi k)).1
def zWv (T : Nat → Int32) (L : Nat) (s : zCu) (k : Nat) : Nat := (zNu T L (zWn T L s k) (zlo k) (zhi k)).2
theorem zWn_a {T : Nat → Int32} {L : Nat} {s : zCu} (h : s.2.2.1 ≤ L) : ∀ k, s.2.2.1 ≤ (zWn T L s k).2.2.1 ∧ (zWn T L s k).2.2.1 ≤ L
  | 0 => ⟨Nat.le_refl _, h⟩
  | k + 1 => by
    obtain ⟨h1, h2⟩ := zWn_a (T := T) h k
    obtain ⟨h3, h4⟩ := zNu_a (T := T) (lo := zlo k) (hi := zhi k) h2
    exact ⟨Nat.le_trans h1 h3, h4⟩
theorem zWv_v {T : Nat → Int32} {L : Nat} {s : zCu} (k : Nat) : zlo k ≤ zWv T L s k ∧ zWv T L s k ≤ zhi k := zNu_v (zlo_hi k).1
theorem zWn_st {T : Nat → Int32} {L : Nat} {s : zCu} {k : Nat} (h : ¬ (zWn T L s k).1 = 0) : ∀ d, (zWn T L s (k + d)).1 = (zWn T L s k).1 ∧ (zWn T L s (k + d)).2.1 = (zWn T L s k).2.1
  | 0 => ⟨rfl, rfl⟩
  | d + 1 => by
    obtain ⟨h1, h2⟩ := zWn_st h d
    obtain ⟨h3, h4⟩ := zNu_st (T := T) (L := L) (lo := zlo (k + d)) (hi := zhi (k + d)) (s := zWn T L s (k + d)) (by rw [h1]; exact h)
    exact ⟨h3.trans h1, h4.trans h2⟩
theorem c_wn0 {l : Launch} {G : zG} {M : Mem} {ν : Lng} {s : zCu} {T : Nat → Int32} {L : Nat} (hT : M 13 = T) (hL : M 1 4 = nI L) (hL2 : L ≤ 250) (ha : s.2.2.1 ≤ L) : Cm l G mX5_readNumber [.ref 1, .int 0, .int 1] (mC M (zWn T L s 0)) ν (fun a9 b9 c9 => nI (zWv T L s 0) = a9 ∧ mC M (zWn T L s 1) = b9 ∧ ν = c9) := c_readNumber (lo := zlo 0) (up := zhi 0) hT hL hL2 (zWn_a ha 0).2 (zlo_hi 0).1 (zlo_hi 0).2
theorem c_wn1 {l : Launch} {G : zG} {M : Mem} {ν : Lng} {s : zCu} {T : Nat → Int32} {L : Nat} (hT : M 13 = T) (hL : M 1 4 = nI L) (hL2 : L ≤ 250) (ha : s.2.2.1 ≤ L) : Cm l G mX5_readNumber [.ref 1, .int 0, .int 999] (mC M (zWn T L s 1)) ν (fun a9 b9 c9 => nI (zWv T L s 1) = a9 ∧ mC M (zWn T L s 2) = b9 ∧ ν = c9) := c_readNumber (lo := zlo 1) (up := zhi 1) hT hL hL2 (zWn_a ha 1).2 (zlo_hi 1).1 (zlo_hi 1).2
theorem c_wn2 {l : Launch} {G : zG} {M : Mem} {ν : Lng} {s : zCu} {T : Nat → Int32} {L : Nat} (hT : M 13 = T) (hL : M 1 4 = nI L) (hL2 : L ≤ 250) (ha : s.2.2.1 ≤ L) : Cm l G mX5_readNumber [.ref 1, .int 1, .int 30] (mC M (zWn T L s 2)) ν (fun a9 b9 c9 => nI (zWv T L s 2) = a9 ∧ mC M (zWn T L s 3) = b9 ∧ ν = c9) := c_readNumber (lo := zlo 2) (up := zhi 2) hT hL hL2 (zWn_a ha 2).2 (zlo_hi 2).1 (zlo_hi 2).2
theorem c_wn3 {l : Launch} {G : zG} {M : Mem} {ν : Lng} {s : zCu} {T : Nat → Int32} {L : Nat} (hT : M 13 = T) (hL : M 1 4 = nI L) (hL2 : L ≤ 250) (ha : s.2.2.1 ≤ L) : Cm l G mX5_readNumber [.ref 1, .int 0, .int 99] (mC M (zWn T L s 3)) ν (fun a9 b9 c9 => nI (zWv T L s 3) = a9 ∧ mC M (zWn T L s 4) = b9 ∧ ν = c9) := c_readNumber (lo := zlo 3) (up := zhi 3) hT hL hL2 (zWn_a ha 3).2 (zlo_hi 3).1 (zlo_hi 3).2
theorem c_wn4 {l : Launch} {G : zG} {M : Mem} {ν : Lng} {s : zCu} {T : Nat → Int32} {L : Nat} (hT : M 13 = T) (hL : M 1 4 = nI L) (hL2 : L ≤ 250) (ha : s.2.2.1 ≤ L) : Cm l G mX5_readNumber [.ref 1, .int 1, .int 9] (mC M (zWn T L s 4)) ν (fun a9 b9 c9 => nI (zWv T L s 4) = a9 ∧ mC M (zWn T L s 5) = b9 ∧ ν = c9) := c_readNumber (lo := zlo 4) (up := zhi 4) hT hL hL2 (zWn_a ha 4).2 (zlo_hi 4).1 (zlo_hi 4).2
theorem c_wn5 {l : Launch} {G : zG} {M : Mem} {ν : Lng} {s : zCu} {T : Nat → Int32} {L : Nat} (hT : M 13 = T) (hL : M 1 4 = nI L) (hL2 : L ≤ 250) (ha : s.2.2.1 ≤ L) : Cm l G mX5_readNumber [.ref 1, .int 0, .int 2] (mC M (zWn T L s 5)) ν (fun a9 b9 c9 => nI (zWv T L s 5) = a9 ∧ mC M (zWn T L s 6) = b9 ∧ ν = c9) := c_readNumber (lo := zlo 5) (up := zhi 5) hT hL hL2 (zWn_a ha 5).2 (zlo_hi 5).1 (zlo_hi 5).2
theorem c_wn6 {l : Launch} {G : zG} {M : Mem} {ν : Lng} {s : zCu} {T : Nat → Int32} {L : Nat} (hT : M 13 = T) (hL : M 1 4 = nI L) (hL2 : L ≤ 250) (ha : s.2.2.1 ≤ L) : Cm l G mX5_readNumber [.ref 1, .int 0, .int 1] (mC M (zWn T L s 6)) ν (fun a9 b9 c9 => nI (zWv T L s 6) = a9 ∧ mC M (zWn T L s 7) = b9 ∧ ν = c9) := c_readNumber (lo := zlo 6) (up := zhi 6) hT hL hL2 (zWn_a ha 6).2 (zlo_hi 6).1 (zlo_hi 6).2
def gWt (T : Nat → Int32) (L : Nat) (s : zCu) (M : Mem) (w : Nat) : Mem := up2 (up2 (up2 (up2 (up2 (up2 (up2 (up2 M 5 w (nI (zWv T L s 0))) 10 w (nI (zWv T L s 1))) 6 w (nI (zWv T L s 2))) 7 w (nI (zWv T L s 3))) 11 w (nI (zWv T L s 4))) 12 w (nI (zWv T L s 5))) 8 w (nI (zWv T L s 6))) 2 6 (nI (w + 1))
set_option maxRecDepth 100000 in
set_option maxHeartbeats 400000 in
theorem c_readWaiter6 {l : Launch} {G : zG} {M : Mem} {ν : Lng} {s : zCu} {T : Nat → Int32} {L : Nat} (hT : M 13 = T) (hL : M 1 4 = nI L) (hL2 : L ≤ 250) (ha : s.2.2.1 < L) (hw : M 2 6 = nI 6)  : Cm l G mX5_readWaiter [.ref 1] (mC M s) ν (fun _ b9 c9 => mC M (zFl s 3 (nI s.2.2.1)) = b9 ∧ ν = c9) := by
  refine Con.of (by decide) (Nat.le_of_ble_eq_true rfl) ?_
  show Am l G mX5_readWaiter 0 [(0, .ref 1)] [] (mC M s) ν _
  refine z_aload_n dX5_readWaiter_0 rfl ?_
  refine m_getr dX5_readWaiter_1 fX5_12 sh1 rfl ?_
  refine m_geti dX5_readWaiter_4 fX5_101 sh2 rfl ?_
  refine z_istore_n (i := 1) (fun y => [(1, .int y), (0, .ref 1)]) dX5_readWaiter_7 rfl rfl (fun _ => rfl) (fun w1 ew1 => ?_)
  refine z_iload_n dX5_readWaiter_8 rfl ?_
  refine z_bipush (v := 6) dX5_readWaiter_9 rfl ?_
  refine z_icmp_lt 24 dX5_readWaiter_11 (by decide) (fun h11 => absurd (show w1 < 6 from h11) (by rw [ew1, mC_ne (show 2 ≠ 1 by decide), hw]; decide)) (fun h11 => ?_)
  refine z_aload_n dX5_readWaiter_14 rfl ?_
  refine z_iconst (v := 3) dX5_readWaiter_15 rfl ?_
  refine z_aload_n dX5_readWaiter_16 rfl ?_
  refine m_geti dX5_readWaiter_17 fX5_42 sh1 rfl ?_
  rw [show mC M s 1 7 = nI s.2.2.1 from rfl]
  refine m_callVv (As := [.int _, .int _]) dX5_readWaiter_20 kX5_84 ⟨rfl, rfl⟩ rfl ⟨rfl, rfl⟩ rfl rfl sh1 rfl rfl c_fail (fun μ20 ν20 hk20 => ?_)
  obtain ⟨rfl, rfl⟩ := hk20
  refine m_ret dX5_readWaiter_23 rfl ?_
  exact ⟨rfl, rfl⟩
set_option maxRecDepth 100000 in
set_option maxHeartbeats 400000 in
theorem c_readWaiter {l : Launch} {G : zG} {M : Mem} {ν : Lng} {s : zCu} {T : Nat → Int32} {L : Nat} (hT : M 13 = T) (hL : M 1 4 = nI L) (hL2 : L ≤ 250) (ha : s.2.2.1 < L) {w : Nat} (hw : M 2 6 = nI w) (hw6 : w < 6)  : Cm l G mX5_readWaiter [.ref 1] (mC M s) ν (fun _ b9 c9 => mC (gWt T L (s.1, s.2.1, s.2.2.1 + 1, s.2.2.2) M w) (zEn T L (zWn T L (s.1, s.2.1, s.2.2.1 + 1, s.2.2.2) 7)) = b9 ∧ ν = c9) := by
  refine Con.of (by decide) (Nat.le_of_ble_eq_true rfl) ?_
  show Am l G mX5_readWaiter 0 [(0, .ref 1)] [] (mC M s) ν _
  refine z_aload_n dX5_readWaiter_0 rfl ?_
  refine m_getr dX5_readWaiter_1 fX5_12 sh1 rfl ?_
  refine m_geti dX5_readWaiter_4 fX5_101 sh2 rfl ?_
  rw [mC_ne (show 2 ≠ 1 by decide), hw]
  refine z_istore_n (i := 1) (fun y => [(1, .int y), (0, .ref 1)]) dX5_readWaiter_7 rfl rfl (fun _ => rfl) (fun x9 e9 => ?_)
  subst e9
  refine z_iload_n dX5_readWaiter_8 rfl ?_
  refine z_bipush (v := 6) dX5_readWaiter_9 rfl ?_
  refine z_icmp_lt 24 dX5_readWaiter_11 (by decide) (fun h11 => ?_) (fun h11 => absurd (nI_lt (a := w) (b := 6) (by omega) (by omega)) h11)
  refine z_aload_n dX5_readWaiter_24 rfl ?_
  refine z_dup dX5_readWaiter_25 rfl ?_
  refine m_geti dX5_readWaiter_26 fX5_42 sh1 rfl ?_
  rw [show mC M s 1 7 = nI s.2.2.1 from rfl]
  refine z_iconst (v := 1) dX5_readWaiter_29 rfl ?_
  refine z_iadd dX5_readWaiter_30 ?_
  rw [show (nI s.2.2.1 + 1) = nI (s.2.2.1 + 1) from nI_1 _]
  refine m_puti dX5_readWaiter_31 fX5_42 (fun q h => by cases h; rfl) rfl rfl sh1 rfl ?_
  rw [mC_ua]
  refine z_aload_n dX5_readWaiter_34 rfl ?_
  refine m_getr dX5_readWaiter_35 fX5_12 sh1 rfl ?_
  refine m_getr dX5_readWaiter_38 fX5_104 sh2 rfl ?_
  refine z_iload_n dX5_readWaiter_41 rfl ?_
  refine z_aload_n dX5_readWaiter_42 rfl ?_
  refine z_iconst (v := 0) dX5_readWaiter_43 rfl ?_
  refine z_iconst (v := 1) dX5_readWaiter_44 rfl ?_
  refine m_callV (As := [.int _, .int _]) dX5_readWaiter_45 kX5_88 ⟨rfl, rfl⟩ rfl ⟨rfl, rfl⟩ rfl rfl sh1 rfl rfl (c_wn0 (T := T) (L := L) (s := (s.1, s.2.1, s.2.2.1 + 1, s.2.2.2)) (by (repeat rw [up2_ne (by decide)]); exact hT) (by (repeat rw [up2_ne (by decide)]); exact hL) hL2 (by exact ha)) (fun r45 μ45 ν45 hk45 => ?_)
  obtain ⟨rfl, rfl, rfl⟩ := hk45
  refine m_iastN (j := w) dX5_readWaiter_48 sh5 rfl (by omega) rfl ?_
  rw [mC_up (by decide)]
  refine z_aload_n dX5_readWaiter_49 rfl ?_
  refine m_getr dX5_readWaiter_50 fX5_21 sh1 rfl ?_
  refine m_getr dX5_readWaiter_53 fX5_107 sh9 rfl ?_
  refine z_iload_n dX5_readWaiter_56 rfl ?_
  refine z_aload_n dX5_readWaiter_57 rfl ?_
  refine z_iconst (v := 0) dX5_readWaiter_58 rfl ?_
  refine z_sipush (v := 999) dX5_readWaiter_59 rfl ?_
  refine m_callV (As := [.int _, .int _]) dX5_readWaiter_62 kX5_88 ⟨rfl, rfl⟩ rfl ⟨rfl, rfl⟩ rfl rfl sh1 rfl rfl (c_wn1 (T := T) (L := L) (s := (s.1, s.2.1, s.2.2.1 + 1, s.2.2.2)) (by (repeat rw [up2_ne (by decide)]); exact hT) (by (repeat rw [up2_ne (by decide)]); exact hL) hL2 (by exact ha)) (fun r62 μ62 ν62 hk62 => ?_)
  obtain ⟨rfl, rfl, rfl⟩ := hk62
  refine m_iastN (j := w) dX5_readWaiter_65 sh10 rfl (by omega) rfl ?_
  rw [mC_up (by decide)]
  refine z_aload_n dX5_readWaiter_66 rfl ?_
  refine m_getr dX5_readWaiter_67 fX5_12 sh1 rfl ?_
  refine m_getr dX5_readWaiter_70 fX5_110 sh2 rfl ?_
  refine z_iload_n dX5_readWaiter_73 rfl ?_
  refine z_aload_n dX5_readWaiter_74 rfl ?_
  refine z_iconst (v := 1) dX5_readWaiter_75 rfl ?_
  refine z_bipush (v := 30) dX5_readWaiter_76 rfl ?_
  refine m_callV (As := [.int _, .int _]) dX5_readWaiter_78 kX5_88 ⟨rfl, rfl⟩ rfl ⟨rfl, rfl⟩ rfl rfl sh1 rfl rfl (c_wn2 (T := T) (L := L) (s := (s.1, s.2.1, s.2.2.1 + 1, s.2.2.2)) (by (repeat rw [up2_ne (by decide)]); exact hT) (by (repeat rw [up2_ne (by decide)]); exact hL) hL2 (by exact ha)) (fun r78 μ78 ν78 hk78 => ?_)
  obtain ⟨rfl, rfl, rfl⟩ := hk78
  refine m_iastN (j := w) dX5_readWaiter_81 sh6 rfl (by omega) rfl ?_
  rw [mC_up (by decide)]
  refine z_aload_n dX5_readWaiter_82 rfl ?_
  refine m_getr dX5_readWaiter_83 fX5_12 sh1 rfl ?_
  refine m_getr dX5_readWaiter_86 fX5_113 sh2 rfl ?_
  refine z_iload_n dX5_readWaiter_89 rfl ?_
  refine z_aload_n dX5_readWaiter_90 rfl ?_
  refine z_iconst (v := 0) dX5_readWaiter_91 rfl ?_
  refine z_bipush (v := 99) dX5_readWaiter_92 rfl ?_
  refine m_callV (As := [.int _, .int _]) dX5_readWaiter_94 kX5_88 ⟨rfl, rfl⟩ rfl ⟨rfl, rfl⟩ rfl rfl sh1 rfl rfl (c_wn3 (T := T) (L := L) (s := (s.1, s.2.1, s.2.2.1 + 1, s.2.2.2)) (by (repeat rw [up2_ne (by decide)]); exact hT) (by (repeat rw [up2_ne (by decide)]); exact hL) hL2 (by exact ha)) (fun r94 μ94 ν94 hk94 => ?_)
  obtain ⟨rfl, rfl, rfl⟩ := hk94
  refine m_iastN (j := w) dX5_readWaiter_97 sh7 rfl (by omega) rfl ?_
  rw [mC_up (by decide)]
  refine z_aload_n dX5_readWaiter_98 rfl ?_
  refine m_getr dX5_readWaiter_99 fX5_21 sh1 rfl ?_
  refine m_getr dX5_readWaiter_102 fX5_116 sh9 rfl ?_
  refine z_iload_n dX5_readWaiter_105 rfl ?_
  refine z_aload_n dX5_readWaiter_106 rfl ?_
  refine z_iconst (v := 1) dX5_readWaiter_107 rfl ?_
  refine z_bipush (v := 9) dX5_readWaiter_108 rfl ?_
  refine m_callV (As := [.int _, .int _]) dX5_readWaiter_110 kX5_88 ⟨rfl, rfl⟩ rfl ⟨rfl, rfl⟩ rfl rfl sh1 rfl rfl (c_wn4 (T := T) (L := L) (s := (s.1, s.2.1, s.2.2.1 + 1, s.2.2.2)) (by (repeat rw [up2_ne (by decide)]); exact hT) (by (repeat rw [up2_ne (by decide)]); exact hL) hL2 (by exact ha)) (fun r110 μ110 ν110 hk110 => ?_)
  obtain ⟨rfl, rfl, rfl⟩ := hk110
  refine m_iastN (j := w) dX5_readWaiter_113 sh11 rfl (by omega) rfl ?_
  rw [mC_up (by decide)]
  refine z_aload_n dX5_readWaiter_114 rfl ?_
  refine m_getr dX5_readWaiter_115 fX5_21 sh1 rfl ?_
  refine m_getr dX5_readWaiter_118 fX5_119 sh9 rfl ?_
  refine z_iload_n dX5_readWaiter_121 rfl ?_
  refine z_aload_n dX5_readWaiter_122 rfl ?_
  refine z_iconst (v := 0) dX5_readWaiter_123 rfl ?_
  refine z_iconst (v := 2) dX5_readWaiter_124 rfl ?_
  refine m_callV (As := [.int _, .int _]) dX5_readWaiter_125 kX5_88 ⟨rfl, rfl⟩ rfl ⟨rfl, rfl⟩ rfl rfl sh1 rfl rfl (c_wn5 (T := T) (L := L) (s := (s.1, s.2.1, s.2.2.1 + 1, s.2.2.2)) (by (repeat rw [up2_ne (by decide)]); exact hT) (by (repeat rw [up2_ne (by decide)]); exact hL) hL2 (by exact ha)) (fun r125 μ125 ν125 hk125 => ?_)
  obtain ⟨rfl, rfl, rfl⟩ := hk125
  refine m_iastN (j := w) dX5_readWaiter_128 sh12 rfl (by omega) rfl ?_
  rw [mC_up (by decide)]
  refine z_aload_n dX5_readWaiter_129 rfl ?_
  refine m_getr dX5_readWaiter_130 fX5_12 sh1 rfl ?_
  refine m_getr dX5_readWaiter_133 fX5_122 sh2 rfl ?_
  refine z_iload_n dX5_readWaiter_136 rfl ?_
  refine z_aload_n dX5_readWaiter_137 rfl ?_
  refine z_iconst (v := 0) dX5_readWaiter_138 rfl ?_
  refine z_iconst (v := 1) dX5_readWaiter_139 rfl ?_
  refine m_callV (As := [.int _, .int _]) dX5_readWaiter_140 kX5_88 ⟨rfl, rfl⟩ rfl ⟨rfl, rfl⟩ rfl rfl sh1 rfl rfl (c_wn6 (T := T) (L := L) (s := (s.1, s.2.1, s.2.2.1 + 1, s.2.2.2)) (by (repeat rw [up2_ne (by decide)]); exact hT) (by (repeat rw [up2_ne (by decide)]); exact hL) hL2 (by exact ha)) (fun r140 μ140 ν140 hk140 => ?_)
  obtain ⟨rfl, rfl, rfl⟩ := hk140
  refine m_iastN (j := w) dX5_readWaiter_143 sh8 rfl (by omega) rfl ?_
  rw [mC_up (by decide)]
  refine z_aload_n dX5_readWaiter_144 rfl ?_
  refine m_callVv (As := []) dX5_readWaiter_145 kX5_98 ⟨rfl, rfl⟩ rfl ⟨rfl, rfl⟩ rfl rfl sh1 rfl rfl (c_readEnd (T := T) (L := L) (by (repeat rw [up2_ne (by decide)]); exact hT) (by (repeat rw [up2_ne (by decide)]); exact hL) hL2 (zWn_a (s := (s.1, s.2.1, s.2.2.1 + 1, s.2.2.2)) (by exact ha) 7).2) (fun μ145 ν145 hk145 => ?_)
  obtain ⟨rfl, rfl⟩ := hk145
  refine z_aload_n dX5_readWaiter_148 rfl ?_
  refine m_getr dX5_readWaiter_149 fX5_12 sh1 rfl ?_
  refine z_iload_n dX5_readWaiter_152 rfl ?_
  refine z_iconst (v := 1) dX5_readWaiter_153 rfl ?_
  refine z_iadd dX5_readWaiter_154 ?_
  rw [show (nI w + 1) = nI (w + 1) from nI_1 _]
  refine m_puti dX5_readWaiter_155 fX5_101 (fun q h => by cases h; rfl) rfl rfl sh2 rfl ?_
  refine m_ret dX5_readWaiter_158 rfl ?_
  exact ⟨by rw [mC_up (by decide)]; rfl, rfl⟩
def zL1 (T : Nat → Int32) (L : Nat) (s : zCu) : zCu × Nat := zNu T L (s.1, s.2.1, s.2.2.1 + 1, s.2.2.2) 0 1
def zL2 (T : Nat → Int32) (L : Nat) (s : zCu) (M : Mem) : zCu := if M 14 (zL1 T L s).2 = 1 then zFl (zL1 T L s).1 4 (zL1 T L s).1.2.2.2 else (zL1 T L s).1
def zL3 (T : Nat → Int32) (L : Nat) (s : zCu) (M : Mem) : zCu × Nat := zNu T L (zL2 T L s M) 1 9
def zL4 (T : Nat → Int32) (L : Nat) (s : zCu) (M : Mem) : zCu × Nat := zNu T L (zL3 T L s M).1 0 9
def gLe (T : Nat → Int32) (L : Nat) (s : zCu) (M : Mem) : Mem := up2 (up2 (up2 M 14 (zL1 T L s).2 1) 3 (zL1 T L s).2 (nI (zL3 T L s M).2)) 4 (zL1 T L s).2 (nI (zL4 T L s M).2)
theorem zL1_a {T : Nat → Int32} {L : Nat} {s : zCu} (h : s.2.2.1 < L) : s.2.2.1 < (zL1 T L s).1.2.2.1 ∧ (zL1 T L s).1.2.2.1 ≤ L := zNu_a (s := (s.1, s.2.1, s.2.2.1 + 1, s.2.2.2)) (by exact h)
theorem zL2_a {T : Nat → Int32} {L : Nat} {s : zCu} {M : Mem} : (zL2 T L s M).2.2.1 = (zL1 T L s).1.2.2.1 := by
  unfold zL2
  split
  · exact zFl_a
  · rfl
theorem zL3_a {T : Nat → Int32} {L : Nat} {s : zCu} {M : Mem} (h : s.2.2.1 < L) : s.2.2.1 < (zL3 T L s M).1.2.2.1 ∧ (zL3 T L s M).1.2.2.1 ≤ L := by
  have h1 := zL1_a (T := T) h
  have h2 := zNu_a (T := T) (L := L) (s := zL2 T L s M) (lo := 1) (hi := 9) (by rw [zL2_a]; exact h1.2)
  rw [zL2_a] at h2
  exact ⟨Nat.lt_of_lt_of_le h1.1 h2.1, h2.2⟩
theorem zL4_a {T : Nat → Int32} {L : Nat} {s : zCu} {M : Mem} (h : s.2.2.1 < L) : s.2.2.1 < (zL4 T L s M).1.2.2.1 ∧ (zL4 T L s M).1.2.2.1 ≤ L := by
  have h1 := zL3_a (T := T) (M := M) h
  have h2 := zNu_a (T := T) (L := L) (s := (zL3 T L s M).1) (lo := 0) (hi := 9) h1.2
  exact ⟨Nat.lt_of_lt_of_le h1.1 h2.1, h2.2⟩
theorem c_l1 {l : Launch} {G : zG} {N : Mem} {ν : Lng} {s : zCu} {T : Nat → Int32} {L : Nat} (hT : N 13 = T) (hL : N 1 4 = nI L) (hL2 : L ≤ 250) (ha : s.2.2.1 < L) : Cm l G mX5_readNumber [.ref 1, .int 0, .int 1] (mC N (s.1, s.2.1, s.2.2.1 + 1, s.2.2.2)) ν (fun a9 b9 c9 => nI (zL1 T L s).2 = a9 ∧ mC N (zL1 T L s).1 = b9 ∧ ν = c9) := c_readNumber (s := (s.1, s.2.1, s.2.2.1 + 1, s.2.2.2)) (lo := 0) (up := 1) hT hL hL2 (by exact ha) (by decide) (by decide)
theorem c_l3 {l : Launch} {G : zG} {M N : Mem} {ν : Lng} {s : zCu} {T : Nat → Int32} {L : Nat} (hT : N 13 = T) (hL : N 1 4 = nI L) (hL2 : L ≤ 250) (ha : s.2.2.1 < L) : Cm l G mX5_readNumber [.ref 1, .int 1, .int 9] (mC N (zL2 T L s M)) ν (fun a9 b9 c9 => nI (zL3 T L s M).2 = a9 ∧ mC N (zL3 T L s M).1 = b9 ∧ ν = c9) := c_readNumber (s := zL2 T L s M) (lo := 1) (up := 9) hT hL hL2 (by rw [zL2_a]; exact (zL1_a ha).2) (by decide) (by decide)
theorem c_l4 {l : Launch} {G : zG} {M N : Mem} {ν : Lng} {s : zCu} {T : Nat → Int32} {L : Nat} (hT : N 13 = T) (hL : N 1 4 = nI L) (hL2 : L ≤ 250) (ha : s.2.2.1 < L) : Cm l G mX5_readNumber [.ref 1, .int 0, .int 9] (mC N (zL3 T L s M).1) ν (fun a9 b9 c9 => nI (zL4 T L s M).2 = a9 ∧ mC N (zL4 T L s M).1 = b9 ∧ ν = c9) := c_readNumber (s := (zL3 T L s M).1) (lo := 0) (up := 9) hT hL hL2 (zL3_a ha).2 (by decide) (by decide)
set_option maxRecDepth 100000 in
set_option maxHeartbeats 400000 in
theorem c_readLeaf {l : Launch} {G : zG} {M : Mem} {ν : Lng} {s : zCu} {T : Nat → Int32} {L : Nat} (hT : M 13 = T) (hL : M 1 4 = nI L) (hL2 : L ≤ 250) (ha : s.2.2.1 < L)  : Cm l G mX5_readLeaf [.ref 1] (mC M s) ν (fun _ b9 c9 => mC (gLe T L s M) (zEn T L (zL4 T L s M).1) = b9 ∧ ν = c9) := by
  refine Con.of (by decide) (Nat.le_of_ble_eq_true rfl) ?_
  show Am l G mX5_readLeaf 0 [(0, .ref 1)] [] (mC M s) ν _
  have hv : (zL1 T L s).2 ≤ 1 := (zNu_v (by decide)).2
  have h36 : Am l G mX5_readLeaf 36 [(1, .int (nI (zL1 T L s).2)), (0, .ref 1)] [] (mC M (zL2 T L s M)) ν (fun _ b9 c9 => mC (gLe T L s M) (zEn T L (zL4 T L s M).1) = b9 ∧ ν = c9) := by
    refine z_aload_n dX5_readLeaf_36 rfl ?_
    refine m_getr dX5_readLeaf_37 fX5_29 sh1 rfl ?_
    refine z_iload_n dX5_readLeaf_40 rfl ?_
    refine z_iconst (v := 1) dX5_readLeaf_41 rfl ?_
    refine m_iastN (j := (zL1 T L s).2) dX5_readLeaf_42 sh14 rfl (by omega) rfl ?_
    rw [mC_up (by decide)]
    refine z_aload_n dX5_readLeaf_43 rfl ?_
    refine m_getr dX5_readLeaf_44 fX5_12 sh1 rfl ?_
    refine m_getr dX5_readLeaf_47 fX5_92 sh2 rfl ?_
    refine z_iload_n dX5_readLeaf_50 rfl ?_
    refine z_aload_n dX5_readLeaf_51 rfl ?_
    refine z_iconst (v := 1) dX5_readLeaf_52 rfl ?_
    refine z_bipush (v := 9) dX5_readLeaf_53 rfl ?_
    refine m_callV (As := [.int _, .int _]) dX5_readLeaf_55 kX5_88 ⟨rfl, rfl⟩ rfl ⟨rfl, rfl⟩ rfl rfl sh1 rfl rfl (c_l3 (T := T) (L := L) (s := s) (M := M) (by (repeat rw [up2_ne (by decide)]); exact hT) (by (repeat rw [up2_ne (by decide)]); exact hL) hL2 ha) (fun r55 μ55 ν55 hk55 => ?_)
    obtain ⟨rfl, rfl, rfl⟩ := hk55
    refine m_iastN (j := (zL1 T L s).2) dX5_readLeaf_58 sh3 rfl (by omega) rfl ?_
    rw [mC_up (by decide)]
    refine z_aload_n dX5_readLeaf_59 rfl ?_
    refine m_getr dX5_readLeaf_60 fX5_12 sh1 rfl ?_
    refine m_getr dX5_readLeaf_63 fX5_95 sh2 rfl ?_
    refine z_iload_n dX5_readLeaf_66 rfl ?_
    refine z_aload_n dX5_readLeaf_67 rfl ?_
    refine z_iconst (v := 0) dX5_readLeaf_68 rfl ?_
    refine z_bipush (v := 9) dX5_readLeaf_69 rfl ?_
    refine m_callV (As := [.int _, .int _]) dX5_readLeaf_71 kX5_88 ⟨rfl, rfl⟩ rfl ⟨rfl, rfl⟩ rfl rfl sh1 rfl rfl (c_l4 (T := T) (L := L) (s := s) (M := M) (by (repeat rw [up2_ne (by decide)]); exact hT) (by (repeat rw [up2_ne (by decide)]); exact hL) hL2 ha) (fun r71 μ71 ν71 hk71 => ?_)
    obtain ⟨rfl, rfl, rfl⟩ := hk71
    refine m_iastN (j := (zL1 T L s).2) dX5_readLeaf_74 sh4 rfl (by omega) rfl ?_
    rw [mC_up (by decide)]
    refine z_aload_n dX5_readLeaf_75 rfl ?_
    refine m_callVv (As := []) dX5_readLeaf_76 kX5_98 ⟨rfl, rfl⟩ rfl ⟨rfl, rfl⟩ rfl rfl sh1 rfl rfl (c_readEnd (T := T) (L := L) (s := (zL4 T L s M).1) (by (repeat rw [up2_ne (by decide)]); exact hT) (by (repeat rw [up2_ne (by decide)]); exact hL) hL2 (zL4_a ha).2) (fun μ76 ν76 hk76 => ?_)
    obtain ⟨rfl, rfl⟩ := hk76
    refine m_ret dX5_readLeaf_79 rfl ?_
    exact ⟨rfl, rfl⟩
  refine z_aload_n dX5_readLeaf_0 rfl ?_
  refine z_dup dX5_readLeaf_1 rfl ?_
  refine m_geti dX5_readLeaf_2 fX5_42 sh1 rfl ?_
  rw [show mC M s 1 7 = nI s.2.2.1 from rfl]
  refine z_iconst (v := 1) dX5_readLeaf_5 rfl ?_
  refine z_iadd dX5_readLeaf_6 ?_
  rw [show (nI s.2.2.1 + 1) = nI (s.2.2.1 + 1) from nI_1 _]
  refine m_puti dX5_readLeaf_7 fX5_42 (fun q h => by cases h; rfl) rfl rfl sh1 rfl ?_
  rw [mC_ua]
  refine z_aload_n dX5_readLeaf_10 rfl ?_
  refine z_iconst (v := 0) dX5_readLeaf_11 rfl ?_
  refine z_iconst (v := 1) dX5_readLeaf_12 rfl ?_
  refine m_callV (As := [.int _, .int _]) dX5_readLeaf_13 kX5_88 ⟨rfl, rfl⟩ rfl ⟨rfl, rfl⟩ rfl rfl sh1 rfl rfl (c_l1 (T := T) (L := L) (s := s) hT hL hL2 ha) (fun r13 μ13 ν13 hk13 => ?_)
  obtain ⟨rfl, rfl, rfl⟩ := hk13
  refine z_istore_n (i := 1) (fun y => [(1, .int y), (0, .ref 1)]) dX5_readLeaf_16 rfl rfl (fun _ => rfl) (fun x9 e9 => ?_)
  subst e9
  refine z_aload_n dX5_readLeaf_17 rfl ?_
  refine m_getr dX5_readLeaf_18 fX5_29 sh1 rfl ?_
  refine z_iload_n dX5_readLeaf_21 rfl ?_
  refine m_ialdN (j := (zL1 T L s).2) dX5_readLeaf_22 sh14 rfl (by omega) rfl ?_
  rw [mC_ne (show 14 ≠ 1 by decide)]
  refine z_iconst (v := 1) dX5_readLeaf_23 rfl ?_
  refine z_icmp_ne 36 dX5_readLeaf_24 (by decide) (fun h24 => ?_) (fun h24 => ?_)
  · skip
    first | (rw [show zL2 T L s M = zFl (zL1 T L s).1 4 (zL1 T L s).1.2.2.2 from if_pos h24] at h36; exact h36) | (rw [show zL2 T L s M = (zL1 T L s).1 from if_neg h24] at h36; exact h36)
  · skip
    refine z_aload_n dX5_readLeaf_27 rfl ?_
    refine z_iconst (v := 4) dX5_readLeaf_28 rfl ?_
    refine z_aload_n dX5_readLeaf_29 rfl ?_
    refine m_geti dX5_readLeaf_30 fX5_45 sh1 rfl ?_
    rw [mC_q]
    refine m_callVv (As := [.int _, .int _]) dX5_readLeaf_33 kX5_84 ⟨rfl, rfl⟩ rfl ⟨rfl, rfl⟩ rfl rfl sh1 rfl rfl c_fail (fun μ33 ν33 hk33 => ?_)
    obtain ⟨rfl, rfl⟩ := hk33
    first | (rw [show zL2 T L s M = zFl (zL1 T L s).1 4 (zL1 T L s).1.2.2.2 from if_pos h24] at h36; exact h36) | (rw [show zL2 T L s M = (zL1 T L s).1 from if_neg h24] at h36; exact h36)
def zG1 (s : zCu) (x : Int32) : zCu := if x = 0 then s else zFl s 3 (nI s.2.2.1)
theorem zG1_a {s : zCu} {x : Int32} : (zG1 s x).2.2.1 = s.2.2.1 := by
  unfold zG1
  split
  · rfl
  · exact zFl_a
def zG2 (T : Nat → Int32) (L : Nat) (s : zCu) (x : Int32) (up : Nat) : zCu × Nat := zNu T L ((zG1 s x).1, (zG1 s x).2.1, s.2.2.1 + 1, (zG1 s x).2.2.2) 0 up
theorem zG2_a {T : Nat → Int32} {L up : Nat} {s : zCu} {x : Int32} (h : s.2.2.1 < L) : s.2.2.1 < (zG2 T L s x up).1.2.2.1 ∧ (zG2 T L s x up).1.2.2.1 ≤ L := zNu_a (s := ((zG1 s x).1, (zG1 s x).2.1, s.2.2.1 + 1, (zG1 s x).2.2.2)) (by exact h)
def gGl (T : Nat → Int32) (L : Nat) (s : zCu) (M : Mem) (fl fd up : Nat) : Mem := up2 (up2 M 1 fl 1) 9 fd (nI (zG2 T L s (M 1 fl) up).2)
theorem c_g2 {l : Launch} {G : zG} {up : Nat} {x : Int32} {N : Mem} {ν : Lng} {s : zCu} {T : Nat → Int32} {L : Nat} (hT : N 13 = T) (hL : N 1 4 = nI L) (hL2 : L ≤ 250) (ha : s.2.2.1 < L) (hup : up ≤ 999) : Cm l G mX5_readNumber [.ref 1, .int 0, .int (nI up)] (mC N ((zG1 s x).1, (zG1 s x).2.1, s.2.2.1 + 1, (zG1 s x).2.2.2)) ν (fun a9 b9 c9 => nI (zG2 T L s x up).2 = a9 ∧ mC N (zG2 T L s x up).1 = b9 ∧ ν = c9) := c_readNumber (s := ((zG1 s x).1, (zG1 s x).2.1, s.2.2.1 + 1, (zG1 s x).2.2.2)) (lo := 0) (up := up) hT hL hL2 (by exact ha) (Nat.zero_le _) hup
set_option maxRecDepth 100000 in
set_option maxHeartbeats 400000 in
theorem c_readWindow {l : Launch} {G : zG} {M : Mem} {ν : Lng} {s : zCu} {T : Nat → Int32} {L : Nat} (hT : M 13 = T) (hL : M 1 4 = nI L) (hL2 : L ≤ 250) (ha : s.2.2.1 < L)  : Cm l G mX5_readWindow [.ref 1] (mC M s) ν (fun _ b9 c9 => mC (gGl T L s M 9 3 1) (zEn T L (zG2 T L s (M 1 9) 1).1) = b9 ∧ ν = c9) := by
  refine Con.of (by decide) (Nat.le_of_ble_eq_true rfl) ?_
  show Am l G mX5_readWindow 0 [(0, .ref 1)] [] (mC M s) ν _
  have h16 : Am l G mX5_readWindow 16 [(0, .ref 1)] [] (mC M (zG1 s (M 1 9))) ν (fun _ b9 c9 => mC (gGl T L s M 9 3 1) (zEn T L (zG2 T L s (M 1 9) 1).1) = b9 ∧ ν = c9) := by
    refine z_aload_n dX5_readWindow_16 rfl ?_
    refine z_iconst (v := 1) dX5_readWindow_17 rfl ?_
    refine m_puti dX5_readWindow_18 fX5_48 (fun q h => by cases h; rfl) rfl rfl sh1 rfl ?_
    rw [mC_u1 (by decide) (by decide) (by decide) (by decide)]
    refine z_aload_n dX5_readWindow_21 rfl ?_
    refine z_dup dX5_readWindow_22 rfl ?_
    refine m_geti dX5_readWindow_23 fX5_42 sh1 rfl ?_
    rw [show mC (up2 M 1 9 1) (zG1 s (M 1 9)) 1 7 = nI (zG1 s (M 1 9)).2.2.1 from rfl, zG1_a]
    refine z_iconst (v := 1) dX5_readWindow_26 rfl ?_
    refine z_iadd dX5_readWindow_27 ?_
    rw [show (nI s.2.2.1 + 1) = nI (s.2.2.1 + 1) from nI_1 _]
    refine m_puti dX5_readWindow_28 fX5_42 (fun q h => by cases h; rfl) rfl rfl sh1 rfl ?_
    rw [mC_ua]
    refine z_aload_n dX5_readWindow_31 rfl ?_
    refine m_getr dX5_readWindow_32 fX5_21 sh1 rfl ?_
    refine z_aload_n dX5_readWindow_35 rfl ?_
    refine z_iconst (v := 0) dX5_readWindow_36 rfl ?_
    refine z_iconst (v := 1) dX5_readWindow_37 rfl ?_
    refine m_callV (As := [.int _, .int _]) dX5_readWindow_38 kX5_88 ⟨rfl, rfl⟩ rfl ⟨rfl, rfl⟩ rfl rfl sh1 rfl rfl (c_g2 (T := T) (L := L) (s := s) (x := M 1 9) (up := 1) (by (repeat rw [up2_ne (by decide)]); exact hT) (by (repeat rw [up2_ne (by decide)]); rw [up2_row, if_neg (by decide)]; exact hL) hL2 ha (by decide)) (fun r38 μ38 ν38 hk38 => ?_)
    obtain ⟨rfl, rfl, rfl⟩ := hk38
    refine m_puti dX5_readWindow_41 fX5_125 (fun q h => by cases h; rfl) rfl rfl sh9 rfl ?_
    rw [mC_up (by decide)]
    refine z_aload_n dX5_readWindow_44 rfl ?_
    refine m_callVv (As := []) dX5_readWindow_45 kX5_98 ⟨rfl, rfl⟩ rfl ⟨rfl, rfl⟩ rfl rfl sh1 rfl rfl (c_readEnd (T := T) (L := L) (s := (zG2 T L s (M 1 9) 1).1) (by (repeat rw [up2_ne (by decide)]); exact hT) (by (repeat rw [up2_ne (by decide)]); rw [up2_row, if_neg (by decide)]; exact hL) hL2 (zG2_a ha).2) (fun μ45 ν45 hk45 => ?_)
    obtain ⟨rfl, rfl⟩ := hk45
    refine m_ret dX5_readWindow_48 rfl ?_
    exact ⟨rfl, rfl⟩
  refine z_aload_n dX5_readWindow_0 rfl ?_
  refine m_geti dX5_readWindow_1 fX5_48 sh1 rfl ?_
  refine z_if_eq 16 dX5_readWindow_4 (by decide) (fun h4 => ?_) (fun h4 => ?_)
  · skip
    first | (rw [show zG1 s (M 1 9) = s from if_pos h4] at h16; exact h16) | (rw [show zG1 s (M 1 9) = zFl s 3 (nI s.2.2.1) from if_neg h4] at h16; exact h16)
  · skip
    refine z_aload_n dX5_readWindow_7 rfl ?_
    refine z_iconst (v := 3) dX5_readWindow_8 rfl ?_
    refine z_aload_n dX5_readWindow_9 rfl ?_
    refine m_geti dX5_readWindow_10 fX5_42 sh1 rfl ?_
    rw [show mC M s 1 7 = nI s.2.2.1 from rfl]
    refine m_callVv (As := [.int _, .int _]) dX5_readWindow_13 kX5_84 ⟨rfl, rfl⟩ rfl ⟨rfl, rfl⟩ rfl rfl sh1 rfl rfl c_fail (fun μ13 ν13 hk13 => ?_)
    obtain ⟨rfl, rfl⟩ := hk13
    first | (rw [show zG1 s (M 1 9) = s from if_pos h4] at h16; exact h16) | (rw [show zG1 s (M 1 9) = zFl s 3 (nI s.2.2.1) from if_neg h4] at h16; exact h16)
set_option maxRecDepth 100000 in
set_option maxHeartbeats 400000 in
theorem c_readNoise {l : Launch} {G : zG} {M : Mem} {ν : Lng} {s : zCu} {T : Nat → Int32} {L : Nat} (hT : M 13 = T) (hL : M 1 4 = nI L) (hL2 : L ≤ 250) (ha : s.2.2.1 < L)  : Cm l G mX5_readNoise [.ref 1] (mC M s) ν (fun _ b9 c9 => mC (gGl T L s M 10 4 9) (zEn T L (zG2 T L s (M 1 10) 9).1) = b9 ∧ ν = c9) := by
  refine Con.of (by decide) (Nat.le_of_ble_eq_true rfl) ?_
  show Am l G mX5_readNoise 0 [(0, .ref 1)] [] (mC M s) ν _
  have h16 : Am l G mX5_readNoise 16 [(0, .ref 1)] [] (mC M (zG1 s (M 1 10))) ν (fun _ b9 c9 => mC (gGl T L s M 10 4 9) (zEn T L (zG2 T L s (M 1 10) 9).1) = b9 ∧ ν = c9) := by
    refine z_aload_n dX5_readNoise_16 rfl ?_
    refine z_iconst (v := 1) dX5_readNoise_17 rfl ?_
    refine m_puti dX5_readNoise_18 fX5_52 (fun q h => by cases h; rfl) rfl rfl sh1 rfl ?_
    rw [mC_u1 (by decide) (by decide) (by decide) (by decide)]
    refine z_aload_n dX5_readNoise_21 rfl ?_
    refine z_dup dX5_readNoise_22 rfl ?_
    refine m_geti dX5_readNoise_23 fX5_42 sh1 rfl ?_
    rw [show mC (up2 M 1 10 1) (zG1 s (M 1 10)) 1 7 = nI (zG1 s (M 1 10)).2.2.1 from rfl, zG1_a]
    refine z_iconst (v := 1) dX5_readNoise_26 rfl ?_
    refine z_iadd dX5_readNoise_27 ?_
    rw [show (nI s.2.2.1 + 1) = nI (s.2.2.1 + 1) from nI_1 _]
    refine m_puti dX5_readNoise_28 fX5_42 (fun q h => by cases h; rfl) rfl rfl sh1 rfl ?_
    rw [mC_ua]
    refine z_aload_n dX5_readNoise_31 rfl ?_
    refine m_getr dX5_readNoise_32 fX5_21 sh1 rfl ?_
    refine z_aload_n dX5_readNoise_35 rfl ?_
    refine z_iconst (v := 0) dX5_readNoise_36 rfl ?_
    refine z_bipush (v := 9) dX5_readNoise_37 rfl ?_
    refine m_callV (As := [.int _, .int _]) dX5_readNoise_39 kX5_88 ⟨rfl, rfl⟩ rfl ⟨rfl, rfl⟩ rfl rfl sh1 rfl rfl (c_g2 (T := T) (L := L) (s := s) (x := M 1 10) (up := 9) (by (repeat rw [up2_ne (by decide)]); exact hT) (by (repeat rw [up2_ne (by decide)]); rw [up2_row, if_neg (by decide)]; exact hL) hL2 ha (by decide)) (fun r39 μ39 ν39 hk39 => ?_)
    obtain ⟨rfl, rfl, rfl⟩ := hk39
    refine m_puti dX5_readNoise_42 fX5_128 (fun q h => by cases h; rfl) rfl rfl sh9 rfl ?_
    rw [mC_up (by decide)]
    refine z_aload_n dX5_readNoise_45 rfl ?_
    refine m_callVv (As := []) dX5_readNoise_46 kX5_98 ⟨rfl, rfl⟩ rfl ⟨rfl, rfl⟩ rfl rfl sh1 rfl rfl (c_readEnd (T := T) (L := L) (s := (zG2 T L s (M 1 10) 9).1) (by (repeat rw [up2_ne (by decide)]); exact hT) (by (repeat rw [up2_ne (by decide)]); rw [up2_row, if_neg (by decide)]; exact hL) hL2 (zG2_a ha).2) (fun μ46 ν46 hk46 => ?_)
    obtain ⟨rfl, rfl⟩ := hk46
    refine m_ret dX5_readNoise_49 rfl ?_
    exact ⟨rfl, rfl⟩
  refine z_aload_n dX5_readNoise_0 rfl ?_
  refine m_geti dX5_readNoise_1 fX5_52 sh1 rfl ?_
  refine z_if_eq 16 dX5_readNoise_4 (by decide) (fun h4 => ?_) (fun h4 => ?_)
  · skip
    first | (rw [show zG1 s (M 1 10) = s from if_pos h4] at h16; exact h16) | (rw [show zG1 s (M 1 10) = zFl s 3 (nI s.2.2.1) from if_neg h4] at h16; exact h16)
  · skip
    refine z_aload_n dX5_readNoise_7 rfl ?_
    refine z_iconst (v := 3) dX5_readNoise_8 rfl ?_
    refine z_aload_n dX5_readNoise_9 rfl ?_
    refine m_geti dX5_readNoise_10 fX5_42 sh1 rfl ?_
    rw [show mC M s 1 7 = nI s.2.2.1 from rfl]
    refine m_callVv (As := [.int _, .int _]) dX5_readNoise_13 kX5_84 ⟨rfl, rfl⟩ rfl ⟨rfl, rfl⟩ rfl rfl sh1 rfl rfl c_fail (fun μ13 ν13 hk13 => ?_)
    obtain ⟨rfl, rfl⟩ := hk13
    first | (rw [show zG1 s (M 1 10) = s from if_pos h4] at h16; exact h16) | (rw [show zG1 s (M 1 10) = zFl s 3 (nI s.2.2.1) from if_neg h4] at h16; exact h16)
