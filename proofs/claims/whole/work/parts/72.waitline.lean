
def rWt (T : Nat → Int32) (L : Nat) (s : zCu) (R : Mem) (m : Nat) : Nat → Mem
  | 0 => up2 R 66 8 (nI (m + 1))
  | i + 1 => up2 (rWt T L s R m i) 68 (7 * m + i) (nI (zWv T L s i))
theorem rWt_ne {T : Nat → Int32} {L : Nat} {s : zCu} {R : Mem} {m q : Nat} (h1 : q ≠ 66) (h2 : q ≠ 68) : ∀ i, rWt T L s R m i q = R q
  | 0 => up2_ne h1
  | i + 1 => by rw [rWt, up2_ne h2, rWt_ne h1 h2 i]
theorem rWt_66 {T : Nat → Int32} {L : Nat} {s : zCu} {R : Mem} {m j : Nat} : ∀ i, rWt T L s R m i 66 j = if j = 8 then nI (m + 1) else R 66 j
  | 0 => up2_row _ _ _ _ _
  | i + 1 => by rw [rWt, up2_ne (by decide), rWt_66 i]
theorem rWt_68 {T : Nat → Int32} {L : Nat} {s : zCu} {R : Mem} {m j : Nat} : ∀ i, rWt T L s R m i 68 j = if 7 * m ≤ j ∧ j < 7 * m + i then nI (zWv T L s (j - 7 * m)) else R 68 j
  | 0 => by rw [rWt, up2_ne (by decide), if_neg (by omega)]
  | i + 1 => by
    rw [rWt, up2_row, rWt_68 i]
    by_cases e : j = 7 * m + i
    · rw [if_pos e, if_pos (by omega), e, show 7 * m + i - 7 * m = i by omega]
    · rw [if_neg e]
      by_cases e2 : 7 * m ≤ j ∧ j < 7 * m + i
      · rw [if_pos e2, if_pos (by omega)]
      · rw [if_neg e2, if_neg (by omega)]
def zTi (T : Nat → Int32) (L : Nat) (s : zCu) (t : Int32) : Nat → Int32
  | 0 => t
  | i + 1 => (zWn T L s (i + 1)).2.2.2
def zKi (k : Int32) : Nat → Int32
  | 0 => k
  | _ + 1 => -1
def zNi (T : Nat → Int32) (L : Nat) (s : zCu) (n : Int32) : Nat → Int32
  | 0 => n
  | i + 1 => nI (zWv T L s i)
theorem d_wnk {l : Launch} {G : zG} {N : Mem} {ν : Lng} {s : zCu} {t k n p f : Int32} {T : Nat → Int32} {L i : Nat} (hT : ∀ i, i < L → N 67 i = T i) (hL : N 66 0 = nI L) (hL2 : L ≤ 250) (ha : s.2.2.1 ≤ L) (hs : (zWn T L s i).1 = 0) (hk : (zWn T L s (i + 1)).1 = 0) : Cm l G mX10_isNumber [.ref 66, .int (nI (zlo i)), .int (nI (zhi i))] (mR N (zWn T L s i).2.2.1 t k n p f) ν (fun a9 b9 c9 => (1 : Int32) = a9 ∧ mR N (zWn T L s (i + 1)).2.2.1 (zTi T L s t (i + 1)) (zKi k (i + 1)) (zNi T L s n (i + 1)) p f = b9 ∧ ν = c9) := d_numk (s := zWn T L s i) (lo := zlo i) (up := zhi i) hT hL hL2 (zWn_a ha i).2 hs (zlo_hi i).2 (Nat.le_trans (zlo_hi i).1 (zlo_hi i).2) hk
theorem d_wnb {l : Launch} {G : zG} {N : Mem} {ν : Lng} {s : zCu} {t k n p f : Int32} {T : Nat → Int32} {L i : Nat} (hT : ∀ i, i < L → N 67 i = T i) (hL : N 66 0 = nI L) (hL2 : L ≤ 250) (ha : s.2.2.1 ≤ L) (h255 : ∀ i, i < L → zN (T i) 255) (hs : (zWn T L s i).1 = 0) (hk : ¬ (zWn T L s (i + 1)).1 = 0) : Cm l G mX10_isNumber [.ref 66, .int (nI (zlo i)), .int (nI (zhi i))] (mR N (zWn T L s i).2.2.1 t k n p f) ν (fun a9 b9 c9 => (0 : Int32) = a9 ∧ (∃ (a1 : Nat) (t1 k1 n1 : Int32), mR N a1 t1 k1 n1 (zWn T L s (i + 1)).2.1 (zWn T L s (i + 1)).1 = b9) ∧ ν = c9) := d_num0 (s := zWn T L s i) (lo := zlo i) (up := zhi i) hT hL hL2 (zWn_a ha i).2 h255 hs (zlo_hi i).2 (Nat.le_trans (zlo_hi i).1 (zlo_hi i).2) hk
set_option maxRecDepth 100000 in
set_option maxHeartbeats 400000 in
theorem d_wait6 {l : Launch} {G : zG} {R : Mem} {ν : Lng} {s : zCu} {t k n p f : Int32} {T : Nat → Int32} {L : Nat} (hT : ∀ i, i < L → R 67 i = T i) (hL : R 66 0 = nI L) (hL2 : L ≤ 250) (ha : s.2.2.1 < L) (h255 : ∀ i, i < L → zN (T i) 255) (hs : s.1 = 0) (hm : R 66 8 = nI 6)  : Cm l G mX10_isWaiterLine [.ref 66] (mR R (s.2.2.1 + 1) (nI s.2.2.1) k n p f) ν (fun a9 b9 c9 => (0 : Int32) = a9 ∧ zBd R (zFl s 3 (nI s.2.2.1)).2.1 (zFl s 3 (nI s.2.2.1)).1 b9 ∧ ν = c9) := by
  refine Con.of (by decide) (Nat.le_of_ble_eq_true rfl) ?_
  show Am l G mX10_isWaiterLine 0 [(0, .ref 66)] [] (mR R (s.2.2.1 + 1) (nI s.2.2.1) k n p f) ν _
  refine z_aload_n dX10_isWaiterLine_0 rfl ?_
  refine m_geti dX10_isWaiterLine_1 fX10_146 sh66 rfl ?_
  rw [mR_row (by decide), hm]
  refine z_bipush (v := 6) dX10_isWaiterLine_4 rfl ?_
  refine z_icmp_ne 15 dX10_isWaiterLine_6 (by decide) (fun h6 => absurd (by decide) h6) (fun h6 => ?_)
  refine z_aload_n dX10_isWaiterLine_9 rfl ?_
  refine z_iconst (v := 3) dX10_isWaiterLine_10 rfl ?_
  refine m_callV (As := [.int _]) dX10_isWaiterLine_11 kX10_135 ⟨rfl, rfl⟩ rfl ⟨rfl, rfl⟩ rfl rfl sh66 rfl rfl d_fails (fun r11 μ11 ν11 hk11 => ?_)
  obtain ⟨rfl, rfl, rfl⟩ := hk11
  refine m_iret dX10_isWaiterLine_14 rfl rfl ?_
  rw [zFl_0 hs]
  exact ⟨rfl, zBd.mk (fun q a1 a2 a3 => rfl) (fun j hj => rfl), rfl⟩
set_option maxRecDepth 100000 in
set_option maxHeartbeats 400000 in
theorem d_wait1 {l : Launch} {G : zG} {R : Mem} {ν : Lng} {s : zCu} {t k n p f : Int32} {T : Nat → Int32} {L : Nat} (hT : ∀ i, i < L → R 67 i = T i) (hL : R 66 0 = nI L) (hL2 : L ≤ 250) (ha : s.2.2.1 < L) (h255 : ∀ i, i < L → zN (T i) 255) (hs : s.1 = 0) {m : Nat} (hm : R 66 8 = nI m) (hm6 : m < 6) (hk7 : (zWn T L (s.1, s.2.1, s.2.2.1 + 1, s.2.2.2) 7).1 = 0)  : Cm l G mX10_isWaiterLine [.ref 66] (mR R (s.2.2.1 + 1) (nI s.2.2.1) k n p f) ν (fun a9 b9 c9 => (1 : Int32) = a9 ∧ mR (rWt T L (s.1, s.2.1, s.2.2.1 + 1, s.2.2.2) R m 7) (zWn T L (s.1, s.2.1, s.2.2.1 + 1, s.2.2.2) 7).2.2.1 (zTi T L (s.1, s.2.1, s.2.2.1 + 1, s.2.2.2) (nI s.2.2.1) 7) (zKi k 7) (zNi T L (s.1, s.2.1, s.2.2.1 + 1, s.2.2.2) n 7) p f = b9 ∧ ν = c9) := by
  refine Con.of (by decide) (Nat.le_of_ble_eq_true rfl) ?_
  show Am l G mX10_isWaiterLine 0 [(0, .ref 66)] [] (mR R (s.2.2.1 + 1) (nI s.2.2.1) k n p f) ν _
  have hP : ∀ i, i ≤ 7 → (zWn T L (s.1, s.2.1, s.2.2.1 + 1, s.2.2.2) i).1 = 0 := fun i hi => Classical.byContradiction (fun q => by
    have z1 := (zWn_st q (7 - i)).1
    rw [show i + (7 - i) = 7 by omega, hk7] at z1
    exact q z1.symm)
  have hW := m_for (l := l) (G := G) (M := mX10_isWaiterLine) (pc := 35) (ν := ν) (K := (fun a9 b9 c9 => (1 : Int32) = a9 ∧ mR (rWt T L (s.1, s.2.1, s.2.2.1 + 1, s.2.2.2) R m 7) (zWn T L (s.1, s.2.1, s.2.2.1 + 1, s.2.2.2) 7).2.2.1 (zTi T L (s.1, s.2.1, s.2.2.1 + 1, s.2.2.2) (nI s.2.2.1) 7) (zKi k 7) (zNi T L (s.1, s.2.1, s.2.2.1 + 1, s.2.2.2) n 7) p f = b9 ∧ ν = c9)) (N := 7) (fun i => [(2, .int (nI i)), (1, .int (nI (7 * m))), (0, .ref 66)]) (fun i => mR (rWt T L (s.1, s.2.1, s.2.2.1 + 1, s.2.2.2) R m i) (zWn T L (s.1, s.2.1, s.2.2.1 + 1, s.2.2.2) i).2.2.1 (zTi T L (s.1, s.2.1, s.2.2.1 + 1, s.2.2.2) (nI s.2.2.1) i) (zKi k i) (zNi T L (s.1, s.2.1, s.2.2.1 + 1, s.2.2.2) n i) p f) (fun i hi H => by
    have hk := hP (i + 1) (by omega)
    have h115 : Am l G mX10_isWaiterLine 115 [(4, .int (nI (zhi i))), (3, .int (nI (zlo i))), (2, .int (nI i)), (1, .int (nI (7 * m))), (0, .ref 66)] [] (mR (rWt T L (s.1, s.2.1, s.2.2.1 + 1, s.2.2.2) R m i) (zWn T L (s.1, s.2.1, s.2.2.1 + 1, s.2.2.2) i).2.2.1 (zTi T L (s.1, s.2.1, s.2.2.1 + 1, s.2.2.2) (nI s.2.2.1) i) (zKi k i) (zNi T L (s.1, s.2.1, s.2.2.1 + 1, s.2.2.2) n i) p f) ν (fun a9 b9 c9 => (1 : Int32) = a9 ∧ mR (rWt T L (s.1, s.2.1, s.2.2.1 + 1, s.2.2.2) R m 7) (zWn T L (s.1, s.2.1, s.2.2.1 + 1, s.2.2.2) 7).2.2.1 (zTi T L (s.1, s.2.1, s.2.2.1 + 1, s.2.2.2) (nI s.2.2.1) 7) (zKi k 7) (zNi T L (s.1, s.2.1, s.2.2.1 + 1, s.2.2.2) n 7) p f = b9 ∧ ν = c9) := by
      refine z_aload_n dX10_isWaiterLine_115 rfl ?_
      refine z_iload_n dX10_isWaiterLine_116 rfl ?_
      refine z_iload dX10_isWaiterLine_117 rfl ?_
      refine m_callV (As := [.int _, .int _]) dX10_isWaiterLine_119 kX10_139 ⟨rfl, rfl⟩ rfl ⟨rfl, rfl⟩ rfl rfl sh66 rfl rfl (d_wnk (T := T) (L := L) (s := (s.1, s.2.1, s.2.2.1 + 1, s.2.2.2)) (i := i) (fun j hj => by rw [rWt_ne (by decide) (by decide)]; exact hT j hj) (by rw [rWt_66, if_neg (by decide)]; exact hL) hL2 (by exact ha) (hP i (by omega)) hk) (fun r119 μ119 ν119 hk119 => ?_)
      obtain ⟨rfl, rfl, rfl⟩ := hk119
      refine z_if_ne 127 dX10_isWaiterLine_122 (by decide) (fun h122 => ?_) (fun h122 => absurd h122 (by decide))
      refine z_aload_n dX10_isWaiterLine_127 rfl ?_
      refine m_getr dX10_isWaiterLine_128 fX10_17 sh66 rfl ?_
      refine z_iload_n dX10_isWaiterLine_131 rfl ?_
      refine z_iload_n dX10_isWaiterLine_132 rfl ?_
      refine z_iadd dX10_isWaiterLine_133 ?_
      rw [show (nI (7 * m) + nI i) = nI (7 * m + i) from nI_add _ _]
      refine z_aload_n dX10_isWaiterLine_134 rfl ?_
      refine m_geti dX10_isWaiterLine_135 fX10_123 sh66 rfl ?_
      rw [mR_5]
      refine m_iastN (j := 7 * m + i) dX10_isWaiterLine_138 sh68 rfl (by omega) rfl ?_
      refine z_iinc (fun y => [(2, .int y), (4, .int (nI (zhi i))), (3, .int (nI (zlo i))), (1, .int (nI (7 * m))), (0, .ref 66)]) dX10_isWaiterLine_139 rfl rfl (fun _ => rfl) (fun x2_139 ex2_139 => ?_)
      obtain rfl : x2_139 = nI (i + 1) := by rw [ex2_139]; exact nI_1 i
      refine z_goto 35 dX10_isWaiterLine_142 (by decide) ?_
      refine z_lv [0, 3, 4] rfl ?_
      rw [mR_up (by decide)]
      exact H
    rcases (show i = 0 ∨ i = 1 ∨ i = 2 ∨ i = 3 ∨ i = 4 ∨ i = 5 ∨ i = 6 by omega) with rfl | rfl | rfl | rfl | rfl | rfl | rfl
    · skip
      refine z_iload_n dX10_isWaiterLine_35 rfl ?_
      refine z_bipush (v := 7) dX10_isWaiterLine_36 rfl ?_
      refine z_icmp_ge 145 dX10_isWaiterLine_38 (by decide) (fun h38 => absurd h38 (by decide)) (fun h38 => ?_)
      refine z_iload_n dX10_isWaiterLine_41 rfl ?_
      refine z_iconst (v := 2) dX10_isWaiterLine_42 rfl ?_
      refine z_icmp_eq 51 dX10_isWaiterLine_43 (by decide) (fun h43 => absurd h43 (by decide)) (fun h43 => ?_)
      refine z_iload_n dX10_isWaiterLine_46 rfl ?_
      refine z_iconst (v := 4) dX10_isWaiterLine_47 rfl ?_
      refine z_icmp_ne 55 dX10_isWaiterLine_48 (by decide) (fun h48 => ?_) (fun h48 => absurd h48 (by decide))
      refine z_iconst (v := 0) dX10_isWaiterLine_55 rfl ?_
      refine z_istore_n (i := 3) (fun y => [(3, .int y), (2, .int (nI 0)), (1, .int (nI (7 * m))), (0, .ref 66)]) dX10_isWaiterLine_56 rfl rfl (fun _ => rfl) (fun x9 e9 => ?_)
      subst e9
      refine z_iload_n dX10_isWaiterLine_57 rfl ?_
      refine z_if_eq 67 dX10_isWaiterLine_58 (by decide) (fun h58 => ?_) (fun h58 => absurd (by decide) h58)
      refine z_iconst (v := 1) dX10_isWaiterLine_67 rfl ?_
      refine z_goto 113 dX10_isWaiterLine_68 (by decide) ?_
      refine z_istore (i := 4) (fun y => [(4, .int y), (3, .int 0), (2, .int (nI 0)), (1, .int (nI (7 * m))), (0, .ref 66)]) dX10_isWaiterLine_113 rfl (fun _ => rfl) (fun x9 e9 => ?_)
      subst e9
      exact h115
    · skip
      refine z_iload_n dX10_isWaiterLine_35 rfl ?_
      refine z_bipush (v := 7) dX10_isWaiterLine_36 rfl ?_
      refine z_icmp_ge 145 dX10_isWaiterLine_38 (by decide) (fun h38 => absurd h38 (by decide)) (fun h38 => ?_)
      refine z_iload_n dX10_isWaiterLine_41 rfl ?_
      refine z_iconst (v := 2) dX10_isWaiterLine_42 rfl ?_
      refine z_icmp_eq 51 dX10_isWaiterLine_43 (by decide) (fun h43 => absurd h43 (by decide)) (fun h43 => ?_)
      refine z_iload_n dX10_isWaiterLine_46 rfl ?_
      refine z_iconst (v := 4) dX10_isWaiterLine_47 rfl ?_
      refine z_icmp_ne 55 dX10_isWaiterLine_48 (by decide) (fun h48 => ?_) (fun h48 => absurd h48 (by decide))
      refine z_iconst (v := 0) dX10_isWaiterLine_55 rfl ?_
      refine z_istore_n (i := 3) (fun y => [(3, .int y), (2, .int (nI 1)), (1, .int (nI (7 * m))), (0, .ref 66)]) dX10_isWaiterLine_56 rfl rfl (fun _ => rfl) (fun x9 e9 => ?_)
      subst e9
      refine z_iload_n dX10_isWaiterLine_57 rfl ?_
      refine z_if_eq 67 dX10_isWaiterLine_58 (by decide) (fun h58 => absurd h58 (by decide)) (fun h58 => ?_)
      refine z_iload_n dX10_isWaiterLine_61 rfl ?_
      refine z_bipush (v := 6) dX10_isWaiterLine_62 rfl ?_
      refine z_icmp_ne 71 dX10_isWaiterLine_64 (by decide) (fun h64 => ?_) (fun h64 => absurd h64 (by decide))
      refine z_iload_n dX10_isWaiterLine_71 rfl ?_
      refine z_iconst (v := 1) dX10_isWaiterLine_72 rfl ?_
      refine z_icmp_ne 82 dX10_isWaiterLine_73 (by decide) (fun h73 => absurd (by decide) h73) (fun h73 => ?_)
      refine z_sipush (v := 999) dX10_isWaiterLine_76 rfl ?_
      refine z_goto 113 dX10_isWaiterLine_79 (by decide) ?_
      refine z_istore (i := 4) (fun y => [(4, .int y), (3, .int 0), (2, .int (nI 1)), (1, .int (nI (7 * m))), (0, .ref 66)]) dX10_isWaiterLine_113 rfl (fun _ => rfl) (fun x9 e9 => ?_)
      subst e9
      exact h115
    · skip
      refine z_iload_n dX10_isWaiterLine_35 rfl ?_
      refine z_bipush (v := 7) dX10_isWaiterLine_36 rfl ?_
      refine z_icmp_ge 145 dX10_isWaiterLine_38 (by decide) (fun h38 => absurd h38 (by decide)) (fun h38 => ?_)
      refine z_iload_n dX10_isWaiterLine_41 rfl ?_
      refine z_iconst (v := 2) dX10_isWaiterLine_42 rfl ?_
      refine z_icmp_eq 51 dX10_isWaiterLine_43 (by decide) (fun h43 => ?_) (fun h43 => absurd (by decide) h43)
      refine z_iconst (v := 1) dX10_isWaiterLine_51 rfl ?_
      refine z_goto 56 dX10_isWaiterLine_52 (by decide) ?_
      refine z_istore_n (i := 3) (fun y => [(3, .int y), (2, .int (nI 2)), (1, .int (nI (7 * m))), (0, .ref 66)]) dX10_isWaiterLine_56 rfl rfl (fun _ => rfl) (fun x9 e9 => ?_)
      subst e9
      refine z_iload_n dX10_isWaiterLine_57 rfl ?_
      refine z_if_eq 67 dX10_isWaiterLine_58 (by decide) (fun h58 => absurd h58 (by decide)) (fun h58 => ?_)
      refine z_iload_n dX10_isWaiterLine_61 rfl ?_
      refine z_bipush (v := 6) dX10_isWaiterLine_62 rfl ?_
      refine z_icmp_ne 71 dX10_isWaiterLine_64 (by decide) (fun h64 => ?_) (fun h64 => absurd h64 (by decide))
      refine z_iload_n dX10_isWaiterLine_71 rfl ?_
      refine z_iconst (v := 1) dX10_isWaiterLine_72 rfl ?_
      refine z_icmp_ne 82 dX10_isWaiterLine_73 (by decide) (fun h73 => ?_) (fun h73 => absurd h73 (by decide))
      refine z_iload_n dX10_isWaiterLine_82 rfl ?_
      refine z_iconst (v := 2) dX10_isWaiterLine_83 rfl ?_
      refine z_icmp_ne 92 dX10_isWaiterLine_84 (by decide) (fun h84 => absurd (by decide) h84) (fun h84 => ?_)
      refine z_bipush (v := 30) dX10_isWaiterLine_87 rfl ?_
      refine z_goto 113 dX10_isWaiterLine_89 (by decide) ?_
      refine z_istore (i := 4) (fun y => [(4, .int y), (3, .int 1), (2, .int (nI 2)), (1, .int (nI (7 * m))), (0, .ref 66)]) dX10_isWaiterLine_113 rfl (fun _ => rfl) (fun x9 e9 => ?_)
      subst e9
      exact h115
    · skip
      refine z_iload_n dX10_isWaiterLine_35 rfl ?_
      refine z_bipush (v := 7) dX10_isWaiterLine_36 rfl ?_
      refine z_icmp_ge 145 dX10_isWaiterLine_38 (by decide) (fun h38 => absurd h38 (by decide)) (fun h38 => ?_)
      refine z_iload_n dX10_isWaiterLine_41 rfl ?_
      refine z_iconst (v := 2) dX10_isWaiterLine_42 rfl ?_
      refine z_icmp_eq 51 dX10_isWaiterLine_43 (by decide) (fun h43 => absurd h43 (by decide)) (fun h43 => ?_)
      refine z_iload_n dX10_isWaiterLine_46 rfl ?_
      refine z_iconst (v := 4) dX10_isWaiterLine_47 rfl ?_
      refine z_icmp_ne 55 dX10_isWaiterLine_48 (by decide) (fun h48 => ?_) (fun h48 => absurd h48 (by decide))
      refine z_iconst (v := 0) dX10_isWaiterLine_55 rfl ?_
      refine z_istore_n (i := 3) (fun y => [(3, .int y), (2, .int (nI 3)), (1, .int (nI (7 * m))), (0, .ref 66)]) dX10_isWaiterLine_56 rfl rfl (fun _ => rfl) (fun x9 e9 => ?_)
      subst e9
      refine z_iload_n dX10_isWaiterLine_57 rfl ?_
      refine z_if_eq 67 dX10_isWaiterLine_58 (by decide) (fun h58 => absurd h58 (by decide)) (fun h58 => ?_)
      refine z_iload_n dX10_isWaiterLine_61 rfl ?_
      refine z_bipush (v := 6) dX10_isWaiterLine_62 rfl ?_
      refine z_icmp_ne 71 dX10_isWaiterLine_64 (by decide) (fun h64 => ?_) (fun h64 => absurd h64 (by decide))
      refine z_iload_n dX10_isWaiterLine_71 rfl ?_
      refine z_iconst (v := 1) dX10_isWaiterLine_72 rfl ?_
      refine z_icmp_ne 82 dX10_isWaiterLine_73 (by decide) (fun h73 => ?_) (fun h73 => absurd h73 (by decide))
      refine z_iload_n dX10_isWaiterLine_82 rfl ?_
      refine z_iconst (v := 2) dX10_isWaiterLine_83 rfl ?_
      refine z_icmp_ne 92 dX10_isWaiterLine_84 (by decide) (fun h84 => ?_) (fun h84 => absurd h84 (by decide))
      refine z_iload_n dX10_isWaiterLine_92 rfl ?_
      refine z_iconst (v := 3) dX10_isWaiterLine_93 rfl ?_
      refine z_icmp_ne 102 dX10_isWaiterLine_94 (by decide) (fun h94 => absurd (by decide) h94) (fun h94 => ?_)
      refine z_bipush (v := 99) dX10_isWaiterLine_97 rfl ?_
      refine z_goto 113 dX10_isWaiterLine_99 (by decide) ?_
      refine z_istore (i := 4) (fun y => [(4, .int y), (3, .int 0), (2, .int (nI 3)), (1, .int (nI (7 * m))), (0, .ref 66)]) dX10_isWaiterLine_113 rfl (fun _ => rfl) (fun x9 e9 => ?_)
      subst e9
      exact h115
    · skip
      refine z_iload_n dX10_isWaiterLine_35 rfl ?_
      refine z_bipush (v := 7) dX10_isWaiterLine_36 rfl ?_
      refine z_icmp_ge 145 dX10_isWaiterLine_38 (by decide) (fun h38 => absurd h38 (by decide)) (fun h38 => ?_)
      refine z_iload_n dX10_isWaiterLine_41 rfl ?_
      refine z_iconst (v := 2) dX10_isWaiterLine_42 rfl ?_
      refine z_icmp_eq 51 dX10_isWaiterLine_43 (by decide) (fun h43 => absurd h43 (by decide)) (fun h43 => ?_)
      refine z_iload_n dX10_isWaiterLine_46 rfl ?_
      refine z_iconst (v := 4) dX10_isWaiterLine_47 rfl ?_
      refine z_icmp_ne 55 dX10_isWaiterLine_48 (by decide) (fun h48 => absurd (by decide) h48) (fun h48 => ?_)
      refine z_iconst (v := 1) dX10_isWaiterLine_51 rfl ?_
      refine z_goto 56 dX10_isWaiterLine_52 (by decide) ?_
      refine z_istore_n (i := 3) (fun y => [(3, .int y), (2, .int (nI 4)), (1, .int (nI (7 * m))), (0, .ref 66)]) dX10_isWaiterLine_56 rfl rfl (fun _ => rfl) (fun x9 e9 => ?_)
      subst e9
      refine z_iload_n dX10_isWaiterLine_57 rfl ?_
      refine z_if_eq 67 dX10_isWaiterLine_58 (by decide) (fun h58 => absurd h58 (by decide)) (fun h58 => ?_)
      refine z_iload_n dX10_isWaiterLine_61 rfl ?_
      refine z_bipush (v := 6) dX10_isWaiterLine_62 rfl ?_
      refine z_icmp_ne 71 dX10_isWaiterLine_64 (by decide) (fun h64 => ?_) (fun h64 => absurd h64 (by decide))
      refine z_iload_n dX10_isWaiterLine_71 rfl ?_
      refine z_iconst (v := 1) dX10_isWaiterLine_72 rfl ?_
      refine z_icmp_ne 82 dX10_isWaiterLine_73 (by decide) (fun h73 => ?_) (fun h73 => absurd h73 (by decide))
      refine z_iload_n dX10_isWaiterLine_82 rfl ?_
      refine z_iconst (v := 2) dX10_isWaiterLine_83 rfl ?_
      refine z_icmp_ne 92 dX10_isWaiterLine_84 (by decide) (fun h84 => ?_) (fun h84 => absurd h84 (by decide))
      refine z_iload_n dX10_isWaiterLine_92 rfl ?_
      refine z_iconst (v := 3) dX10_isWaiterLine_93 rfl ?_
      refine z_icmp_ne 102 dX10_isWaiterLine_94 (by decide) (fun h94 => ?_) (fun h94 => absurd h94 (by decide))
      refine z_iload_n dX10_isWaiterLine_102 rfl ?_
      refine z_iconst (v := 4) dX10_isWaiterLine_103 rfl ?_
      refine z_icmp_ne 112 dX10_isWaiterLine_104 (by decide) (fun h104 => absurd (by decide) h104) (fun h104 => ?_)
      refine z_bipush (v := 9) dX10_isWaiterLine_107 rfl ?_
      refine z_goto 113 dX10_isWaiterLine_109 (by decide) ?_
      refine z_istore (i := 4) (fun y => [(4, .int y), (3, .int 1), (2, .int (nI 4)), (1, .int (nI (7 * m))), (0, .ref 66)]) dX10_isWaiterLine_113 rfl (fun _ => rfl) (fun x9 e9 => ?_)
      subst e9
      exact h115
    · skip
      refine z_iload_n dX10_isWaiterLine_35 rfl ?_
      refine z_bipush (v := 7) dX10_isWaiterLine_36 rfl ?_
      refine z_icmp_ge 145 dX10_isWaiterLine_38 (by decide) (fun h38 => absurd h38 (by decide)) (fun h38 => ?_)
      refine z_iload_n dX10_isWaiterLine_41 rfl ?_
      refine z_iconst (v := 2) dX10_isWaiterLine_42 rfl ?_
      refine z_icmp_eq 51 dX10_isWaiterLine_43 (by decide) (fun h43 => absurd h43 (by decide)) (fun h43 => ?_)
      refine z_iload_n dX10_isWaiterLine_46 rfl ?_
      refine z_iconst (v := 4) dX10_isWaiterLine_47 rfl ?_
      refine z_icmp_ne 55 dX10_isWaiterLine_48 (by decide) (fun h48 => ?_) (fun h48 => absurd h48 (by decide))
      refine z_iconst (v := 0) dX10_isWaiterLine_55 rfl ?_
      refine z_istore_n (i := 3) (fun y => [(3, .int y), (2, .int (nI 5)), (1, .int (nI (7 * m))), (0, .ref 66)]) dX10_isWaiterLine_56 rfl rfl (fun _ => rfl) (fun x9 e9 => ?_)
      subst e9
      refine z_iload_n dX10_isWaiterLine_57 rfl ?_
      refine z_if_eq 67 dX10_isWaiterLine_58 (by decide) (fun h58 => absurd h58 (by decide)) (fun h58 => ?_)
      refine z_iload_n dX10_isWaiterLine_61 rfl ?_
      refine z_bipush (v := 6) dX10_isWaiterLine_62 rfl ?_
      refine z_icmp_ne 71 dX10_isWaiterLine_64 (by decide) (fun h64 => ?_) (fun h64 => absurd h64 (by decide))
      refine z_iload_n dX10_isWaiterLine_71 rfl ?_
      refine z_iconst (v := 1) dX10_isWaiterLine_72 rfl ?_
      refine z_icmp_ne 82 dX10_isWaiterLine_73 (by decide) (fun h73 => ?_) (fun h73 => absurd h73 (by decide))
      refine z_iload_n dX10_isWaiterLine_82 rfl ?_
      refine z_iconst (v := 2) dX10_isWaiterLine_83 rfl ?_
      refine z_icmp_ne 92 dX10_isWaiterLine_84 (by decide) (fun h84 => ?_) (fun h84 => absurd h84 (by decide))
      refine z_iload_n dX10_isWaiterLine_92 rfl ?_
      refine z_iconst (v := 3) dX10_isWaiterLine_93 rfl ?_
      refine z_icmp_ne 102 dX10_isWaiterLine_94 (by decide) (fun h94 => ?_) (fun h94 => absurd h94 (by decide))
      refine z_iload_n dX10_isWaiterLine_102 rfl ?_
      refine z_iconst (v := 4) dX10_isWaiterLine_103 rfl ?_
      refine z_icmp_ne 112 dX10_isWaiterLine_104 (by decide) (fun h104 => ?_) (fun h104 => absurd h104 (by decide))
      refine z_iconst (v := 2) dX10_isWaiterLine_112 rfl ?_
      refine z_istore (i := 4) (fun y => [(4, .int y), (3, .int 0), (2, .int (nI 5)), (1, .int (nI (7 * m))), (0, .ref 66)]) dX10_isWaiterLine_113 rfl (fun _ => rfl) (fun x9 e9 => ?_)
      subst e9
      exact h115
    · skip
      refine z_iload_n dX10_isWaiterLine_35 rfl ?_
      refine z_bipush (v := 7) dX10_isWaiterLine_36 rfl ?_
      refine z_icmp_ge 145 dX10_isWaiterLine_38 (by decide) (fun h38 => absurd h38 (by decide)) (fun h38 => ?_)
      refine z_iload_n dX10_isWaiterLine_41 rfl ?_
      refine z_iconst (v := 2) dX10_isWaiterLine_42 rfl ?_
      refine z_icmp_eq 51 dX10_isWaiterLine_43 (by decide) (fun h43 => absurd h43 (by decide)) (fun h43 => ?_)
      refine z_iload_n dX10_isWaiterLine_46 rfl ?_
      refine z_iconst (v := 4) dX10_isWaiterLine_47 rfl ?_
      refine z_icmp_ne 55 dX10_isWaiterLine_48 (by decide) (fun h48 => ?_) (fun h48 => absurd h48 (by decide))
      refine z_iconst (v := 0) dX10_isWaiterLine_55 rfl ?_
      refine z_istore_n (i := 3) (fun y => [(3, .int y), (2, .int (nI 6)), (1, .int (nI (7 * m))), (0, .ref 66)]) dX10_isWaiterLine_56 rfl rfl (fun _ => rfl) (fun x9 e9 => ?_)
      subst e9
      refine z_iload_n dX10_isWaiterLine_57 rfl ?_
      refine z_if_eq 67 dX10_isWaiterLine_58 (by decide) (fun h58 => absurd h58 (by decide)) (fun h58 => ?_)
      refine z_iload_n dX10_isWaiterLine_61 rfl ?_
      refine z_bipush (v := 6) dX10_isWaiterLine_62 rfl ?_
      refine z_icmp_ne 71 dX10_isWaiterLine_64 (by decide) (fun h64 => absurd (by decide) h64) (fun h64 => ?_)
      refine z_iconst (v := 1) dX10_isWaiterLine_67 rfl ?_
      refine z_goto 113 dX10_isWaiterLine_68 (by decide) ?_
      refine z_istore (i := 4) (fun y => [(4, .int y), (3, .int 0), (2, .int (nI 6)), (1, .int (nI (7 * m))), (0, .ref 66)]) dX10_isWaiterLine_113 rfl (fun _ => rfl) (fun x9 e9 => ?_)
      subst e9
      exact h115) (by
    refine z_iload_n dX10_isWaiterLine_35 rfl ?_
    refine z_bipush (v := 7) dX10_isWaiterLine_36 rfl ?_
    refine z_icmp_ge 145 dX10_isWaiterLine_38 (by decide) (fun h38 => ?_) (fun h38 => absurd (by decide) h38)
    refine z_iconst (v := 1) dX10_isWaiterLine_145 rfl ?_
    refine m_iret dX10_isWaiterLine_146 rfl rfl ?_
    exact ⟨rfl, rfl, rfl⟩)
  refine z_aload_n dX10_isWaiterLine_0 rfl ?_
  refine m_geti dX10_isWaiterLine_1 fX10_146 sh66 rfl ?_
  rw [mR_row (by decide), hm]
  refine z_bipush (v := 6) dX10_isWaiterLine_4 rfl ?_
  refine z_icmp_ne 15 dX10_isWaiterLine_6 (by decide) (fun h6 => ?_) (fun h6 => absurd h6 (zne (a := m) (b := 6) (by omega) (by omega) (by decide)))
  refine z_bipush (v := 7) dX10_isWaiterLine_15 rfl ?_
  refine z_aload_n dX10_isWaiterLine_17 rfl ?_
  refine m_geti dX10_isWaiterLine_18 fX10_146 sh66 rfl ?_
  rw [mR_row (by decide), hm]
  refine z_imul dX10_isWaiterLine_21 ?_
  rw [show (7 * nI m) = nI (7 * m) from pk_mul 7 m]
  refine z_istore_n (i := 1) (fun y => [(1, .int y), (0, .ref 66)]) dX10_isWaiterLine_22 rfl rfl (fun _ => rfl) (fun x9 e9 => ?_)
  subst e9
  refine z_aload_n dX10_isWaiterLine_23 rfl ?_
  refine z_dup dX10_isWaiterLine_24 rfl ?_
  refine m_geti dX10_isWaiterLine_25 fX10_146 sh66 rfl ?_
  rw [mR_row (by decide), hm]
  refine z_iconst (v := 1) dX10_isWaiterLine_28 rfl ?_
  refine z_iadd dX10_isWaiterLine_29 ?_
  rw [show (nI m + 1) = nI (m + 1) from nI_1 m]
  refine m_puti dX10_isWaiterLine_30 fX10_146 (fun q h => by cases h; rfl) rfl rfl sh66 rfl ?_
  refine z_iconst (v := 0) dX10_isWaiterLine_33 rfl ?_
  refine z_istore_n (i := 2) (fun y => [(2, .int y), (1, .int (nI (7 * m))), (0, .ref 66)]) dX10_isWaiterLine_34 rfl rfl (fun _ => rfl) (fun x9 e9 => ?_)
  subst e9
  rw [mR_u1 (by decide)]
  exact hW 0 (by decide)
set_option maxRecDepth 100000 in
set_option maxHeartbeats 400000 in
theorem d_wait0 {l : Launch} {G : zG} {R : Mem} {ν : Lng} {s : zCu} {t k n p f : Int32} {T : Nat → Int32} {L : Nat} (hT : ∀ i, i < L → R 67 i = T i) (hL : R 66 0 = nI L) (hL2 : L ≤ 250) (ha : s.2.2.1 < L) (h255 : ∀ i, i < L → zN (T i) 255) (hs : s.1 = 0) {m : Nat} (hm : R 66 8 = nI m) (hm6 : m < 6) (hk7 : ¬ (zWn T L (s.1, s.2.1, s.2.2.1 + 1, s.2.2.2) 7).1 = 0)  : Cm l G mX10_isWaiterLine [.ref 66] (mR R (s.2.2.1 + 1) (nI s.2.2.1) k n p f) ν (fun a9 b9 c9 => (0 : Int32) = a9 ∧ zBd R (zWn T L (s.1, s.2.1, s.2.2.1 + 1, s.2.2.2) 7).2.1 (zWn T L (s.1, s.2.1, s.2.2.1 + 1, s.2.2.2) 7).1 b9 ∧ ν = c9) := by
  refine Con.of (by decide) (Nat.le_of_ble_eq_true rfl) ?_
  show Am l G mX10_isWaiterLine 0 [(0, .ref 66)] [] (mR R (s.2.2.1 + 1) (nI s.2.2.1) k n p f) ν _
  have hW := m_forP (l := l) (G := G) (M := mX10_isWaiterLine) (pc := 35) (ν := ν) (K := (fun a9 b9 c9 => (0 : Int32) = a9 ∧ zBd R (zWn T L (s.1, s.2.1, s.2.2.1 + 1, s.2.2.2) 7).2.1 (zWn T L (s.1, s.2.1, s.2.2.1 + 1, s.2.2.2) 7).1 b9 ∧ ν = c9)) (N := 7) (fun i => (zWn T L (s.1, s.2.1, s.2.2.1 + 1, s.2.2.2) i).1 = 0) (fun i => [(2, .int (nI i)), (1, .int (nI (7 * m))), (0, .ref 66)]) (fun i => mR (rWt T L (s.1, s.2.1, s.2.2.1 + 1, s.2.2.2) R m i) (zWn T L (s.1, s.2.1, s.2.2.1 + 1, s.2.2.2) i).2.2.1 (zTi T L (s.1, s.2.1, s.2.2.1 + 1, s.2.2.2) (nI s.2.2.1) i) (zKi k i) (zNi T L (s.1, s.2.1, s.2.2.1 + 1, s.2.2.2) n i) p f) (fun i hi hPi H0 => by
    have h115 : Am l G mX10_isWaiterLine 115 [(4, .int (nI (zhi i))), (3, .int (nI (zlo i))), (2, .int (nI i)), (1, .int (nI (7 * m))), (0, .ref 66)] [] (mR (rWt T L (s.1, s.2.1, s.2.2.1 + 1, s.2.2.2) R m i) (zWn T L (s.1, s.2.1, s.2.2.1 + 1, s.2.2.2) i).2.2.1 (zTi T L (s.1, s.2.1, s.2.2.1 + 1, s.2.2.2) (nI s.2.2.1) i) (zKi k i) (zNi T L (s.1, s.2.1, s.2.2.1 + 1, s.2.2.2) n i) p f) ν (fun a9 b9 c9 => (0 : Int32) = a9 ∧ zBd R (zWn T L (s.1, s.2.1, s.2.2.1 + 1, s.2.2.2) 7).2.1 (zWn T L (s.1, s.2.1, s.2.2.1 + 1, s.2.2.2) 7).1 b9 ∧ ν = c9) := by
      by_cases hk : (zWn T L (s.1, s.2.1, s.2.2.1 + 1, s.2.2.2) (i + 1)).1 = 0
      · have H := H0 hk
        have hP : ∀ j, j ≤ i → j = i → (zWn T L (s.1, s.2.1, s.2.2.1 + 1, s.2.2.2) j).1 = 0 := fun j _ e => e ▸ hPi
        refine z_aload_n dX10_isWaiterLine_115 rfl ?_
        refine z_iload_n dX10_isWaiterLine_116 rfl ?_
        refine z_iload dX10_isWaiterLine_117 rfl ?_
        refine m_callV (As := [.int _, .int _]) dX10_isWaiterLine_119 kX10_139 ⟨rfl, rfl⟩ rfl ⟨rfl, rfl⟩ rfl rfl sh66 rfl rfl (d_wnk (T := T) (L := L) (s := (s.1, s.2.1, s.2.2.1 + 1, s.2.2.2)) (i := i) (fun j hj => by rw [rWt_ne (by decide) (by decide)]; exact hT j hj) (by rw [rWt_66, if_neg (by decide)]; exact hL) hL2 (by exact ha) hPi hk) (fun r119 μ119 ν119 hk119 => ?_)
        obtain ⟨rfl, rfl, rfl⟩ := hk119
        refine z_if_ne 127 dX10_isWaiterLine_122 (by decide) (fun h122 => ?_) (fun h122 => absurd h122 (by decide))
        refine z_aload_n dX10_isWaiterLine_127 rfl ?_
        refine m_getr dX10_isWaiterLine_128 fX10_17 sh66 rfl ?_
        refine z_iload_n dX10_isWaiterLine_131 rfl ?_
        refine z_iload_n dX10_isWaiterLine_132 rfl ?_
        refine z_iadd dX10_isWaiterLine_133 ?_
        rw [show (nI (7 * m) + nI i) = nI (7 * m + i) from nI_add _ _]
        refine z_aload_n dX10_isWaiterLine_134 rfl ?_
        refine m_geti dX10_isWaiterLine_135 fX10_123 sh66 rfl ?_
        rw [mR_5]
        refine m_iastN (j := 7 * m + i) dX10_isWaiterLine_138 sh68 rfl (by omega) rfl ?_
        refine z_iinc (fun y => [(2, .int y), (4, .int (nI (zhi i))), (3, .int (nI (zlo i))), (1, .int (nI (7 * m))), (0, .ref 66)]) dX10_isWaiterLine_139 rfl rfl (fun _ => rfl) (fun x2_139 ex2_139 => ?_)
        obtain rfl : x2_139 = nI (i + 1) := by rw [ex2_139]; exact nI_1 i
        refine z_goto 35 dX10_isWaiterLine_142 (by decide) ?_
        refine z_lv [0, 3, 4] rfl ?_
        rw [mR_up (by decide)]
        exact H
      · skip
        refine z_aload_n dX10_isWaiterLine_115 rfl ?_
        refine z_iload_n dX10_isWaiterLine_116 rfl ?_
        refine z_iload dX10_isWaiterLine_117 rfl ?_
        refine m_callV (As := [.int _, .int _]) dX10_isWaiterLine_119 kX10_139 ⟨rfl, rfl⟩ rfl ⟨rfl, rfl⟩ rfl rfl sh66 rfl rfl (d_wnb (T := T) (L := L) (s := (s.1, s.2.1, s.2.2.1 + 1, s.2.2.2)) (i := i) (fun j hj => by rw [rWt_ne (by decide) (by decide)]; exact hT j hj) (by rw [rWt_66, if_neg (by decide)]; exact hL) hL2 (by exact ha) h255 hPi hk) (fun r119 μ119 ν119 hk119 => ?_)
        obtain ⟨rfl, ⟨a1, t1, k1, n1, rfl⟩, rfl⟩ := hk119
        refine z_if_ne 127 dX10_isWaiterLine_122 (by decide) (fun h122 => absurd (by decide) h122) (fun h122 => ?_)
        refine z_iconst (v := 0) dX10_isWaiterLine_125 rfl ?_
        refine m_iret dX10_isWaiterLine_126 rfl rfl ?_
        obtain ⟨z1, z2⟩ := zWn_st hk (6 - i)
        rw [show i + 1 + (6 - i) = 7 by omega] at z1 z2
        rw [z1, z2]
        exact ⟨rfl, zBd.mk (fun q a1 a2 a3 => rWt_ne a1 a2 i) (fun j hj => by rw [rWt_66, if_neg (by omega)]), rfl⟩
    rcases (show i = 0 ∨ i = 1 ∨ i = 2 ∨ i = 3 ∨ i = 4 ∨ i = 5 ∨ i = 6 by omega) with rfl | rfl | rfl | rfl | rfl | rfl | rfl
    · skip
      refine z_iload_n dX10_isWaiterLine_35 rfl ?_
      refine z_bipush (v := 7) dX10_isWaiterLine_36 rfl ?_
      refine z_icmp_ge 145 dX10_isWaiterLine_38 (by decide) (fun h38 => absurd h38 (by decide)) (fun h38 => ?_)
      refine z_iload_n dX10_isWaiterLine_41 rfl ?_
      refine z_iconst (v := 2) dX10_isWaiterLine_42 rfl ?_
      refine z_icmp_eq 51 dX10_isWaiterLine_43 (by decide) (fun h43 => absurd h43 (by decide)) (fun h43 => ?_)
      refine z_iload_n dX10_isWaiterLine_46 rfl ?_
      refine z_iconst (v := 4) dX10_isWaiterLine_47 rfl ?_
      refine z_icmp_ne 55 dX10_isWaiterLine_48 (by decide) (fun h48 => ?_) (fun h48 => absurd h48 (by decide))
      refine z_iconst (v := 0) dX10_isWaiterLine_55 rfl ?_
      refine z_istore_n (i := 3) (fun y => [(3, .int y), (2, .int (nI 0)), (1, .int (nI (7 * m))), (0, .ref 66)]) dX10_isWaiterLine_56 rfl rfl (fun _ => rfl) (fun x9 e9 => ?_)
      subst e9
      refine z_iload_n dX10_isWaiterLine_57 rfl ?_
      refine z_if_eq 67 dX10_isWaiterLine_58 (by decide) (fun h58 => ?_) (fun h58 => absurd (by decide) h58)
      refine z_iconst (v := 1) dX10_isWaiterLine_67 rfl ?_
      refine z_goto 113 dX10_isWaiterLine_68 (by decide) ?_
      refine z_istore (i := 4) (fun y => [(4, .int y), (3, .int 0), (2, .int (nI 0)), (1, .int (nI (7 * m))), (0, .ref 66)]) dX10_isWaiterLine_113 rfl (fun _ => rfl) (fun x9 e9 => ?_)
      subst e9
      exact h115
    · skip
      refine z_iload_n dX10_isWaiterLine_35 rfl ?_
      refine z_bipush (v := 7) dX10_isWaiterLine_36 rfl ?_
      refine z_icmp_ge 145 dX10_isWaiterLine_38 (by decide) (fun h38 => absurd h38 (by decide)) (fun h38 => ?_)
      refine z_iload_n dX10_isWaiterLine_41 rfl ?_
      refine z_iconst (v := 2) dX10_isWaiterLine_42 rfl ?_
      refine z_icmp_eq 51 dX10_isWaiterLine_43 (by decide) (fun h43 => absurd h43 (by decide)) (fun h43 => ?_)
      refine z_iload_n dX10_isWaiterLine_46 rfl ?_
      refine z_iconst (v := 4) dX10_isWaiterLine_47 rfl ?_
      refine z_icmp_ne 55 dX10_isWaiterLine_48 (by decide) (fun h48 => ?_) (fun h48 => absurd h48 (by decide))
      refine z_iconst (v := 0) dX10_isWaiterLine_55 rfl ?_
      refine z_istore_n (i := 3) (fun y => [(3, .int y), (2, .int (nI 1)), (1, .int (nI (7 * m))), (0, .ref 66)]) dX10_isWaiterLine_56 rfl rfl (fun _ => rfl) (fun x9 e9 => ?_)
      subst e9
      refine z_iload_n dX10_isWaiterLine_57 rfl ?_
      refine z_if_eq 67 dX10_isWaiterLine_58 (by decide) (fun h58 => absurd h58 (by decide)) (fun h58 => ?_)
      refine z_iload_n dX10_isWaiterLine_61 rfl ?_
      refine z_bipush (v := 6) dX10_isWaiterLine_62 rfl ?_
      refine z_icmp_ne 71 dX10_isWaiterLine_64 (by decide) (fun h64 => ?_) (fun h64 => absurd h64 (by decide))
      refine z_iload_n dX10_isWaiterLine_71 rfl ?_
      refine z_iconst (v := 1) dX10_isWaiterLine_72 rfl ?_
      refine z_icmp_ne 82 dX10_isWaiterLine_73 (by decide) (fun h73 => absurd (by decide) h73) (fun h73 => ?_)
      refine z_sipush (v := 999) dX10_isWaiterLine_76 rfl ?_
      refine z_goto 113 dX10_isWaiterLine_79 (by decide) ?_
      refine z_istore (i := 4) (fun y => [(4, .int y), (3, .int 0), (2, .int (nI 1)), (1, .int (nI (7 * m))), (0, .ref 66)]) dX10_isWaiterLine_113 rfl (fun _ => rfl) (fun x9 e9 => ?_)
      subst e9
      exact h115
    · skip
      refine z_iload_n dX10_isWaiterLine_35 rfl ?_
      refine z_bipush (v := 7) dX10_isWaiterLine_36 rfl ?_
      refine z_icmp_ge 145 dX10_isWaiterLine_38 (by decide) (fun h38 => absurd h38 (by decide)) (fun h38 => ?_)
      refine z_iload_n dX10_isWaiterLine_41 rfl ?_
      refine z_iconst (v := 2) dX10_isWaiterLine_42 rfl ?_
      refine z_icmp_eq 51 dX10_isWaiterLine_43 (by decide) (fun h43 => ?_) (fun h43 => absurd (by decide) h43)
      refine z_iconst (v := 1) dX10_isWaiterLine_51 rfl ?_
      refine z_goto 56 dX10_isWaiterLine_52 (by decide) ?_
      refine z_istore_n (i := 3) (fun y => [(3, .int y), (2, .int (nI 2)), (1, .int (nI (7 * m))), (0, .ref 66)]) dX10_isWaiterLine_56 rfl rfl (fun _ => rfl) (fun x9 e9 => ?_)
      subst e9
      refine z_iload_n dX10_isWaiterLine_57 rfl ?_
      refine z_if_eq 67 dX10_isWaiterLine_58 (by decide) (fun h58 => absurd h58 (by decide)) (fun h58 => ?_)
      refine z_iload_n dX10_isWaiterLine_61 rfl ?_
      refine z_bipush (v := 6) dX10_isWaiterLine_62 rfl ?_
      refine z_icmp_ne 71 dX10_isWaiterLine_64 (by decide) (fun h64 => ?_) (fun h64 => absurd h64 (by decide))
      refine z_iload_n dX10_isWaiterLine_71 rfl ?_
      refine z_iconst (v := 1) dX10_isWaiterLine_72 rfl ?_
      refine z_icmp_ne 82 dX10_isWaiterLine_73 (by decide) (fun h73 => ?_) (fun h73 => absurd h73 (by decide))
      refine z_iload_n dX10_isWaiterLine_82 rfl ?_
      refine z_iconst (v := 2) dX10_isWaiterLine_83 rfl ?_
      refine z_icmp_ne 92 dX10_isWaiterLine_84 (by decide) (fun h84 => absurd (by decide) h84) (fun h84 => ?_)
      refine z_bipush (v := 30) dX10_isWaiterLine_87 rfl ?_
      refine z_goto 113 dX10_isWaiterLine_89 (by decide) ?_
      refine z_istore (i := 4) (fun y => [(4, .int y), (3, .int 1), (2, .int (nI 2)), (1, .int (nI (7 * m))), (0, .ref 66)]) dX10_isWaiterLine_113 rfl (fun _ => rfl) (fun x9 e9 => ?_)
      subst e9
      exact h115
    · skip
      refine z_iload_n dX10_isWaiterLine_35 rfl ?_
      refine z_bipush (v := 7) dX10_isWaiterLine_36 rfl ?_
      refine z_icmp_ge 145 dX10_isWaiterLine_38 (by decide) (fun h38 => absurd h38 (by decide)) (fun h38 => ?_)
      refine z_iload_n dX10_isWaiterLine_41 rfl ?_
      refine z_iconst (v := 2) dX10_isWaiterLine_42 rfl ?_
      refine z_icmp_eq 51 dX10_isWaiterLine_43 (by decide) (fun h43 => absurd h43 (by decide)) (fun h43 => ?_)
      refine z_iload_n dX10_isWaiterLine_46 rfl ?_
      refine z_iconst (v := 4) dX10_isWaiterLine_47 rfl ?_
      refine z_icmp_ne 55 dX10_isWaiterLine_48 (by decide) (fun h48 => ?_) (fun h48 => absurd h48 (by decide))
      refine z_iconst (v := 0) dX10_isWaiterLine_55 rfl ?_
      refine z_istore_n (i := 3) (fun y => [(3, .int y), (2, .int (nI 3)), (1, .int (nI (7 * m))), (0, .ref 66)]) dX10_isWaiterLine_56 rfl rfl (fun _ => rfl) (fun x9 e9 => ?_)
      subst e9
      refine z_iload_n dX10_isWaiterLine_57 rfl ?_
      refine z_if_eq 67 dX10_isWaiterLine_58 (by decide) (fun h58 => absurd h58 (by decide)) (fun h58 => ?_)
      refine z_iload_n dX10_isWaiterLine_61 rfl ?_
      refine z_bipush (v := 6) dX10_isWaiterLine_62 rfl ?_
      refine z_icmp_ne 71 dX10_isWaiterLine_64 (by decide) (fun h64 => ?_) (fun h64 => absurd h64 (by decide))
      refine z_iload_n dX10_isWaiterLine_71 rfl ?_
      refine z_iconst (v := 1) dX10_isWaiterLine_72 rfl ?_
      refine z_icmp_ne 82 dX10_isWaiterLine_73 (by decide) (fun h73 => ?_) (fun h73 => absurd h73 (by decide))
      refine z_iload_n dX10_isWaiterLine_82 rfl ?_
      refine z_iconst (v := 2) dX10_isWaiterLine_83 rfl ?_
      refine z_icmp_ne 92 dX10_isWaiterLine_84 (by decide) (fun h84 => ?_) (fun h84 => absurd h84 (by decide))
      refine z_iload_n dX10_isWaiterLine_92 rfl ?_
      refine z_iconst (v := 3) dX10_isWaiterLine_93 rfl ?_
      refine z_icmp_ne 102 dX10_isWaiterLine_94 (by decide) (fun h94 => absurd (by decide) h94) (fun h94 => ?_)
      refine z_bipush (v := 99) dX10_isWaiterLine_97 rfl ?_
      refine z_goto 113 dX10_isWaiterLine_99 (by decide) ?_
      refine z_istore (i := 4) (fun y => [(4, .int y), (3, .int 0), (2, .int (nI 3)), (1, .int (nI (7 * m))), (0, .ref 66)]) dX10_isWaiterLine_113 rfl (fun _ => rfl) (fun x9 e9 => ?_)
      subst e9
      exact h115
    · skip
      refine z_iload_n dX10_isWaiterLine_35 rfl ?_
      refine z_bipush (v := 7) dX10_isWaiterLine_36 rfl ?_
      refine z_icmp_ge 145 dX10_isWaiterLine_38 (by decide) (fun h38 => absurd h38 (by decide)) (fun h38 => ?_)
      refine z_iload_n dX10_isWaiterLine_41 rfl ?_
      refine z_iconst (v := 2) dX10_isWaiterLine_42 rfl ?_
      refine z_icmp_eq 51 dX10_isWaiterLine_43 (by decide) (fun h43 => absurd h43 (by decide)) (fun h43 => ?_)
      refine z_iload_n dX10_isWaiterLine_46 rfl ?_
      refine z_iconst (v := 4) dX10_isWaiterLine_47 rfl ?_
      refine z_icmp_ne 55 dX10_isWaiterLine_48 (by decide) (fun h48 => absurd (by decide) h48) (fun h48 => ?_)
      refine z_iconst (v := 1) dX10_isWaiterLine_51 rfl ?_
      refine z_goto 56 dX10_isWaiterLine_52 (by decide) ?_
      refine z_istore_n (i := 3) (fun y => [(3, .int y), (2, .int (nI 4)), (1, .int (nI (7 * m))), (0, .ref 66)]) dX10_isWaiterLine_56 rfl rfl (fun _ => rfl) (fun x9 e9 => ?_)
      subst e9
      refine z_iload_n dX10_isWaiterLine_57 rfl ?_
      refine z_if_eq 67 dX10_isWaiterLine_58 (by decide) (fun h58 => absurd h58 (by decide)) (fun h58 => ?_)
      refine z_iload_n dX10_isWaiterLine_61 rfl ?_
      refine z_bipush (v := 6) dX10_isWaiterLine_62 rfl ?_
      refine z_icmp_ne 71 dX10_isWaiterLine_64 (by decide) (fun h64 => ?_) (fun h64 => absurd h64 (by decide))
      refine z_iload_n dX10_isWaiterLine_71 rfl ?_
      refine z_iconst (v := 1) dX10_isWaiterLine_72 rfl ?_
      refine z_icmp_ne 82 dX10_isWaiterLine_73 (by decide) (fun h73 => ?_) (fun h73 => absurd h73 (by decide))
      refine z_iload_n dX10_isWaiterLine_82 rfl ?_
      refine z_iconst (v := 2) dX10_isWaiterLine_83 rfl ?_
      refine z_icmp_ne 92 dX10_isWaiterLine_84 (by decide) (fun h84 => ?_) (fun h84 => absurd h84 (by decide))
      refine z_iload_n dX10_isWaiterLine_92 rfl ?_
      refine z_iconst (v := 3) dX10_isWaiterLine_93 rfl ?_
      refine z_icmp_ne 102 dX10_isWaiterLine_94 (by decide) (fun h94 => ?_) (fun h94 => absurd h94 (by decide))
      refine z_iload_n dX10_isWaiterLine_102 rfl ?_
      refine z_iconst (v := 4) dX10_isWaiterLine_103 rfl ?_
      refine z_icmp_ne 112 dX10_isWaiterLine_104 (by decide) (fun h104 => absurd (by decide) h104) (fun h104 => ?_)
      refine z_bipush (v := 9) dX10_isWaiterLine_107 rfl ?_
      refine z_goto 113 dX10_isWaiterLine_109 (by decide) ?_
      refine z_istore (i := 4) (fun y => [(4, .int y), (3, .int 1), (2, .int (nI 4)), (1, .int (nI (7 * m))), (0, .ref 66)]) dX10_isWaiterLine_113 rfl (fun _ => rfl) (fun x9 e9 => ?_)
      subst e9
      exact h115
    · skip
      refine z_iload_n dX10_isWaiterLine_35 rfl ?_
      refine z_bipush (v := 7) dX10_isWaiterLine_36 rfl ?_
      refine z_icmp_ge 145 dX10_isWaiterLine_38 (by decide) (fun h38 => absurd h38 (by decide)) (fun h38 => ?_)
      refine z_iload_n dX10_isWaiterLine_41 rfl ?_
      refine z_iconst (v := 2) dX10_isWaiterLine_42 rfl ?_
      refine z_icmp_eq 51 dX10_isWaiterLine_43 (by decide) (fun h43 => absurd h43 (by decide)) (fun h43 => ?_)
      refine z_iload_n dX10_isWaiterLine_46 rfl ?_
      refine z_iconst (v := 4) dX10_isWaiterLine_47 rfl ?_
      refine z_icmp_ne 55 dX10_isWaiterLine_48 (by decide) (fun h48 => ?_) (fun h48 => absurd h48 (by decide))
      refine z_iconst (v := 0) dX10_isWaiterLine_55 rfl ?_
      refine z_istore_n (i := 3) (fun y => [(3, .int y), (2, .int (nI 5)), (1, .int (nI (7 * m))), (0, .ref 66)]) dX10_isWaiterLine_56 rfl rfl (fun _ => rfl) (fun x9 e9 => ?_)
      subst e9
      refine z_iload_n dX10_isWaiterLine_57 rfl ?_
      refine z_if_eq 67 dX10_isWaiterLine_58 (by decide) (fun h58 => absurd h58 (by decide)) (fun h58 => ?_)
      refine z_iload_n dX10_isWaiterLine_61 rfl ?_
      refine z_bipush (v := 6) dX10_isWaiterLine_62 rfl ?_
      refine z_icmp_ne 71 dX10_isWaiterLine_64 (by decide) (fun h64 => ?_) (fun h64 => absurd h64 (by decide))
      refine z_iload_n dX10_isWaiterLine_71 rfl ?_
      refine z_iconst (v := 1) dX10_isWaiterLine_72 rfl ?_
      refine z_icmp_ne 82 dX10_isWaiterLine_73 (by decide) (fun h73 => ?_) (fun h73 => absurd h73 (by decide))
      refine z_iload_n dX10_isWaiterLine_82 rfl ?_
      refine z_iconst (v := 2) dX10_isWaiterLine_83 rfl ?_
      refine z_icmp_ne 92 dX10_isWaiterLine_84 (by decide) (fun h84 => ?_) (fun h84 => absurd h84 (by decide))
      refine z_iload_n dX10_isWaiterLine_92 rfl ?_
      refine z_iconst (v := 3) dX10_isWaiterLine_93 rfl ?_
      refine z_icmp_ne 102 dX10_isWaiterLine_94 (by decide) (fun h94 => ?_) (fun h94 => absurd h94 (by decide))
      refine z_iload_n dX10_isWaiterLine_102 rfl ?_
      refine z_iconst (v := 4) dX10_isWaiterLine_103 rfl ?_
      refine z_icmp_ne 112 dX10_isWaiterLine_104 (by decide) (fun h104 => ?_) (fun h104 => absurd h104 (by decide))
      refine z_iconst (v := 2) dX10_isWaiterLine_112 rfl ?_
      refine z_istore (i := 4) (fun y => [(4, .int y), (3, .int 0), (2, .int (nI 5)), (1, .int (nI (7 * m))), (0, .ref 66)]) dX10_isWaiterLine_113 rfl (fun _ => rfl) (fun x9 e9 => ?_)
      subst e9
      exact h115
    · skip
      refine z_iload_n dX10_isWaiterLine_35 rfl ?_
      refine z_bipush (v := 7) dX10_isWaiterLine_36 rfl ?_
      refine z_icmp_ge 145 dX10_isWaiterLine_38 (by decide) (fun h38 => absurd h38 (by decide)) (fun h38 => ?_)
      refine z_iload_n dX10_isWaiterLine_41 rfl ?_
      refine z_iconst (v := 2) dX10_isWaiterLine_42 rfl ?_
      refine z_icmp_eq 51 dX10_isWaiterLine_43 (by decide) (fun h43 => absurd h43 (by decide)) (fun h43 => ?_)
      refine z_iload_n dX10_isWaiterLine_46 rfl ?_
      refine z_iconst (v := 4) dX10_isWaiterLine_47 rfl ?_
      refine z_icmp_ne 55 dX10_isWaiterLine_48 (by decide) (fun h48 => ?_) (fun h48 => absurd h48 (by decide))
      refine z_iconst (v := 0) dX10_isWaiterLine_55 rfl ?_
      refine z_istore_n (i := 3) (fun y => [(3, .int y), (2, .int (nI 6)), (1, .int (nI (7 * m))), (0, .ref 66)]) dX10_isWaiterLine_56 rfl rfl (fun _ => rfl) (fun x9 e9 => ?_)
      subst e9
      refine z_iload_n dX10_isWaiterLine_57 rfl ?_
      refine z_if_eq 67 dX10_isWaiterLine_58 (by decide) (fun h58 => absurd h58 (by decide)) (fun h58 => ?_)
      refine z_iload_n dX10_isWaiterLine_61 rfl ?_
      refine z_bipush (v := 6) dX10_isWaiterLine_62 rfl ?_
      refine z_icmp_ne 71 dX10_isWaiterLine_64 (by decide) (fun h64 => absurd (by decide) h64) (fun h64 => ?_)
      refine z_iconst (v := 1) dX10_isWaiterLine_67 rfl ?_
      refine z_goto 113 dX10_isWaiterLine_68 (by decide) ?_
      refine z_istore (i := 4) (fun y => [(4, .int y), (3, .int 0), (2, .int (nI 6)), (1, .int (nI (7 * m))), (0, .ref 66)]) dX10_isWaiterLine_113 rfl (fun _ => rfl) (fun x9 e9 => ?_)
      subst e9
      exact h115) (fun q => absurd q hk7)
  refine z_aload_n dX10_isWaiterLine_0 rfl ?_
  refine m_geti dX10_isWaiterLine_1 fX10_146 sh66 rfl ?_
  rw [mR_row (by decide), hm]
  refine z_bipush (v := 6) dX10_isWaiterLine_4 rfl ?_
  refine z_icmp_ne 15 dX10_isWaiterLine_6 (by decide) (fun h6 => ?_) (fun h6 => absurd h6 (zne (a := m) (b := 6) (by omega) (by omega) (by decide)))
  refine z_bipush (v := 7) dX10_isWaiterLine_15 rfl ?_
  refine z_aload_n dX10_isWaiterLine_17 rfl ?_
  refine m_geti dX10_isWaiterLine_18 fX10_146 sh66 rfl ?_
  rw [mR_row (by decide), hm]
  refine z_imul dX10_isWaiterLine_21 ?_
  rw [show (7 * nI m) = nI (7 * m) from pk_mul 7 m]
  refine z_istore_n (i := 1) (fun y => [(1, .int y), (0, .ref 66)]) dX10_isWaiterLine_22 rfl rfl (fun _ => rfl) (fun x9 e9 => ?_)
  subst e9
  refine z_aload_n dX10_isWaiterLine_23 rfl ?_
  refine z_dup dX10_isWaiterLine_24 rfl ?_
  refine m_geti dX10_isWaiterLine_25 fX10_146 sh66 rfl ?_
  rw [mR_row (by decide), hm]
  refine z_iconst (v := 1) dX10_isWaiterLine_28 rfl ?_
  refine z_iadd dX10_isWaiterLine_29 ?_
  rw [show (nI m + 1) = nI (m + 1) from nI_1 m]
  refine m_puti dX10_isWaiterLine_30 fX10_146 (fun q h => by cases h; rfl) rfl rfl sh66 rfl ?_
  refine z_iconst (v := 0) dX10_isWaiterLine_33 rfl ?_
  refine z_istore_n (i := 2) (fun y => [(2, .int y), (1, .int (nI (7 * m))), (0, .ref 66)]) dX10_isWaiterLine_34 rfl rfl (fun _ => rfl) (fun x9 e9 => ?_)
  subst e9
  rw [mR_u1 (by decide)]
  exact hW 0 (by decide) hs
