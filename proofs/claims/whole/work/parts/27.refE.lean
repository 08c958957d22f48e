
theorem zN_mono_pred {n : Nat} (h : 0 < n) : nI n - 1 = nI (n - 1) := by
  obtain ⟨m, rfl⟩ : ∃ m, n = m + 1 := ⟨n - 1, by omega⟩
  exact nI_pred m
theorem c_inF {l : Launch} {G : zG} {μ : Mem} {ν : Lng} {v a b : Int32} (h : v < a ∨ b < v) : Cm l G mX10_in [.int v, .int a, .int b] μ ν (fun a9 b9 c9 => (0 : Int32) = a9 ∧ μ = b9 ∧ ν = c9) := by
  have e : fIn v a b = 0 := by
    unfold fIn
    rcases h with h | h
    · rw [if_pos h]
    · rw [if_pos h]
      split
      · rfl
      · rfl
  rw [← e]
  exact c_in
theorem c_inT {l : Launch} {G : zG} {μ : Mem} {ν : Lng} {v lo hi : Nat} (h1 : lo ≤ v) (h2 : v ≤ hi) (h3 : hi < 2 ^ 31) : Cm l G mX10_in [.int (nI v), .int (nI lo), .int (nI hi)] μ ν (fun a9 b9 c9 => (1 : Int32) = a9 ∧ μ = b9 ∧ ν = c9) := by
  have e : fIn (nI v) (nI lo) (nI hi) = 1 := by
    unfold fIn
    rw [if_neg (nI_nlt h1 (by omega)), if_neg (nI_nlt h2 h3)]
  rw [← e]
  exact c_in
theorem c_isOneF {l : Launch} {G : zG} {μ : Mem} {ν : Lng} {n : Nat} (hn : μ 66 17 = nI n) (h6 : n ≤ 6) {w : Int32} (hw : w < 0 ∨ nI n ≤ w) : Cm l G mX10_isOne [.ref 66, .int w] μ ν (fun a9 b9 c9 => (0 : Int32) = a9 ∧ μ = b9 ∧ ν = c9) := by
  have e : fIn w 0 (μ 66 17 - 1) = 0 := by
    unfold fIn
    by_cases h0 : w < 0
    · rw [if_pos h0]
    · rw [if_neg h0]
      have h1 := hw.resolve_left h0
      rw [if_pos]
      rw [hn]
      have a := Int32.le_iff_toInt_le.mp h1
      rw [nI_toInt (by omega)] at a
      refine Int32.lt_iff_toInt_lt.mpr ?_
      by_cases hz : n = 0
      · subst hz
        have : (nI 0 - 1 : Int32).toInt = -1 := rfl
        rw [this]; omega
      · rw [zN_mono_pred (by omega), nI_toInt (by omega)]
        omega
  rw [← e]
  exact c_isOne
theorem c_isOneT {l : Launch} {G : zG} {μ : Mem} {ν : Lng} {n : Nat} (hn : μ 66 17 = nI n) (h6 : n ≤ 6) {j : Nat} (hj : j < n) : Cm l G mX10_isOne [.ref 66, .int (nI j)] μ ν (fun a9 b9 c9 => (1 : Int32) = a9 ∧ μ = b9 ∧ ν = c9) := by
  have e : fIn (nI j) 0 (μ 66 17 - 1) = 1 := by
    unfold fIn
    rw [if_neg (nI_pos (by omega)), hn, zN_mono_pred (by omega), if_neg (nI_nlt (by omega) (by omega))]
  rw [← e]
  exact c_isOne
theorem zswO {v : Int32} {a b : Int32} {x y : Int} (h : v < a ∨ b < v) (ha : a.toInt = x) (hb : b.toInt = y) : v.toInt < x ∨ y < v.toInt := by
  rcases h with h | h
  · exact Or.inl (ha ▸ Int32.lt_iff_toInt_lt.mp h)
  · exact Or.inr (hb ▸ Int32.lt_iff_toInt_lt.mp h)
def rLast (μ : Mem) : Nat → Int32
  | 0 => 0
  | i + 1 => if μ 80 i ≤ rLast μ i then rLast μ i else μ 80 i
def rHow (μ : Mem) (kd : Int32) : Nat → Int32
  | 0 => 0
  | i + 1 => rHow μ kd i + (if μ 78 i = kd then 1 else 0)
def rCp (μ : Mem) (d s : Nat) (a b : Nat) : Nat → Mem
  | 0 => μ
  | i + 1 => up2 (rCp μ d s a b i) d (a + i) (rCp μ d s a b i s (b + i))
set_option maxRecDepth 100000 in
set_option maxHeartbeats 400000 in
theorem d_feed_o {l : Launch} {G : zG} {μ : Mem} {ν : Lng} {v : Int32} (hv : v < 0 ∨ 255 < v)  : Cm l G mX10_feed [.ref 66, .int v] μ ν (fun a9 b9 c9 => (-1000000002) = a9 ∧ μ = b9 ∧ ν = c9) := by
  refine Con.of (by decide) (Nat.le_of_ble_eq_true rfl) ?_
  show Am l G mX10_feed 0 [(0, .ref 66), (1, .int v)] [] μ ν _
  refine z_iload_n dX10_feed_0 rfl ?_
  refine z_iconst (v := 0) dX10_feed_1 rfl ?_
  refine z_sipush (v := 255) dX10_feed_2 rfl ?_
  refine m_callS (As := [.int _, .int _, .int _]) dX10_feed_5 kX10_108 ⟨rfl, rfl⟩ rfl ⟨rfl, rfl⟩ rfl rfl rfl (c_inF hv) (fun r5 μ5 ν5 hk5 => ?_)
  obtain ⟨rfl, rfl, rfl⟩ := hk5
  refine z_if_ne 14 dX10_feed_8 (by decide) (fun h8 => absurd (by decide) h8) (fun h8 => ?_)
  refine z_ldc dX10_feed_11 cX10_112 ?_
  refine m_iret dX10_feed_13 rfl rfl ?_
  exact ⟨rfl, rfl, rfl⟩
set_option maxRecDepth 100000 in
set_option maxHeartbeats 400000 in
theorem d_feed_f {l : Launch} {G : zG} {μ : Mem} {ν : Lng} {v : Nat} (hv : v ≤ 255) (hL : μ 66 0 = nI 250) : Cm l G mX10_feed [.ref 66, .int (nI v)] μ ν (fun a9 b9 c9 => (-1000000004) = a9 ∧ μ = b9 ∧ ν = c9) := by
  refine Con.of (by decide) (Nat.le_of_ble_eq_true rfl) ?_
  show Am l G mX10_feed 0 [(0, .ref 66), (1, .int (nI v))] [] μ ν _
  refine z_iload_n dX10_feed_0 rfl ?_
  refine z_iconst (v := 0) dX10_feed_1 rfl ?_
  refine z_sipush (v := 255) dX10_feed_2 rfl ?_
  refine m_callS (As := [.int _, .int _, .int _]) dX10_feed_5 kX10_108 ⟨rfl, rfl⟩ rfl ⟨rfl, rfl⟩ rfl rfl rfl (c_inT (v := v) (lo := 0) (hi := 255) (Nat.zero_le v) hv (by decide)) (fun r5 μ5 ν5 hk5 => ?_)
  obtain ⟨rfl, rfl, rfl⟩ := hk5
  refine z_if_ne 14 dX10_feed_8 (by decide) (fun h8 => ?_) (fun h8 => absurd h8 (by decide))
  refine z_aload_n dX10_feed_14 rfl ?_
  refine m_geti dX10_feed_15 fX10_113 sh66 rfl ?_
  rw [hL]
  refine z_sipush (v := 250) dX10_feed_18 rfl ?_
  refine z_icmp_ne 27 dX10_feed_21 (by decide) (fun h21 => absurd (by decide) h21) (fun h21 => ?_)
  refine z_ldc dX10_feed_24 cX10_116 ?_
  refine m_iret dX10_feed_26 rfl rfl ?_
  exact ⟨rfl, rfl, rfl⟩
set_option maxRecDepth 100000 in
set_option maxHeartbeats 400000 in
theorem d_feed {l : Launch} {G : zG} {μ : Mem} {ν : Lng} {v b : Nat} (hv : v ≤ 255) (hL : μ 66 0 = nI b) (hb : b < 250)  : Cm l G mX10_feed [.ref 66, .int (nI v)] μ ν (fun a9 b9 c9 => nI (b + 1) = a9 ∧ up2 (up2 μ 67 b (nI v)) 66 0 (nI (b + 1)) = b9 ∧ ν = c9) := by
  refine Con.of (by decide) (Nat.le_of_ble_eq_true rfl) ?_
  show Am l G mX10_feed 0 [(0, .ref 66), (1, .int (nI v))] [] μ ν _
  refine z_iload_n dX10_feed_0 rfl ?_
  refine z_iconst (v := 0) dX10_feed_1 rfl ?_
  refine z_sipush (v := 255) dX10_feed_2 rfl ?_
  refine m_callS (As := [.int _, .int _, .int _]) dX10_feed_5 kX10_108 ⟨rfl, rfl⟩ rfl ⟨rfl, rfl⟩ rfl rfl rfl (c_inT (v := v) (lo := 0) (hi := 255) (Nat.zero_le v) hv (by decide)) (fun r5 μ5 ν5 hk5 => ?_)
  obtain ⟨rfl, rfl, rfl⟩ := hk5
  refine z_if_ne 14 dX10_feed_8 (by decide) (fun h8 => ?_) (fun h8 => absurd h8 (by decide))
  refine z_aload_n dX10_feed_14 rfl ?_
  refine m_geti dX10_feed_15 fX10_113 sh66 rfl ?_
  rw [hL]
  refine z_sipush (v := 250) dX10_feed_18 rfl ?_
  refine z_icmp_ne 27 dX10_feed_21 (by decide) (fun h21 => ?_) (fun h21 => absurd h21 (zne (a := b) (b := 250) (by omega) (by omega) (by omega)))
  refine z_aload_n dX10_feed_27 rfl ?_
  refine m_getr dX10_feed_28 fX10_7 sh66 rfl ?_
  refine z_aload_n dX10_feed_31 rfl ?_
  refine m_geti dX10_feed_32 fX10_113 sh66 rfl ?_
  rw [hL]
  refine z_iload_n dX10_feed_35 rfl ?_
  refine m_iastN (j := b) dX10_feed_36 sh67 rfl (by omega) rfl ?_
  refine z_aload_n dX10_feed_37 rfl ?_
  refine z_dup dX10_feed_38 rfl ?_
  refine m_geti dX10_feed_39 fX10_113 sh66 rfl ?_
  rw [up2_ne (by decide), hL]
  refine z_iconst (v := 1) dX10_feed_42 rfl ?_
  refine z_iadd dX10_feed_43 ?_
  rw [show ((nI b) + 1) = (nI (b + 1)) from nI_1 b]
  refine m_puti dX10_feed_44 fX10_113 (fun q h => by cases h; rfl) rfl rfl sh66 rfl ?_
  refine z_aload_n dX10_feed_47 rfl ?_
  refine m_geti dX10_feed_48 fX10_113 sh66 rfl ?_
  refine m_iret dX10_feed_51 rfl rfl ?_
  exact ⟨(up2_same _ _ _ _).symm, rfl, rfl⟩
set_option maxRecDepth 100000 in
set_option maxHeartbeats 400000 in
theorem d_fault {l : Launch} {G : zG} {μ : Mem} {ν : Lng}  : Cm l G mX10_fault [.ref 66] μ ν (fun a9 b9 c9 => μ 66 6 = a9 ∧ μ = b9 ∧ ν = c9) := by
  refine Con.of (by decide) (Nat.le_of_ble_eq_true rfl) ?_
  show Am l G mX10_fault 0 [(0, .ref 66)] [] μ ν _
  refine z_aload_n dX10_fault_0 rfl ?_
  refine m_geti dX10_fault_1 fX10_13 sh66 rfl ?_
  refine m_iret dX10_fault_4 rfl rfl ?_
  exact ⟨rfl, rfl, rfl⟩
set_option maxRecDepth 100000 in
set_option maxHeartbeats 400000 in
theorem d_hold {l : Launch} {G : zG} {μ : Mem} {ν : Lng}  : Cm l G mX10_hold [.ref 66] μ ν (fun _ b9 c9 => rCp μ 91 75 0 0 21 = b9 ∧ ν = c9) := by
  refine Con.of (by decide) (Nat.le_of_ble_eq_true rfl) ?_
  show Am l G mX10_hold 0 [(0, .ref 66)] [] μ ν _
  have hL := m_for (l := l) (G := G) (M := mX10_hold) (pc := 2) (ν := ν) (K := (fun _ b9 c9 => rCp μ 91 75 0 0 21 = b9 ∧ ν = c9)) (N := 21) (fun i => [(1, .int (nI i)), (0, .ref 66)]) (fun i => rCp μ 91 75 0 0 i) (fun i hi H => by
    refine z_iload_n dX10_hold_2 rfl ?_
    refine z_bipush (v := 21) dX10_hold_3 rfl ?_
    refine z_icmp_ge 26 dX10_hold_5 (by decide) (fun h5 => absurd h5 (nI_ge hi (by decide))) (fun h5 => ?_)
    refine z_aload_n dX10_hold_8 rfl ?_
    refine m_getr dX10_hold_9 fX10_87 sh66 rfl ?_
    refine z_iload_n dX10_hold_12 rfl ?_
    refine z_aload_n dX10_hold_13 rfl ?_
    refine m_getr dX10_hold_14 fX10_38 sh66 rfl ?_
    refine z_iload_n dX10_hold_17 rfl ?_
    refine m_ialdN (j := i) dX10_hold_18 sh75 rfl (by omega) rfl ?_
    refine m_iastN (j := i) dX10_hold_19 sh91 rfl (by omega) rfl ?_
    refine z_iinc (fun y => [(1, .int y), (0, .ref 66)]) dX10_hold_20 rfl rfl (fun _ => rfl) (fun x1_20 ex1_20 => ?_)
    obtain rfl : x1_20 = nI (i + 1) := by rw [ex1_20]; exact nI_1 i
    refine z_goto 2 dX10_hold_23 (by decide) ?_
    simpa only [rCp, Nat.zero_add] using H) (by
    refine z_iload_n dX10_hold_2 rfl ?_
    refine z_bipush (v := 21) dX10_hold_3 rfl ?_
    refine z_icmp_ge 26 dX10_hold_5 (by decide) (fun h5 => ?_) (fun h5 => absurd (show (21 : Int32) ≤ nI 21 by decide) h5)
    refine m_ret dX10_hold_26 rfl ?_
    exact ⟨rfl, rfl⟩)
  refine z_iconst (v := 0) dX10_hold_0 rfl ?_
  refine z_istore_n (i := 1) (fun y => [(1, .int y), (0, .ref 66)]) dX10_hold_1 rfl rfl (fun _ => rfl) (fun x9 e9 => ?_)
  subst e9
  exact hL 0 (by decide)
set_option maxRecDepth 100000 in
set_option maxHeartbeats 400000 in
theorem d_release {l : Launch} {G : zG} {μ : Mem} {ν : Lng}  : Cm l G mX10_release [.ref 66] μ ν (fun _ b9 c9 => rCp μ 75 91 0 0 21 = b9 ∧ ν = c9) := by
  refine Con.of (by decide) (Nat.le_of_ble_eq_true rfl) ?_
  show Am l G mX10_release 0 [(0, .ref 66)] [] μ ν _
  have hL := m_for (l := l) (G := G) (M := mX10_release) (pc := 2) (ν := ν) (K := (fun _ b9 c9 => rCp μ 75 91 0 0 21 = b9 ∧ ν = c9)) (N := 21) (fun i => [(1, .int (nI i)), (0, .ref 66)]) (fun i => rCp μ 75 91 0 0 i) (fun i hi H => by
    refine z_iload_n dX10_release_2 rfl ?_
    refine z_bipush (v := 21) dX10_release_3 rfl ?_
    refine z_icmp_ge 26 dX10_release_5 (by decide) (fun h5 => absurd h5 (nI_ge hi (by decide))) (fun h5 => ?_)
    refine z_aload_n dX10_release_8 rfl ?_
    refine m_getr dX10_release_9 fX10_38 sh66 rfl ?_
    refine z_iload_n dX10_release_12 rfl ?_
    refine z_aload_n dX10_release_13 rfl ?_
    refine m_getr dX10_release_14 fX10_87 sh66 rfl ?_
    refine z_iload_n dX10_release_17 rfl ?_
    refine m_ialdN (j := i) dX10_release_18 sh91 rfl (by omega) rfl ?_
    refine m_iastN (j := i) dX10_release_19 sh75 rfl (by omega) rfl ?_
    refine z_iinc (fun y => [(1, .int y), (0, .ref 66)]) dX10_release_20 rfl rfl (fun _ => rfl) (fun x1_20 ex1_20 => ?_)
    obtain rfl : x1_20 = nI (i + 1) := by rw [ex1_20]; exact nI_1 i
    refine z_goto 2 dX10_release_23 (by decide) ?_
    simpa only [rCp, Nat.zero_add] using H) (by
    refine z_iload_n dX10_release_2 rfl ?_
    refine z_bipush (v := 21) dX10_release_3 rfl ?_
    refine z_icmp_ge 26 dX10_release_5 (by decide) (fun h5 => ?_) (fun h5 => absurd (show (21 : Int32) ≤ nI 21 by decide) h5)
    refine m_ret dX10_release_26 rfl ?_
    exact ⟨rfl, rfl⟩)
  refine z_iconst (v := 0) dX10_release_0 rfl ?_
  refine z_istore_n (i := 1) (fun y => [(1, .int y), (0, .ref 66)]) dX10_release_1 rfl rfl (fun _ => rfl) (fun x9 e9 => ?_)
  subst e9
  exact hL 0 (by decide)
set_option maxRecDepth 100000 in
set_option maxHeartbeats 400000 in
theorem d_keep_o {l : Launch} {G : zG} {μ : Mem} {ν : Lng} {v : Int32} (hv : v < 0 ∨ 1 < v)  : Cm l G mX10_keep [.ref 66, .int v] μ ν (fun a9 b9 c9 => (-1000000001) = a9 ∧ μ = b9 ∧ ν = c9) := by
  refine Con.of (by decide) (Nat.le_of_ble_eq_true rfl) ?_
  show Am l G mX10_keep 0 [(0, .ref 66), (1, .int v)] [] μ ν _
  refine z_iload_n dX10_keep_0 rfl ?_
  refine z_iconst (v := 0) dX10_keep_1 rfl ?_
  refine z_iconst (v := 1) dX10_keep_2 rfl ?_
  refine m_callS (As := [.int _, .int _, .int _]) dX10_keep_3 kX10_108 ⟨rfl, rfl⟩ rfl ⟨rfl, rfl⟩ rfl rfl rfl (c_inF hv) (fun r3 μ3 ν3 hk3 => ?_)
  obtain ⟨rfl, rfl, rfl⟩ := hk3
  refine z_if_ne 12 dX10_keep_6 (by decide) (fun h6 => absurd (by decide) h6) (fun h6 => ?_)
  refine z_ldc dX10_keep_9 cX10_227 ?_
  refine m_iret dX10_keep_11 rfl rfl ?_
  exact ⟨rfl, rfl, rfl⟩
set_option maxRecDepth 100000 in
set_option maxHeartbeats 400000 in
theorem d_goBack_o {l : Launch} {G : zG} {μ : Mem} {ν : Lng} {v : Int32} (hv : v < 0 ∨ 1 < v)  : Cm l G mX10_goBack [.ref 66, .int v] μ ν (fun a9 b9 c9 => (-1000000001) = a9 ∧ μ = b9 ∧ ν = c9) := by
  refine Con.of (by decide) (Nat.le_of_ble_eq_true rfl) ?_
  show Am l G mX10_goBack 0 [(0, .ref 66), (1, .int v)] [] μ ν _
  refine z_iload_n dX10_goBack_0 rfl ?_
  refine z_iconst (v := 0) dX10_goBack_1 rfl ?_
  refine z_iconst (v := 1) dX10_goBack_2 rfl ?_
  refine m_callS (As := [.int _, .int _, .int _]) dX10_goBack_3 kX10_108 ⟨rfl, rfl⟩ rfl ⟨rfl, rfl⟩ rfl rfl rfl (c_inF hv) (fun r3 μ3 ν3 hk3 => ?_)
  obtain ⟨rfl, rfl, rfl⟩ := hk3
  refine z_if_ne 12 dX10_goBack_6 (by decide) (fun h6 => absurd (by decide) h6) (fun h6 => ?_)
  refine z_ldc dX10_goBack_9 cX10_227 ?_
  refine m_iret dX10_goBack_11 rfl rfl ?_
  exact ⟨rfl, rfl, rfl⟩
set_option maxRecDepth 100000 in
set_option maxHeartbeats 400000 in
theorem d_keep {l : Launch} {G : zG} {μ : Mem} {ν : Lng} {j : Nat} (hj : j ≤ 1)  : Cm l G mX10_keep [.ref 66, .int (nI j)] μ ν (fun a9 b9 c9 => 1 = a9 ∧ up2 (rCp μ 76 75 (21 * j) 0 21) 77 j 1 = b9 ∧ ν = c9) := by
  refine Con.of (by decide) (Nat.le_of_ble_eq_true rfl) ?_
  show Am l G mX10_keep 0 [(0, .ref 66), (1, .int (nI j))] [] μ ν _
  have hL := m_for (l := l) (G := G) (M := mX10_keep) (pc := 14) (ν := ν) (K := (fun a9 b9 c9 => 1 = a9 ∧ up2 (rCp μ 76 75 (21 * j) 0 21) 77 j 1 = b9 ∧ ν = c9)) (N := 21) (fun i => [(2, .int (nI i)), (0, .ref 66), (1, .int (nI j))]) (fun i => rCp μ 76 75 (21 * j) 0 i) (fun i hi H => by
    refine z_iload_n dX10_keep_14 rfl ?_
    refine z_bipush (v := 21) dX10_keep_15 rfl ?_
    refine z_icmp_ge 43 dX10_keep_17 (by decide) (fun h17 => absurd h17 (nI_ge hi (by decide))) (fun h17 => ?_)
    refine z_aload_n dX10_keep_20 rfl ?_
    refine m_getr dX10_keep_21 fX10_41 sh66 rfl ?_
    refine z_bipush (v := 21) dX10_keep_24 rfl ?_
    refine z_iload_n dX10_keep_26 rfl ?_
    refine z_imul dX10_keep_27 ?_
    refine z_iload_n dX10_keep_28 rfl ?_
    refine z_iadd dX10_keep_29 ?_
    rw [show ((21 * nI j) + nI i) = nI (21 * j + i) from (by rw [show (21 : Int32) = nI 21 from rfl, pk_mul, nI_add])]
    refine z_aload_n dX10_keep_30 rfl ?_
    refine m_getr dX10_keep_31 fX10_38 sh66 rfl ?_
    refine z_iload_n dX10_keep_34 rfl ?_
    refine m_ialdN (j := i) dX10_keep_35 sh75 rfl (by omega) rfl ?_
    refine m_iastN (j := (21 * j + i)) dX10_keep_36 sh76 rfl (by omega) rfl ?_
    refine z_iinc (fun y => [(2, .int y), (0, .ref 66), (1, .int (nI j))]) dX10_keep_37 rfl rfl (fun _ => rfl) (fun x2_37 ex2_37 => ?_)
    obtain rfl : x2_37 = nI (i + 1) := by rw [ex2_37]; exact nI_1 i
    refine z_goto 14 dX10_keep_40 (by decide) ?_
    simpa only [rCp, Nat.zero_add] using H) (by
    refine z_iload_n dX10_keep_14 rfl ?_
    refine z_bipush (v := 21) dX10_keep_15 rfl ?_
    refine z_icmp_ge 43 dX10_keep_17 (by decide) (fun h17 => ?_) (fun h17 => absurd (show (21 : Int32) ≤ nI 21 by decide) h17)
    refine z_aload_n dX10_keep_43 rfl ?_
    refine m_getr dX10_keep_44 fX10_44 sh66 rfl ?_
    refine z_iload_n dX10_keep_47 rfl ?_
    refine z_iconst (v := 1) dX10_keep_48 rfl ?_
    refine m_zastN (j := j) dX10_keep_49 sh77 rfl (by omega) rfl rfl ?_
    refine z_iconst (v := 1) dX10_keep_50 rfl ?_
    refine m_iret dX10_keep_51 rfl rfl ?_
    exact ⟨rfl, rfl, rfl⟩)
  refine z_iload_n dX10_keep_0 rfl ?_
  refine z_iconst (v := 0) dX10_keep_1 rfl ?_
  refine z_iconst (v := 1) dX10_keep_2 rfl ?_
  refine m_callS (As := [.int _, .int _, .int _]) dX10_keep_3 kX10_108 ⟨rfl, rfl⟩ rfl ⟨rfl, rfl⟩ rfl rfl rfl (c_inT (v := j) (lo := 0) (hi := 1) (Nat.zero_le j) hj (by decide)) (fun r3 μ3 ν3 hk3 => ?_)
  obtain ⟨rfl, rfl, rfl⟩ := hk3
  refine z_if_ne 12 dX10_keep_6 (by decide) (fun h6 => ?_) (fun h6 => absurd h6 (by decide))
  refine z_iconst (v := 0) dX10_keep_12 rfl ?_
  refine z_istore_n (i := 2) (fun y => [(2, .int y), (0, .ref 66), (1, .int (nI j))]) dX10_keep_13 rfl rfl (fun _ => rfl) (fun x9 e9 => ?_)
  subst e9
  exact hL 0 (by decide)
set_option maxRecDepth 100000 in
set_option maxHeartbeats 400000 in
theorem d_goBack_n {l : Launch} {G : zG} {μ : Mem} {ν : Lng} {j : Nat} (hj : j ≤ 1) (hk : μ 77 j = 0)  : Cm l G mX10_goBack [.ref 66, .int (nI j)] μ ν (fun a9 b9 c9 => (-1000000003) = a9 ∧ μ = b9 ∧ ν = c9) := by
  refine Con.of (by decide) (Nat.le_of_ble_eq_true rfl) ?_
  show Am l G mX10_goBack 0 [(0, .ref 66), (1, .int (nI j))] [] μ ν _
  refine z_iload_n dX10_goBack_0 rfl ?_
  refine z_iconst (v := 0) dX10_goBack_1 rfl ?_
  refine z_iconst (v := 1) dX10_goBack_2 rfl ?_
  refine m_callS (As := [.int _, .int _, .int _]) dX10_goBack_3 kX10_108 ⟨rfl, rfl⟩ rfl ⟨rfl, rfl⟩ rfl rfl rfl (c_inT (v := j) (lo := 0) (hi := 1) (Nat.zero_le j) hj (by decide)) (fun r3 μ3 ν3 hk3 => ?_)
  obtain ⟨rfl, rfl, rfl⟩ := hk3
  refine z_if_ne 12 dX10_goBack_6 (by decide) (fun h6 => ?_) (fun h6 => absurd h6 (by decide))
  refine z_aload_n dX10_goBack_12 rfl ?_
  refine m_getr dX10_goBack_13 fX10_44 sh66 rfl ?_
  refine z_iload_n dX10_goBack_16 rfl ?_
  refine m_zaldN (j := j) dX10_goBack_17 sh77 rfl (by omega) rfl ?_
  refine z_if_ne 24 dX10_goBack_18 (by decide) (fun h18 => absurd hk h18) (fun h18 => ?_)
  refine z_ldc dX10_goBack_21 cX10_241 ?_
  refine m_iret dX10_goBack_23 rfl rfl ?_
  exact ⟨rfl, rfl, rfl⟩
set_option maxRecDepth 100000 in
set_option maxHeartbeats 400000 in
theorem d_goBack {l : Launch} {G : zG} {μ : Mem} {ν : Lng} {j : Nat} (hj : j ≤ 1) (hk : ¬ μ 77 j = 0)  : Cm l G mX10_goBack [.ref 66, .int (nI j)] μ ν (fun a9 b9 c9 => 1 = a9 ∧ rCp μ 75 76 0 (21 * j) 21 = b9 ∧ ν = c9) := by
  refine Con.of (by decide) (Nat.le_of_ble_eq_true rfl) ?_
  show Am l G mX10_goBack 0 [(0, .ref 66), (1, .int (nI j))] [] μ ν _
  have hL := m_for (l := l) (G := G) (M := mX10_goBack) (pc := 26) (ν := ν) (K := (fun a9 b9 c9 => 1 = a9 ∧ rCp μ 75 76 0 (21 * j) 21 = b9 ∧ ν = c9)) (N := 21) (fun i => [(2, .int (nI i)), (0, .ref 66), (1, .int (nI j))]) (fun i => rCp μ 75 76 0 (21 * j) i) (fun i hi H => by
    refine z_iload_n dX10_goBack_26 rfl ?_
    refine z_bipush (v := 21) dX10_goBack_27 rfl ?_
    refine z_icmp_ge 55 dX10_goBack_29 (by decide) (fun h29 => absurd h29 (nI_ge hi (by decide))) (fun h29 => ?_)
    refine z_aload_n dX10_goBack_32 rfl ?_
    refine m_getr dX10_goBack_33 fX10_38 sh66 rfl ?_
    refine z_iload_n dX10_goBack_36 rfl ?_
    refine z_aload_n dX10_goBack_37 rfl ?_
    refine m_getr dX10_goBack_38 fX10_41 sh66 rfl ?_
    refine z_bipush (v := 21) dX10_goBack_41 rfl ?_
    refine z_iload_n dX10_goBack_43 rfl ?_
    refine z_imul dX10_goBack_44 ?_
    refine z_iload_n dX10_goBack_45 rfl ?_
    refine z_iadd dX10_goBack_46 ?_
    rw [show ((21 * nI j) + nI i) = nI (21 * j + i) from (by rw [show (21 : Int32) = nI 21 from rfl, pk_mul, nI_add])]
    refine m_ialdN (j := (21 * j + i)) dX10_goBack_47 sh76 rfl (by omega) rfl ?_
    refine m_iastN (j := i) dX10_goBack_48 sh75 rfl (by omega) rfl ?_
    refine z_iinc (fun y => [(2, .int y), (0, .ref 66), (1, .int (nI j))]) dX10_goBack_49 rfl rfl (fun _ => rfl) (fun x2_49 ex2_49 => ?_)
    obtain rfl : x2_49 = nI (i + 1) := by rw [ex2_49]; exact nI_1 i
    refine z_goto 26 dX10_goBack_52 (by decide) ?_
    simpa only [rCp, Nat.zero_add] using H) (by
    refine z_iload_n dX10_goBack_26 rfl ?_
    refine z_bipush (v := 21) dX10_goBack_27 rfl ?_
    refine z_icmp_ge 55 dX10_goBack_29 (by decide) (fun h29 => ?_) (fun h29 => absurd (show (21 : Int32) ≤ nI 21 by decide) h29)
    refine z_iconst (v := 1) dX10_goBack_55 rfl ?_
    refine m_iret dX10_goBack_56 rfl rfl ?_
    exact ⟨rfl, rfl, rfl⟩)
  refine z_iload_n dX10_goBack_0 rfl ?_
  refine z_iconst (v := 0) dX10_goBack_1 rfl ?_
  refine z_iconst (v := 1) dX10_goBack_2 rfl ?_
  refine m_callS (As := [.int _, .int _, .int _]) dX10_goBack_3 kX10_108 ⟨rfl, rfl⟩ rfl ⟨rfl, rfl⟩ rfl rfl rfl (c_inT (v := j) (lo := 0) (hi := 1) (Nat.zero_le j) hj (by decide)) (fun r3 μ3 ν3 hk3 => ?_)
  obtain ⟨rfl, rfl, rfl⟩ := hk3
  refine z_if_ne 12 dX10_goBack_6 (by decide) (fun h6 => ?_) (fun h6 => absurd h6 (by decide))
  refine z_aload_n dX10_goBack_12 rfl ?_
  refine m_getr dX10_goBack_13 fX10_44 sh66 rfl ?_
  refine z_iload_n dX10_goBack_16 rfl ?_
  refine m_zaldN (j := j) dX10_goBack_17 sh77 rfl (by omega) rfl ?_
  refine z_if_ne 24 dX10_goBack_18 (by decide) (fun h18 => ?_) (fun h18 => absurd h18 hk)
  refine z_iconst (v := 0) dX10_goBack_24 rfl ?_
  refine z_istore_n (i := 2) (fun y => [(2, .int y), (0, .ref 66), (1, .int (nI j))]) dX10_goBack_25 rfl rfl (fun _ => rfl) (fun x9 e9 => ?_)
  subst e9
  exact hL 0 (by decide)
set_option maxRecDepth 100000 in
set_option maxHeartbeats 400000 in
theorem d_told_0 {l : Launch} {G : zG} {μ : Mem} {ν : Lng} {n : Nat} (hn : μ 66 17 = nI n) (h6 : n ≤ 6) {Q : Nat → Nat} (hQ : zOrd (μ 75) n Q) (hsd : zSidesM μ n)  : Cm l G mX10_told [.ref 66, .int 0] μ ν (fun a9 b9 c9 => nI n = a9 ∧ rRun μ n Q = b9 ∧ ν = c9) := by
  refine Con.of (by decide) (Nat.le_of_ble_eq_true rfl) ?_
  show Am l G mX10_told 0 [(0, .ref 66), (1, .int 0)] [] μ ν _
  have hn1 : rRun μ n Q 66 17 = nI n := ((zEq.start.tr (zEq.looks n)).2 17 (by decide) (by decide)).trans hn
  have hL := m_for (l := l) (G := G) (M := mX10_told) (pc := 16) (ν := ν) (K := (fun a9 b9 c9 => nI n = a9 ∧ rRun μ n Q = b9 ∧ ν = c9)) (N := n) (fun i => [(6, .int (nI i)), (5, .int (rHow (rRun μ n Q) 5 i)), (4, .int (rHow (rRun μ n Q) 6 i)), (3, .int (rLast (rRun μ n Q) i)), (2, .int (rCost (rRun μ n Q))), (0, .ref 66), (1, .int 0)]) (fun i => rRun μ n Q) (fun i hi H => by
    refine z_iload dX10_told_16 rfl ?_
    refine z_aload_n dX10_told_18 rfl ?_
    refine m_geti dX10_told_19 fX10_105 sh66 rfl ?_
    refine z_icmp_ge 97 dX10_told_22 (by decide) (fun h22 => absurd (hn1 ▸ h22) (nI_ge hi (by omega))) (fun h22 => ?_)
    refine z_aload_n dX10_told_25 rfl ?_
    refine m_getr dX10_told_26 fX10_54 sh66 rfl ?_
    refine z_iload dX10_told_29 rfl ?_
    refine m_ialdN (j := i) dX10_told_31 sh80 rfl (by omega) rfl ?_
    refine z_iload_n dX10_told_32 rfl ?_
    refine z_icmp_le 46 dX10_told_33 (by decide) (fun h33 => ?_) (fun h33 => ?_)
    · skip
      refine z_iload_n dX10_told_46 rfl ?_
      refine z_istore_n (i := 3) (fun y => [(3, .int y), (6, .int (nI i)), (5, .int (rHow (rRun μ n Q) 5 i)), (4, .int (rHow (rRun μ n Q) 6 i)), (2, .int (rCost (rRun μ n Q))), (0, .ref 66), (1, .int 0)]) dX10_told_47 rfl rfl (fun _ => rfl) (fun x3_47 ex3_47 => ?_)
      refine z_iload dX10_told_48 rfl ?_
      refine z_aload_n dX10_told_50 rfl ?_
      refine m_getr dX10_told_51 fX10_48 sh66 rfl ?_
      refine z_iload dX10_told_54 rfl ?_
      refine m_ialdN (j := i) dX10_told_56 sh78 rfl (by omega) rfl ?_
      refine z_bipush (v := 6) dX10_told_57 rfl ?_
      refine z_icmp_ne 66 dX10_told_59 (by decide) (fun h59 => ?_) (fun h59 => ?_)
      · skip
        refine z_iconst (v := 0) dX10_told_66 rfl ?_
        refine z_iadd dX10_told_67 ?_
        refine z_istore (i := 4) (fun y => [(4, .int y), (3, .int x3_47), (6, .int (nI i)), (5, .int (rHow (rRun μ n Q) 5 i)), (2, .int (rCost (rRun μ n Q))), (0, .ref 66), (1, .int 0)]) dX10_told_68 rfl (fun _ => rfl) (fun x4_68 ex4_68 => ?_)
        refine z_iload dX10_told_70 rfl ?_
        refine z_aload_n dX10_told_72 rfl ?_
        refine m_getr dX10_told_73 fX10_48 sh66 rfl ?_
        refine z_iload dX10_told_76 rfl ?_
        refine m_ialdN (j := i) dX10_told_78 sh78 rfl (by omega) rfl ?_
        refine z_iconst (v := 5) dX10_told_79 rfl ?_
        refine z_icmp_ne 87 dX10_told_80 (by decide) (fun h80 => ?_) (fun h80 => ?_)
        · skip
          refine z_iconst (v := 0) dX10_told_87 rfl ?_
          refine z_iadd dX10_told_88 ?_
          refine z_istore (i := 5) (fun y => [(5, .int y), (4, .int x4_68), (3, .int x3_47), (6, .int (nI i)), (2, .int (rCost (rRun μ n Q))), (0, .ref 66), (1, .int 0)]) dX10_told_89 rfl (fun _ => rfl) (fun x5_89 ex5_89 => ?_)
          refine z_iinc (fun y => [(6, .int y), (5, .int x5_89), (4, .int x4_68), (3, .int x3_47), (2, .int (rCost (rRun μ n Q))), (0, .ref 66), (1, .int 0)]) dX10_told_91 rfl rfl (fun _ => rfl) (fun x6_91 ex6_91 => ?_)
          obtain rfl : x6_91 = nI (i + 1) := by rw [ex6_91]; exact nI_1 i
          refine z_goto 16 dX10_told_94 (by decide) ?_
          simp only [rLast, rHow, if_pos h33, if_neg h59, if_neg h80] at H
          subst ex3_47 ex4_68 ex5_89
          exact H
        · skip
          refine z_iconst (v := 1) dX10_told_83 rfl ?_
          refine z_goto 88 dX10_told_84 (by decide) ?_
          refine z_iadd dX10_told_88 ?_
          refine z_istore (i := 5) (fun y => [(5, .int y), (4, .int x4_68), (3, .int x3_47), (6, .int (nI i)), (2, .int (rCost (rRun μ n Q))), (0, .ref 66), (1, .int 0)]) dX10_told_89 rfl (fun _ => rfl) (fun x5_89 ex5_89 => ?_)
          refine z_iinc (fun y => [(6, .int y), (5, .int x5_89), (4, .int x4_68), (3, .int x3_47), (2, .int (rCost (rRun μ n Q))), (0, .ref 66), (1, .int 0)]) dX10_told_91 rfl rfl (fun _ => rfl) (fun x6_91 ex6_91 => ?_)
          obtain rfl : x6_91 = nI (i + 1) := by rw [ex6_91]; exact nI_1 i
          refine z_goto 16 dX10_told_94 (by decide) ?_
          simp only [rLast, rHow, if_pos h33, if_neg h59, if_pos h80] at H
          subst ex3_47 ex4_68 ex5_89
          exact H
      · skip
        refine z_iconst (v := 1) dX10_told_62 rfl ?_
        refine z_goto 67 dX10_told_63 (by decide) ?_
        refine z_iadd dX10_told_67 ?_
        refine z_istore (i := 4) (fun y => [(4, .int y), (3, .int x3_47), (6, .int (nI i)), (5, .int (rHow (rRun μ n Q) 5 i)), (2, .int (rCost (rRun μ n Q))), (0, .ref 66), (1, .int 0)]) dX10_told_68 rfl (fun _ => rfl) (fun x4_68 ex4_68 => ?_)
        refine z_iload dX10_told_70 rfl ?_
        refine z_aload_n dX10_told_72 rfl ?_
        refine m_getr dX10_told_73 fX10_48 sh66 rfl ?_
        refine z_iload dX10_told_76 rfl ?_
        refine m_ialdN (j := i) dX10_told_78 sh78 rfl (by omega) rfl ?_
        refine z_iconst (v := 5) dX10_told_79 rfl ?_
        refine z_icmp_ne 87 dX10_told_80 (by decide) (fun h80 => ?_) (fun h80 => ?_)
        · skip
          refine z_iconst (v := 0) dX10_told_87 rfl ?_
          refine z_iadd dX10_told_88 ?_
          refine z_istore (i := 5) (fun y => [(5, .int y), (4, .int x4_68), (3, .int x3_47), (6, .int (nI i)), (2, .int (rCost (rRun μ n Q))), (0, .ref 66), (1, .int 0)]) dX10_told_89 rfl (fun _ => rfl) (fun x5_89 ex5_89 => ?_)
          refine z_iinc (fun y => [(6, .int y), (5, .int x5_89), (4, .int x4_68), (3, .int x3_47), (2, .int (rCost (rRun μ n Q))), (0, .ref 66), (1, .int 0)]) dX10_told_91 rfl rfl (fun _ => rfl) (fun x6_91 ex6_91 => ?_)
          obtain rfl : x6_91 = nI (i + 1) := by rw [ex6_91]; exact nI_1 i
          refine z_goto 16 dX10_told_94 (by decide) ?_
          simp only [rLast, rHow, if_pos h33, if_pos h59, if_neg h80] at H
          subst ex3_47 ex4_68 ex5_89
          exact H
        · skip
          refine z_iconst (v := 1) dX10_told_83 rfl ?_
          refine z_goto 88 dX10_told_84 (by decide) ?_
          refine z_iadd dX10_told_88 ?_
          refine z_istore (i := 5) (fun y => [(5, .int y), (4, .int x4_68), (3, .int x3_47), (6, .int (nI i)), (2, .int (rCost (rRun μ n Q))), (0, .ref 66), (1, .int 0)]) dX10_told_89 rfl (fun _ => rfl) (fun x5_89 ex5_89 => ?_)
          refine z_iinc (fun y => [(6, .int y), (5, .int x5_89), (4, .int x4_68), (3, .int x3_47), (2, .int (rCost (rRun μ n Q))), (0, .ref 66), (1, .int 0)]) dX10_told_91 rfl rfl (fun _ => rfl) (fun x6_91 ex6_91 => ?_)
          obtain rfl : x6_91 = nI (i + 1) := by rw [ex6_91]; exact nI_1 i
          refine z_goto 16 dX10_told_94 (by decide) ?_
          simp only [rLast, rHow, if_pos h33, if_pos h59, if_pos h80] at H
          subst ex3_47 ex4_68 ex5_89
          exact H
    · skip
      refine z_aload_n dX10_told_36 rfl ?_
      refine m_getr dX10_told_37 fX10_54 sh66 rfl ?_
      refine z_iload dX10_told_40 rfl ?_
      refine m_ialdN (j := i) dX10_told_42 sh80 rfl (by omega) rfl ?_
      refine z_goto 47 dX10_told_43 (by decide) ?_
      refine z_istore_n (i := 3) (fun y => [(3, .int y), (6, .int (nI i)), (5, .int (rHow (rRun μ n Q) 5 i)), (4, .int (rHow (rRun μ n Q) 6 i)), (2, .int (rCost (rRun μ n Q))), (0, .ref 66), (1, .int 0)]) dX10_told_47 rfl rfl (fun _ => rfl) (fun x3_47 ex3_47 => ?_)
      refine z_iload dX10_told_48 rfl ?_
      refine z_aload_n dX10_told_50 rfl ?_
      refine m_getr dX10_told_51 fX10_48 sh66 rfl ?_
      refine z_iload dX10_told_54 rfl ?_
      refine m_ialdN (j := i) dX10_told_56 sh78 rfl (by omega) rfl ?_
      refine z_bipush (v := 6) dX10_told_57 rfl ?_
      refine z_icmp_ne 66 dX10_told_59 (by decide) (fun h59 => ?_) (fun h59 => ?_)
      · skip
        refine z_iconst (v := 0) dX10_told_66 rfl ?_
        refine z_iadd dX10_told_67 ?_
        refine z_istore (i := 4) (fun y => [(4, .int y), (3, .int x3_47), (6, .int (nI i)), (5, .int (rHow (rRun μ n Q) 5 i)), (2, .int (rCost (rRun μ n Q))), (0, .ref 66), (1, .int 0)]) dX10_told_68 rfl (fun _ => rfl) (fun x4_68 ex4_68 => ?_)
        refine z_iload dX10_told_70 rfl ?_
        refine z_aload_n dX10_told_72 rfl ?_
        refine m_getr dX10_told_73 fX10_48 sh66 rfl ?_
        refine z_iload dX10_told_76 rfl ?_
        refine m_ialdN (j := i) dX10_told_78 sh78 rfl (by omega) rfl ?_
        refine z_iconst (v := 5) dX10_told_79 rfl ?_
        refine z_icmp_ne 87 dX10_told_80 (by decide) (fun h80 => ?_) (fun h80 => ?_)
        · skip
          refine z_iconst (v := 0) dX10_told_87 rfl ?_
          refine z_iadd dX10_told_88 ?_
          refine z_istore (i := 5) (fun y => [(5, .int y), (4, .int x4_68), (3, .int x3_47), (6, .int (nI i)), (2, .int (rCost (rRun μ n Q))), (0, .ref 66), (1, .int 0)]) dX10_told_89 rfl (fun _ => rfl) (fun x5_89 ex5_89 => ?_)
          refine z_iinc (fun y => [(6, .int y), (5, .int x5_89), (4, .int x4_68), (3, .int x3_47), (2, .int (rCost (rRun μ n Q))), (0, .ref 66), (1, .int 0)]) dX10_told_91 rfl rfl (fun _ => rfl) (fun x6_91 ex6_91 => ?_)
          obtain rfl : x6_91 = nI (i + 1) := by rw [ex6_91]; exact nI_1 i
          refine z_goto 16 dX10_told_94 (by decide) ?_
          simp only [rLast, rHow, if_neg h33, if_neg h59, if_neg h80] at H
          subst ex3_47 ex4_68 ex5_89
          exact H
        · skip
          refine z_iconst (v := 1) dX10_told_83 rfl ?_
          refine z_goto 88 dX10_told_84 (by decide) ?_
          refine z_iadd dX10_told_88 ?_
          refine z_istore (i := 5) (fun y => [(5, .int y), (4, .int x4_68), (3, .int x3_47), (6, .int (nI i)), (2, .int (rCost (rRun μ n Q))), (0, .ref 66), (1, .int 0)]) dX10_told_89 rfl (fun _ => rfl) (fun x5_89 ex5_89 => ?_)
          refine z_iinc (fun y => [(6, .int y), (5, .int x5_89), (4, .int x4_68), (3, .int x3_47), (2, .int (rCost (rRun μ n Q))), (0, .ref 66), (1, .int 0)]) dX10_told_91 rfl rfl (fun _ => rfl) (fun x6_91 ex6_91 => ?_)
          obtain rfl : x6_91 = nI (i + 1) := by rw [ex6_91]; exact nI_1 i
          refine z_goto 16 dX10_told_94 (by decide) ?_
          simp only [rLast, rHow, if_neg h33, if_neg h59, if_pos h80] at H
          subst ex3_47 ex4_68 ex5_89
          exact H
      · skip
        refine z_iconst (v := 1) dX10_told_62 rfl ?_
        refine z_goto 67 dX10_told_63 (by decide) ?_
        refine z_iadd dX10_told_67 ?_
        refine z_istore (i := 4) (fun y => [(4, .int y), (3, .int x3_47), (6, .int (nI i)), (5, .int (rHow (rRun μ n Q) 5 i)), (2, .int (rCost (rRun μ n Q))), (0, .ref 66), (1, .int 0)]) dX10_told_68 rfl (fun _ => rfl) (fun x4_68 ex4_68 => ?_)
        refine z_iload dX10_told_70 rfl ?_
        refine z_aload_n dX10_told_72 rfl ?_
        refine m_getr dX10_told_73 fX10_48 sh66 rfl ?_
        refine z_iload dX10_told_76 rfl ?_
        refine m_ialdN (j := i) dX10_told_78 sh78 rfl (by omega) rfl ?_
        refine z_iconst (v := 5) dX10_told_79 rfl ?_
        refine z_icmp_ne 87 dX10_told_80 (by decide) (fun h80 => ?_) (fun h80 => ?_)
        · skip
          refine z_iconst (v := 0) dX10_told_87 rfl ?_
          refine z_iadd dX10_told_88 ?_
          refine z_istore (i := 5) (fun y => [(5, .int y), (4, .int x4_68), (3, .int x3_47), (6, .int (nI i)), (2, .int (rCost (rRun μ n Q))), (0, .ref 66), (1, .int 0)]) dX10_told_89 rfl (fun _ => rfl) (fun x5_89 ex5_89 => ?_)
          refine z_iinc (fun y => [(6, .int y), (5, .int x5_89), (4, .int x4_68), (3, .int x3_47), (2, .int (rCost (rRun μ n Q))), (0, .ref 66), (1, .int 0)]) dX10_told_91 rfl rfl (fun _ => rfl) (fun x6_91 ex6_91 => ?_)
          obtain rfl : x6_91 = nI (i + 1) := by rw [ex6_91]; exact nI_1 i
          refine z_goto 16 dX10_told_94 (by decide) ?_
          simp only [rLast, rHow, if_neg h33, if_pos h59, if_neg h80] at H
          subst ex3_47 ex4_68 ex5_89
          exact H
        · skip
          refine z_iconst (v := 1) dX10_told_83 rfl ?_
          refine z_goto 88 dX10_told_84 (by decide) ?_
          refine z_iadd dX10_told_88 ?_
          refine z_istore (i := 5) (fun y => [(5, .int y), (4, .int x4_68), (3, .int x3_47), (6, .int (nI i)), (2, .int (rCost (rRun μ n Q))), (0, .ref 66), (1, .int 0)]) dX10_told_89 rfl (fun _ => rfl) (fun x5_89 ex5_89 => ?_)
          refine z_iinc (fun y => [(6, .int y), (5, .int x5_89), (4, .int x4_68), (3, .int x3_47), (2, .int (rCost (rRun μ n Q))), (0, .ref 66), (1, .int 0)]) dX10_told_91 rfl rfl (fun _ => rfl) (fun x6_91 ex6_91 => ?_)
          obtain rfl : x6_91 = nI (i + 1) := by rw [ex6_91]; exact nI_1 i
          refine z_goto 16 dX10_told_94 (by decide) ?_
          simp only [rLast, rHow, if_neg h33, if_pos h59, if_pos h80] at H
          subst ex3_47 ex4_68 ex5_89
          exact H) (by
    refine z_iload dX10_told_16 rfl ?_
    refine z_aload_n dX10_told_18 rfl ?_
    refine m_geti dX10_told_19 fX10_105 sh66 rfl ?_
    refine z_icmp_ge 97 dX10_told_22 (by decide) (fun h22 => ?_) (fun h22 => absurd (hn1 ▸ nI_le (Nat.le_refl n) (by omega)) h22)
    refine z_iload_n dX10_told_97 rfl ?_
    refine z_tableIn 156 dX10_told_98 (by decide) (by decide) rfl (by decide) ?_
    refine z_aload_n dX10_told_156 rfl ?_
    refine m_geti dX10_told_157 fX10_105 sh66 rfl ?_
    refine m_iret dX10_told_160 rfl rfl ?_
    exact ⟨hn1.symm, rfl, rfl⟩)
  refine z_aload_n dX10_told_0 rfl ?_
  refine m_callV (As := []) dX10_told_1 kX10_223 ⟨rfl, rfl⟩ rfl ⟨rfl, rfl⟩ rfl rfl sh66 rfl rfl (c_costNow hn h6 hQ hsd) (fun r1 μ1 ν1 hk1 => ?_)
  obtain ⟨rfl, rfl, rfl⟩ := hk1
  refine z_istore_n (i := 2) (fun y => [(2, .int y), (0, .ref 66), (1, .int 0)]) dX10_told_4 rfl rfl (fun _ => rfl) (fun x9 e9 => ?_)
  subst e9
  refine z_iconst (v := 0) dX10_told_5 rfl ?_
  refine z_istore_n (i := 3) (fun y => [(3, .int y), (2, .int (rCost (rRun μ n Q))), (0, .ref 66), (1, .int 0)]) dX10_told_6 rfl rfl (fun _ => rfl) (fun x9 e9 => ?_)
  subst e9
  refine z_iconst (v := 0) dX10_told_7 rfl ?_
  refine z_istore (i := 4) (fun y => [(4, .int y), (3, .int 0), (2, .int (rCost (rRun μ n Q))), (0, .ref 66), (1, .int 0)]) dX10_told_8 rfl (fun _ => rfl) (fun x9 e9 => ?_)
  subst e9
  refine z_iconst (v := 0) dX10_told_10 rfl ?_
  refine z_istore (i := 5) (fun y => [(5, .int y), (4, .int 0), (3, .int 0), (2, .int (rCost (rRun μ n Q))), (0, .ref 66), (1, .int 0)]) dX10_told_11 rfl (fun _ => rfl) (fun x9 e9 => ?_)
  subst e9
  refine z_iconst (v := 0) dX10_told_13 rfl ?_
  refine z_istore (i := 6) (fun y => [(6, .int y), (5, .int 0), (4, .int 0), (3, .int 0), (2, .int (rCost (rRun μ n Q))), (0, .ref 66), (1, .int 0)]) dX10_told_14 rfl (fun _ => rfl) (fun x9 e9 => ?_)
  subst e9
  exact hL 0 (Nat.zero_le n)
set_option maxRecDepth 100000 in
set_option maxHeartbeats 400000 in
theorem d_told_1 {l : Launch} {G : zG} {μ : Mem} {ν : Lng} {n : Nat} (hn : μ 66 17 = nI n) (h6 : n ≤ 6) {Q : Nat → Nat} (hQ : zOrd (μ 75) n Q) (hsd : zSidesM μ n)  : Cm l G mX10_told [.ref 66, .int 1] μ ν (fun a9 b9 c9 => rRun μ n Q 66 0 = a9 ∧ rRun μ n Q = b9 ∧ ν = c9) := by
  refine Con.of (by decide) (Nat.le_of_ble_eq_true rfl) ?_
  show Am l G mX10_told 0 [(0, .ref 66), (1, .int 1)] [] μ ν _
  have hn1 : rRun μ n Q 66 17 = nI n := ((zEq.start.tr (zEq.looks n)).2 17 (by decide) (by decide)).trans hn
  have hL := m_for (l := l) (G := G) (M := mX10_told) (pc := 16) (ν := ν) (K := (fun a9 b9 c9 => rRun μ n Q 66 0 = a9 ∧ rRun μ n Q = b9 ∧ ν = c9)) (N := n) (fun i => [(6, .int (nI i)), (5, .int (rHow (rRun μ n Q) 5 i)), (4, .int (rHow (rRun μ n Q) 6 i)), (3, .int (rLast (rRun μ n Q) i)), (2, .int (rCost (rRun μ n Q))), (0, .ref 66), (1, .int 1)]) (fun i => rRun μ n Q) (fun i hi H => by
    refine z_iload dX10_told_16 rfl ?_
    refine z_aload_n dX10_told_18 rfl ?_
    refine m_geti dX10_told_19 fX10_105 sh66 rfl ?_
    refine z_icmp_ge 97 dX10_told_22 (by decide) (fun h22 => absurd (hn1 ▸ h22) (nI_ge hi (by omega))) (fun h22 => ?_)
    refine z_aload_n dX10_told_25 rfl ?_
    refine m_getr dX10_told_26 fX10_54 sh66 rfl ?_
    refine z_iload dX10_told_29 rfl ?_
    refine m_ialdN (j := i) dX10_told_31 sh80 rfl (by omega) rfl ?_
    refine z_iload_n dX10_told_32 rfl ?_
    refine z_icmp_le 46 dX10_told_33 (by decide) (fun h33 => ?_) (fun h33 => ?_)
    · skip
      refine z_iload_n dX10_told_46 rfl ?_
      refine z_istore_n (i := 3) (fun y => [(3, .int y), (6, .int (nI i)), (5, .int (rHow (rRun μ n Q) 5 i)), (4, .int (rHow (rRun μ n Q) 6 i)), (2, .int (rCost (rRun μ n Q))), (0, .ref 66), (1, .int 1)]) dX10_told_47 rfl rfl (fun _ => rfl) (fun x3_47 ex3_47 => ?_)
      refine z_iload dX10_told_48 rfl ?_
      refine z_aload_n dX10_told_50 rfl ?_
      refine m_getr dX10_told_51 fX10_48 sh66 rfl ?_
      refine z_iload dX10_told_54 rfl ?_
      refine m_ialdN (j := i) dX10_told_56 sh78 rfl (by omega) rfl ?_
      refine z_bipush (v := 6) dX10_told_57 rfl ?_
      refine z_icmp_ne 66 dX10_told_59 (by decide) (fun h59 => ?_) (fun h59 => ?_)
      · skip
        refine z_iconst (v := 0) dX10_told_66 rfl ?_
        refine z_iadd dX10_told_67 ?_
        refine z_istore (i := 4) (fun y => [(4, .int y), (3, .int x3_47), (6, .int (nI i)), (5, .int (rHow (rRun μ n Q) 5 i)), (2, .int (rCost (rRun μ n Q))), (0, .ref 66), (1, .int 1)]) dX10_told_68 rfl (fun _ => rfl) (fun x4_68 ex4_68 => ?_)
        refine z_iload dX10_told_70 rfl ?_
        refine z_aload_n dX10_told_72 rfl ?_
        refine m_getr dX10_told_73 fX10_48 sh66 rfl ?_
        refine z_iload dX10_told_76 rfl ?_
        refine m_ialdN (j := i) dX10_told_78 sh78 rfl (by omega) rfl ?_
        refine z_iconst (v := 5) dX10_told_79 rfl ?_
        refine z_icmp_ne 87 dX10_told_80 (by decide) (fun h80 => ?_) (fun h80 => ?_)
        · skip
          refine z_iconst (v := 0) dX10_told_87 rfl ?_
          refine z_iadd dX10_told_88 ?_
          refine z_istore (i := 5) (fun y => [(5, .int y), (4, .int x4_68), (3, .int x3_47), (6, .int (nI i)), (2, .int (rCost (rRun μ n Q))), (0, .ref 66), (1, .int 1)]) dX10_told_89 rfl (fun _ => rfl) (fun x5_89 ex5_89 => ?_)
          refine z_iinc (fun y => [(6, .int y), (5, .int x5_89), (4, .int x4_68), (3, .int x3_47), (2, .int (rCost (rRun μ n Q))), (0, .ref 66), (1, .int 1)]) dX10_told_91 rfl rfl (fun _ => rfl) (fun x6_91 ex6_91 => ?_)
          obtain rfl : x6_91 = nI (i + 1) := by rw [ex6_91]; exact nI_1 i
          refine z_goto 16 dX10_told_94 (by decide) ?_
          simp only [rLast, rHow, if_pos h33, if_neg h59, if_neg h80] at H
          subst ex3_47 ex4_68 ex5_89
          exact H
        · skip
          refine z_iconst (v := 1) dX10_told_83 rfl ?_
          refine z_goto 88 dX10_told_84 (by decide) ?_
          refine z_iadd dX10_told_88 ?_
          refine z_istore (i := 5) (fun y => [(5, .int y), (4, .int x4_68), (3, .int x3_47), (6, .int (nI i)), (2, .int (rCost (rRun μ n Q))), (0, .ref 66), (1, .int 1)]) dX10_told_89 rfl (fun _ => rfl) (fun x5_89 ex5_89 => ?_)
          refine z_iinc (fun y => [(6, .int y), (5, .int x5_89), (4, .int x4_68), (3, .int x3_47), (2, .int (rCost (rRun μ n Q))), (0, .ref 66), (1, .int 1)]) dX10_told_91 rfl rfl (fun _ => rfl) (fun x6_91 ex6_91 => ?_)
          obtain rfl : x6_91 = nI (i + 1) := by rw [ex6_91]; exact nI_1 i
          refine z_goto 16 dX10_told_94 (by decide) ?_
          simp only [rLast, rHow, if_pos h33, if_neg h59, if_pos h80] at H
          subst ex3_47 ex4_68 ex5_89
          exact H
      · skip
        refine z_iconst (v := 1) dX10_told_62 rfl ?_
        refine z_goto 67 dX10_told_63 (by decide) ?_
        refine z_iadd dX10_told_67 ?_
        refine z_istore (i := 4) (fun y => [(4, .int y), (3, .int x3_47), (6, .int (nI i)), (5, .int (rHow (rRun μ n Q) 5 i)), (2, .int (rCost (rRun μ n Q))), (0, .ref 66), (1, .int 1)]) dX10_told_68 rfl (fun _ => rfl) (fun x4_68 ex4_68 => ?_)
        refine z_iload dX10_told_70 rfl ?_
        refine z_aload_n dX10_told_72 rfl ?_
        refine m_getr dX10_told_73 fX10_48 sh66 rfl ?_
        refine z_iload dX10_told_76 rfl ?_
        refine m_ialdN (j := i) dX10_told_78 sh78 rfl (by omega) rfl ?_
        refine z_iconst (v := 5) dX10_told_79 rfl ?_
        refine z_icmp_ne 87 dX10_told_80 (by decide) (fun h80 => ?_) (fun h80 => ?_)
        · skip
          refine z_iconst (v := 0) dX10_told_87 rfl ?_
          refine z_iadd dX10_told_88 ?_
          refine z_istore (i := 5) (fun y => [(5, .int y), (4, .int x4_68), (3, .int x3_47), (6, .int (nI i)), (2, .int (rCost (rRun μ n Q))), (0, .ref 66), (1, .int 1)]) dX10_told_89 rfl (fun _ => rfl) (fun x5_89 ex5_89 => ?_)
          refine z_iinc (fun y => [(6, .int y), (5, .int x5_89), (4, .int x4_68), (3, .int x3_47), (2, .int (rCost (rRun μ n Q))), (0, .ref 66), (1, .int 1)]) dX10_told_91 rfl rfl (fun _ => rfl) (fun x6_91 ex6_91 => ?_)
          obtain rfl : x6_91 = nI (i + 1) := by rw [ex6_91]; exact nI_1 i
          refine z_goto 16 dX10_told_94 (by decide) ?_
          simp only [rLast, rHow, if_pos h33, if_pos h59, if_neg h80] at H
          subst ex3_47 ex4_68 ex5_89
          exact H
        · skip
          refine z_iconst (v := 1) dX10_told_83 rfl ?_
          refine z_goto 88 dX10_told_84 (by decide) ?_
          refine z_iadd dX10_told_88 ?_
          refine z_istore (i := 5) (fun y => [(5, .int y), (4, .int x4_68), (3, .int x3_47), (6, .int (nI i)), (2, .int (rCost (rRun μ n Q))), (0, .ref 66), (1, .int 1)]) dX10_told_89 rfl (fun _ => rfl) (fun x5_89 ex5_89 => ?_)
          refine z_iinc (fun y => [(6, .int y), (5, .int x5_89), (4, .int x4_68), (3, .int x3_47), (2, .int (rCost (rRun μ n Q))), (0, .ref 66), (1, .int 1)]) dX10_told_91 rfl rfl (fun _ => rfl) (fun x6_91 ex6_91 => ?_)
          obtain rfl : x6_91 = nI (i + 1) := by rw [ex6_91]; exact nI_1 i
          refine z_goto 16 dX10_told_94 (by decide) ?_
          simp only [rLast, rHow, if_pos h33, if_pos h59, if_pos h80] at H
          subst ex3_47 ex4_68 ex5_89
          exact H
    · skip
      refine z_aload_n dX10_told_36 rfl ?_
      refine m_getr dX10_told_37 fX10_54 sh66 rfl ?_
      refine z_iload dX10_told_40 rfl ?_
      refine m_ialdN (j := i) dX10_told_42 sh80 rfl (by omega) rfl ?_
      refine z_goto 47 dX10_told_43 (by decide) ?_
      refine z_istore_n (i := 3) (fun y => [(3, .int y), (6, .int (nI i)), (5, .int (rHow (rRun μ n Q) 5 i)), (4, .int (rHow (rRun μ n Q) 6 i)), (2, .int (rCost (rRun μ n Q))), (0, .ref 66), (1, .int 1)]) dX10_told_47 rfl rfl (fun _ => rfl) (fun x3_47 ex3_47 => ?_)
      refine z_iload dX10_told_48 rfl ?_
      refine z_aload_n dX10_told_50 rfl ?_
      refine m_getr dX10_told_51 fX10_48 sh66 rfl ?_
      refine z_iload dX10_told_54 rfl ?_
      refine m_ialdN (j := i) dX10_told_56 sh78 rfl (by omega) rfl ?_
      refine z_bipush (v := 6) dX10_told_57 rfl ?_
      refine z_icmp_ne 66 dX10_told_59 (by decide) (fun h59 => ?_) (fun h59 => ?_)
      · skip
        refine z_iconst (v := 0) dX10_told_66 rfl ?_
        refine z_iadd dX10_told_67 ?_
        refine z_istore (i := 4) (fun y => [(4, .int y), (3, .int x3_47), (6, .int (nI i)), (5, .int (rHow (rRun μ n Q) 5 i)), (2, .int (rCost (rRun μ n Q))), (0, .ref 66), (1, .int 1)]) dX10_told_68 rfl (fun _ => rfl) (fun x4_68 ex4_68 => ?_)
        refine z_iload dX10_told_70 rfl ?_
        refine z_aload_n dX10_told_72 rfl ?_
        refine m_getr dX10_told_73 fX10_48 sh66 rfl ?_
        refine z_iload dX10_told_76 rfl ?_
        refine m_ialdN (j := i) dX10_told_78 sh78 rfl (by omega) rfl ?_
        refine z_iconst (v := 5) dX10_told_79 rfl ?_
        refine z_icmp_ne 87 dX10_told_80 (by decide) (fun h80 => ?_) (fun h80 => ?_)
        · skip
          refine z_iconst (v := 0) dX10_told_87 rfl ?_
          refine z_iadd dX10_told_88 ?_
          refine z_istore (i := 5) (fun y => [(5, .int y), (4, .int x4_68), (3, .int x3_47), (6, .int (nI i)), (2, .int (rCost (rRun μ n Q))), (0, .ref 66), (1, .int 1)]) dX10_told_89 rfl (fun _ => rfl) (fun x5_89 ex5_89 => ?_)
          refine z_iinc (fun y => [(6, .int y), (5, .int x5_89), (4, .int x4_68), (3, .int x3_47), (2, .int (rCost (rRun μ n Q))), (0, .ref 66), (1, .int 1)]) dX10_told_91 rfl rfl (fun _ => rfl) (fun x6_91 ex6_91 => ?_)
          obtain rfl : x6_91 = nI (i + 1) := by rw [ex6_91]; exact nI_1 i
          refine z_goto 16 dX10_told_94 (by decide) ?_
          simp only [rLast, rHow, if_neg h33, if_neg h59, if_neg h80] at H
          subst ex3_47 ex4_68 ex5_89
          exact H
        · skip
          refine z_iconst (v := 1) dX10_told_83 rfl ?_
          refine z_goto 88 dX10_told_84 (by decide) ?_
          refine z_iadd dX10_told_88 ?_
          refine z_istore (i := 5) (fun y => [(5, .int y), (4, .int x4_68), (3, .int x3_47), (6, .int (nI i)), (2, .int (rCost (rRun μ n Q))), (0, .ref 66), (1, .int 1)]) dX10_told_89 rfl (fun _ => rfl) (fun x5_89 ex5_89 => ?_)
          refine z_iinc (fun y => [(6, .int y), (5, .int x5_89), (4, .int x4_68), (3, .int x3_47), (2, .int (rCost (rRun μ n Q))), (0, .ref 66), (1, .int 1)]) dX10_told_91 rfl rfl (fun _ => rfl) (fun x6_91 ex6_91 => ?_)
          obtain rfl : x6_91 = nI (i + 1) := by rw [ex6_91]; exact nI_1 i
          refine z_goto 16 dX10_told_94 (by decide) ?_
          simp only [rLast, rHow, if_neg h33, if_neg h59, if_pos h80] at H
          subst ex3_47 ex4_68 ex5_89
          exact H
      · skip
        refine z_iconst (v := 1) dX10_told_62 rfl ?_
        refine z_goto 67 dX10_told_63 (by decide) ?_
        refine z_iadd dX10_told_67 ?_
        refine z_istore (i := 4) (fun y => [(4, .int y), (3, .int x3_47), (6, .int (nI i)), (5, .int (rHow (rRun μ n Q) 5 i)), (2, .int (rCost (rRun μ n Q))), (0, .ref 66), (1, .int 1)]) dX10_told_68 rfl (fun _ => rfl) (fun x4_68 ex4_68 => ?_)
        refine z_iload dX10_told_70 rfl ?_
        refine z_aload_n dX10_told_72 rfl ?_
        refine m_getr dX10_told_73 fX10_48 sh66 rfl ?_
        refine z_iload dX10_told_76 rfl ?_
        refine m_ialdN (j := i) dX10_told_78 sh78 rfl (by omega) rfl ?_
        refine z_iconst (v := 5) dX10_told_79 rfl ?_
        refine z_icmp_ne 87 dX10_told_80 (by decide) (fun h80 => ?_) (fun h80 => ?_)
        · skip
          refine z_iconst (v := 0) dX10_told_87 rfl ?_
          refine z_iadd dX10_told_88 ?_
          refine z_istore (i := 5) (fun y => [(5, .int y), (4, .int x4_68), (3, .int x3_47), (6, .int (nI i)), (2, .int (rCost (rRun μ n Q))), (0, .ref 66), (1, .int 1)]) dX10_told_89 rfl (fun _ => rfl) (fun x5_89 ex5_89 => ?_)
          refine z_iinc (fun y => [(6, .int y), (5, .int x5_89), (4, .int x4_68), (3, .int x3_47), (2, .int (rCost (rRun μ n Q))), (0, .ref 66), (1, .int 1)]) dX10_told_91 rfl rfl (fun _ => rfl) (fun x6_91 ex6_91 => ?_)
          obtain rfl : x6_91 = nI (i + 1) := by rw [ex6_91]; exact nI_1 i
          refine z_goto 16 dX10_told_94 (by decide) ?_
          simp only [rLast, rHow, if_neg h33, if_pos h59, if_neg h80] at H
          subst ex3_47 ex4_68 ex5_89
          exact H
        · skip
          refine z_iconst (v := 1) dX10_told_83 rfl ?_
          refine z_goto 88 dX10_told_84 (by decide) ?_
          refine z_iadd dX10_told_88 ?_
          refine z_istore (i := 5) (fun y => [(5, .int y), (4, .int x4_68), (3, .int x3_47), (6, .int (nI i)), (2, .int (rCost (rRun μ n Q))), (0, .ref 66), (1, .int 1)]) dX10_told_89 rfl (fun _ => rfl) (fun x5_89 ex5_89 => ?_)
          refine z_iinc (fun y => [(6, .int y), (5, .int x5_89), (4, .int x4_68), (3, .int x3_47), (2, .int (rCost (rRun μ n Q))), (0, .ref 66), (1, .int 1)]) dX10_told_91 rfl rfl (fun _ => rfl) (fun x6_91 ex6_91 => ?_)
          obtain rfl : x6_91 = nI (i + 1) := by rw [ex6_91]; exact nI_1 i
          refine z_goto 16 dX10_told_94 (by decide) ?_
          simp only [rLast, rHow, if_neg h33, if_pos h59, if_pos h80] at H
          subst ex3_47 ex4_68 ex5_89
          exact H) (by
    refine z_iload dX10_told_16 rfl ?_
    refine z_aload_n dX10_told_18 rfl ?_
    refine m_geti dX10_told_19 fX10_105 sh66 rfl ?_
    refine z_icmp_ge 97 dX10_told_22 (by decide) (fun h22 => ?_) (fun h22 => absurd (hn1 ▸ nI_le (Nat.le_refl n) (by omega)) h22)
    refine z_iload_n dX10_told_97 rfl ?_
    refine z_tableIn 161 dX10_told_98 (by decide) (by decide) rfl (by decide) ?_
    refine z_aload_n dX10_told_161 rfl ?_
    refine m_geti dX10_told_162 fX10_113 sh66 rfl ?_
    refine m_iret dX10_told_165 rfl rfl ?_
    exact ⟨rfl, rfl, rfl⟩)
  refine z_aload_n dX10_told_0 rfl ?_
  refine m_callV (As := []) dX10_told_1 kX10_223 ⟨rfl, rfl⟩ rfl ⟨rfl, rfl⟩ rfl rfl sh66 rfl rfl (c_costNow hn h6 hQ hsd) (fun r1 μ1 ν1 hk1 => ?_)
  obtain ⟨rfl, rfl, rfl⟩ := hk1
  refine z_istore_n (i := 2) (fun y => [(2, .int y), (0, .ref 66), (1, .int 1)]) dX10_told_4 rfl rfl (fun _ => rfl) (fun x9 e9 => ?_)
  subst e9
  refine z_iconst (v := 0) dX10_told_5 rfl ?_
  refine z_istore_n (i := 3) (fun y => [(3, .int y), (2, .int (rCost (rRun μ n Q))), (0, .ref 66), (1, .int 1)]) dX10_told_6 rfl rfl (fun _ => rfl) (fun x9 e9 => ?_)
  subst e9
  refine z_iconst (v := 0) dX10_told_7 rfl ?_
  refine z_istore (i := 4) (fun y => [(4, .int y), (3, .int 0), (2, .int (rCost (rRun μ n Q))), (0, .ref 66), (1, .int 1)]) dX10_told_8 rfl (fun _ => rfl) (fun x9 e9 => ?_)
  subst e9
  refine z_iconst (v := 0) dX10_told_10 rfl ?_
  refine z_istore (i := 5) (fun y => [(5, .int y), (4, .int 0), (3, .int 0), (2, .int (rCost (rRun μ n Q))), (0, .ref 66), (1, .int 1)]) dX10_told_11 rfl (fun _ => rfl) (fun x9 e9 => ?_)
  subst e9
  refine z_iconst (v := 0) dX10_told_13 rfl ?_
  refine z_istore (i := 6) (fun y => [(6, .int y), (5, .int 0), (4, .int 0), (3, .int 0), (2, .int (rCost (rRun μ n Q))), (0, .ref 66), (1, .int 1)]) dX10_told_14 rfl (fun _ => rfl) (fun x9 e9 => ?_)
  subst e9
  exact hL 0 (Nat.zero_le n)
set_option maxRecDepth 100000 in
set_option maxHeartbeats 400000 in
theorem d_told_2 {l : Launch} {G : zG} {μ : Mem} {ν : Lng} {n : Nat} (hn : μ 66 17 = nI n) (h6 : n ≤ 6) {Q : Nat → Nat} (hQ : zOrd (μ 75) n Q) (hsd : zSidesM μ n)  : Cm l G mX10_told [.ref 66, .int 2] μ ν (fun a9 b9 c9 => rRun μ n Q 75 18 = a9 ∧ rRun μ n Q = b9 ∧ ν = c9) := by
  refine Con.of (by decide) (Nat.le_of_ble_eq_true rfl) ?_
  show Am l G mX10_told 0 [(0, .ref 66), (1, .int 2)] [] μ ν _
  have hn1 : rRun μ n Q 66 17 = nI n := ((zEq.start.tr (zEq.looks n)).2 17 (by decide) (by decide)).trans hn
  have hL := m_for (l := l) (G := G) (M := mX10_told) (pc := 16) (ν := ν) (K := (fun a9 b9 c9 => rRun μ n Q 75 18 = a9 ∧ rRun μ n Q = b9 ∧ ν = c9)) (N := n) (fun i => [(6, .int (nI i)), (5, .int (rHow (rRun μ n Q) 5 i)), (4, .int (rHow (rRun μ n Q) 6 i)), (3, .int (rLast (rRun μ n Q) i)), (2, .int (rCost (rRun μ n Q))), (0, .ref 66), (1, .int 2)]) (fun i => rRun μ n Q) (fun i hi H => by
    refine z_iload dX10_told_16 rfl ?_
    refine z_aload_n dX10_told_18 rfl ?_
    refine m_geti dX10_told_19 fX10_105 sh66 rfl ?_
    refine z_icmp_ge 97 dX10_told_22 (by decide) (fun h22 => absurd (hn1 ▸ h22) (nI_ge hi (by omega))) (fun h22 => ?_)
    refine z_aload_n dX10_told_25 rfl ?_
    refine m_getr dX10_told_26 fX10_54 sh66 rfl ?_
    refine z_iload dX10_told_29 rfl ?_
    refine m_ialdN (j := i) dX10_told_31 sh80 rfl (by omega) rfl ?_
    refine z_iload_n dX10_told_32 rfl ?_
    refine z_icmp_le 46 dX10_told_33 (by decide) (fun h33 => ?_) (fun h33 => ?_)
    · skip
      refine z_iload_n dX10_told_46 rfl ?_
      refine z_istore_n (i := 3) (fun y => [(3, .int y), (6, .int (nI i)), (5, .int (rHow (rRun μ n Q) 5 i)), (4, .int (rHow (rRun μ n Q) 6 i)), (2, .int (rCost (rRun μ n Q))), (0, .ref 66), (1, .int 2)]) dX10_told_47 rfl rfl (fun _ => rfl) (fun x3_47 ex3_47 => ?_)
      refine z_iload dX10_told_48 rfl ?_
      refine z_aload_n dX10_told_50 rfl ?_
      refine m_getr dX10_told_51 fX10_48 sh66 rfl ?_
      refine z_iload dX10_told_54 rfl ?_
      refine m_ialdN (j := i) dX10_told_56 sh78 rfl (by omega) rfl ?_
      refine z_bipush (v := 6) dX10_told_57 rfl ?_
      refine z_icmp_ne 66 dX10_told_59 (by decide) (fun h59 => ?_) (fun h59 => ?_)
      · skip
        refine z_iconst (v := 0) dX10_told_66 rfl ?_
        refine z_iadd dX10_told_67 ?_
        refine z_istore (i := 4) (fun y => [(4, .int y), (3, .int x3_47), (6, .int (nI i)), (5, .int (rHow (rRun μ n Q) 5 i)), (2, .int (rCost (rRun μ n Q))), (0, .ref 66), (1, .int 2)]) dX10_told_68 rfl (fun _ => rfl) (fun x4_68 ex4_68 => ?_)
        refine z_iload dX10_told_70 rfl ?_
        refine z_aload_n dX10_told_72 rfl ?_
        refine m_getr dX10_told_73 fX10_48 sh66 rfl ?_
        refine z_iload dX10_told_76 rfl ?_
        refine m_ialdN (j := i) dX10_told_78 sh78 rfl (by omega) rfl ?_
        refine z_iconst (v := 5) dX10_told_79 rfl ?_
        refine z_icmp_ne 87 dX10_told_80 (by decide) (fun h80 => ?_) (fun h80 => ?_)
        · skip
          refine z_iconst (v := 0) dX10_told_87 rfl ?_
          refine z_iadd dX10_told_88 ?_
          refine z_istore (i := 5) (fun y => [(5, .int y), (4, .int x4_68), (3, .int x3_47), (6, .int (nI i)), (2, .int (rCost (rRun μ n Q))), (0, .ref 66), (1, .int 2)]) dX10_told_89 rfl (fun _ => rfl) (fun x5_89 ex5_89 => ?_)
          refine z_iinc (fun y => [(6, .int y), (5, .int x5_89), (4, .int x4_68), (3, .int x3_47), (2, .int (rCost (rRun μ n Q))), (0, .ref 66), (1, .int 2)]) dX10_told_91 rfl rfl (fun _ => rfl) (fun x6_91 ex6_91 => ?_)
          obtain rfl : x6_91 = nI (i + 1) := by rw [ex6_91]; exact nI_1 i
          refine z_goto 16 dX10_told_94 (by decide) ?_
          simp only [rLast, rHow, if_pos h33, if_neg h59, if_neg h80] at H
          subst ex3_47 ex4_68 ex5_89
          exact H
        · skip
          refine z_iconst (v := 1) dX10_told_83 rfl ?_
          refine z_goto 88 dX10_told_84 (by decide) ?_
          refine z_iadd dX10_told_88 ?_
          refine z_istore (i := 5) (fun y => [(5, .int y), (4, .int x4_68), (3, .int x3_47), (6, .int (nI i)), (2, .int (rCost (rRun μ n Q))), (0, .ref 66), (1, .int 2)]) dX10_told_89 rfl (fun _ => rfl) (fun x5_89 ex5_89 => ?_)
          refine z_iinc (fun y => [(6, .int y), (5, .int x5_89), (4, .int x4_68), (3, .int x3_47), (2, .int (rCost (rRun μ n Q))), (0, .ref 66), (1, .int 2)]) dX10_told_91 rfl rfl (fun _ => rfl) (fun x6_91 ex6_91 => ?_)
          obtain rfl : x6_91 = nI (i + 1) := by rw [ex6_91]; exact nI_1 i
          refine z_goto 16 dX10_told_94 (by decide) ?_
          simp only [rLast, rHow, if_pos h33, if_neg h59, if_pos h80] at H
          subst ex3_47 ex4_68 ex5_89
          exact H
      · skip
        refine z_iconst (v := 1) dX10_told_62 rfl ?_
        refine z_goto 67 dX10_told_63 (by decide) ?_
        refine z_iadd dX10_told_67 ?_
        refine z_istore (i := 4) (fun y => [(4, .int y), (3, .int x3_47), (6, .int (nI i)), (5, .int (rHow (rRun μ n Q) 5 i)), (2, .int (rCost (rRun μ n Q))), (0, .ref 66), (1, .int 2)]) dX10_told_68 rfl (fun _ => rfl) (fun x4_68 ex4_68 => ?_)
        refine z_iload dX10_told_70 rfl ?_
        refine z_aload_n dX10_told_72 rfl ?_
        refine m_getr dX10_told_73 fX10_48 sh66 rfl ?_
        refine z_iload dX10_told_76 rfl ?_
        refine m_ialdN (j := i) dX10_told_78 sh78 rfl (by omega) rfl ?_
        refine z_iconst (v := 5) dX10_told_79 rfl ?_
        refine z_icmp_ne 87 dX10_told_80 (by decide) (fun h80 => ?_) (fun h80 => ?_)
        · skip
          refine z_iconst (v := 0) dX10_told_87 rfl ?_
          refine z_iadd dX10_told_88 ?_
          refine z_istore (i := 5) (fun y => [(5, .int y), (4, .int x4_68), (3, .int x3_47), (6, .int (nI i)), (2, .int (rCost (rRun μ n Q))), (0, .ref 66), (1, .int 2)]) dX10_told_89 rfl (fun _ => rfl) (fun x5_89 ex5_89 => ?_)
          refine z_iinc (fun y => [(6, .int y), (5, .int x5_89), (4, .int x4_68), (3, .int x3_47), (2, .int (rCost (rRun μ n Q))), (0, .ref 66), (1, .int 2)]) dX10_told_91 rfl rfl (fun _ => rfl) (fun x6_91 ex6_91 => ?_)
          obtain rfl : x6_91 = nI (i + 1) := by rw [ex6_91]; exact nI_1 i
          refine z_goto 16 dX10_told_94 (by decide) ?_
          simp only [rLast, rHow, if_pos h33, if_pos h59, if_neg h80] at H
          subst ex3_47 ex4_68 ex5_89
          exact H
        · skip
          refine z_iconst (v := 1) dX10_told_83 rfl ?_
          refine z_goto 88 dX10_told_84 (by decide) ?_
          refine z_iadd dX10_told_88 ?_
          refine z_istore (i := 5) (fun y => [(5, .int y), (4, .int x4_68), (3, .int x3_47), (6, .int (nI i)), (2, .int (rCost (rRun μ n Q))), (0, .ref 66), (1, .int 2)]) dX10_told_89 rfl (fun _ => rfl) (fun x5_89 ex5_89 => ?_)
          refine z_iinc (fun y => [(6, .int y), (5, .int x5_89), (4, .int x4_68), (3, .int x3_47), (2, .int (rCost (rRun μ n Q))), (0, .ref 66), (1, .int 2)]) dX10_told_91 rfl rfl (fun _ => rfl) (fun x6_91 ex6_91 => ?_)
          obtain rfl : x6_91 = nI (i + 1) := by rw [ex6_91]; exact nI_1 i
          refine z_goto 16 dX10_told_94 (by decide) ?_
          simp only [rLast, rHow, if_pos h33, if_pos h59, if_pos h80] at H
          subst ex3_47 ex4_68 ex5_89
          exact H
    · skip
      refine z_aload_n dX10_told_36 rfl ?_
      refine m_getr dX10_told_37 fX10_54 sh66 rfl ?_
      refine z_iload dX10_told_40 rfl ?_
      refine m_ialdN (j := i) dX10_told_42 sh80 rfl (by omega) rfl ?_
      refine z_goto 47 dX10_told_43 (by decide) ?_
      refine z_istore_n (i := 3) (fun y => [(3, .int y), (6, .int (nI i)), (5, .int (rHow (rRun μ n Q) 5 i)), (4, .int (rHow (rRun μ n Q) 6 i)), (2, .int (rCost (rRun μ n Q))), (0, .ref 66), (1, .int 2)]) dX10_told_47 rfl rfl (fun _ => rfl) (fun x3_47 ex3_47 => ?_)
      refine z_iload dX10_told_48 rfl ?_
      refine z_aload_n dX10_told_50 rfl ?_
      refine m_getr dX10_told_51 fX10_48 sh66 rfl ?_
      refine z_iload dX10_told_54 rfl ?_
      refine m_ialdN (j := i) dX10_told_56 sh78 rfl (by omega) rfl ?_
      refine z_bipush (v := 6) dX10_told_57 rfl ?_
      refine z_icmp_ne 66 dX10_told_59 (by decide) (fun h59 => ?_) (fun h59 => ?_)
      · skip
        refine z_iconst (v := 0) dX10_told_66 rfl ?_
        refine z_iadd dX10_told_67 ?_
        refine z_istore (i := 4) (fun y => [(4, .int y), (3, .int x3_47), (6, .int (nI i)), (5, .int (rHow (rRun μ n Q) 5 i)), (2, .int (rCost (rRun μ n Q))), (0, .ref 66), (1, .int 2)]) dX10_told_68 rfl (fun _ => rfl) (fun x4_68 ex4_68 => ?_)
        refine z_iload dX10_told_70 rfl ?_
        refine z_aload_n dX10_told_72 rfl ?_
        refine m_getr dX10_told_73 fX10_48 sh66 rfl ?_
        refine z_iload dX10_told_76 rfl ?_
        refine m_ialdN (j := i) dX10_told_78 sh78 rfl (by omega) rfl ?_
        refine z_iconst (v := 5) dX10_told_79 rfl ?_
        refine z_icmp_ne 87 dX10_told_80 (by decide) (fun h80 => ?_) (fun h80 => ?_)
        · skip
          refine z_iconst (v := 0) dX10_told_87 rfl ?_
          refine z_iadd dX10_told_88 ?_
          refine z_istore (i := 5) (fun y => [(5, .int y), (4, .int x4_68), (3, .int x3_47), (6, .int (nI i)), (2, .int (rCost (rRun μ n Q))), (0, .ref 66), (1, .int 2)]) dX10_told_89 rfl (fun _ => rfl) (fun x5_89 ex5_89 => ?_)
          refine z_iinc (fun y => [(6, .int y), (5, .int x5_89), (4, .int x4_68), (3, .int x3_47), (2, .int (rCost (rRun μ n Q))), (0, .ref 66), (1, .int 2)]) dX10_told_91 rfl rfl (fun _ => rfl) (fun x6_91 ex6_91 => ?_)
          obtain rfl : x6_91 = nI (i + 1) := by rw [ex6_91]; exact nI_1 i
          refine z_goto 16 dX10_told_94 (by decide) ?_
          simp only [rLast, rHow, if_neg h33, if_neg h59, if_neg h80] at H
          subst ex3_47 ex4_68 ex5_89
          exact H
        · skip
          refine z_iconst (v := 1) dX10_told_83 rfl ?_
          refine z_goto 88 dX10_told_84 (by decide) ?_
          refine z_iadd dX10_told_88 ?_
          refine z_istore (i := 5) (fun y => [(5, .int y), (4, .int x4_68), (3, .int x3_47), (6, .int (nI i)), (2, .int (rCost (rRun μ n Q))), (0, .ref 66), (1, .int 2)]) dX10_told_89 rfl (fun _ => rfl) (fun x5_89 ex5_89 => ?_)
          refine z_iinc (fun y => [(6, .int y), (5, .int x5_89), (4, .int x4_68), (3, .int x3_47), (2, .int (rCost (rRun μ n Q))), (0, .ref 66), (1, .int 2)]) dX10_told_91 rfl rfl (fun _ => rfl) (fun x6_91 ex6_91 => ?_)
          obtain rfl : x6_91 = nI (i + 1) := by rw [ex6_91]; exact nI_1 i
          refine z_goto 16 dX10_told_94 (by decide) ?_
          simp only [rLast, rHow, if_neg h33, if_neg h59, if_pos h80] at H
          subst ex3_47 ex4_68 ex5_89
          exact H
      · skip
        refine z_iconst (v := 1) dX10_told_62 rfl ?_
        refine z_goto 67 dX10_told_63 (by decide) ?_
        refine z_iadd dX10_told_67 ?_
        refine z_istore (i := 4) (fun y => [(4, .int y), (3, .int x3_47), (6, .int (nI i)), (5, .int (rHow (rRun μ n Q) 5 i)), (2, .int (rCost (rRun μ n Q))), (0, .ref 66), (1, .int 2)]) dX10_told_68 rfl (fun _ => rfl) (fun x4_68 ex4_68 => ?_)
        refine z_iload dX10_told_70 rfl ?_
        refine z_aload_n dX10_told_72 rfl ?_
        refine m_getr dX10_told_73 fX10_48 sh66 rfl ?_
        refine z_iload dX10_told_76 rfl ?_
        refine m_ialdN (j := i) dX10_told_78 sh78 rfl (by omega) rfl ?_
        refine z_iconst (v := 5) dX10_told_79 rfl ?_
        refine z_icmp_ne 87 dX10_told_80 (by decide) (fun h80 => ?_) (fun h80 => ?_)
        · skip
          refine z_iconst (v := 0) dX10_told_87 rfl ?_
          refine z_iadd dX10_told_88 ?_
          refine z_istore (i := 5) (fun y => [(5, .int y), (4, .int x4_68), (3, .int x3_47), (6, .int (nI i)), (2, .int (rCost (rRun μ n Q))), (0, .ref 66), (1, .int 2)]) dX10_told_89 rfl (fun _ => rfl) (fun x5_89 ex5_89 => ?_)
          refine z_iinc (fun y => [(6, .int y), (5, .int x5_89), (4, .int x4_68), (3, .int x3_47), (2, .int (rCost (rRun μ n Q))), (0, .ref 66), (1, .int 2)]) dX10_told_91 rfl rfl (fun _ => rfl) (fun x6_91 ex6_91 => ?_)
          obtain rfl : x6_91 = nI (i + 1) := by rw [ex6_91]; exact nI_1 i
          refine z_goto 16 dX10_told_94 (by decide) ?_
          simp only [rLast, rHow, if_neg h33, if_pos h59, if_neg h80] at H
          subst ex3_47 ex4_68 ex5_89
          exact H
        · skip
          refine z_iconst (v := 1) dX10_told_83 rfl ?_
          refine z_goto 88 dX10_told_84 (by decide) ?_
          refine z_iadd dX10_told_88 ?_
          refine z_istore (i := 5) (fun y => [(5, .int y), (4, .int x4_68), (3, .int x3_47), (6, .int (nI i)), (2, .int (rCost (rRun μ n Q))), (0, .ref 66), (1, .int 2)]) dX10_told_89 rfl (fun _ => rfl) (fun x5_89 ex5_89 => ?_)
          refine z_iinc (fun y => [(6, .int y), (5, .int x5_89), (4, .int x4_68), (3, .int x3_47), (2, .int (rCost (rRun μ n Q))), (0, .ref 66), (1, .int 2)]) dX10_told_91 rfl rfl (fun _ => rfl) (fun x6_91 ex6_91 => ?_)
          obtain rfl : x6_91 = nI (i + 1) := by rw [ex6_91]; exact nI_1 i
          refine z_goto 16 dX10_told_94 (by decide) ?_
          simp only [rLast, rHow, if_neg h33, if_pos h59, if_pos h80] at H
          subst ex3_47 ex4_68 ex5_89
          exact H) (by
    refine z_iload dX10_told_16 rfl ?_
    refine z_aload_n dX10_told_18 rfl ?_
    refine m_geti dX10_told_19 fX10_105 sh66 rfl ?_
    refine z_icmp_ge 97 dX10_told_22 (by decide) (fun h22 => ?_) (fun h22 => absurd (hn1 ▸ nI_le (Nat.le_refl n) (by omega)) h22)
    refine z_iload_n dX10_told_97 rfl ?_
    refine z_tableIn 166 dX10_told_98 (by decide) (by decide) rfl (by decide) ?_
    refine z_aload_n dX10_told_166 rfl ?_
    refine m_getr dX10_told_167 fX10_38 sh66 rfl ?_
    refine z_bipush (v := 18) dX10_told_170 rfl ?_
    refine m_ialdN (j := 18) dX10_told_172 sh75 (by decide) (by decide) rfl ?_
    refine m_iret dX10_told_173 rfl rfl ?_
    exact ⟨rfl, rfl, rfl⟩)
  refine z_aload_n dX10_told_0 rfl ?_
  refine m_callV (As := []) dX10_told_1 kX10_223 ⟨rfl, rfl⟩ rfl ⟨rfl, rfl⟩ rfl rfl sh66 rfl rfl (c_costNow hn h6 hQ hsd) (fun r1 μ1 ν1 hk1 => ?_)
  obtain ⟨rfl, rfl, rfl⟩ := hk1
  refine z_istore_n (i := 2) (fun y => [(2, .int y), (0, .ref 66), (1, .int 2)]) dX10_told_4 rfl rfl (fun _ => rfl) (fun x9 e9 => ?_)
  subst e9
  refine z_iconst (v := 0) dX10_told_5 rfl ?_
  refine z_istore_n (i := 3) (fun y => [(3, .int y), (2, .int (rCost (rRun μ n Q))), (0, .ref 66), (1, .int 2)]) dX10_told_6 rfl rfl (fun _ => rfl) (fun x9 e9 => ?_)
  subst e9
  refine z_iconst (v := 0) dX10_told_7 rfl ?_
  refine z_istore (i := 4) (fun y => [(4, .int y), (3, .int 0), (2, .int (rCost (rRun μ n Q))), (0, .ref 66), (1, .int 2)]) dX10_told_8 rfl (fun _ => rfl) (fun x9 e9 => ?_)
  subst e9
  refine z_iconst (v := 0) dX10_told_10 rfl ?_
  refine z_istore (i := 5) (fun y => [(5, .int y), (4, .int 0), (3, .int 0), (2, .int (rCost (rRun μ n Q))), (0, .ref 66), (1, .int 2)]) dX10_told_11 rfl (fun _ => rfl) (fun x9 e9 => ?_)
  subst e9
  refine z_iconst (v := 0) dX10_told_13 rfl ?_
  refine z_istore (i := 6) (fun y => [(6, .int y), (5, .int 0), (4, .int 0), (3, .int 0), (2, .int (rCost (rRun μ n Q))), (0, .ref 66), (1, .int 2)]) dX10_told_14 rfl (fun _ => rfl) (fun x9 e9 => ?_)
  subst e9
  exact hL 0 (Nat.zero_le n)
set_option maxRecDepth 100000 in
set_option maxHeartbeats 400000 in
theorem d_told_3 {l : Launch} {G : zG} {μ : Mem} {ν : Lng} {n : Nat} (hn : μ 66 17 = nI n) (h6 : n ≤ 6) {Q : Nat → Nat} (hQ : zOrd (μ 75) n Q) (hsd : zSidesM μ n)  : Cm l G mX10_told [.ref 66, .int 3] μ ν (fun a9 b9 c9 => rRun μ n Q 75 19 = a9 ∧ rRun μ n Q = b9 ∧ ν = c9) := by
  refine Con.of (by decide) (Nat.le_of_ble_eq_true rfl) ?_
  show Am l G mX10_told 0 [(0, .ref 66), (1, .int 3)] [] μ ν _
  have hn1 : rRun μ n Q 66 17 = nI n := ((zEq.start.tr (zEq.looks n)).2 17 (by decide) (by decide)).trans hn
  have hL := m_for (l := l) (G := G) (M := mX10_told) (pc := 16) (ν := ν) (K := (fun a9 b9 c9 => rRun μ n Q 75 19 = a9 ∧ rRun μ n Q = b9 ∧ ν = c9)) (N := n) (fun i => [(6, .int (nI i)), (5, .int (rHow (rRun μ n Q) 5 i)), (4, .int (rHow (rRun μ n Q) 6 i)), (3, .int (rLast (rRun μ n Q) i)), (2, .int (rCost (rRun μ n Q))), (0, .ref 66), (1, .int 3)]) (fun i => rRun μ n Q) (fun i hi H => by
    refine z_iload dX10_told_16 rfl ?_
    refine z_aload_n dX10_told_18 rfl ?_
    refine m_geti dX10_told_19 fX10_105 sh66 rfl ?_
    refine z_icmp_ge 97 dX10_told_22 (by decide) (fun h22 => absurd (hn1 ▸ h22) (nI_ge hi (by omega))) (fun h22 => ?_)
    refine z_aload_n dX10_told_25 rfl ?_
    refine m_getr dX10_told_26 fX10_54 sh66 rfl ?_
    refine z_iload dX10_told_29 rfl ?_
    refine m_ialdN (j := i) dX10_told_31 sh80 rfl (by omega) rfl ?_
    refine z_iload_n dX10_told_32 rfl ?_
    refine z_icmp_le 46 dX10_told_33 (by decide) (fun h33 => ?_) (fun h33 => ?_)
    · skip
      refine z_iload_n dX10_told_46 rfl ?_
      refine z_istore_n (i := 3) (fun y => [(3, .int y), (6, .int (nI i)), (5, .int (rHow (rRun μ n Q) 5 i)), (4, .int (rHow (rRun μ n Q) 6 i)), (2, .int (rCost (rRun μ n Q))), (0, .ref 66), (1, .int 3)]) dX10_told_47 rfl rfl (fun _ => rfl) (fun x3_47 ex3_47 => ?_)
      refine z_iload dX10_told_48 rfl ?_
      refine z_aload_n dX10_told_50 rfl ?_
      refine m_getr dX10_told_51 fX10_48 sh66 rfl ?_
      refine z_iload dX10_told_54 rfl ?_
      refine m_ialdN (j := i) dX10_told_56 sh78 rfl (by omega) rfl ?_
      refine z_bipush (v := 6) dX10_told_57 rfl ?_
      refine z_icmp_ne 66 dX10_told_59 (by decide) (fun h59 => ?_) (fun h59 => ?_)
      · skip
        refine z_iconst (v := 0) dX10_told_66 rfl ?_
        refine z_iadd dX10_told_67 ?_
        refine z_istore (i := 4) (fun y => [(4, .int y), (3, .int x3_47), (6, .int (nI i)), (5, .int (rHow (rRun μ n Q) 5 i)), (2, .int (rCost (rRun μ n Q))), (0, .ref 66), (1, .int 3)]) dX10_told_68 rfl (fun _ => rfl) (fun x4_68 ex4_68 => ?_)
        refine z_iload dX10_told_70 rfl ?_
        refine z_aload_n dX10_told_72 rfl ?_
        refine m_getr dX10_told_73 fX10_48 sh66 rfl ?_
        refine z_iload dX10_told_76 rfl ?_
        refine m_ialdN (j := i) dX10_told_78 sh78 rfl (by omega) rfl ?_
        refine z_iconst (v := 5) dX10_told_79 rfl ?_
        refine z_icmp_ne 87 dX10_told_80 (by decide) (fun h80 => ?_) (fun h80 => ?_)
        · skip
          refine z_iconst (v := 0) dX10_told_87 rfl ?_
          refine z_iadd dX10_told_88 ?_
          refine z_istore (i := 5) (fun y => [(5, .int y), (4, .int x4_68), (3, .int x3_47), (6, .int (nI i)), (2, .int (rCost (rRun μ n Q))), (0, .ref 66), (1, .int 3)]) dX10_told_89 rfl (fun _ => rfl) (fun x5_89 ex5_89 => ?_)
          refine z_iinc (fun y => [(6, .int y), (5, .int x5_89), (4, .int x4_68), (3, .int x3_47), (2, .int (rCost (rRun μ n Q))), (0, .ref 66), (1, .int 3)]) dX10_told_91 rfl rfl (fun _ => rfl) (fun x6_91 ex6_91 => ?_)
          obtain rfl : x6_91 = nI (i + 1) := by rw [ex6_91]; exact nI_1 i
          refine z_goto 16 dX10_told_94 (by decide) ?_
          simp only [rLast, rHow, if_pos h33, if_neg h59, if_neg h80] at H
          subst ex3_47 ex4_68 ex5_89
          exact H
        · skip
          refine z_iconst (v := 1) dX10_told_83 rfl ?_
          refine z_goto 88 dX10_told_84 (by decide) ?_
          refine z_iadd dX10_told_88 ?_
          refine z_istore (i := 5) (fun y => [(5, .int y), (4, .int x4_68), (3, .int x3_47), (6, .int (nI i)), (2, .int (rCost (rRun μ n Q))), (0, .ref 66), (1, .int 3)]) dX10_told_89 rfl (fun _ => rfl) (fun x5_89 ex5_89 => ?_)
          refine z_iinc (fun y => [(6, .int y), (5, .int x5_89), (4, .int x4_68), (3, .int x3_47), (2, .int (rCost (rRun μ n Q))), (0, .ref 66), (1, .int 3)]) dX10_told_91 rfl rfl (fun _ => rfl) (fun x6_91 ex6_91 => ?_)
          obtain rfl : x6_91 = nI (i + 1) := by rw [ex6_91]; exact nI_1 i
          refine z_goto 16 dX10_told_94 (by decide) ?_
          simp only [rLast, rHow, if_pos h33, if_neg h59, if_pos h80] at H
          subst ex3_47 ex4_68 ex5_89
          exact H
      · skip
        refine z_iconst (v := 1) dX10_told_62 rfl ?_
        refine z_goto 67 dX10_told_63 (by decide) ?_
        refine z_iadd dX10_told_67 ?_
        refine z_istore (i := 4) (fun y => [(4, .int y), (3, .int x3_47), (6, .int (nI i)), (5, .int (rHow (rRun μ n Q) 5 i)), (2, .int (rCost (rRun μ n Q))), (0, .ref 66), (1, .int 3)]) dX10_told_68 rfl (fun _ => rfl) (fun x4_68 ex4_68 => ?_)
        refine z_iload dX10_told_70 rfl ?_
        refine z_aload_n dX10_told_72 rfl ?_
        refine m_getr dX10_told_73 fX10_48 sh66 rfl ?_
        refine z_iload dX10_told_76 rfl ?_
        refine m_ialdN (j := i) dX10_told_78 sh78 rfl (by omega) rfl ?_
        refine z_iconst (v := 5) dX10_told_79 rfl ?_
        refine z_icmp_ne 87 dX10_told_80 (by decide) (fun h80 => ?_) (fun h80 => ?_)
        · skip
          refine z_iconst (v := 0) dX10_told_87 rfl ?_
          refine z_iadd dX10_told_88 ?_
          refine z_istore (i := 5) (fun y => [(5, .int y), (4, .int x4_68), (3, .int x3_47), (6, .int (nI i)), (2, .int (rCost (rRun μ n Q))), (0, .ref 66), (1, .int 3)]) dX10_told_89 rfl (fun _ => rfl) (fun x5_89 ex5_89 => ?_)
          refine z_iinc (fun y => [(6, .int y), (5, .int x5_89), (4, .int x4_68), (3, .int x3_47), (2, .int (rCost (rRun μ n Q))), (0, .ref 66), (1, .int 3)]) dX10_told_91 rfl rfl (fun _ => rfl) (fun x6_91 ex6_91 => ?_)
          obtain rfl : x6_91 = nI (i + 1) := by rw [ex6_91]; exact nI_1 i
          refine z_goto 16 dX10_told_94 (by decide) ?_
          simp only [rLast, rHow, if_pos h33, if_pos h59, if_neg h80] at H
          subst ex3_47 ex4_68 ex5_89
          exact H
        · skip
          refine z_iconst (v := 1) dX10_told_83 rfl ?_
          refine z_goto 88 dX10_told_84 (by decide) ?_
          refine z_iadd dX10_told_88 ?_
          refine z_istore (i := 5) (fun y => [(5, .int y), (4, .int x4_68), (3, .int x3_47), (6, .int (nI i)), (2, .int (rCost (rRun μ n Q))), (0, .ref 66), (1, .int 3)]) dX10_told_89 rfl (fun _ => rfl) (fun x5_89 ex5_89 => ?_)
          refine z_iinc (fun y => [(6, .int y), (5, .int x5_89), (4, .int x4_68), (3, .int x3_47), (2, .int (rCost (rRun μ n Q))), (0, .ref 66), (1, .int 3)]) dX10_told_91 rfl rfl (fun _ => rfl) (fun x6_91 ex6_91 => ?_)
          obtain rfl : x6_91 = nI (i + 1) := by rw [ex6_91]; exact nI_1 i
          refine z_goto 16 dX10_told_94 (by decide) ?_
          simp only [rLast, rHow, if_pos h33, if_pos h59, if_pos h80] at H
          subst ex3_47 ex4_68 ex5_89
          exact H
    · skip
      refine z_aload_n dX10_told_36 rfl ?_
      refine m_getr dX10_told_37 fX10_54 sh66 rfl ?_
      refine z_iload dX10_told_40 rfl ?_
      refine m_ialdN (j := i) dX10_told_42 sh80 rfl (by omega) rfl ?_
      refine z_goto 47 dX10_told_43 (by decide) ?_
      refine z_istore_n (i := 3) (fun y => [(3, .int y), (6, .int (nI i)), (5, .int (rHow (rRun μ n Q) 5 i)), (4, .int (rHow (rRun μ n Q) 6 i)), (2, .int (rCost (rRun μ n Q))), (0, .ref 66), (1, .int 3)]) dX10_told_47 rfl rfl (fun _ => rfl) (fun x3_47 ex3_47 => ?_)
      refine z_iload dX10_told_48 rfl ?_
      refine z_aload_n dX10_told_50 rfl ?_
      refine m_getr dX10_told_51 fX10_48 sh66 rfl ?_
      refine z_iload dX10_told_54 rfl ?_
      refine m_ialdN (j := i) dX10_told_56 sh78 rfl (by omega) rfl ?_
      refine z_bipush (v := 6) dX10_told_57 rfl ?_
      refine z_icmp_ne 66 dX10_told_59 (by decide) (fun h59 => ?_) (fun h59 => ?_)
      · skip
        refine z_iconst (v := 0) dX10_told_66 rfl ?_
        refine z_iadd dX10_told_67 ?_
        refine z_istore (i := 4) (fun y => [(4, .int y), (3, .int x3_47), (6, .int (nI i)), (5, .int (rHow (rRun μ n Q) 5 i)), (2, .int (rCost (rRun μ n Q))), (0, .ref 66), (1, .int 3)]) dX10_told_68 rfl (fun _ => rfl) (fun x4_68 ex4_68 => ?_)
        refine z_iload dX10_told_70 rfl ?_
        refine z_aload_n dX10_told_72 rfl ?_
        refine m_getr dX10_told_73 fX10_48 sh66 rfl ?_
        refine z_iload dX10_told_76 rfl ?_
        refine m_ialdN (j := i) dX10_told_78 sh78 rfl (by omega) rfl ?_
        refine z_iconst (v := 5) dX10_told_79 rfl ?_
        refine z_icmp_ne 87 dX10_told_80 (by decide) (fun h80 => ?_) (fun h80 => ?_)
        · skip
          refine z_iconst (v := 0) dX10_told_87 rfl ?_
          refine z_iadd dX10_told_88 ?_
          refine z_istore (i := 5) (fun y => [(5, .int y), (4, .int x4_68), (3, .int x3_47), (6, .int (nI i)), (2, .int (rCost (rRun μ n Q))), (0, .ref 66), (1, .int 3)]) dX10_told_89 rfl (fun _ => rfl) (fun x5_89 ex5_89 => ?_)
          refine z_iinc (fun y => [(6, .int y), (5, .int x5_89), (4, .int x4_68), (3, .int x3_47), (2, .int (rCost (rRun μ n Q))), (0, .ref 66), (1, .int 3)]) dX10_told_91 rfl rfl (fun _ => rfl) (fun x6_91 ex6_91 => ?_)
          obtain rfl : x6_91 = nI (i + 1) := by rw [ex6_91]; exact nI_1 i
          refine z_goto 16 dX10_told_94 (by decide) ?_
          simp only [rLast, rHow, if_neg h33, if_neg h59, if_neg h80] at H
          subst ex3_47 ex4_68 ex5_89
          exact H
        · skip
          refine z_iconst (v := 1) dX10_told_83 rfl ?_
          refine z_goto 88 dX10_told_84 (by decide) ?_
          refine z_iadd dX10_told_88 ?_
          refine z_istore (i := 5) (fun y => [(5, .int y), (4, .int x4_68), (3, .int x3_47), (6, .int (nI i)), (2, .int (rCost (rRun μ n Q))), (0, .ref 66), (1, .int 3)]) dX10_told_89 rfl (fun _ => rfl) (fun x5_89 ex5_89 => ?_)
          refine z_iinc (fun y => [(6, .int y), (5, .int x5_89), (4, .int x4_68), (3, .int x3_47), (2, .int (rCost (rRun μ n Q))), (0, .ref 66), (1, .int 3)]) dX10_told_91 rfl rfl (fun _ => rfl) (fun x6_91 ex6_91 => ?_)
          obtain rfl : x6_91 = nI (i + 1) := by rw [ex6_91]; exact nI_1 i
          refine z_goto 16 dX10_told_94 (by decide) ?_
          simp only [rLast, rHow, if_neg h33, if_neg h59, if_pos h80] at H
          subst ex3_47 ex4_68 ex5_89
          exact H
      · skip
        refine z_iconst (v := 1) dX10_told_62 rfl ?_
        refine z_goto 67 dX10_told_63 (by decide) ?_
        refine z_iadd dX10_told_67 ?_
        refine z_istore (i := 4) (fun y => [(4, .int y), (3, .int x3_47), (6, .int (nI i)), (5, .int (rHow (rRun μ n Q) 5 i)), (2, .int (rCost (rRun μ n Q))), (0, .ref 66), (1, .int 3)]) dX10_told_68 rfl (fun _ => rfl) (fun x4_68 ex4_68 => ?_)
        refine z_iload dX10_told_70 rfl ?_
        refine z_aload_n dX10_told_72 rfl ?_
        refine m_getr dX10_told_73 fX10_48 sh66 rfl ?_
        refine z_iload dX10_told_76 rfl ?_
        refine m_ialdN (j := i) dX10_told_78 sh78 rfl (by omega) rfl ?_
        refine z_iconst (v := 5) dX10_told_79 rfl ?_
        refine z_icmp_ne 87 dX10_told_80 (by decide) (fun h80 => ?_) (fun h80 => ?_)
        · skip
          refine z_iconst (v := 0) dX10_told_87 rfl ?_
          refine z_iadd dX10_told_88 ?_
          refine z_istore (i := 5) (fun y => [(5, .int y), (4, .int x4_68), (3, .int x3_47), (6, .int (nI i)), (2, .int (rCost (rRun μ n Q))), (0, .ref 66), (1, .int 3)]) dX10_told_89 rfl (fun _ => rfl) (fun x5_89 ex5_89 => ?_)
          refine z_iinc (fun y => [(6, .int y), (5, .int x5_89), (4, .int x4_68), (3, .int x3_47), (2, .int (rCost (rRun μ n Q))), (0, .ref 66), (1, .int 3)]) dX10_told_91 rfl rfl (fun _ => rfl) (fun x6_91 ex6_91 => ?_)
          obtain rfl : x6_91 = nI (i + 1) := by rw [ex6_91]; exact nI_1 i
          refine z_goto 16 dX10_told_94 (by decide) ?_
          simp only [rLast, rHow, if_neg h33, if_pos h59, if_neg h80] at H
          subst ex3_47 ex4_68 ex5_89
          exact H
        · skip
          refine z_iconst (v := 1) dX10_told_83 rfl ?_
          refine z_goto 88 dX10_told_84 (by decide) ?_
          refine z_iadd dX10_told_88 ?_
          refine z_istore (i := 5) (fun y => [(5, .int y), (4, .int x4_68), (3, .int x3_47), (6, .int (nI i)), (2, .int (rCost (rRun μ n Q))), (0, .ref 66), (1, .int 3)]) dX10_told_89 rfl (fun _ => rfl) (fun x5_89 ex5_89 => ?_)
          refine z_iinc (fun y => [(6, .int y), (5, .int x5_89), (4, .int x4_68), (3, .int x3_47), (2, .int (rCost (rRun μ n Q))), (0, .ref 66), (1, .int 3)]) dX10_told_91 rfl rfl (fun _ => rfl) (fun x6_91 ex6_91 => ?_)
          obtain rfl : x6_91 = nI (i + 1) := by rw [ex6_91]; exact nI_1 i
          refine z_goto 16 dX10_told_94 (by decide) ?_
          simp only [rLast, rHow, if_neg h33, if_pos h59, if_pos h80] at H
          subst ex3_47 ex4_68 ex5_89
          exact H) (by
    refine z_iload dX10_told_16 rfl ?_
    refine z_aload_n dX10_told_18 rfl ?_
    refine m_geti dX10_told_19 fX10_105 sh66 rfl ?_
    refine z_icmp_ge 97 dX10_told_22 (by decide) (fun h22 => ?_) (fun h22 => absurd (hn1 ▸ nI_le (Nat.le_refl n) (by omega)) h22)
    refine z_iload_n dX10_told_97 rfl ?_
    refine z_tableIn 174 dX10_told_98 (by decide) (by decide) rfl (by decide) ?_
    refine z_aload_n dX10_told_174 rfl ?_
    refine m_getr dX10_told_175 fX10_38 sh66 rfl ?_
    refine z_bipush (v := 19) dX10_told_178 rfl ?_
    refine m_ialdN (j := 19) dX10_told_180 sh75 (by decide) (by decide) rfl ?_
    refine m_iret dX10_told_181 rfl rfl ?_
    exact ⟨rfl, rfl, rfl⟩)
  refine z_aload_n dX10_told_0 rfl ?_
  refine m_callV (As := []) dX10_told_1 kX10_223 ⟨rfl, rfl⟩ rfl ⟨rfl, rfl⟩ rfl rfl sh66 rfl rfl (c_costNow hn h6 hQ hsd) (fun r1 μ1 ν1 hk1 => ?_)
  obtain ⟨rfl, rfl, rfl⟩ := hk1
  refine z_istore_n (i := 2) (fun y => [(2, .int y), (0, .ref 66), (1, .int 3)]) dX10_told_4 rfl rfl (fun _ => rfl) (fun x9 e9 => ?_)
  subst e9
  refine z_iconst (v := 0) dX10_told_5 rfl ?_
  refine z_istore_n (i := 3) (fun y => [(3, .int y), (2, .int (rCost (rRun μ n Q))), (0, .ref 66), (1, .int 3)]) dX10_told_6 rfl rfl (fun _ => rfl) (fun x9 e9 => ?_)
  subst e9
  refine z_iconst (v := 0) dX10_told_7 rfl ?_
  refine z_istore (i := 4) (fun y => [(4, .int y), (3, .int 0), (2, .int (rCost (rRun μ n Q))), (0, .ref 66), (1, .int 3)]) dX10_told_8 rfl (fun _ => rfl) (fun x9 e9 => ?_)
  subst e9
  refine z_iconst (v := 0) dX10_told_10 rfl ?_
  refine z_istore (i := 5) (fun y => [(5, .int y), (4, .int 0), (3, .int 0), (2, .int (rCost (rRun μ n Q))), (0, .ref 66), (1, .int 3)]) dX10_told_11 rfl (fun _ => rfl) (fun x9 e9 => ?_)
  subst e9
  refine z_iconst (v := 0) dX10_told_13 rfl ?_
  refine z_istore (i := 6) (fun y => [(6, .int y), (5, .int 0), (4, .int 0), (3, .int 0), (2, .int (rCost (rRun μ n Q))), (0, .ref 66), (1, .int 3)]) dX10_told_14 rfl (fun _ => rfl) (fun x9 e9 => ?_)
  subst e9
  exact hL 0 (Nat.zero_le n)
set_option maxRecDepth 100000 in
set_option maxHeartbeats 400000 in
theorem d_told_4 {l : Launch} {G : zG} {μ : Mem} {ν : Lng} {n : Nat} (hn : μ 66 17 = nI n) (h6 : n ≤ 6) {Q : Nat → Nat} (hQ : zOrd (μ 75) n Q) (hsd : zSidesM μ n)  : Cm l G mX10_told [.ref 66, .int 4] μ ν (fun a9 b9 c9 => rRun μ n Q 66 45 = a9 ∧ rRun μ n Q = b9 ∧ ν = c9) := by
  refine Con.of (by decide) (Nat.le_of_ble_eq_true rfl) ?_
  show Am l G mX10_told 0 [(0, .ref 66), (1, .int 4)] [] μ ν _
  have hn1 : rRun μ n Q 66 17 = nI n := ((zEq.start.tr (zEq.looks n)).2 17 (by decide) (by decide)).trans hn
  have hL := m_for (l := l) (G := G) (M := mX10_told) (pc := 16) (ν := ν) (K := (fun a9 b9 c9 => rRun μ n Q 66 45 = a9 ∧ rRun μ n Q = b9 ∧ ν = c9)) (N := n) (fun i => [(6, .int (nI i)), (5, .int (rHow (rRun μ n Q) 5 i)), (4, .int (rHow (rRun μ n Q) 6 i)), (3, .int (rLast (rRun μ n Q) i)), (2, .int (rCost (rRun μ n Q))), (0, .ref 66), (1, .int 4)]) (fun i => rRun μ n Q) (fun i hi H => by
    refine z_iload dX10_told_16 rfl ?_
    refine z_aload_n dX10_told_18 rfl ?_
    refine m_geti dX10_told_19 fX10_105 sh66 rfl ?_
    refine z_icmp_ge 97 dX10_told_22 (by decide) (fun h22 => absurd (hn1 ▸ h22) (nI_ge hi (by omega))) (fun h22 => ?_)
    refine z_aload_n dX10_told_25 rfl ?_
    refine m_getr dX10_told_26 fX10_54 sh66 rfl ?_
    refine z_iload dX10_told_29 rfl ?_
    refine m_ialdN (j := i) dX10_told_31 sh80 rfl (by omega) rfl ?_
    refine z_iload_n dX10_told_32 rfl ?_
    refine z_icmp_le 46 dX10_told_33 (by decide) (fun h33 => ?_) (fun h33 => ?_)
    · skip
      refine z_iload_n dX10_told_46 rfl ?_
      refine z_istore_n (i := 3) (fun y => [(3, .int y), (6, .int (nI i)), (5, .int (rHow (rRun μ n Q) 5 i)), (4, .int (rHow (rRun μ n Q) 6 i)), (2, .int (rCost (rRun μ n Q))), (0, .ref 66), (1, .int 4)]) dX10_told_47 rfl rfl (fun _ => rfl) (fun x3_47 ex3_47 => ?_)
      refine z_iload dX10_told_48 rfl ?_
      refine z_aload_n dX10_told_50 rfl ?_
      refine m_getr dX10_told_51 fX10_48 sh66 rfl ?_
      refine z_iload dX10_told_54 rfl ?_
      refine m_ialdN (j := i) dX10_told_56 sh78 rfl (by omega) rfl ?_
      refine z_bipush (v := 6) dX10_told_57 rfl ?_
      refine z_icmp_ne 66 dX10_told_59 (by decide) (fun h59 => ?_) (fun h59 => ?_)
      · skip
        refine z_iconst (v := 0) dX10_told_66 rfl ?_
        refine z_iadd dX10_told_67 ?_
        refine z_istore (i := 4) (fun y => [(4, .int y), (3, .int x3_47), (6, .int (nI i)), (5, .int (rHow (rRun μ n Q) 5 i)), (2, .int (rCost (rRun μ n Q))), (0, .ref 66), (1, .int 4)]) dX10_told_68 rfl (fun _ => rfl) (fun x4_68 ex4_68 => ?_)
        refine z_iload dX10_told_70 rfl ?_
        refine z_aload_n dX10_told_72 rfl ?_
        refine m_getr dX10_told_73 fX10_48 sh66 rfl ?_
        refine z_iload dX10_told_76 rfl ?_
        refine m_ialdN (j := i) dX10_told_78 sh78 rfl (by omega) rfl ?_
        refine z_iconst (v := 5) dX10_told_79 rfl ?_
        refine z_icmp_ne 87 dX10_told_80 (by decide) (fun h80 => ?_) (fun h80 => ?_)
        · skip
          refine z_iconst (v := 0) dX10_told_87 rfl ?_
          refine z_iadd dX10_told_88 ?_
          refine z_istore (i := 5) (fun y => [(5, .int y), (4, .int x4_68), (3, .int x3_47), (6, .int (nI i)), (2, .int (rCost (rRun μ n Q))), (0, .ref 66), (1, .int 4)]) dX10_told_89 rfl (fun _ => rfl) (fun x5_89 ex5_89 => ?_)
          refine z_iinc (fun y => [(6, .int y), (5, .int x5_89), (4, .int x4_68), (3, .int x3_47), (2, .int (rCost (rRun μ n Q))), (0, .ref 66), (1, .int 4)]) dX10_told_91 rfl rfl (fun _ => rfl) (fun x6_91 ex6_91 => ?_)
          obtain rfl : x6_91 = nI (i + 1) := by rw [ex6_91]; exact nI_1 i
          refine z_goto 16 dX10_told_94 (by decide) ?_
          simp only [rLast, rHow, if_pos h33, if_neg h59, if_neg h80] at H
          subst ex3_47 ex4_68 ex5_89
          exact H
        · skip
          refine z_iconst (v := 1) dX10_told_83 rfl ?_
          refine z_goto 88 dX10_told_84 (by decide) ?_
          refine z_iadd dX10_told_88 ?_
          refine z_istore (i := 5) (fun y => [(5, .int y), (4, .int x4_68), (3, .int x3_47), (6, .int (nI i)), (2, .int (rCost (rRun μ n Q))), (0, .ref 66), (1, .int 4)]) dX10_told_89 rfl (fun _ => rfl) (fun x5_89 ex5_89 => ?_)
          refine z_iinc (fun y => [(6, .int y), (5, .int x5_89), (4, .int x4_68), (3, .int x3_47), (2, .int (rCost (rRun μ n Q))), (0, .ref 66), (1, .int 4)]) dX10_told_91 rfl rfl (fun _ => rfl) (fun x6_91 ex6_91 => ?_)
          obtain rfl : x6_91 = nI (i + 1) := by rw [ex6_91]; exact nI_1 i
          refine z_goto 16 dX10_told_94 (by decide) ?_
          simp only [rLast, rHow, if_pos h33, if_neg h59, if_pos h80] at H
          subst ex3_47 ex4_68 ex5_89
          exact H
      · skip
        refine z_iconst (v := 1) dX10_told_62 rfl ?_
        refine z_goto 67 dX10_told_63 (by decide) ?_
        refine z_iadd dX10_told_67 ?_
        refine z_istore (i := 4) (fun y => [(4, .int y), (3, .int x3_47), (6, .int (nI i)), (5, .int (rHow (rRun μ n Q) 5 i)), (2, .int (rCost (rRun μ n Q))), (0, .ref 66), (1, .int 4)]) dX10_told_68 rfl (fun _ => rfl) (fun x4_68 ex4_68 => ?_)
        refine z_iload dX10_told_70 rfl ?_
        refine z_aload_n dX10_told_72 rfl ?_
        refine m_getr dX10_told_73 fX10_48 sh66 rfl ?_
        refine z_iload dX10_told_76 rfl ?_
        refine m_ialdN (j := i) dX10_told_78 sh78 rfl (by omega) rfl ?_
        refine z_iconst (v := 5) dX10_told_79 rfl ?_
        refine z_icmp_ne 87 dX10_told_80 (by decide) (fun h80 => ?_) (fun h80 => ?_)
        · skip
          refine z_iconst (v := 0) dX10_told_87 rfl ?_
          refine z_iadd dX10_told_88 ?_
          refine z_istore (i := 5) (fun y => [(5, .int y), (4, .int x4_68), (3, .int x3_47), (6, .int (nI i)), (2, .int (rCost (rRun μ n Q))), (0, .ref 66), (1, .int 4)]) dX10_told_89 rfl (fun _ => rfl) (fun x5_89 ex5_89 => ?_)
          refine z_iinc (fun y => [(6, .int y), (5, .int x5_89), (4, .int x4_68), (3, .int x3_47), (2, .int (rCost (rRun μ n Q))), (0, .ref 66), (1, .int 4)]) dX10_told_91 rfl rfl (fun _ => rfl) (fun x6_91 ex6_91 => ?_)
          obtain rfl : x6_91 = nI (i + 1) := by rw [ex6_91]; exact nI_1 i
          refine z_goto 16 dX10_told_94 (by decide) ?_
          simp only [rLast, rHow, if_pos h33, if_pos h59, if_neg h80] at H
          subst ex3_47 ex4_68 ex5_89
          exact H
        · skip
          refine z_iconst (v := 1) dX10_told_83 rfl ?_
          refine z_goto 88 dX10_told_84 (by decide) ?_
          refine z_iadd dX10_told_88 ?_
          refine z_istore (i := 5) (fun y => [(5, .int y), (4, .int x4_68), (3, .int x3_47), (6, .int (nI i)), (2, .int (rCost (rRun μ n Q))), (0, .ref 66), (1, .int 4)]) dX10_told_89 rfl (fun _ => rfl) (fun x5_89 ex5_89 => ?_)
          refine z_iinc (fun y => [(6, .int y), (5, .int x5_89), (4, .int x4_68), (3, .int x3_47), (2, .int (rCost (rRun μ n Q))), (0, .ref 66), (1, .int 4)]) dX10_told_91 rfl rfl (fun _ => rfl) (fun x6_91 ex6_91 => ?_)
          obtain rfl : x6_91 = nI (i + 1) := by rw [ex6_91]; exact nI_1 i
          refine z_goto 16 dX10_told_94 (by decide) ?_
          simp only [rLast, rHow, if_pos h33, if_pos h59, if_pos h80] at H
          subst ex3_47 ex4_68 ex5_89
          exact H
    · skip
      refine z_aload_n dX10_told_36 rfl ?_
      refine m_getr dX10_told_37 fX10_54 sh66 rfl ?_
      refine z_iload dX10_told_40 rfl ?_
      refine m_ialdN (j := i) dX10_told_42 sh80 rfl (by omega) rfl ?_
      refine z_goto 47 dX10_told_43 (by decide) ?_
      refine z_istore_n (i := 3) (fun y => [(3, .int y), (6, .int (nI i)), (5, .int (rHow (rRun μ n Q) 5 i)), (4, .int (rHow (rRun μ n Q) 6 i)), (2, .int (rCost (rRun μ n Q))), (0, .ref 66), (1, .int 4)]) dX10_told_47 rfl rfl (fun _ => rfl) (fun x3_47 ex3_47 => ?_)
      refine z_iload dX10_told_48 rfl ?_
      refine z_aload_n dX10_told_50 rfl ?_
      refine m_getr dX10_told_51 fX10_48 sh66 rfl ?_
      refine z_iload dX10_told_54 rfl ?_
      refine m_ialdN (j := i) dX10_told_56 sh78 rfl (by omega) rfl ?_
      refine z_bipush (v := 6) dX10_told_57 rfl ?_
      refine z_icmp_ne 66 dX10_told_59 (by decide) (fun h59 => ?_) (fun h59 => ?_)
      · skip
        refine z_iconst (v := 0) dX10_told_66 rfl ?_
        refine z_iadd dX10_told_67 ?_
        refine z_istore (i := 4) (fun y => [(4, .int y), (3, .int x3_47), (6, .int (nI i)), (5, .int (rHow (rRun μ n Q) 5 i)), (2, .int (rCost (rRun μ n Q))), (0, .ref 66), (1, .int 4)]) dX10_told_68 rfl (fun _ => rfl) (fun x4_68 ex4_68 => ?_)
        refine z_iload dX10_told_70 rfl ?_
        refine z_aload_n dX10_told_72 rfl ?_
        refine m_getr dX10_told_73 fX10_48 sh66 rfl ?_
        refine z_iload dX10_told_76 rfl ?_
        refine m_ialdN (j := i) dX10_told_78 sh78 rfl (by omega) rfl ?_
        refine z_iconst (v := 5) dX10_told_79 rfl ?_
        refine z_icmp_ne 87 dX10_told_80 (by decide) (fun h80 => ?_) (fun h80 => ?_)
        · skip
          refine z_iconst (v := 0) dX10_told_87 rfl ?_
          refine z_iadd dX10_told_88 ?_
          refine z_istore (i := 5) (fun y => [(5, .int y), (4, .int x4_68), (3, .int x3_47), (6, .int (nI i)), (2, .int (rCost (rRun μ n Q))), (0, .ref 66), (1, .int 4)]) dX10_told_89 rfl (fun _ => rfl) (fun x5_89 ex5_89 => ?_)
          refine z_iinc (fun y => [(6, .int y), (5, .int x5_89), (4, .int x4_68), (3, .int x3_47), (2, .int (rCost (rRun μ n Q))), (0, .ref 66), (1, .int 4)]) dX10_told_91 rfl rfl (fun _ => rfl) (fun x6_91 ex6_91 => ?_)
          obtain rfl : x6_91 = nI (i + 1) := by rw [ex6_91]; exact nI_1 i
          refine z_goto 16 dX10_told_94 (by decide) ?_
          simp only [rLast, rHow, if_neg h33, if_neg h59, if_neg h80] at H
          subst ex3_47 ex4_68 ex5_89
          exact H
        · skip
          refine z_iconst (v := 1) dX10_told_83 rfl ?_
          refine z_goto 88 dX10_told_84 (by decide) ?_
          refine z_iadd dX10_told_88 ?_
          refine z_istore (i := 5) (fun y => [(5, .int y), (4, .int x4_68), (3, .int x3_47), (6, .int (nI i)), (2, .int (rCost (rRun μ n Q))), (0, .ref 66), (1, .int 4)]) dX10_told_89 rfl (fun _ => rfl) (fun x5_89 ex5_89 => ?_)
          refine z_iinc (fun y => [(6, .int y), (5, .int x5_89), (4, .int x4_68), (3, .int x3_47), (2, .int (rCost (rRun μ n Q))), (0, .ref 66), (1, .int 4)]) dX10_told_91 rfl rfl (fun _ => rfl) (fun x6_91 ex6_91 => ?_)
          obtain rfl : x6_91 = nI (i + 1) := by rw [ex6_91]; exact nI_1 i
          refine z_goto 16 dX10_told_94 (by decide) ?_
          simp only [rLast, rHow, if_neg h33, if_neg h59, if_pos h80] at H
          subst ex3_47 ex4_68 ex5_89
          exact H
      · skip
        refine z_iconst (v := 1) dX10_told_62 rfl ?_
        refine z_goto 67 dX10_told_63 (by decide) ?_
        refine z_iadd dX10_told_67 ?_
        refine z_istore (i := 4) (fun y => [(4, .int y), (3, .int x3_47), (6, .int (nI i)), (5, .int (rHow (rRun μ n Q) 5 i)), (2, .int (rCost (rRun μ n Q))), (0, .ref 66), (1, .int 4)]) dX10_told_68 rfl (fun _ => rfl) (fun x4_68 ex4_68 => ?_)
        refine z_iload dX10_told_70 rfl ?_
        refine z_aload_n dX10_told_72 rfl ?_
        refine m_getr dX10_told_73 fX10_48 sh66 rfl ?_
        refine z_iload dX10_told_76 rfl ?_
        refine m_ialdN (j := i) dX10_told_78 sh78 rfl (by omega) rfl ?_
        refine z_iconst (v := 5) dX10_told_79 rfl ?_
        refine z_icmp_ne 87 dX10_told_80 (by decide) (fun h80 => ?_) (fun h80 => ?_)
        · skip
          refine z_iconst (v := 0) dX10_told_87 rfl ?_
          refine z_iadd dX10_told_88 ?_
          refine z_istore (i := 5) (fun y => [(5, .int y), (4, .int x4_68), (3, .int x3_47), (6, .int (nI i)), (2, .int (rCost (rRun μ n Q))), (0, .ref 66), (1, .int 4)]) dX10_told_89 rfl (fun _ => rfl) (fun x5_89 ex5_89 => ?_)
          refine z_iinc (fun y => [(6, .int y), (5, .int x5_89), (4, .int x4_68), (3, .int x3_47), (2, .int (rCost (rRun μ n Q))), (0, .ref 66), (1, .int 4)]) dX10_told_91 rfl rfl (fun _ => rfl) (fun x6_91 ex6_91 => ?_)
          obtain rfl : x6_91 = nI (i + 1) := by rw [ex6_91]; exact nI_1 i
          refine z_goto 16 dX10_told_94 (by decide) ?_
          simp only [rLast, rHow, if_neg h33, if_pos h59, if_neg h80] at H
          subst ex3_47 ex4_68 ex5_89
          exact H
        · skip
          refine z_iconst (v := 1) dX10_told_83 rfl ?_
          refine z_goto 88 dX10_told_84 (by decide) ?_
          refine z_iadd dX10_told_88 ?_
          refine z_istore (i := 5) (fun y => [(5, .int y), (4, .int x4_68), (3, .int x3_47), (6, .int (nI i)), (2, .int (rCost (rRun μ n Q))), (0, .ref 66), (1, .int 4)]) dX10_told_89 rfl (fun _ => rfl) (fun x5_89 ex5_89 => ?_)
          refine z_iinc (fun y => [(6, .int y), (5, .int x5_89), (4, .int x4_68), (3, .int x3_47), (2, .int (rCost (rRun μ n Q))), (0, .ref 66), (1, .int 4)]) dX10_told_91 rfl rfl (fun _ => rfl) (fun x6_91 ex6_91 => ?_)
          obtain rfl : x6_91 = nI (i + 1) := by rw [ex6_91]; exact nI_1 i
          refine z_goto 16 dX10_told_94 (by decide) ?_
          simp only [rLast, rHow, if_neg h33, if_pos h59, if_pos h80] at H
          subst ex3_47 ex4_68 ex5_89
          exact H) (by
    refine z_iload dX10_told_16 rfl ?_
    refine z_aload_n dX10_told_18 rfl ?_
    refine m_geti dX10_told_19 fX10_105 sh66 rfl ?_
    refine z_icmp_ge 97 dX10_told_22 (by decide) (fun h22 => ?_) (fun h22 => absurd (hn1 ▸ nI_le (Nat.le_refl n) (by omega)) h22)
    refine z_iload_n dX10_told_97 rfl ?_
    refine z_tableIn 182 dX10_told_98 (by decide) (by decide) rfl (by decide) ?_
    refine z_aload_n dX10_told_182 rfl ?_
    refine m_geti dX10_told_183 fX10_181 sh66 rfl ?_
    refine m_iret dX10_told_186 rfl rfl ?_
    exact ⟨rfl, rfl, rfl⟩)
  refine z_aload_n dX10_told_0 rfl ?_
  refine m_callV (As := []) dX10_told_1 kX10_223 ⟨rfl, rfl⟩ rfl ⟨rfl, rfl⟩ rfl rfl sh66 rfl rfl (c_costNow hn h6 hQ hsd) (fun r1 μ1 ν1 hk1 => ?_)
  obtain ⟨rfl, rfl, rfl⟩ := hk1
  refine z_istore_n (i := 2) (fun y => [(2, .int y), (0, .ref 66), (1, .int 4)]) dX10_told_4 rfl rfl (fun _ => rfl) (fun x9 e9 => ?_)
  subst e9
  refine z_iconst (v := 0) dX10_told_5 rfl ?_
  refine z_istore_n (i := 3) (fun y => [(3, .int y), (2, .int (rCost (rRun μ n Q))), (0, .ref 66), (1, .int 4)]) dX10_told_6 rfl rfl (fun _ => rfl) (fun x9 e9 => ?_)
  subst e9
  refine z_iconst (v := 0) dX10_told_7 rfl ?_
  refine z_istore (i := 4) (fun y => [(4, .int y), (3, .int 0), (2, .int (rCost (rRun μ n Q))), (0, .ref 66), (1, .int 4)]) dX10_told_8 rfl (fun _ => rfl) (fun x9 e9 => ?_)
  subst e9
  refine z_iconst (v := 0) dX10_told_10 rfl ?_
  refine z_istore (i := 5) (fun y => [(5, .int y), (4, .int 0), (3, .int 0), (2, .int (rCost (rRun μ n Q))), (0, .ref 66), (1, .int 4)]) dX10_told_11 rfl (fun _ => rfl) (fun x9 e9 => ?_)
  subst e9
  refine z_iconst (v := 0) dX10_told_13 rfl ?_
  refine z_istore (i := 6) (fun y => [(6, .int y), (5, .int 0), (4, .int 0), (3, .int 0), (2, .int (rCost (rRun μ n Q))), (0, .ref 66), (1, .int 4)]) dX10_told_14 rfl (fun _ => rfl) (fun x9 e9 => ?_)
  subst e9
  exact hL 0 (Nat.zero_le n)
set_option maxRecDepth 100000 in
set_option maxHeartbeats 400000 in
theorem d_told_5 {l : Launch} {G : zG} {μ : Mem} {ν : Lng} {n : Nat} (hn : μ 66 17 = nI n) (h6 : n ≤ 6) {Q : Nat → Nat} (hQ : zOrd (μ 75) n Q) (hsd : zSidesM μ n)  : Cm l G mX10_told [.ref 66, .int 5] μ ν (fun a9 b9 c9 => rRun μ n Q 66 38 = a9 ∧ rRun μ n Q = b9 ∧ ν = c9) := by
  refine Con.of (by decide) (Nat.le_of_ble_eq_true rfl) ?_
  show Am l G mX10_told 0 [(0, .ref 66), (1, .int 5)] [] μ ν _
  have hn1 : rRun μ n Q 66 17 = nI n := ((zEq.start.tr (zEq.looks n)).2 17 (by decide) (by decide)).trans hn
  have hL := m_for (l := l) (G := G) (M := mX10_told) (pc := 16) (ν := ν) (K := (fun a9 b9 c9 => rRun μ n Q 66 38 = a9 ∧ rRun μ n Q = b9 ∧ ν = c9)) (N := n) (fun i => [(6, .int (nI i)), (5, .int (rHow (rRun μ n Q) 5 i)), (4, .int (rHow (rRun μ n Q) 6 i)), (3, .int (rLast (rRun μ n Q) i)), (2, .int (rCost (rRun μ n Q))), (0, .ref 66), (1, .int 5)]) (fun i => rRun μ n Q) (fun i hi H => by
    refine z_iload dX10_told_16 rfl ?_
    refine z_aload_n dX10_told_18 rfl ?_
    refine m_geti dX10_told_19 fX10_105 sh66 rfl ?_
    refine z_icmp_ge 97 dX10_told_22 (by decide) (fun h22 => absurd (hn1 ▸ h22) (nI_ge hi (by omega))) (fun h22 => ?_)
    refine z_aload_n dX10_told_25 rfl ?_
    refine m_getr dX10_told_26 fX10_54 sh66 rfl ?_
    refine z_iload dX10_told_29 rfl ?_
    refine m_ialdN (j := i) dX10_told_31 sh80 rfl (by omega) rfl ?_
    refine z_iload_n dX10_told_32 rfl ?_
    refine z_icmp_le 46 dX10_told_33 (by decide) (fun h33 => ?_) (fun h33 => ?_)
    · skip
      refine z_iload_n dX10_told_46 rfl ?_
      refine z_istore_n (i := 3) (fun y => [(3, .int y), (6, .int (nI i)), (5, .int (rHow (rRun μ n Q) 5 i)), (4, .int (rHow (rRun μ n Q) 6 i)), (2, .int (rCost (rRun μ n Q))), (0, .ref 66), (1, .int 5)]) dX10_told_47 rfl rfl (fun _ => rfl) (fun x3_47 ex3_47 => ?_)
      refine z_iload dX10_told_48 rfl ?_
      refine z_aload_n dX10_told_50 rfl ?_
      refine m_getr dX10_told_51 fX10_48 sh66 rfl ?_
      refine z_iload dX10_told_54 rfl ?_
      refine m_ialdN (j := i) dX10_told_56 sh78 rfl (by omega) rfl ?_
      refine z_bipush (v := 6) dX10_told_57 rfl ?_
      refine z_icmp_ne 66 dX10_told_59 (by decide) (fun h59 => ?_) (fun h59 => ?_)
      · skip
        refine z_iconst (v := 0) dX10_told_66 rfl ?_
        refine z_iadd dX10_told_67 ?_
        refine z_istore (i := 4) (fun y => [(4, .int y), (3, .int x3_47), (6, .int (nI i)), (5, .int (rHow (rRun μ n Q) 5 i)), (2, .int (rCost (rRun μ n Q))), (0, .ref 66), (1, .int 5)]) dX10_told_68 rfl (fun _ => rfl) (fun x4_68 ex4_68 => ?_)
        refine z_iload dX10_told_70 rfl ?_
        refine z_aload_n dX10_told_72 rfl ?_
        refine m_getr dX10_told_73 fX10_48 sh66 rfl ?_
        refine z_iload dX10_told_76 rfl ?_
        refine m_ialdN (j := i) dX10_told_78 sh78 rfl (by omega) rfl ?_
        refine z_iconst (v := 5) dX10_told_79 rfl ?_
        refine z_icmp_ne 87 dX10_told_80 (by decide) (fun h80 => ?_) (fun h80 => ?_)
        · skip
          refine z_iconst (v := 0) dX10_told_87 rfl ?_
          refine z_iadd dX10_told_88 ?_
          refine z_istore (i := 5) (fun y => [(5, .int y), (4, .int x4_68), (3, .int x3_47), (6, .int (nI i)), (2, .int (rCost (rRun μ n Q))), (0, .ref 66), (1, .int 5)]) dX10_told_89 rfl (fun _ => rfl) (fun x5_89 ex5_89 => ?_)
          refine z_iinc (fun y => [(6, .int y), (5, .int x5_89), (4, .int x4_68), (3, .int x3_47), (2, .int (rCost (rRun μ n Q))), (0, .ref 66), (1, .int 5)]) dX10_told_91 rfl rfl (fun _ => rfl) (fun x6_91 ex6_91 => ?_)
          obtain rfl : x6_91 = nI (i + 1) := by rw [ex6_91]; exact nI_1 i
          refine z_goto 16 dX10_told_94 (by decide) ?_
          simp only [rLast, rHow, if_pos h33, if_neg h59, if_neg h80] at H
          subst ex3_47 ex4_68 ex5_89
          exact H
        · skip
          refine z_iconst (v := 1) dX10_told_83 rfl ?_
          refine z_goto 88 dX10_told_84 (by decide) ?_
          refine z_iadd dX10_told_88 ?_
          refine z_istore (i := 5) (fun y => [(5, .int y), (4, .int x4_68), (3, .int x3_47), (6, .int (nI i)), (2, .int (rCost (rRun μ n Q))), (0, .ref 66), (1, .int 5)]) dX10_told_89 rfl (fun _ => rfl) (fun x5_89 ex5_89 => ?_)
          refine z_iinc (fun y => [(6, .int y), (5, .int x5_89), (4, .int x4_68), (3, .int x3_47), (2, .int (rCost (rRun μ n Q))), (0, .ref 66), (1, .int 5)]) dX10_told_91 rfl rfl (fun _ => rfl) (fun x6_91 ex6_91 => ?_)
          obtain rfl : x6_91 = nI (i + 1) := by rw [ex6_91]; exact nI_1 i
          refine z_goto 16 dX10_told_94 (by decide) ?_
          simp only [rLast, rHow, if_pos h33, if_neg h59, if_pos h80] at H
          subst ex3_47 ex4_68 ex5_89
          exact H
      · skip
        refine z_iconst (v := 1) dX10_told_62 rfl ?_
        refine z_goto 67 dX10_told_63 (by decide) ?_
        refine z_iadd dX10_told_67 ?_
        refine z_istore (i := 4) (fun y => [(4, .int y), (3, .int x3_47), (6, .int (nI i)), (5, .int (rHow (rRun μ n Q) 5 i)), (2, .int (rCost (rRun μ n Q))), (0, .ref 66), (1, .int 5)]) dX10_told_68 rfl (fun _ => rfl) (fun x4_68 ex4_68 => ?_)
        refine z_iload dX10_told_70 rfl ?_
        refine z_aload_n dX10_told_72 rfl ?_
        refine m_getr dX10_told_73 fX10_48 sh66 rfl ?_
        refine z_iload dX10_told_76 rfl ?_
        refine m_ialdN (j := i) dX10_told_78 sh78 rfl (by omega) rfl ?_
        refine z_iconst (v := 5) dX10_told_79 rfl ?_
        refine z_icmp_ne 87 dX10_told_80 (by decide) (fun h80 => ?_) (fun h80 => ?_)
        · skip
          refine z_iconst (v := 0) dX10_told_87 rfl ?_
          refine z_iadd dX10_told_88 ?_
          refine z_istore (i := 5) (fun y => [(5, .int y), (4, .int x4_68), (3, .int x3_47), (6, .int (nI i)), (2, .int (rCost (rRun μ n Q))), (0, .ref 66), (1, .int 5)]) dX10_told_89 rfl (fun _ => rfl) (fun x5_89 ex5_89 => ?_)
          refine z_iinc (fun y => [(6, .int y), (5, .int x5_89), (4, .int x4_68), (3, .int x3_47), (2, .int (rCost (rRun μ n Q))), (0, .ref 66), (1, .int 5)]) dX10_told_91 rfl rfl (fun _ => rfl) (fun x6_91 ex6_91 => ?_)
          obtain rfl : x6_91 = nI (i + 1) := by rw [ex6_91]; exact nI_1 i
          refine z_goto 16 dX10_told_94 (by decide) ?_
          simp only [rLast, rHow, if_pos h33, if_pos h59, if_neg h80] at H
          subst ex3_47 ex4_68 ex5_89
          exact H
        · skip
          refine z_iconst (v := 1) dX10_told_83 rfl ?_
          refine z_goto 88 dX10_told_84 (by decide) ?_
          refine z_iadd dX10_told_88 ?_
          refine z_istore (i := 5) (fun y => [(5, .int y), (4, .int x4_68), (3, .int x3_47), (6, .int (nI i)), (2, .int (rCost (rRun μ n Q))), (0, .ref 66), (1, .int 5)]) dX10_told_89 rfl (fun _ => rfl) (fun x5_89 ex5_89 => ?_)
          refine z_iinc (fun y => [(6, .int y), (5, .int x5_89), (4, .int x4_68), (3, .int x3_47), (2, .int (rCost (rRun μ n Q))), (0, .ref 66), (1, .int 5)]) dX10_told_91 rfl rfl (fun _ => rfl) (fun x6_91 ex6_91 => ?_)
          obtain rfl : x6_91 = nI (i + 1) := by rw [ex6_91]; exact nI_1 i
          refine z_goto 16 dX10_told_94 (by decide) ?_
          simp only [rLast, rHow, if_pos h33, if_pos h59, if_pos h80] at H
          subst ex3_47 ex4_68 ex5_89
          exact H
    · skip
      refine z_aload_n dX10_told_36 rfl ?_
      refine m_getr dX10_told_37 fX10_54 sh66 rfl ?_
      refine z_iload dX10_told_40 rfl ?_
      refine m_ialdN (j := i) dX10_told_42 sh80 rfl (by omega) rfl ?_
      refine z_goto 47 dX10_told_43 (by decide) ?_
      refine z_istore_n (i := 3) (fun y => [(3, .int y), (6, .int (nI i)), (5, .int (rHow (rRun μ n Q) 5 i)), (4, .int (rHow (rRun μ n Q) 6 i)), (2, .int (rCost (rRun μ n Q))), (0, .ref 66), (1, .int 5)]) dX10_told_47 rfl rfl (fun _ => rfl) (fun x3_47 ex3_47 => ?_)
      refine z_iload dX10_told_48 rfl ?_
      refine z_aload_n dX10_told_50 rfl ?_
      refine m_getr dX10_told_51 fX10_48 sh66 rfl ?_
      refine z_iload dX10_told_54 rfl ?_
      refine m_ialdN (j := i) dX10_told_56 sh78 rfl (by omega) rfl ?_
      refine z_bipush (v := 6) dX10_told_57 rfl ?_
      refine z_icmp_ne 66 dX10_told_59 (by decide) (fun h59 => ?_) (fun h59 => ?_)
      · skip
        refine z_iconst (v := 0) dX10_told_66 rfl ?_
        refine z_iadd dX10_told_67 ?_
        refine z_istore (i := 4) (fun y => [(4, .int y), (3, .int x3_47), (6, .int (nI i)), (5, .int (rHow (rRun μ n Q) 5 i)), (2, .int (rCost (rRun μ n Q))), (0, .ref 66), (1, .int 5)]) dX10_told_68 rfl (fun _ => rfl) (fun x4_68 ex4_68 => ?_)
        refine z_iload dX10_told_70 rfl ?_
        refine z_aload_n dX10_told_72 rfl ?_
        refine m_getr dX10_told_73 fX10_48 sh66 rfl ?_
        refine z_iload dX10_told_76 rfl ?_
        refine m_ialdN (j := i) dX10_told_78 sh78 rfl (by omega) rfl ?_
        refine z_iconst (v := 5) dX10_told_79 rfl ?_
        refine z_icmp_ne 87 dX10_told_80 (by decide) (fun h80 => ?_) (fun h80 => ?_)
        · skip
          refine z_iconst (v := 0) dX10_told_87 rfl ?_
          refine z_iadd dX10_told_88 ?_
          refine z_istore (i := 5) (fun y => [(5, .int y), (4, .int x4_68), (3, .int x3_47), (6, .int (nI i)), (2, .int (rCost (rRun μ n Q))), (0, .ref 66), (1, .int 5)]) dX10_told_89 rfl (fun _ => rfl) (fun x5_89 ex5_89 => ?_)
          refine z_iinc (fun y => [(6, .int y), (5, .int x5_89), (4, .int x4_68), (3, .int x3_47), (2, .int (rCost (rRun μ n Q))), (0, .ref 66), (1, .int 5)]) dX10_told_91 rfl rfl (fun _ => rfl) (fun x6_91 ex6_91 => ?_)
          obtain rfl : x6_91 = nI (i + 1) := by rw [ex6_91]; exact nI_1 i
          refine z_goto 16 dX10_told_94 (by decide) ?_
          simp only [rLast, rHow, if_neg h33, if_neg h59, if_neg h80] at H
          subst ex3_47 ex4_68 ex5_89
          exact H
        · skip
          refine z_iconst (v := 1) dX10_told_83 rfl ?_
          refine z_goto 88 dX10_told_84 (by decide) ?_
          refine z_iadd dX10_told_88 ?_
          refine z_istore (i := 5) (fun y => [(5, .int y), (4, .int x4_68), (3, .int x3_47), (6, .int (nI i)), (2, .int (rCost (rRun μ n Q))), (0, .ref 66), (1, .int 5)]) dX10_told_89 rfl (fun _ => rfl) (fun x5_89 ex5_89 => ?_)
          refine z_iinc (fun y => [(6, .int y), (5, .int x5_89), (4, .int x4_68), (3, .int x3_47), (2, .int (rCost (rRun μ n Q))), (0, .ref 66), (1, .int 5)]) dX10_told_91 rfl rfl (fun _ => rfl) (fun x6_91 ex6_91 => ?_)
          obtain rfl : x6_91 = nI (i + 1) := by rw [ex6_91]; exact nI_1 i
          refine z_goto 16 dX10_told_94 (by decide) ?_
          simp only [rLast, rHow, if_neg h33, if_neg h59, if_pos h80] at H
          subst ex3_47 ex4_68 ex5_89
          exact H
      · skip
        refine z_iconst (v := 1) dX10_told_62 rfl ?_
        refine z_goto 67 dX10_told_63 (by decide) ?_
        refine z_iadd dX10_told_67 ?_
        refine z_istore (i := 4) (fun y => [(4, .int y), (3, .int x3_47), (6, .int (nI i)), (5, .int (rHow (rRun μ n Q) 5 i)), (2, .int (rCost (rRun μ n Q))), (0, .ref 66), (1, .int 5)]) dX10_told_68 rfl (fun _ => rfl) (fun x4_68 ex4_68 => ?_)
        refine z_iload dX10_told_70 rfl ?_
        refine z_aload_n dX10_told_72 rfl ?_
        refine m_getr dX10_told_73 fX10_48 sh66 rfl ?_
        refine z_iload dX10_told_76 rfl ?_
        refine m_ialdN (j := i) dX10_told_78 sh78 rfl (by omega) rfl ?_
        refine z_iconst (v := 5) dX10_told_79 rfl ?_
        refine z_icmp_ne 87 dX10_told_80 (by decide) (fun h80 => ?_) (fun h80 => ?_)
        · skip
          refine z_iconst (v := 0) dX10_told_87 rfl ?_
          refine z_iadd dX10_told_88 ?_
          refine z_istore (i := 5) (fun y => [(5, .int y), (4, .int x4_68), (3, .int x3_47), (6, .int (nI i)), (2, .int (rCost (rRun μ n Q))), (0, .ref 66), (1, .int 5)]) dX10_told_89 rfl (fun _ => rfl) (fun x5_89 ex5_89 => ?_)
          refine z_iinc (fun y => [(6, .int y), (5, .int x5_89), (4, .int x4_68), (3, .int x3_47), (2, .int (rCost (rRun μ n Q))), (0, .ref 66), (1, .int 5)]) dX10_told_91 rfl rfl (fun _ => rfl) (fun x6_91 ex6_91 => ?_)
          obtain rfl : x6_91 = nI (i + 1) := by rw [ex6_91]; exact nI_1 i
          refine z_goto 16 dX10_told_94 (by decide) ?_
          simp only [rLast, rHow, if_neg h33, if_pos h59, if_neg h80] at H
          subst ex3_47 ex4_68 ex5_89
          exact H
        · skip
          refine z_iconst (v := 1) dX10_told_83 rfl ?_
          refine z_goto 88 dX10_told_84 (by decide) ?_
          refine z_iadd dX10_told_88 ?_
          refine z_istore (i := 5) (fun y => [(5, .int y), (4, .int x4_68), (3, .int x3_47), (6, .int (nI i)), (2, .int (rCost (rRun μ n Q))), (0, .ref 66), (1, .int 5)]) dX10_told_89 rfl (fun _ => rfl) (fun x5_89 ex5_89 => ?_)
          refine z_iinc (fun y => [(6, .int y), (5, .int x5_89), (4, .int x4_68), (3, .int x3_47), (2, .int (rCost (rRun μ n Q))), (0, .ref 66), (1, .int 5)]) dX10_told_91 rfl rfl (fun _ => rfl) (fun x6_91 ex6_91 => ?_)
          obtain rfl : x6_91 = nI (i + 1) := by rw [ex6_91]; exact nI_1 i
          refine z_goto 16 dX10_told_94 (by decide) ?_
          simp only [rLast, rHow, if_neg h33, if_pos h59, if_pos h80] at H
          subst ex3_47 ex4_68 ex5_89
          exact H) (by
    refine z_iload dX10_told_16 rfl ?_
    refine z_aload_n dX10_told_18 rfl ?_
    refine m_geti dX10_told_19 fX10_105 sh66 rfl ?_
    refine z_icmp_ge 97 dX10_told_22 (by decide) (fun h22 => ?_) (fun h22 => absurd (hn1 ▸ nI_le (Nat.le_refl n) (by omega)) h22)
    refine z_iload_n dX10_told_97 rfl ?_
    refine z_tableIn 187 dX10_told_98 (by decide) (by decide) rfl (by decide) ?_
    refine z_aload_n dX10_told_187 rfl ?_
    refine m_geti dX10_told_188 fX10_213 sh66 rfl ?_
    refine m_iret dX10_told_191 rfl rfl ?_
    exact ⟨rfl, rfl, rfl⟩)
  refine z_aload_n dX10_told_0 rfl ?_
  refine m_callV (As := []) dX10_told_1 kX10_223 ⟨rfl, rfl⟩ rfl ⟨rfl, rfl⟩ rfl rfl sh66 rfl rfl (c_costNow hn h6 hQ hsd) (fun r1 μ1 ν1 hk1 => ?_)
  obtain ⟨rfl, rfl, rfl⟩ := hk1
  refine z_istore_n (i := 2) (fun y => [(2, .int y), (0, .ref 66), (1, .int 5)]) dX10_told_4 rfl rfl (fun _ => rfl) (fun x9 e9 => ?_)
  subst e9
  refine z_iconst (v := 0) dX10_told_5 rfl ?_
  refine z_istore_n (i := 3) (fun y => [(3, .int y), (2, .int (rCost (rRun μ n Q))), (0, .ref 66), (1, .int 5)]) dX10_told_6 rfl rfl (fun _ => rfl) (fun x9 e9 => ?_)
  subst e9
  refine z_iconst (v := 0) dX10_told_7 rfl ?_
  refine z_istore (i := 4) (fun y => [(4, .int y), (3, .int 0), (2, .int (rCost (rRun μ n Q))), (0, .ref 66), (1, .int 5)]) dX10_told_8 rfl (fun _ => rfl) (fun x9 e9 => ?_)
  subst e9
  refine z_iconst (v := 0) dX10_told_10 rfl ?_
  refine z_istore (i := 5) (fun y => [(5, .int y), (4, .int 0), (3, .int 0), (2, .int (rCost (rRun μ n Q))), (0, .ref 66), (1, .int 5)]) dX10_told_11 rfl (fun _ => rfl) (fun x9 e9 => ?_)
  subst e9
  refine z_iconst (v := 0) dX10_told_13 rfl ?_
  refine z_istore (i := 6) (fun y => [(6, .int y), (5, .int 0), (4, .int 0), (3, .int 0), (2, .int (rCost (rRun μ n Q))), (0, .ref 66), (1, .int 5)]) dX10_told_14 rfl (fun _ => rfl) (fun x9 e9 => ?_)
  subst e9
  exact hL 0 (Nat.zero_le n)
set_option maxRecDepth 100000 in
set_option maxHeartbeats 400000 in
theorem d_told_6 {l : Launch} {G : zG} {μ : Mem} {ν : Lng} {n : Nat} (hn : μ 66 17 = nI n) (h6 : n ≤ 6) {Q : Nat → Nat} (hQ : zOrd (μ 75) n Q) (hsd : zSidesM μ n)  : Cm l G mX10_told [.ref 66, .int 6] μ ν (fun a9 b9 c9 => rRun μ n Q 66 39 = a9 ∧ rRun μ n Q = b9 ∧ ν = c9) := by
  refine Con.of (by decide) (Nat.le_of_ble_eq_true rfl) ?_
  show Am l G mX10_told 0 [(0, .ref 66), (1, .int 6)] [] μ ν _
  have hn1 : rRun μ n Q 66 17 = nI n := ((zEq.start.tr (zEq.looks n)).2 17 (by decide) (by decide)).trans hn
  have hL := m_for (l := l) (G := G) (M := mX10_told) (pc := 16) (ν := ν) (K := (fun a9 b9 c9 => rRun μ n Q 66 39 = a9 ∧ rRun μ n Q = b9 ∧ ν = c9)) (N := n) (fun i => [(6, .int (nI i)), (5, .int (rHow (rRun μ n Q) 5 i)), (4, .int (rHow (rRun μ n Q) 6 i)), (3, .int (rLast (rRun μ n Q) i)), (2, .int (rCost (rRun μ n Q))), (0, .ref 66), (1, .int 6)]) (fun i => rRun μ n Q) (fun i hi H => by
    refine z_iload dX10_told_16 rfl ?_
    refine z_aload_n dX10_told_18 rfl ?_
    refine m_geti dX10_told_19 fX10_105 sh66 rfl ?_
    refine z_icmp_ge 97 dX10_told_22 (by decide) (fun h22 => absurd (hn1 ▸ h22) (nI_ge hi (by omega))) (fun h22 => ?_)
    refine z_aload_n dX10_told_25 rfl ?_
    refine m_getr dX10_told_26 fX10_54 sh66 rfl ?_
    refine z_iload dX10_told_29 rfl ?_
    refine m_ialdN (j := i) dX10_told_31 sh80 rfl (by omega) rfl ?_
    refine z_iload_n dX10_told_32 rfl ?_
    refine z_icmp_le 46 dX10_told_33 (by decide) (fun h33 => ?_) (fun h33 => ?_)
    · skip
      refine z_iload_n dX10_told_46 rfl ?_
      refine z_istore_n (i := 3) (fun y => [(3, .int y), (6, .int (nI i)), (5, .int (rHow (rRun μ n Q) 5 i)), (4, .int (rHow (rRun μ n Q) 6 i)), (2, .int (rCost (rRun μ n Q))), (0, .ref 66), (1, .int 6)]) dX10_told_47 rfl rfl (fun _ => rfl) (fun x3_47 ex3_47 => ?_)
      refine z_iload dX10_told_48 rfl ?_
      refine z_aload_n dX10_told_50 rfl ?_
      refine m_getr dX10_told_51 fX10_48 sh66 rfl ?_
      refine z_iload dX10_told_54 rfl ?_
      refine m_ialdN (j := i) dX10_told_56 sh78 rfl (by omega) rfl ?_
      refine z_bipush (v := 6) dX10_told_57 rfl ?_
      refine z_icmp_ne 66 dX10_told_59 (by decide) (fun h59 => ?_) (fun h59 => ?_)
      · skip
        refine z_iconst (v := 0) dX10_told_66 rfl ?_
        refine z_iadd dX10_told_67 ?_
        refine z_istore (i := 4) (fun y => [(4, .int y), (3, .int x3_47), (6, .int (nI i)), (5, .int (rHow (rRun μ n Q) 5 i)), (2, .int (rCost (rRun μ n Q))), (0, .ref 66), (1, .int 6)]) dX10_told_68 rfl (fun _ => rfl) (fun x4_68 ex4_68 => ?_)
        refine z_iload dX10_told_70 rfl ?_
        refine z_aload_n dX10_told_72 rfl ?_
        refine m_getr dX10_told_73 fX10_48 sh66 rfl ?_
        refine z_iload dX10_told_76 rfl ?_
        refine m_ialdN (j := i) dX10_told_78 sh78 rfl (by omega) rfl ?_
        refine z_iconst (v := 5) dX10_told_79 rfl ?_
        refine z_icmp_ne 87 dX10_told_80 (by decide) (fun h80 => ?_) (fun h80 => ?_)
        · skip
          refine z_iconst (v := 0) dX10_told_87 rfl ?_
          refine z_iadd dX10_told_88 ?_
          refine z_istore (i := 5) (fun y => [(5, .int y), (4, .int x4_68), (3, .int x3_47), (6, .int (nI i)), (2, .int (rCost (rRun μ n Q))), (0, .ref 66), (1, .int 6)]) dX10_told_89 rfl (fun _ => rfl) (fun x5_89 ex5_89 => ?_)
          refine z_iinc (fun y => [(6, .int y), (5, .int x5_89), (4, .int x4_68), (3, .int x3_47), (2, .int (rCost (rRun μ n Q))), (0, .ref 66), (1, .int 6)]) dX10_told_91 rfl rfl (fun _ => rfl) (fun x6_91 ex6_91 => ?_)
          obtain rfl : x6_91 = nI (i + 1) := by rw [ex6_91]; exact nI_1 i
          refine z_goto 16 dX10_told_94 (by decide) ?_
          simp only [rLast, rHow, if_pos h33, if_neg h59, if_neg h80] at H
          subst ex3_47 ex4_68 ex5_89
          exact H
        · skip
          refine z_iconst (v := 1) dX10_told_83 rfl ?_
          refine z_goto 88 dX10_told_84 (by decide) ?_
          refine z_iadd dX10_told_88 ?_
          refine z_istore (i := 5) (fun y => [(5, .int y), (4, .int x4_68), (3, .int x3_47), (6, .int (nI i)), (2, .int (rCost (rRun μ n Q))), (0, .ref 66), (1, .int 6)]) dX10_told_89 rfl (fun _ => rfl) (fun x5_89 ex5_89 => ?_)
          refine z_iinc (fun y => [(6, .int y), (5, .int x5_89), (4, .int x4_68), (3, .int x3_47), (2, .int (rCost (rRun μ n Q))), (0, .ref 66), (1, .int 6)]) dX10_told_91 rfl rfl (fun _ => rfl) (fun x6_91 ex6_91 => ?_)
          obtain rfl : x6_91 = nI (i + 1) := by rw [ex6_91]; exact nI_1 i
          refine z_goto 16 dX10_told_94 (by decide) ?_
          simp only [rLast, rHow, if_pos h33, if_neg h59, if_pos h80] at H
          subst ex3_47 ex4_68 ex5_89
          exact H
      · skip
        refine z_iconst (v := 1) dX10_told_62 rfl ?_
        refine z_goto 67 dX10_told_63 (by decide) ?_
        refine z_iadd dX10_told_67 ?_
        refine z_istore (i := 4) (fun y => [(4, .int y), (3, .int x3_47), (6, .int (nI i)), (5, .int (rHow (rRun μ n Q) 5 i)), (2, .int (rCost (rRun μ n Q))), (0, .ref 66), (1, .int 6)]) dX10_told_68 rfl (fun _ => rfl) (fun x4_68 ex4_68 => ?_)
        refine z_iload dX10_told_70 rfl ?_
        refine z_aload_n dX10_told_72 rfl ?_
        refine m_getr dX10_told_73 fX10_48 sh66 rfl ?_
        refine z_iload dX10_told_76 rfl ?_
        refine m_ialdN (j := i) dX10_told_78 sh78 rfl (by omega) rfl ?_
        refine z_iconst (v := 5) dX10_told_79 rfl ?_
        refine z_icmp_ne 87 dX10_told_80 (by decide) (fun h80 => ?_) (fun h80 => ?_)
        · skip
          refine z_iconst (v := 0) dX10_told_87 rfl ?_
          refine z_iadd dX10_told_88 ?_
          refine z_istore (i := 5) (fun y => [(5, .int y), (4, .int x4_68), (3, .int x3_47), (6, .int (nI i)), (2, .int (rCost (rRun μ n Q))), (0, .ref 66), (1, .int 6)]) dX10_told_89 rfl (fun _ => rfl) (fun x5_89 ex5_89 => ?_)
          refine z_iinc (fun y => [(6, .int y), (5, .int x5_89), (4, .int x4_68), (3, .int x3_47), (2, .int (rCost (rRun μ n Q))), (0, .ref 66), (1, .int 6)]) dX10_told_91 rfl rfl (fun _ => rfl) (fun x6_91 ex6_91 => ?_)
          obtain rfl : x6_91 = nI (i + 1) := by rw [ex6_91]; exact nI_1 i
          refine z_goto 16 dX10_told_94 (by decide) ?_
          simp only [rLast, rHow, if_pos h33, if_pos h59, if_neg h80] at H
          subst ex3_47 ex4_68 ex5_89
          exact H
        · skip
          refine z_iconst (v := 1) dX10_told_83 rfl ?_
          refine z_goto 88 dX10_told_84 (by decide) ?_
          refine z_iadd dX10_told_88 ?_
          refine z_istore (i := 5) (fun y => [(5, .int y), (4, .int x4_68), (3, .int x3_47), (6, .int (nI i)), (2, .int (rCost (rRun μ n Q))), (0, .ref 66), (1, .int 6)]) dX10_told_89 rfl (fun _ => rfl) (fun x5_89 ex5_89 => ?_)
          refine z_iinc (fun y => [(6, .int y), (5, .int x5_89), (4, .int x4_68), (3, .int x3_47), (2, .int (rCost (rRun μ n Q))), (0, .ref 66), (1, .int 6)]) dX10_told_91 rfl rfl (fun _ => rfl) (fun x6_91 ex6_91 => ?_)
          obtain rfl : x6_91 = nI (i + 1) := by rw [ex6_91]; exact nI_1 i
          refine z_goto 16 dX10_told_94 (by decide) ?_
          simp only [rLast, rHow, if_pos h33, if_pos h59, if_pos h80] at H
          subst ex3_47 ex4_68 ex5_89
          exact H
    · skip
      refine z_aload_n dX10_told_36 rfl ?_
      refine m_getr dX10_told_37 fX10_54 sh66 rfl ?_
      refine z_iload dX10_told_40 rfl ?_
      refine m_ialdN (j := i) dX10_told_42 sh80 rfl (by omega) rfl ?_
      refine z_goto 47 dX10_told_43 (by decide) ?_
      refine z_istore_n (i := 3) (fun y => [(3, .int y), (6, .int (nI i)), (5, .int (rHow (rRun μ n Q) 5 i)), (4, .int (rHow (rRun μ n Q) 6 i)), (2, .int (rCost (rRun μ n Q))), (0, .ref 66), (1, .int 6)]) dX10_told_47 rfl rfl (fun _ => rfl) (fun x3_47 ex3_47 => ?_)
      refine z_iload dX10_told_48 rfl ?_
      refine z_aload_n dX10_told_50 rfl ?_
      refine m_getr dX10_told_51 fX10_48 sh66 rfl ?_
      refine z_iload dX10_told_54 rfl ?_
      refine m_ialdN (j := i) dX10_told_56 sh78 rfl (by omega) rfl ?_
      refine z_bipush (v := 6) dX10_told_57 rfl ?_
      refine z_icmp_ne 66 dX10_told_59 (by decide) (fun h59 => ?_) (fun h59 => ?_)
      · skip
        refine z_iconst (v := 0) dX10_told_66 rfl ?_
        refine z_iadd dX10_told_67 ?_
        refine z_istore (i := 4) (fun y => [(4, .int y), (3, .int x3_47), (6, .int (nI i)), (5, .int (rHow (rRun μ n Q) 5 i)), (2, .int (rCost (rRun μ n Q))), (0, .ref 66), (1, .int 6)]) dX10_told_68 rfl (fun _ => rfl) (fun x4_68 ex4_68 => ?_)
        refine z_iload dX10_told_70 rfl ?_
        refine z_aload_n dX10_told_72 rfl ?_
        refine m_getr dX10_told_73 fX10_48 sh66 rfl ?_
        refine z_iload dX10_told_76 rfl ?_
        refine m_ialdN (j := i) dX10_told_78 sh78 rfl (by omega) rfl ?_
        refine z_iconst (v := 5) dX10_told_79 rfl ?_
        refine z_icmp_ne 87 dX10_told_80 (by decide) (fun h80 => ?_) (fun h80 => ?_)
        · skip
          refine z_iconst (v := 0) dX10_told_87 rfl ?_
          refine z_iadd dX10_told_88 ?_
          refine z_istore (i := 5) (fun y => [(5, .int y), (4, .int x4_68), (3, .int x3_47), (6, .int (nI i)), (2, .int (rCost (rRun μ n Q))), (0, .ref 66), (1, .int 6)]) dX10_told_89 rfl (fun _ => rfl) (fun x5_89 ex5_89 => ?_)
          refine z_iinc (fun y => [(6, .int y), (5, .int x5_89), (4, .int x4_68), (3, .int x3_47), (2, .int (rCost (rRun μ n Q))), (0, .ref 66), (1, .int 6)]) dX10_told_91 rfl rfl (fun _ => rfl) (fun x6_91 ex6_91 => ?_)
          obtain rfl : x6_91 = nI (i + 1) := by rw [ex6_91]; exact nI_1 i
          refine z_goto 16 dX10_told_94 (by decide) ?_
          simp only [rLast, rHow, if_neg h33, if_neg h59, if_neg h80] at H
          subst ex3_47 ex4_68 ex5_89
          exact H
        · skip
          refine z_iconst (v := 1) dX10_told_83 rfl ?_
          refine z_goto 88 dX10_told_84 (by decide) ?_
          refine z_iadd dX10_told_88 ?_
          refine z_istore (i := 5) (fun y => [(5, .int y), (4, .int x4_68), (3, .int x3_47), (6, .int (nI i)), (2, .int (rCost (rRun μ n Q))), (0, .ref 66), (1, .int 6)]) dX10_told_89 rfl (fun _ => rfl) (fun x5_89 ex5_89 => ?_)
          refine z_iinc (fun y => [(6, .int y), (5, .int x5_89), (4, .int x4_68), (3, .int x3_47), (2, .int (rCost (rRun μ n Q))), (0, .ref 66), (1, .int 6)]) dX10_told_91 rfl rfl (fun _ => rfl) (fun x6_91 ex6_91 => ?_)
          obtain rfl : x6_91 = nI (i + 1) := by rw [ex6_91]; exact nI_1 i
          refine z_goto 16 dX10_told_94 (by decide) ?_
          simp only [rLast, rHow, if_neg h33, if_neg h59, if_pos h80] at H
          subst ex3_47 ex4_68 ex5_89
          exact H
      · skip
        refine z_iconst (v := 1) dX10_told_62 rfl ?_
        refine z_goto 67 dX10_told_63 (by decide) ?_
        refine z_iadd dX10_told_67 ?_
        refine z_istore (i := 4) (fun y => [(4, .int y), (3, .int x3_47), (6, .int (nI i)), (5, .int (rHow (rRun μ n Q) 5 i)), (2, .int (rCost (rRun μ n Q))), (0, .ref 66), (1, .int 6)]) dX10_told_68 rfl (fun _ => rfl) (fun x4_68 ex4_68 => ?_)
        refine z_iload dX10_told_70 rfl ?_
        refine z_aload_n dX10_told_72 rfl ?_
        refine m_getr dX10_told_73 fX10_48 sh66 rfl ?_
        refine z_iload dX10_told_76 rfl ?_
        refine m_ialdN (j := i) dX10_told_78 sh78 rfl (by omega) rfl ?_
        refine z_iconst (v := 5) dX10_told_79 rfl ?_
        refine z_icmp_ne 87 dX10_told_80 (by decide) (fun h80 => ?_) (fun h80 => ?_)
        · skip
          refine z_iconst (v := 0) dX10_told_87 rfl ?_
          refine z_iadd dX10_told_88 ?_
          refine z_istore (i := 5) (fun y => [(5, .int y), (4, .int x4_68), (3, .int x3_47), (6, .int (nI i)), (2, .int (rCost (rRun μ n Q))), (0, .ref 66), (1, .int 6)]) dX10_told_89 rfl (fun _ => rfl) (fun x5_89 ex5_89 => ?_)
          refine z_iinc (fun y => [(6, .int y), (5, .int x5_89), (4, .int x4_68), (3, .int x3_47), (2, .int (rCost (rRun μ n Q))), (0, .ref 66), (1, .int 6)]) dX10_told_91 rfl rfl (fun _ => rfl) (fun x6_91 ex6_91 => ?_)
          obtain rfl : x6_91 = nI (i + 1) := by rw [ex6_91]; exact nI_1 i
          refine z_goto 16 dX10_told_94 (by decide) ?_
          simp only [rLast, rHow, if_neg h33, if_pos h59, if_neg h80] at H
          subst ex3_47 ex4_68 ex5_89
          exact H
        · skip
          refine z_iconst (v := 1) dX10_told_83 rfl ?_
          refine z_goto 88 dX10_told_84 (by decide) ?_
          refine z_iadd dX10_told_88 ?_
          refine z_istore (i := 5) (fun y => [(5, .int y), (4, .int x4_68), (3, .int x3_47), (6, .int (nI i)), (2, .int (rCost (rRun μ n Q))), (0, .ref 66), (1, .int 6)]) dX10_told_89 rfl (fun _ => rfl) (fun x5_89 ex5_89 => ?_)
          refine z_iinc (fun y => [(6, .int y), (5, .int x5_89), (4, .int x4_68), (3, .int x3_47), (2, .int (rCost (rRun μ n Q))), (0, .ref 66), (1, .int 6)]) dX10_told_91 rfl rfl (fun _ => rfl) (fun x6_91 ex6_91 => ?_)
          obtain rfl : x6_91 = nI (i + 1) := by rw [ex6_91]; exact nI_1 i
          refine z_goto 16 dX10_told_94 (by decide) ?_
          simp only [rLast, rHow, if_neg h33, if_pos h59, if_pos h80] at H
          subst ex3_47 ex4_68 ex5_89
          exact H) (by
    refine z_iload dX10_told_16 rfl ?_
    refine z_aload_n dX10_told_18 rfl ?_
    refine m_geti dX10_told_19 fX10_105 sh66 rfl ?_
    refine z_icmp_ge 97 dX10_told_22 (by decide) (fun h22 => ?_) (fun h22 => absurd (hn1 ▸ nI_le (Nat.le_refl n) (by omega)) h22)
    refine z_iload_n dX10_told_97 rfl ?_
    refine z_tableIn 192 dX10_told_98 (by decide) (by decide) rfl (by decide) ?_
    refine z_aload_n dX10_told_192 rfl ?_
    refine m_geti dX10_told_193 fX10_187 sh66 rfl ?_
    refine m_iret dX10_told_196 rfl rfl ?_
    exact ⟨rfl, rfl, rfl⟩)
  refine z_aload_n dX10_told_0 rfl ?_
  refine m_callV (As := []) dX10_told_1 kX10_223 ⟨rfl, rfl⟩ rfl ⟨rfl, rfl⟩ rfl rfl sh66 rfl rfl (c_costNow hn h6 hQ hsd) (fun r1 μ1 ν1 hk1 => ?_)
  obtain ⟨rfl, rfl, rfl⟩ := hk1
  refine z_istore_n (i := 2) (fun y => [(2, .int y), (0, .ref 66), (1, .int 6)]) dX10_told_4 rfl rfl (fun _ => rfl) (fun x9 e9 => ?_)
  subst e9
  refine z_iconst (v := 0) dX10_told_5 rfl ?_
  refine z_istore_n (i := 3) (fun y => [(3, .int y), (2, .int (rCost (rRun μ n Q))), (0, .ref 66), (1, .int 6)]) dX10_told_6 rfl rfl (fun _ => rfl) (fun x9 e9 => ?_)
  subst e9
  refine z_iconst (v := 0) dX10_told_7 rfl ?_
  refine z_istore (i := 4) (fun y => [(4, .int y), (3, .int 0), (2, .int (rCost (rRun μ n Q))), (0, .ref 66), (1, .int 6)]) dX10_told_8 rfl (fun _ => rfl) (fun x9 e9 => ?_)
  subst e9
  refine z_iconst (v := 0) dX10_told_10 rfl ?_
  refine z_istore (i := 5) (fun y => [(5, .int y), (4, .int 0), (3, .int 0), (2, .int (rCost (rRun μ n Q))), (0, .ref 66), (1, .int 6)]) dX10_told_11 rfl (fun _ => rfl) (fun x9 e9 => ?_)
  subst e9
  refine z_iconst (v := 0) dX10_told_13 rfl ?_
  refine z_istore (i := 6) (fun y => [(6, .int y), (5, .int 0), (4, .int 0), (3, .int 0), (2, .int (rCost (rRun μ n Q))), (0, .ref 66), (1, .int 6)]) dX10_told_14 rfl (fun _ => rfl) (fun x9 e9 => ?_)
  subst e9
  exact hL 0 (Nat.zero_le n)
set_option maxRecDepth 100000 in
set_option maxHeartbeats 400000 in
theorem d_told_7 {l : Launch} {G : zG} {μ : Mem} {ν : Lng} {n : Nat} (hn : μ 66 17 = nI n) (h6 : n ≤ 6) {Q : Nat → Nat} (hQ : zOrd (μ 75) n Q) (hsd : zSidesM μ n)  : Cm l G mX10_told [.ref 66, .int 7] μ ν (fun a9 b9 c9 => rCost (rRun μ n Q) = a9 ∧ rRun μ n Q = b9 ∧ ν = c9) := by
  refine Con.of (by decide) (Nat.le_of_ble_eq_true rfl) ?_
  show Am l G mX10_told 0 [(0, .ref 66), (1, .int 7)] [] μ ν _
  have hn1 : rRun μ n Q 66 17 = nI n := ((zEq.start.tr (zEq.looks n)).2 17 (by decide) (by decide)).trans hn
  have hL := m_for (l := l) (G := G) (M := mX10_told) (pc := 16) (ν := ν) (K := (fun a9 b9 c9 => rCost (rRun μ n Q) = a9 ∧ rRun μ n Q = b9 ∧ ν = c9)) (N := n) (fun i => [(6, .int (nI i)), (5, .int (rHow (rRun μ n Q) 5 i)), (4, .int (rHow (rRun μ n Q) 6 i)), (3, .int (rLast (rRun μ n Q) i)), (2, .int (rCost (rRun μ n Q))), (0, .ref 66), (1, .int 7)]) (fun i => rRun μ n Q) (fun i hi H => by
    refine z_iload dX10_told_16 rfl ?_
    refine z_aload_n dX10_told_18 rfl ?_
    refine m_geti dX10_told_19 fX10_105 sh66 rfl ?_
    refine z_icmp_ge 97 dX10_told_22 (by decide) (fun h22 => absurd (hn1 ▸ h22) (nI_ge hi (by omega))) (fun h22 => ?_)
    refine z_aload_n dX10_told_25 rfl ?_
    refine m_getr dX10_told_26 fX10_54 sh66 rfl ?_
    refine z_iload dX10_told_29 rfl ?_
    refine m_ialdN (j := i) dX10_told_31 sh80 rfl (by omega) rfl ?_
    refine z_iload_n dX10_told_32 rfl ?_
    refine z_icmp_le 46 dX10_told_33 (by decide) (fun h33 => ?_) (fun h33 => ?_)
    · skip
      refine z_iload_n dX10_told_46 rfl ?_
      refine z_istore_n (i := 3) (fun y => [(3, .int y), (6, .int (nI i)), (5, .int (rHow (rRun μ n Q) 5 i)), (4, .int (rHow (rRun μ n Q) 6 i)), (2, .int (rCost (rRun μ n Q))), (0, .ref 66), (1, .int 7)]) dX10_told_47 rfl rfl (fun _ => rfl) (fun x3_47 ex3_47 => ?_)
      refine z_iload dX10_told_48 rfl ?_
      refine z_aload_n dX10_told_50 rfl ?_
      refine m_getr dX10_told_51 fX10_48 sh66 rfl ?_
      refine z_iload dX10_told_54 rfl ?_
      refine m_ialdN (j := i) dX10_told_56 sh78 rfl (by omega) rfl ?_
      refine z_bipush (v := 6) dX10_told_57 rfl ?_
      refine z_icmp_ne 66 dX10_told_59 (by decide) (fun h59 => ?_) (fun h59 => ?_)
      · skip
        refine z_iconst (v := 0) dX10_told_66 rfl ?_
        refine z_iadd dX10_told_67 ?_
        refine z_istore (i := 4) (fun y => [(4, .int y), (3, .int x3_47), (6, .int (nI i)), (5, .int (rHow (rRun μ n Q) 5 i)), (2, .int (rCost (rRun μ n Q))), (0, .ref 66), (1, .int 7)]) dX10_told_68 rfl (fun _ => rfl) (fun x4_68 ex4_68 => ?_)
        refine z_iload dX10_told_70 rfl ?_
        refine z_aload_n dX10_told_72 rfl ?_
        refine m_getr dX10_told_73 fX10_48 sh66 rfl ?_
        refine z_iload dX10_told_76 rfl ?_
        refine m_ialdN (j := i) dX10_told_78 sh78 rfl (by omega) rfl ?_
        refine z_iconst (v := 5) dX10_told_79 rfl ?_
        refine z_icmp_ne 87 dX10_told_80 (by decide) (fun h80 => ?_) (fun h80 => ?_)
        · skip
          refine z_iconst (v := 0) dX10_told_87 rfl ?_
          refine z_iadd dX10_told_88 ?_
          refine z_istore (i := 5) (fun y => [(5, .int y), (4, .int x4_68), (3, .int x3_47), (6, .int (nI i)), (2, .int (rCost (rRun μ n Q))), (0, .ref 66), (1, .int 7)]) dX10_told_89 rfl (fun _ => rfl) (fun x5_89 ex5_89 => ?_)
          refine z_iinc (fun y => [(6, .int y), (5, .int x5_89), (4, .int x4_68), (3, .int x3_47), (2, .int (rCost (rRun μ n Q))), (0, .ref 66), (1, .int 7)]) dX10_told_91 rfl rfl (fun _ => rfl) (fun x6_91 ex6_91 => ?_)
          obtain rfl : x6_91 = nI (i + 1) := by rw [ex6_91]; exact nI_1 i
          refine z_goto 16 dX10_told_94 (by decide) ?_
          simp only [rLast, rHow, if_pos h33, if_neg h59, if_neg h80] at H
          subst ex3_47 ex4_68 ex5_89
          exact H
        · skip
          refine z_iconst (v := 1) dX10_told_83 rfl ?_
          refine z_goto 88 dX10_told_84 (by decide) ?_
          refine z_iadd dX10_told_88 ?_
          refine z_istore (i := 5) (fun y => [(5, .int y), (4, .int x4_68), (3, .int x3_47), (6, .int (nI i)), (2, .int (rCost (rRun μ n Q))), (0, .ref 66), (1, .int 7)]) dX10_told_89 rfl (fun _ => rfl) (fun x5_89 ex5_89 => ?_)
          refine z_iinc (fun y => [(6, .int y), (5, .int x5_89), (4, .int x4_68), (3, .int x3_47), (2, .int (rCost (rRun μ n Q))), (0, .ref 66), (1, .int 7)]) dX10_told_91 rfl rfl (fun _ => rfl) (fun x6_91 ex6_91 => ?_)
          obtain rfl : x6_91 = nI (i + 1) := by rw [ex6_91]; exact nI_1 i
          refine z_goto 16 dX10_told_94 (by decide) ?_
          simp only [rLast, rHow, if_pos h33, if_neg h59, if_pos h80] at H
          subst ex3_47 ex4_68 ex5_89
          exact H
      · skip
        refine z_iconst (v := 1) dX10_told_62 rfl ?_
        refine z_goto 67 dX10_told_63 (by decide) ?_
        refine z_iadd dX10_told_67 ?_
        refine z_istore (i := 4) (fun y => [(4, .int y), (3, .int x3_47), (6, .int (nI i)), (5, .int (rHow (rRun μ n Q) 5 i)), (2, .int (rCost (rRun μ n Q))), (0, .ref 66), (1, .int 7)]) dX10_told_68 rfl (fun _ => rfl) (fun x4_68 ex4_68 => ?_)
        refine z_iload dX10_told_70 rfl ?_
        refine z_aload_n dX10_told_72 rfl ?_
        refine m_getr dX10_told_73 fX10_48 sh66 rfl ?_
        refine z_iload dX10_told_76 rfl ?_
        refine m_ialdN (j := i) dX10_told_78 sh78 rfl (by omega) rfl ?_
        refine z_iconst (v := 5) dX10_told_79 rfl ?_
        refine z_icmp_ne 87 dX10_told_80 (by decide) (fun h80 => ?_) (fun h80 => ?_)
        · skip
          refine z_iconst (v := 0) dX10_told_87 rfl ?_
          refine z_iadd dX10_told_88 ?_
          refine z_istore (i := 5) (fun y => [(5, .int y), (4, .int x4_68), (3, .int x3_47), (6, .int (nI i)), (2, .int (rCost (rRun μ n Q))), (0, .ref 66), (1, .int 7)]) dX10_told_89 rfl (fun _ => rfl) (fun x5_89 ex5_89 => ?_)
          refine z_iinc (fun y => [(6, .int y), (5, .int x5_89), (4, .int x4_68), (3, .int x3_47), (2, .int (rCost (rRun μ n Q))), (0, .ref 66), (1, .int 7)]) dX10_told_91 rfl rfl (fun _ => rfl) (fun x6_91 ex6_91 => ?_)
          obtain rfl : x6_91 = nI (i + 1) := by rw [ex6_91]; exact nI_1 i
          refine z_goto 16 dX10_told_94 (by decide) ?_
          simp only [rLast, rHow, if_pos h33, if_pos h59, if_neg h80] at H
          subst ex3_47 ex4_68 ex5_89
          exact H
        · skip
          refine z_iconst (v := 1) dX10_told_83 rfl ?_
          refine z_goto 88 dX10_told_84 (by decide) ?_
          refine z_iadd dX10_told_88 ?_
          refine z_istore (i := 5) (fun y => [(5, .int y), (4, .int x4_68), (3, .int x3_47), (6, .int (nI i)), (2, .int (rCost (rRun μ n Q))), (0, .ref 66), (1, .int 7)]) dX10_told_89 rfl (fun _ => rfl) (fun x5_89 ex5_89 => ?_)
          refine z_iinc (fun y => [(6, .int y), (5, .int x5_89), (4, .int x4_68), (3, .int x3_47), (2, .int (rCost (rRun μ n Q))), (0, .ref 66), (1, .int 7)]) dX10_told_91 rfl rfl (fun _ => rfl) (fun x6_91 ex6_91 => ?_)
          obtain rfl : x6_91 = nI (i + 1) := by rw [ex6_91]; exact nI_1 i
          refine z_goto 16 dX10_told_94 (by decide) ?_
          simp only [rLast, rHow, if_pos h33, if_pos h59, if_pos h80] at H
          subst ex3_47 ex4_68 ex5_89
          exact H
    · skip
      refine z_aload_n dX10_told_36 rfl ?_
      refine m_getr dX10_told_37 fX10_54 sh66 rfl ?_
      refine z_iload dX10_told_40 rfl ?_
      refine m_ialdN (j := i) dX10_told_42 sh80 rfl (by omega) rfl ?_
      refine z_goto 47 dX10_told_43 (by decide) ?_
      refine z_istore_n (i := 3) (fun y => [(3, .int y), (6, .int (nI i)), (5, .int (rHow (rRun μ n Q) 5 i)), (4, .int (rHow (rRun μ n Q) 6 i)), (2, .int (rCost (rRun μ n Q))), (0, .ref 66), (1, .int 7)]) dX10_told_47 rfl rfl (fun _ => rfl) (fun x3_47 ex3_47 => ?_)
      refine z_iload dX10_told_48 rfl ?_
      refine z_aload_n dX10_told_50 rfl ?_
      refine m_getr dX10_told_51 fX10_48 sh66 rfl ?_
      refine z_iload dX10_told_54 rfl ?_
      refine m_ialdN (j := i) dX10_told_56 sh78 rfl (by omega) rfl ?_
      refine z_bipush (v := 6) dX10_told_57 rfl ?_
      refine z_icmp_ne 66 dX10_told_59 (by decide) (fun h59 => ?_) (fun h59 => ?_)
      · skip
        refine z_iconst (v := 0) dX10_told_66 rfl ?_
        refine z_iadd dX10_told_67 ?_
        refine z_istore (i := 4) (fun y => [(4, .int y), (3, .int x3_47), (6, .int (nI i)), (5, .int (rHow (rRun μ n Q) 5 i)), (2, .int (rCost (rRun μ n Q))), (0, .ref 66), (1, .int 7)]) dX10_told_68 rfl (fun _ => rfl) (fun x4_68 ex4_68 => ?_)
        refine z_iload dX10_told_70 rfl ?_
        refine z_aload_n dX10_told_72 rfl ?_
        refine m_getr dX10_told_73 fX10_48 sh66 rfl ?_
        refine z_iload dX10_told_76 rfl ?_
        refine m_ialdN (j := i) dX10_told_78 sh78 rfl (by omega) rfl ?_
        refine z_iconst (v := 5) dX10_told_79 rfl ?_
        refine z_icmp_ne 87 dX10_told_80 (by decide) (fun h80 => ?_) (fun h80 => ?_)
        · skip
          refine z_iconst (v := 0) dX10_told_87 rfl ?_
          refine z_iadd dX10_told_88 ?_
          refine z_istore (i := 5) (fun y => [(5, .int y), (4, .int x4_68), (3, .int x3_47), (6, .int (nI i)), (2, .int (rCost (rRun μ n Q))), (0, .ref 66), (1, .int 7)]) dX10_told_89 rfl (fun _ => rfl) (fun x5_89 ex5_89 => ?_)
          refine z_iinc (fun y => [(6, .int y), (5, .int x5_89), (4, .int x4_68), (3, .int x3_47), (2, .int (rCost (rRun μ n Q))), (0, .ref 66), (1, .int 7)]) dX10_told_91 rfl rfl (fun _ => rfl) (fun x6_91 ex6_91 => ?_)
          obtain rfl : x6_91 = nI (i + 1) := by rw [ex6_91]; exact nI_1 i
          refine z_goto 16 dX10_told_94 (by decide) ?_
          simp only [rLast, rHow, if_neg h33, if_neg h59, if_neg h80] at H
          subst ex3_47 ex4_68 ex5_89
          exact H
        · skip
          refine z_iconst (v := 1) dX10_told_83 rfl ?_
          refine z_goto 88 dX10_told_84 (by decide) ?_
          refine z_iadd dX10_told_88 ?_
          refine z_istore (i := 5) (fun y => [(5, .int y), (4, .int x4_68), (3, .int x3_47), (6, .int (nI i)), (2, .int (rCost (rRun μ n Q))), (0, .ref 66), (1, .int 7)]) dX10_told_89 rfl (fun _ => rfl) (fun x5_89 ex5_89 => ?_)
          refine z_iinc (fun y => [(6, .int y), (5, .int x5_89), (4, .int x4_68), (3, .int x3_47), (2, .int (rCost (rRun μ n Q))), (0, .ref 66), (1, .int 7)]) dX10_told_91 rfl rfl (fun _ => rfl) (fun x6_91 ex6_91 => ?_)
          obtain rfl : x6_91 = nI (i + 1) := by rw [ex6_91]; exact nI_1 i
          refine z_goto 16 dX10_told_94 (by decide) ?_
          simp only [rLast, rHow, if_neg h33, if_neg h59, if_pos h80] at H
          subst ex3_47 ex4_68 ex5_89
          exact H
      · skip
        refine z_iconst (v := 1) dX10_told_62 rfl ?_
        refine z_goto 67 dX10_told_63 (by decide) ?_
        refine z_iadd dX10_told_67 ?_
        refine z_istore (i := 4) (fun y => [(4, .int y), (3, .int x3_47), (6, .int (nI i)), (5, .int (rHow (rRun μ n Q) 5 i)), (2, .int (rCost (rRun μ n Q))), (0, .ref 66), (1, .int 7)]) dX10_told_68 rfl (fun _ => rfl) (fun x4_68 ex4_68 => ?_)
        refine z_iload dX10_told_70 rfl ?_
        refine z_aload_n dX10_told_72 rfl ?_
        refine m_getr dX10_told_73 fX10_48 sh66 rfl ?_
        refine z_iload dX10_told_76 rfl ?_
        refine m_ialdN (j := i) dX10_told_78 sh78 rfl (by omega) rfl ?_
        refine z_iconst (v := 5) dX10_told_79 rfl ?_
        refine z_icmp_ne 87 dX10_told_80 (by decide) (fun h80 => ?_) (fun h80 => ?_)
        · skip
          refine z_iconst (v := 0) dX10_told_87 rfl ?_
          refine z_iadd dX10_told_88 ?_
          refine z_istore (i := 5) (fun y => [(5, .int y), (4, .int x4_68), (3, .int x3_47), (6, .int (nI i)), (2, .int (rCost (rRun μ n Q))), (0, .ref 66), (1, .int 7)]) dX10_told_89 rfl (fun _ => rfl) (fun x5_89 ex5_89 => ?_)
          refine z_iinc (fun y => [(6, .int y), (5, .int x5_89), (4, .int x4_68), (3, .int x3_47), (2, .int (rCost (rRun μ n Q))), (0, .ref 66), (1, .int 7)]) dX10_told_91 rfl rfl (fun _ => rfl) (fun x6_91 ex6_91 => ?_)
          obtain rfl : x6_91 = nI (i + 1) := by rw [ex6_91]; exact nI_1 i
          refine z_goto 16 dX10_told_94 (by decide) ?_
          simp only [rLast, rHow, if_neg h33, if_pos h59, if_neg h80] at H
          subst ex3_47 ex4_68 ex5_89
          exact H
        · skip
          refine z_iconst (v := 1) dX10_told_83 rfl ?_
          refine z_goto 88 dX10_told_84 (by decide) ?_
          refine z_iadd dX10_told_88 ?_
          refine z_istore (i := 5) (fun y => [(5, .int y), (4, .int x4_68), (3, .int x3_47), (6, .int (nI i)), (2, .int (rCost (rRun μ n Q))), (0, .ref 66), (1, .int 7)]) dX10_told_89 rfl (fun _ => rfl) (fun x5_89 ex5_89 => ?_)
          refine z_iinc (fun y => [(6, .int y), (5, .int x5_89), (4, .int x4_68), (3, .int x3_47), (2, .int (rCost (rRun μ n Q))), (0, .ref 66), (1, .int 7)]) dX10_told_91 rfl rfl (fun _ => rfl) (fun x6_91 ex6_91 => ?_)
          obtain rfl : x6_91 = nI (i + 1) := by rw [ex6_91]; exact nI_1 i
          refine z_goto 16 dX10_told_94 (by decide) ?_
          simp only [rLast, rHow, if_neg h33, if_pos h59, if_pos h80] at H
          subst ex3_47 ex4_68 ex5_89
          exact H) (by
    refine z_iload dX10_told_16 rfl ?_
    refine z_aload_n dX10_told_18 rfl ?_
    refine m_geti dX10_told_19 fX10_105 sh66 rfl ?_
    refine z_icmp_ge 97 dX10_told_22 (by decide) (fun h22 => ?_) (fun h22 => absurd (hn1 ▸ nI_le (Nat.le_refl n) (by omega)) h22)
    refine z_iload_n dX10_told_97 rfl ?_
    refine z_tableIn 197 dX10_told_98 (by decide) (by decide) rfl (by decide) ?_
    refine z_iload_n dX10_told_197 rfl ?_
    refine m_iret dX10_told_198 rfl rfl ?_
    exact ⟨rfl, rfl, rfl⟩)
  refine z_aload_n dX10_told_0 rfl ?_
  refine m_callV (As := []) dX10_told_1 kX10_223 ⟨rfl, rfl⟩ rfl ⟨rfl, rfl⟩ rfl rfl sh66 rfl rfl (c_costNow hn h6 hQ hsd) (fun r1 μ1 ν1 hk1 => ?_)
  obtain ⟨rfl, rfl, rfl⟩ := hk1
  refine z_istore_n (i := 2) (fun y => [(2, .int y), (0, .ref 66), (1, .int 7)]) dX10_told_4 rfl rfl (fun _ => rfl) (fun x9 e9 => ?_)
  subst e9
  refine z_iconst (v := 0) dX10_told_5 rfl ?_
  refine z_istore_n (i := 3) (fun y => [(3, .int y), (2, .int (rCost (rRun μ n Q))), (0, .ref 66), (1, .int 7)]) dX10_told_6 rfl rfl (fun _ => rfl) (fun x9 e9 => ?_)
  subst e9
  refine z_iconst (v := 0) dX10_told_7 rfl ?_
  refine z_istore (i := 4) (fun y => [(4, .int y), (3, .int 0), (2, .int (rCost (rRun μ n Q))), (0, .ref 66), (1, .int 7)]) dX10_told_8 rfl (fun _ => rfl) (fun x9 e9 => ?_)
  subst e9
  refine z_iconst (v := 0) dX10_told_10 rfl ?_
  refine z_istore (i := 5) (fun y => [(5, .int y), (4, .int 0), (3, .int 0), (2, .int (rCost (rRun μ n Q))), (0, .ref 66), (1, .int 7)]) dX10_told_11 rfl (fun _ => rfl) (fun x9 e9 => ?_)
  subst e9
  refine z_iconst (v := 0) dX10_told_13 rfl ?_
  refine z_istore (i := 6) (fun y => [(6, .int y), (5, .int 0), (4, .int 0), (3, .int 0), (2, .int (rCost (rRun μ n Q))), (0, .ref 66), (1, .int 7)]) dX10_told_14 rfl (fun _ => rfl) (fun x9 e9 => ?_)
  subst e9
  exact hL 0 (Nat.zero_le n)
set_option maxRecDepth 100000 in
set_option maxHeartbeats 400000 in
theorem d_told_8 {l : Launch} {G : zG} {μ : Mem} {ν : Lng} {n : Nat} (hn : μ 66 17 = nI n) (h6 : n ≤ 6) {Q : Nat → Nat} (hQ : zOrd (μ 75) n Q) (hsd : zSidesM μ n)  : Cm l G mX10_told [.ref 66, .int 8] μ ν (fun a9 b9 c9 => rHow (rRun μ n Q) 6 n = a9 ∧ rRun μ n Q = b9 ∧ ν = c9) := by
  refine Con.of (by decide) (Nat.le_of_ble_eq_true rfl) ?_
  show Am l G mX10_told 0 [(0, .ref 66), (1, .int 8)] [] μ ν _
  have hn1 : rRun μ n Q 66 17 = nI n := ((zEq.start.tr (zEq.looks n)).2 17 (by decide) (by decide)).trans hn
  have hL := m_for (l := l) (G := G) (M := mX10_told) (pc := 16) (ν := ν) (K := (fun a9 b9 c9 => rHow (rRun μ n Q) 6 n = a9 ∧ rRun μ n Q = b9 ∧ ν = c9)) (N := n) (fun i => [(6, .int (nI i)), (5, .int (rHow (rRun μ n Q) 5 i)), (4, .int (rHow (rRun μ n Q) 6 i)), (3, .int (rLast (rRun μ n Q) i)), (2, .int (rCost (rRun μ n Q))), (0, .ref 66), (1, .int 8)]) (fun i => rRun μ n Q) (fun i hi H => by
    refine z_iload dX10_told_16 rfl ?_
    refine z_aload_n dX10_told_18 rfl ?_
    refine m_geti dX10_told_19 fX10_105 sh66 rfl ?_
    refine z_icmp_ge 97 dX10_told_22 (by decide) (fun h22 => absurd (hn1 ▸ h22) (nI_ge hi (by omega))) (fun h22 => ?_)
    refine z_aload_n dX10_told_25 rfl ?_
    refine m_getr dX10_told_26 fX10_54 sh66 rfl ?_
    refine z_iload dX10_told_29 rfl ?_
    refine m_ialdN (j := i) dX10_told_31 sh80 rfl (by omega) rfl ?_
    refine z_iload_n dX10_told_32 rfl ?_
    refine z_icmp_le 46 dX10_told_33 (by decide) (fun h33 => ?_) (fun h33 => ?_)
    · skip
      refine z_iload_n dX10_told_46 rfl ?_
      refine z_istore_n (i := 3) (fun y => [(3, .int y), (6, .int (nI i)), (5, .int (rHow (rRun μ n Q) 5 i)), (4, .int (rHow (rRun μ n Q) 6 i)), (2, .int (rCost (rRun μ n Q))), (0, .ref 66), (1, .int 8)]) dX10_told_47 rfl rfl (fun _ => rfl) (fun x3_47 ex3_47 => ?_)
      refine z_iload dX10_told_48 rfl ?_
      refine z_aload_n dX10_told_50 rfl ?_
      refine m_getr dX10_told_51 fX10_48 sh66 rfl ?_
      refine z_iload dX10_told_54 rfl ?_
      refine m_ialdN (j := i) dX10_told_56 sh78 rfl (by omega) rfl ?_
      refine z_bipush (v := 6) dX10_told_57 rfl ?_
      refine z_icmp_ne 66 dX10_told_59 (by decide) (fun h59 => ?_) (fun h59 => ?_)
      · skip
        refine z_iconst (v := 0) dX10_told_66 rfl ?_
        refine z_iadd dX10_told_67 ?_
        refine z_istore (i := 4) (fun y => [(4, .int y), (3, .int x3_47), (6, .int (nI i)), (5, .int (rHow (rRun μ n Q) 5 i)), (2, .int (rCost (rRun μ n Q))), (0, .ref 66), (1, .int 8)]) dX10_told_68 rfl (fun _ => rfl) (fun x4_68 ex4_68 => ?_)
        refine z_iload dX10_told_70 rfl ?_
        refine z_aload_n dX10_told_72 rfl ?_
        refine m_getr dX10_told_73 fX10_48 sh66 rfl ?_
        refine z_iload dX10_told_76 rfl ?_
        refine m_ialdN (j := i) dX10_told_78 sh78 rfl (by omega) rfl ?_
        refine z_iconst (v := 5) dX10_told_79 rfl ?_
        refine z_icmp_ne 87 dX10_told_80 (by decide) (fun h80 => ?_) (fun h80 => ?_)
        · skip
          refine z_iconst (v := 0) dX10_told_87 rfl ?_
          refine z_iadd dX10_told_88 ?_
          refine z_istore (i := 5) (fun y => [(5, .int y), (4, .int x4_68), (3, .int x3_47), (6, .int (nI i)), (2, .int (rCost (rRun μ n Q))), (0, .ref 66), (1, .int 8)]) dX10_told_89 rfl (fun _ => rfl) (fun x5_89 ex5_89 => ?_)
          refine z_iinc (fun y => [(6, .int y), (5, .int x5_89), (4, .int x4_68), (3, .int x3_47), (2, .int (rCost (rRun μ n Q))), (0, .ref 66), (1, .int 8)]) dX10_told_91 rfl rfl (fun _ => rfl) (fun x6_91 ex6_91 => ?_)
          obtain rfl : x6_91 = nI (i + 1) := by rw [ex6_91]; exact nI_1 i
          refine z_goto 16 dX10_told_94 (by decide) ?_
          simp only [rLast, rHow, if_pos h33, if_neg h59, if_neg h80] at H
          subst ex3_47 ex4_68 ex5_89
          exact H
        · skip
          refine z_iconst (v := 1) dX10_told_83 rfl ?_
          refine z_goto 88 dX10_told_84 (by decide) ?_
          refine z_iadd dX10_told_88 ?_
          refine z_istore (i := 5) (fun y => [(5, .int y), (4, .int x4_68), (3, .int x3_47), (6, .int (nI i)), (2, .int (rCost (rRun μ n Q))), (0, .ref 66), (1, .int 8)]) dX10_told_89 rfl (fun _ => rfl) (fun x5_89 ex5_89 => ?_)
          refine z_iinc (fun y => [(6, .int y), (5, .int x5_89), (4, .int x4_68), (3, .int x3_47), (2, .int (rCost (rRun μ n Q))), (0, .ref 66), (1, .int 8)]) dX10_told_91 rfl rfl (fun _ => rfl) (fun x6_91 ex6_91 => ?_)
          obtain rfl : x6_91 = nI (i + 1) := by rw [ex6_91]; exact nI_1 i
          refine z_goto 16 dX10_told_94 (by decide) ?_
          simp only [rLast, rHow, if_pos h33, if_neg h59, if_pos h80] at H
          subst ex3_47 ex4_68 ex5_89
          exact H
      · skip
        refine z_iconst (v := 1) dX10_told_62 rfl ?_
        refine z_goto 67 dX10_told_63 (by decide) ?_
        refine z_iadd dX10_told_67 ?_
        refine z_istore (i := 4) (fun y => [(4, .int y), (3, .int x3_47), (6, .int (nI i)), (5, .int (rHow (rRun μ n Q) 5 i)), (2, .int (rCost (rRun μ n Q))), (0, .ref 66), (1, .int 8)]) dX10_told_68 rfl (fun _ => rfl) (fun x4_68 ex4_68 => ?_)
        refine z_iload dX10_told_70 rfl ?_
        refine z_aload_n dX10_told_72 rfl ?_
        refine m_getr dX10_told_73 fX10_48 sh66 rfl ?_
        refine z_iload dX10_told_76 rfl ?_
        refine m_ialdN (j := i) dX10_told_78 sh78 rfl (by omega) rfl ?_
        refine z_iconst (v := 5) dX10_told_79 rfl ?_
        refine z_icmp_ne 87 dX10_told_80 (by decide) (fun h80 => ?_) (fun h80 => ?_)
        · skip
          refine z_iconst (v := 0) dX10_told_87 rfl ?_
          refine z_iadd dX10_told_88 ?_
          refine z_istore (i := 5) (fun y => [(5, .int y), (4, .int x4_68), (3, .int x3_47), (6, .int (nI i)), (2, .int (rCost (rRun μ n Q))), (0, .ref 66), (1, .int 8)]) dX10_told_89 rfl (fun _ => rfl) (fun x5_89 ex5_89 => ?_)
          refine z_iinc (fun y => [(6, .int y), (5, .int x5_89), (4, .int x4_68), (3, .int x3_47), (2, .int (rCost (rRun μ n Q))), (0, .ref 66), (1, .int 8)]) dX10_told_91 rfl rfl (fun _ => rfl) (fun x6_91 ex6_91 => ?_)
          obtain rfl : x6_91 = nI (i + 1) := by rw [ex6_91]; exact nI_1 i
          refine z_goto 16 dX10_told_94 (by decide) ?_
          simp only [rLast, rHow, if_pos h33, if_pos h59, if_neg h80] at H
          subst ex3_47 ex4_68 ex5_89
          exact H
        · skip
          refine z_iconst (v := 1) dX10_told_83 rfl ?_
          refine z_goto 88 dX10_told_84 (by decide) ?_
          refine z_iadd dX10_told_88 ?_
          refine z_istore (i := 5) (fun y => [(5, .int y), (4, .int x4_68), (3, .int x3_47), (6, .int (nI i)), (2, .int (rCost (rRun μ n Q))), (0, .ref 66), (1, .int 8)]) dX10_told_89 rfl (fun _ => rfl) (fun x5_89 ex5_89 => ?_)
          refine z_iinc (fun y => [(6, .int y), (5, .int x5_89), (4, .int x4_68), (3, .int x3_47), (2, .int (rCost (rRun μ n Q))), (0, .ref 66), (1, .int 8)]) dX10_told_91 rfl rfl (fun _ => rfl) (fun x6_91 ex6_91 => ?_)
          obtain rfl : x6_91 = nI (i + 1) := by rw [ex6_91]; exact nI_1 i
          refine z_goto 16 dX10_told_94 (by decide) ?_
          simp only [rLast, rHow, if_pos h33, if_pos h59, if_pos h80] at H
          subst ex3_47 ex4_68 ex5_89
          exact H
    · skip
      refine z_aload_n dX10_told_36 rfl ?_
      refine m_getr dX10_told_37 fX10_54 sh66 rfl ?_
      refine z_iload dX10_told_40 rfl ?_
      refine m_ialdN (j := i) dX10_told_42 sh80 rfl (by omega) rfl ?_
      refine z_goto 47 dX10_told_43 (by decide) ?_
      refine z_istore_n (i := 3) (fun y => [(3, .int y), (6, .int (nI i)), (5, .int (rHow (rRun μ n Q) 5 i)), (4, .int (rHow (rRun μ n Q) 6 i)), (2, .int (rCost (rRun μ n Q))), (0, .ref 66), (1, .int 8)]) dX10_told_47 rfl rfl (fun _ => rfl) (fun x3_47 ex3_47 => ?_)
      refine z_iload dX10_told_48 rfl ?_
      refine z_aload_n dX10_told_50 rfl ?_
      refine m_getr dX10_told_51 fX10_48 sh66 rfl ?_
      refine z_iload dX10_told_54 rfl ?_
      refine m_ialdN (j := i) dX10_told_56 sh78 rfl (by omega) rfl ?_
      refine z_bipush (v := 6) dX10_told_57 rfl ?_
      refine z_icmp_ne 66 dX10_told_59 (by decide) (fun h59 => ?_) (fun h59 => ?_)
      · skip
        refine z_iconst (v := 0) dX10_told_66 rfl ?_
        refine z_iadd dX10_told_67 ?_
        refine z_istore (i := 4) (fun y => [(4, .int y), (3, .int x3_47), (6, .int (nI i)), (5, .int (rHow (rRun μ n Q) 5 i)), (2, .int (rCost (rRun μ n Q))), (0, .ref 66), (1, .int 8)]) dX10_told_68 rfl (fun _ => rfl) (fun x4_68 ex4_68 => ?_)
        refine z_iload dX10_told_70 rfl ?_
        refine z_aload_n dX10_told_72 rfl ?_
        refine m_getr dX10_told_73 fX10_48 sh66 rfl ?_
        refine z_iload dX10_told_76 rfl ?_
        refine m_ialdN (j := i) dX10_told_78 sh78 rfl (by omega) rfl ?_
        refine z_iconst (v := 5) dX10_told_79 rfl ?_
        refine z_icmp_ne 87 dX10_told_80 (by decide) (fun h80 => ?_) (fun h80 => ?_)
        · skip
          refine z_iconst (v := 0) dX10_told_87 rfl ?_
          refine z_iadd dX10_told_88 ?_
          refine z_istore (i := 5) (fun y => [(5, .int y), (4, .int x4_68), (3, .int x3_47), (6, .int (nI i)), (2, .int (rCost (rRun μ n Q))), (0, .ref 66), (1, .int 8)]) dX10_told_89 rfl (fun _ => rfl) (fun x5_89 ex5_89 => ?_)
          refine z_iinc (fun y => [(6, .int y), (5, .int x5_89), (4, .int x4_68), (3, .int x3_47), (2, .int (rCost (rRun μ n Q))), (0, .ref 66), (1, .int 8)]) dX10_told_91 rfl rfl (fun _ => rfl) (fun x6_91 ex6_91 => ?_)
          obtain rfl : x6_91 = nI (i + 1) := by rw [ex6_91]; exact nI_1 i
          refine z_goto 16 dX10_told_94 (by decide) ?_
          simp only [rLast, rHow, if_neg h33, if_neg h59, if_neg h80] at H
          subst ex3_47 ex4_68 ex5_89
          exact H
        · skip
          refine z_iconst (v := 1) dX10_told_83 rfl ?_
          refine z_goto 88 dX10_told_84 (by decide) ?_
          refine z_iadd dX10_told_88 ?_
          refine z_istore (i := 5) (fun y => [(5, .int y), (4, .int x4_68), (3, .int x3_47), (6, .int (nI i)), (2, .int (rCost (rRun μ n Q))), (0, .ref 66), (1, .int 8)]) dX10_told_89 rfl (fun _ => rfl) (fun x5_89 ex5_89 => ?_)
          refine z_iinc (fun y => [(6, .int y), (5, .int x5_89), (4, .int x4_68), (3, .int x3_47), (2, .int (rCost (rRun μ n Q))), (0, .ref 66), (1, .int 8)]) dX10_told_91 rfl rfl (fun _ => rfl) (fun x6_91 ex6_91 => ?_)
          obtain rfl : x6_91 = nI (i + 1) := by rw [ex6_91]; exact nI_1 i
          refine z_goto 16 dX10_told_94 (by decide) ?_
          simp only [rLast, rHow, if_neg h33, if_neg h59, if_pos h80] at H
          subst ex3_47 ex4_68 ex5_89
          exact H
      · skip
        refine z_iconst (v := 1) dX10_told_62 rfl ?_
        refine z_goto 67 dX10_told_63 (by decide) ?_
        refine z_iadd dX10_told_67 ?_
        refine z_istore (i := 4) (fun y => [(4, .int y), (3, .int x3_47), (6, .int (nI i)), (5, .int (rHow (rRun μ n Q) 5 i)), (2, .int (rCost (rRun μ n Q))), (0, .ref 66), (1, .int 8)]) dX10_told_68 rfl (fun _ => rfl) (fun x4_68 ex4_68 => ?_)
        refine z_iload dX10_told_70 rfl ?_
        refine z_aload_n dX10_told_72 rfl ?_
        refine m_getr dX10_told_73 fX10_48 sh66 rfl ?_
        refine z_iload dX10_told_76 rfl ?_
        refine m_ialdN (j := i) dX10_told_78 sh78 rfl (by omega) rfl ?_
        refine z_iconst (v := 5) dX10_told_79 rfl ?_
        refine z_icmp_ne 87 dX10_told_80 (by decide) (fun h80 => ?_) (fun h80 => ?_)
        · skip
          refine z_iconst (v := 0) dX10_told_87 rfl ?_
          refine z_iadd dX10_told_88 ?_
          refine z_istore (i := 5) (fun y => [(5, .int y), (4, .int x4_68), (3, .int x3_47), (6, .int (nI i)), (2, .int (rCost (rRun μ n Q))), (0, .ref 66), (1, .int 8)]) dX10_told_89 rfl (fun _ => rfl) (fun x5_89 ex5_89 => ?_)
          refine z_iinc (fun y => [(6, .int y), (5, .int x5_89), (4, .int x4_68), (3, .int x3_47), (2, .int (rCost (rRun μ n Q))), (0, .ref 66), (1, .int 8)]) dX10_told_91 rfl rfl (fun _ => rfl) (fun x6_91 ex6_91 => ?_)
          obtain rfl : x6_91 = nI (i + 1) := by rw [ex6_91]; exact nI_1 i
          refine z_goto 16 dX10_told_94 (by decide) ?_
          simp only [rLast, rHow, if_neg h33, if_pos h59, if_neg h80] at H
          subst ex3_47 ex4_68 ex5_89
          exact H
        · skip
          refine z_iconst (v := 1) dX10_told_83 rfl ?_
          refine z_goto 88 dX10_told_84 (by decide) ?_
          refine z_iadd dX10_told_88 ?_
          refine z_istore (i := 5) (fun y => [(5, .int y), (4, .int x4_68), (3, .int x3_47), (6, .int (nI i)), (2, .int (rCost (rRun μ n Q))), (0, .ref 66), (1, .int 8)]) dX10_told_89 rfl (fun _ => rfl) (fun x5_89 ex5_89 => ?_)
          refine z_iinc (fun y => [(6, .int y), (5, .int x5_89), (4, .int x4_68), (3, .int x3_47), (2, .int (rCost (rRun μ n Q))), (0, .ref 66), (1, .int 8)]) dX10_told_91 rfl rfl (fun _ => rfl) (fun x6_91 ex6_91 => ?_)
          obtain rfl : x6_91 = nI (i + 1) := by rw [ex6_91]; exact nI_1 i
          refine z_goto 16 dX10_told_94 (by decide) ?_
          simp only [rLast, rHow, if_neg h33, if_pos h59, if_pos h80] at H
          subst ex3_47 ex4_68 ex5_89
          exact H) (by
    refine z_iload dX10_told_16 rfl ?_
    refine z_aload_n dX10_told_18 rfl ?_
    refine m_geti dX10_told_19 fX10_105 sh66 rfl ?_
    refine z_icmp_ge 97 dX10_told_22 (by decide) (fun h22 => ?_) (fun h22 => absurd (hn1 ▸ nI_le (Nat.le_refl n) (by omega)) h22)
    refine z_iload_n dX10_told_97 rfl ?_
    refine z_tableIn 199 dX10_told_98 (by decide) (by decide) rfl (by decide) ?_
    refine z_iload dX10_told_199 rfl ?_
    refine m_iret dX10_told_201 rfl rfl ?_
    exact ⟨rfl, rfl, rfl⟩)
  refine z_aload_n dX10_told_0 rfl ?_
  refine m_callV (As := []) dX10_told_1 kX10_223 ⟨rfl, rfl⟩ rfl ⟨rfl, rfl⟩ rfl rfl sh66 rfl rfl (c_costNow hn h6 hQ hsd) (fun r1 μ1 ν1 hk1 => ?_)
  obtain ⟨rfl, rfl, rfl⟩ := hk1
  refine z_istore_n (i := 2) (fun y => [(2, .int y), (0, .ref 66), (1, .int 8)]) dX10_told_4 rfl rfl (fun _ => rfl) (fun x9 e9 => ?_)
  subst e9
  refine z_iconst (v := 0) dX10_told_5 rfl ?_
  refine z_istore_n (i := 3) (fun y => [(3, .int y), (2, .int (rCost (rRun μ n Q))), (0, .ref 66), (1, .int 8)]) dX10_told_6 rfl rfl (fun _ => rfl) (fun x9 e9 => ?_)
  subst e9
  refine z_iconst (v := 0) dX10_told_7 rfl ?_
  refine z_istore (i := 4) (fun y => [(4, .int y), (3, .int 0), (2, .int (rCost (rRun μ n Q))), (0, .ref 66), (1, .int 8)]) dX10_told_8 rfl (fun _ => rfl) (fun x9 e9 => ?_)
  subst e9
  refine z_iconst (v := 0) dX10_told_10 rfl ?_
  refine z_istore (i := 5) (fun y => [(5, .int y), (4, .int 0), (3, .int 0), (2, .int (rCost (rRun μ n Q))), (0, .ref 66), (1, .int 8)]) dX10_told_11 rfl (fun _ => rfl) (fun x9 e9 => ?_)
  subst e9
  refine z_iconst (v := 0) dX10_told_13 rfl ?_
  refine z_istore (i := 6) (fun y => [(6, .int y), (5, .int 0), (4, .int 0), (3, .int 0), (2, .int (rCost (rRun μ n Q))), (0, .ref 66), (1, .int 8)]) dX10_told_14 rfl (fun _ => rfl) (fun x9 e9 => ?_)
  subst e9
  exact hL 0 (Nat.zero_le n)
set_option maxRecDepth 100000 in
set_option maxHeartbeats 400000 in
theorem d_told_9 {l : Launch} {G : zG} {μ : Mem} {ν : Lng} {n : Nat} (hn : μ 66 17 = nI n) (h6 : n ≤ 6) {Q : Nat → Nat} (hQ : zOrd (μ 75) n Q) (hsd : zSidesM μ n)  : Cm l G mX10_told [.ref 66, .int 9] μ ν (fun a9 b9 c9 => rHow (rRun μ n Q) 5 n = a9 ∧ rRun μ n Q = b9 ∧ ν = c9) := by
  refine Con.of (by decide) (Nat.le_of_ble_eq_true rfl) ?_
  show Am l G mX10_told 0 [(0, .ref 66), (1, .int 9)] [] μ ν _
  have hn1 : rRun μ n Q 66 17 = nI n := ((zEq.start.tr (zEq.looks n)).2 17 (by decide) (by decide)).trans hn
  have hL := m_for (l := l) (G := G) (M := mX10_told) (pc := 16) (ν := ν) (K := (fun a9 b9 c9 => rHow (rRun μ n Q) 5 n = a9 ∧ rRun μ n Q = b9 ∧ ν = c9)) (N := n) (fun i => [(6, .int (nI i)), (5, .int (rHow (rRun μ n Q) 5 i)), (4, .int (rHow (rRun μ n Q) 6 i)), (3, .int (rLast (rRun μ n Q) i)), (2, .int (rCost (rRun μ n Q))), (0, .ref 66), (1, .int 9)]) (fun i => rRun μ n Q) (fun i hi H => by
    refine z_iload dX10_told_16 rfl ?_
    refine z_aload_n dX10_told_18 rfl ?_
    refine m_geti dX10_told_19 fX10_105 sh66 rfl ?_
    refine z_icmp_ge 97 dX10_told_22 (by decide) (fun h22 => absurd (hn1 ▸ h22) (nI_ge hi (by omega))) (fun h22 => ?_)
    refine z_aload_n dX10_told_25 rfl ?_
    refine m_getr dX10_told_26 fX10_54 sh66 rfl ?_
    refine z_iload dX10_told_29 rfl ?_
    refine m_ialdN (j := i) dX10_told_31 sh80 rfl (by omega) rfl ?_
    refine z_iload_n dX10_told_32 rfl ?_
    refine z_icmp_le 46 dX10_told_33 (by decide) (fun h33 => ?_) (fun h33 => ?_)
    · skip
      refine z_iload_n dX10_told_46 rfl ?_
      refine z_istore_n (i := 3) (fun y => [(3, .int y), (6, .int (nI i)), (5, .int (rHow (rRun μ n Q) 5 i)), (4, .int (rHow (rRun μ n Q) 6 i)), (2, .int (rCost (rRun μ n Q))), (0, .ref 66), (1, .int 9)]) dX10_told_47 rfl rfl (fun _ => rfl) (fun x3_47 ex3_47 => ?_)
      refine z_iload dX10_told_48 rfl ?_
      refine z_aload_n dX10_told_50 rfl ?_
      refine m_getr dX10_told_51 fX10_48 sh66 rfl ?_
      refine z_iload dX10_told_54 rfl ?_
      refine m_ialdN (j := i) dX10_told_56 sh78 rfl (by omega) rfl ?_
      refine z_bipush (v := 6) dX10_told_57 rfl ?_
      refine z_icmp_ne 66 dX10_told_59 (by decide) (fun h59 => ?_) (fun h59 => ?_)
      · skip
        refine z_iconst (v := 0) dX10_told_66 rfl ?_
        refine z_iadd dX10_told_67 ?_
        refine z_istore (i := 4) (fun y => [(4, .int y), (3, .int x3_47), (6, .int (nI i)), (5, .int (rHow (rRun μ n Q) 5 i)), (2, .int (rCost (rRun μ n Q))), (0, .ref 66), (1, .int 9)]) dX10_told_68 rfl (fun _ => rfl) (fun x4_68 ex4_68 => ?_)
        refine z_iload dX10_told_70 rfl ?_
        refine z_aload_n dX10_told_72 rfl ?_
        refine m_getr dX10_told_73 fX10_48 sh66 rfl ?_
        refine z_iload dX10_told_76 rfl ?_
        refine m_ialdN (j := i) dX10_told_78 sh78 rfl (by omega) rfl ?_
        refine z_iconst (v := 5) dX10_told_79 rfl ?_
        refine z_icmp_ne 87 dX10_told_80 (by decide) (fun h80 => ?_) (fun h80 => ?_)
        · skip
          refine z_iconst (v := 0) dX10_told_87 rfl ?_
          refine z_iadd dX10_told_88 ?_
          refine z_istore (i := 5) (fun y => [(5, .int y), (4, .int x4_68), (3, .int x3_47), (6, .int (nI i)), (2, .int (rCost (rRun μ n Q))), (0, .ref 66), (1, .int 9)]) dX10_told_89 rfl (fun _ => rfl) (fun x5_89 ex5_89 => ?_)
          refine z_iinc (fun y => [(6, .int y), (5, .int x5_89), (4, .int x4_68), (3, .int x3_47), (2, .int (rCost (rRun μ n Q))), (0, .ref 66), (1, .int 9)]) dX10_told_91 rfl rfl (fun _ => rfl) (fun x6_91 ex6_91 => ?_)
          obtain rfl : x6_91 = nI (i + 1) := by rw [ex6_91]; exact nI_1 i
          refine z_goto 16 dX10_told_94 (by decide) ?_
          simp only [rLast, rHow, if_pos h33, if_neg h59, if_neg h80] at H
          subst ex3_47 ex4_68 ex5_89
          exact H
        · skip
          refine z_iconst (v := 1) dX10_told_83 rfl ?_
          refine z_goto 88 dX10_told_84 (by decide) ?_
          refine z_iadd dX10_told_88 ?_
          refine z_istore (i := 5) (fun y => [(5, .int y), (4, .int x4_68), (3, .int x3_47), (6, .int (nI i)), (2, .int (rCost (rRun μ n Q))), (0, .ref 66), (1, .int 9)]) dX10_told_89 rfl (fun _ => rfl) (fun x5_89 ex5_89 => ?_)
          refine z_iinc (fun y => [(6, .int y), (5, .int x5_89), (4, .int x4_68), (3, .int x3_47), (2, .int (rCost (rRun μ n Q))), (0, .ref 66), (1, .int 9)]) dX10_told_91 rfl rfl (fun _ => rfl) (fun x6_91 ex6_91 => ?_)
          obtain rfl : x6_91 = nI (i + 1) := by rw [ex6_91]; exact nI_1 i
          refine z_goto 16 dX10_told_94 (by decide) ?_
          simp only [rLast, rHow, if_pos h33, if_neg h59, if_pos h80] at H
          subst ex3_47 ex4_68 ex5_89
          exact H
      · skip
        refine z_iconst (v := 1) dX10_told_62 rfl ?_
        refine z_goto 67 dX10_told_63 (by decide) ?_
        refine z_iadd dX10_told_67 ?_
        refine z_istore (i := 4) (fun y => [(4, .int y), (3, .int x3_47), (6, .int (nI i)), (5, .int (rHow (rRun μ n Q) 5 i)), (2, .int (rCost (rRun μ n Q))), (0, .ref 66), (1, .int 9)]) dX10_told_68 rfl (fun _ => rfl) (fun x4_68 ex4_68 => ?_)
        refine z_iload dX10_told_70 rfl ?_
        refine z_aload_n dX10_told_72 rfl ?_
        refine m_getr dX10_told_73 fX10_48 sh66 rfl ?_
        refine z_iload dX10_told_76 rfl ?_
        refine m_ialdN (j := i) dX10_told_78 sh78 rfl (by omega) rfl ?_
        refine z_iconst (v := 5) dX10_told_79 rfl ?_
        refine z_icmp_ne 87 dX10_told_80 (by decide) (fun h80 => ?_) (fun h80 => ?_)
        · skip
          refine z_iconst (v := 0) dX10_told_87 rfl ?_
          refine z_iadd dX10_told_88 ?_
          refine z_istore (i := 5) (fun y => [(5, .int y), (4, .int x4_68), (3, .int x3_47), (6, .int (nI i)), (2, .int (rCost (rRun μ n Q))), (0, .ref 66), (1, .int 9)]) dX10_told_89 rfl (fun _ => rfl) (fun x5_89 ex5_89 => ?_)
          refine z_iinc (fun y => [(6, .int y), (5, .int x5_89), (4, .int x4_68), (3, .int x3_47), (2, .int (rCost (rRun μ n Q))), (0, .ref 66), (1, .int 9)]) dX10_told_91 rfl rfl (fun _ => rfl) (fun x6_91 ex6_91 => ?_)
          obtain rfl : x6_91 = nI (i + 1) := by rw [ex6_91]; exact nI_1 i
          refine z_goto 16 dX10_told_94 (by decide) ?_
          simp only [rLast, rHow, if_pos h33, if_pos h59, if_neg h80] at H
          subst ex3_47 ex4_68 ex5_89
          exact H
        · skip
          refine z_iconst (v := 1) dX10_told_83 rfl ?_
          refine z_goto 88 dX10_told_84 (by decide) ?_
          refine z_iadd dX10_told_88 ?_
          refine z_istore (i := 5) (fun y => [(5, .int y), (4, .int x4_68), (3, .int x3_47), (6, .int (nI i)), (2, .int (rCost (rRun μ n Q))), (0, .ref 66), (1, .int 9)]) dX10_told_89 rfl (fun _ => rfl) (fun x5_89 ex5_89 => ?_)
          refine z_iinc (fun y => [(6, .int y), (5, .int x5_89), (4, .int x4_68), (3, .int x3_47), (2, .int (rCost (rRun μ n Q))), (0, .ref 66), (1, .int 9)]) dX10_told_91 rfl rfl (fun _ => rfl) (fun x6_91 ex6_91 => ?_)
          obtain rfl : x6_91 = nI (i + 1) := by rw [ex6_91]; exact nI_1 i
          refine z_goto 16 dX10_told_94 (by decide) ?_
          simp only [rLast, rHow, if_pos h33, if_pos h59, if_pos h80] at H
          subst ex3_47 ex4_68 ex5_89
          exact H
    · skip
      refine z_aload_n dX10_told_36 rfl ?_
      refine m_getr dX10_told_37 fX10_54 sh66 rfl ?_
      refine z_iload dX10_told_40 rfl ?_
      refine m_ialdN (j := i) dX10_told_42 sh80 rfl (by omega) rfl ?_
      refine z_goto 47 dX10_told_43 (by decide) ?_
      refine z_istore_n (i := 3) (fun y => [(3, .int y), (6, .int (nI i)), (5, .int (rHow (rRun μ n Q) 5 i)), (4, .int (rHow (rRun μ n Q) 6 i)), (2, .int (rCost (rRun μ n Q))), (0, .ref 66), (1, .int 9)]) dX10_told_47 rfl rfl (fun _ => rfl) (fun x3_47 ex3_47 => ?_)
      refine z_iload dX10_told_48 rfl ?_
      refine z_aload_n dX10_told_50 rfl ?_
      refine m_getr dX10_told_51 fX10_48 sh66 rfl ?_
      refine z_iload dX10_told_54 rfl ?_
      refine m_ialdN (j := i) dX10_told_56 sh78 rfl (by omega) rfl ?_
      refine z_bipush (v := 6) dX10_told_57 rfl ?_
      refine z_icmp_ne 66 dX10_told_59 (by decide) (fun h59 => ?_) (fun h59 => ?_)
      · skip
        refine z_iconst (v := 0) dX10_told_66 rfl ?_
        refine z_iadd dX10_told_67 ?_
        refine z_istore (i := 4) (fun y => [(4, .int y), (3, .int x3_47), (6, .int (nI i)), (5, .int (rHow (rRun μ n Q) 5 i)), (2, .int (rCost (rRun μ n Q))), (0, .ref 66), (1, .int 9)]) dX10_told_68 rfl (fun _ => rfl) (fun x4_68 ex4_68 => ?_)
        refine z_iload dX10_told_70 rfl ?_
        refine z_aload_n dX10_told_72 rfl ?_
        refine m_getr dX10_told_73 fX10_48 sh66 rfl ?_
        refine z_iload dX10_told_76 rfl ?_
        refine m_ialdN (j := i) dX10_told_78 sh78 rfl (by omega) rfl ?_
        refine z_iconst (v := 5) dX10_told_79 rfl ?_
        refine z_icmp_ne 87 dX10_told_80 (by decide) (fun h80 => ?_) (fun h80 => ?_)
        · skip
          refine z_iconst (v := 0) dX10_told_87 rfl ?_
          refine z_iadd dX10_told_88 ?_
          refine z_istore (i := 5) (fun y => [(5, .int y), (4, .int x4_68), (3, .int x3_47), (6, .int (nI i)), (2, .int (rCost (rRun μ n Q))), (0, .ref 66), (1, .int 9)]) dX10_told_89 rfl (fun _ => rfl) (fun x5_89 ex5_89 => ?_)
          refine z_iinc (fun y => [(6, .int y), (5, .int x5_89), (4, .int x4_68), (3, .int x3_47), (2, .int (rCost (rRun μ n Q))), (0, .ref 66), (1, .int 9)]) dX10_told_91 rfl rfl (fun _ => rfl) (fun x6_91 ex6_91 => ?_)
          obtain rfl : x6_91 = nI (i + 1) := by rw [ex6_91]; exact nI_1 i
          refine z_goto 16 dX10_told_94 (by decide) ?_
          simp only [rLast, rHow, if_neg h33, if_neg h59, if_neg h80] at H
          subst ex3_47 ex4_68 ex5_89
          exact H
        · skip
          refine z_iconst (v := 1) dX10_told_83 rfl ?_
          refine z_goto 88 dX10_told_84 (by decide) ?_
          refine z_iadd dX10_told_88 ?_
          refine z_istore (i := 5) (fun y => [(5, .int y), (4, .int x4_68), (3, .int x3_47), (6, .int (nI i)), (2, .int (rCost (rRun μ n Q))), (0, .ref 66), (1, .int 9)]) dX10_told_89 rfl (fun _ => rfl) (fun x5_89 ex5_89 => ?_)
          refine z_iinc (fun y => [(6, .int y), (5, .int x5_89), (4, .int x4_68), (3, .int x3_47), (2, .int (rCost (rRun μ n Q))), (0, .ref 66), (1, .int 9)]) dX10_told_91 rfl rfl (fun _ => rfl) (fun x6_91 ex6_91 => ?_)
          obtain rfl : x6_91 = nI (i + 1) := by rw [ex6_91]; exact nI_1 i
          refine z_goto 16 dX10_told_94 (by decide) ?_
          simp only [rLast, rHow, if_neg h33, if_neg h59, if_pos h80] at H
          subst ex3_47 ex4_68 ex5_89
          exact H
      · skip
        refine z_iconst (v := 1) dX10_told_62 rfl ?_
        refine z_goto 67 dX10_told_63 (by decide) ?_
        refine z_iadd dX10_told_67 ?_
        refine z_istore (i := 4) (fun y => [(4, .int y), (3, .int x3_47), (6, .int (nI i)), (5, .int (rHow (rRun μ n Q) 5 i)), (2, .int (rCost (rRun μ n Q))), (0, .ref 66), (1, .int 9)]) dX10_told_68 rfl (fun _ => rfl) (fun x4_68 ex4_68 => ?_)
        refine z_iload dX10_told_70 rfl ?_
        refine z_aload_n dX10_told_72 rfl ?_
        refine m_getr dX10_told_73 fX10_48 sh66 rfl ?_
        refine z_iload dX10_told_76 rfl ?_
        refine m_ialdN (j := i) dX10_told_78 sh78 rfl (by omega) rfl ?_
        refine z_iconst (v := 5) dX10_told_79 rfl ?_
        refine z_icmp_ne 87 dX10_told_80 (by decide) (fun h80 => ?_) (fun h80 => ?_)
        · skip
          refine z_iconst (v := 0) dX10_told_87 rfl ?_
          refine z_iadd dX10_told_88 ?_
          refine z_istore (i := 5) (fun y => [(5, .int y), (4, .int x4_68), (3, .int x3_47), (6, .int (nI i)), (2, .int (rCost (rRun μ n Q))), (0, .ref 66), (1, .int 9)]) dX10_told_89 rfl (fun _ => rfl) (fun x5_89 ex5_89 => ?_)
          refine z_iinc (fun y => [(6, .int y), (5, .int x5_89), (4, .int x4_68), (3, .int x3_47), (2, .int (rCost (rRun μ n Q))), (0, .ref 66), (1, .int 9)]) dX10_told_91 rfl rfl (fun _ => rfl) (fun x6_91 ex6_91 => ?_)
          obtain rfl : x6_91 = nI (i + 1) := by rw [ex6_91]; exact nI_1 i
          refine z_goto 16 dX10_told_94 (by decide) ?_
          simp only [rLast, rHow, if_neg h33, if_pos h59, if_neg h80] at H
          subst ex3_47 ex4_68 ex5_89
          exact H
        · skip
          refine z_iconst (v := 1) dX10_told_83 rfl ?_
          refine z_goto 88 dX10_told_84 (by decide) ?_
          refine z_iadd dX10_told_88 ?_
          refine z_istore (i := 5) (fun y => [(5, .int y), (4, .int x4_68), (3, .int x3_47), (6, .int (nI i)), (2, .int (rCost (rRun μ n Q))), (0, .ref 66), (1, .int 9)]) dX10_told_89 rfl (fun _ => rfl) (fun x5_89 ex5_89 => ?_)
          refine z_iinc (fun y => [(6, .int y), (5, .int x5_89), (4, .int x4_68), (3, .int x3_47), (2, .int (rCost (rRun μ n Q))), (0, .ref 66), (1, .int 9)]) dX10_told_91 rfl rfl (fun _ => rfl) (fun x6_91 ex6_91 => ?_)
          obtain rfl : x6_91 = nI (i + 1) := by rw [ex6_91]; exact nI_1 i
          refine z_goto 16 dX10_told_94 (by decide) ?_
          simp only [rLast, rHow, if_neg h33, if_pos h59, if_pos h80] at H
          subst ex3_47 ex4_68 ex5_89
          exact H) (by
    refine z_iload dX10_told_16 rfl ?_
    refine z_aload_n dX10_told_18 rfl ?_
    refine m_geti dX10_told_19 fX10_105 sh66 rfl ?_
    refine z_icmp_ge 97 dX10_told_22 (by decide) (fun h22 => ?_) (fun h22 => absurd (hn1 ▸ nI_le (Nat.le_refl n) (by omega)) h22)
    refine z_iload_n dX10_told_97 rfl ?_
    refine z_tableIn 202 dX10_told_98 (by decide) (by decide) rfl (by decide) ?_
    refine z_iload dX10_told_202 rfl ?_
    refine m_iret dX10_told_204 rfl rfl ?_
    exact ⟨rfl, rfl, rfl⟩)
  refine z_aload_n dX10_told_0 rfl ?_
  refine m_callV (As := []) dX10_told_1 kX10_223 ⟨rfl, rfl⟩ rfl ⟨rfl, rfl⟩ rfl rfl sh66 rfl rfl (c_costNow hn h6 hQ hsd) (fun r1 μ1 ν1 hk1 => ?_)
  obtain ⟨rfl, rfl, rfl⟩ := hk1
  refine z_istore_n (i := 2) (fun y => [(2, .int y), (0, .ref 66), (1, .int 9)]) dX10_told_4 rfl rfl (fun _ => rfl) (fun x9 e9 => ?_)
  subst e9
  refine z_iconst (v := 0) dX10_told_5 rfl ?_
  refine z_istore_n (i := 3) (fun y => [(3, .int y), (2, .int (rCost (rRun μ n Q))), (0, .ref 66), (1, .int 9)]) dX10_told_6 rfl rfl (fun _ => rfl) (fun x9 e9 => ?_)
  subst e9
  refine z_iconst (v := 0) dX10_told_7 rfl ?_
  refine z_istore (i := 4) (fun y => [(4, .int y), (3, .int 0), (2, .int (rCost (rRun μ n Q))), (0, .ref 66), (1, .int 9)]) dX10_told_8 rfl (fun _ => rfl) (fun x9 e9 => ?_)
  subst e9
  refine z_iconst (v := 0) dX10_told_10 rfl ?_
  refine z_istore (i := 5) (fun y => [(5, .int y), (4, .int 0), (3, .int 0), (2, .int (rCost (rRun μ n Q))), (0, .ref 66), (1, .int 9)]) dX10_told_11 rfl (fun _ => rfl) (fun x9 e9 => ?_)
  subst e9
  refine z_iconst (v := 0) dX10_told_13 rfl ?_
  refine z_istore (i := 6) (fun y => [(6, .int y), (5, .int 0), (4, .int 0), (3, .int 0), (2, .int (rCost (rRun μ n Q))), (0, .ref 66), (1, .int 9)]) dX10_told_14 rfl (fun _ => rfl) (fun x9 e9 => ?_)
  subst e9
  exact hL 0 (Nat.zero_le n)
set_option maxRecDepth 100000 in
set_option maxHeartbeats 400000 in
theorem d_told_10 {l : Launch} {G : zG} {μ : Mem} {ν : Lng} {n : Nat} (hn : μ 66 17 = nI n) (h6 : n ≤ 6) {Q : Nat → Nat} (hQ : zOrd (μ 75) n Q) (hsd : zSidesM μ n)  : Cm l G mX10_told [.ref 66, .int 10] μ ν (fun a9 b9 c9 => rLast (rRun μ n Q) n = a9 ∧ rRun μ n Q = b9 ∧ ν = c9) := by
  refine Con.of (by decide) (Nat.le_of_ble_eq_true rfl) ?_
  show Am l G mX10_told 0 [(0, .ref 66), (1, .int 10)] [] μ ν _
  have hn1 : rRun μ n Q 66 17 = nI n := ((zEq.start.tr (zEq.looks n)).2 17 (by decide) (by decide)).trans hn
  have hL := m_for (l := l) (G := G) (M := mX10_told) (pc := 16) (ν := ν) (K := (fun a9 b9 c9 => rLast (rRun μ n Q) n = a9 ∧ rRun μ n Q = b9 ∧ ν = c9)) (N := n) (fun i => [(6, .int (nI i)), (5, .int (rHow (rRun μ n Q) 5 i)), (4, .int (rHow (rRun μ n Q) 6 i)), (3, .int (rLast (rRun μ n Q) i)), (2, .int (rCost (rRun μ n Q))), (0, .ref 66), (1, .int 10)]) (fun i => rRun μ n Q) (fun i hi H => by
    refine z_iload dX10_told_16 rfl ?_
    refine z_aload_n dX10_told_18 rfl ?_
    refine m_geti dX10_told_19 fX10_105 sh66 rfl ?_
    refine z_icmp_ge 97 dX10_told_22 (by decide) (fun h22 => absurd (hn1 ▸ h22) (nI_ge hi (by omega))) (fun h22 => ?_)
    refine z_aload_n dX10_told_25 rfl ?_
    refine m_getr dX10_told_26 fX10_54 sh66 rfl ?_
    refine z_iload dX10_told_29 rfl ?_
    refine m_ialdN (j := i) dX10_told_31 sh80 rfl (by omega) rfl ?_
    refine z_iload_n dX10_told_32 rfl ?_
    refine z_icmp_le 46 dX10_told_33 (by decide) (fun h33 => ?_) (fun h33 => ?_)
    · skip
      refine z_iload_n dX10_told_46 rfl ?_
      refine z_istore_n (i := 3) (fun y => [(3, .int y), (6, .int (nI i)), (5, .int (rHow (rRun μ n Q) 5 i)), (4, .int (rHow (rRun μ n Q) 6 i)), (2, .int (rCost (rRun μ n Q))), (0, .ref 66), (1, .int 10)]) dX10_told_47 rfl rfl (fun _ => rfl) (fun x3_47 ex3_47 => ?_)
      refine z_iload dX10_told_48 rfl ?_
      refine z_aload_n dX10_told_50 rfl ?_
      refine m_getr dX10_told_51 fX10_48 sh66 rfl ?_
      refine z_iload dX10_told_54 rfl ?_
      refine m_ialdN (j := i) dX10_told_56 sh78 rfl (by omega) rfl ?_
      refine z_bipush (v := 6) dX10_told_57 rfl ?_
      refine z_icmp_ne 66 dX10_told_59 (by decide) (fun h59 => ?_) (fun h59 => ?_)
      · skip
        refine z_iconst (v := 0) dX10_told_66 rfl ?_
        refine z_iadd dX10_told_67 ?_
        refine z_istore (i := 4) (fun y => [(4, .int y), (3, .int x3_47), (6, .int (nI i)), (5, .int (rHow (rRun μ n Q) 5 i)), (2, .int (rCost (rRun μ n Q))), (0, .ref 66), (1, .int 10)]) dX10_told_68 rfl (fun _ => rfl) (fun x4_68 ex4_68 => ?_)
        refine z_iload dX10_told_70 rfl ?_
        refine z_aload_n dX10_told_72 rfl ?_
        refine m_getr dX10_told_73 fX10_48 sh66 rfl ?_
        refine z_iload dX10_told_76 rfl ?_
        refine m_ialdN (j := i) dX10_told_78 sh78 rfl (by omega) rfl ?_
        refine z_iconst (v := 5) dX10_told_79 rfl ?_
        refine z_icmp_ne 87 dX10_told_80 (by decide) (fun h80 => ?_) (fun h80 => ?_)
        · skip
          refine z_iconst (v := 0) dX10_told_87 rfl ?_
          refine z_iadd dX10_told_88 ?_
          refine z_istore (i := 5) (fun y => [(5, .int y), (4, .int x4_68), (3, .int x3_47), (6, .int (nI i)), (2, .int (rCost (rRun μ n Q))), (0, .ref 66), (1, .int 10)]) dX10_told_89 rfl (fun _ => rfl) (fun x5_89 ex5_89 => ?_)
          refine z_iinc (fun y => [(6, .int y), (5, .int x5_89), (4, .int x4_68), (3, .int x3_47), (2, .int (rCost (rRun μ n Q))), (0, .ref 66), (1, .int 10)]) dX10_told_91 rfl rfl (fun _ => rfl) (fun x6_91 ex6_91 => ?_)
          obtain rfl : x6_91 = nI (i + 1) := by rw [ex6_91]; exact nI_1 i
          refine z_goto 16 dX10_told_94 (by decide) ?_
          simp only [rLast, rHow, if_pos h33, if_neg h59, if_neg h80] at H
          subst ex3_47 ex4_68 ex5_89
          exact H
        · skip
          refine z_iconst (v := 1) dX10_told_83 rfl ?_
          refine z_goto 88 dX10_told_84 (by decide) ?_
          refine z_iadd dX10_told_88 ?_
          refine z_istore (i := 5) (fun y => [(5, .int y), (4, .int x4_68), (3, .int x3_47), (6, .int (nI i)), (2, .int (rCost (rRun μ n Q))), (0, .ref 66), (1, .int 10)]) dX10_told_89 rfl (fun _ => rfl) (fun x5_89 ex5_89 => ?_)
          refine z_iinc (fun y => [(6, .int y), (5, .int x5_89), (4, .int x4_68), (3, .int x3_47), (2, .int (rCost (rRun μ n Q))), (0, .ref 66), (1, .int 10)]) dX10_told_91 rfl rfl (fun _ => rfl) (fun x6_91 ex6_91 => ?_)
          obtain rfl : x6_91 = nI (i + 1) := by rw [ex6_91]; exact nI_1 i
          refine z_goto 16 dX10_told_94 (by decide) ?_
          simp only [rLast, rHow, if_pos h33, if_neg h59, if_pos h80] at H
          subst ex3_47 ex4_68 ex5_89
          exact H
      · skip
        refine z_iconst (v := 1) dX10_told_62 rfl ?_
        refine z_goto 67 dX10_told_63 (by decide) ?_
        refine z_iadd dX10_told_67 ?_
        refine z_istore (i := 4) (fun y => [(4, .int y), (3, .int x3_47), (6, .int (nI i)), (5, .int (rHow (rRun μ n Q) 5 i)), (2, .int (rCost (rRun μ n Q))), (0, .ref 66), (1, .int 10)]) dX10_told_68 rfl (fun _ => rfl) (fun x4_68 ex4_68 => ?_)
        refine z_iload dX10_told_70 rfl ?_
        refine z_aload_n dX10_told_72 rfl ?_
        refine m_getr dX10_told_73 fX10_48 sh66 rfl ?_
        refine z_iload dX10_told_76 rfl ?_
        refine m_ialdN (j := i) dX10_told_78 sh78 rfl (by omega) rfl ?_
        refine z_iconst (v := 5) dX10_told_79 rfl ?_
        refine z_icmp_ne 87 dX10_told_80 (by decide) (fun h80 => ?_) (fun h80 => ?_)
        · skip
          refine z_iconst (v := 0) dX10_told_87 rfl ?_
          refine z_iadd dX10_told_88 ?_
          refine z_istore (i := 5) (fun y => [(5, .int y), (4, .int x4_68), (3, .int x3_47), (6, .int (nI i)), (2, .int (rCost (rRun μ n Q))), (0, .ref 66), (1, .int 10)]) dX10_told_89 rfl (fun _ => rfl) (fun x5_89 ex5_89 => ?_)
          refine z_iinc (fun y => [(6, .int y), (5, .int x5_89), (4, .int x4_68), (3, .int x3_47), (2, .int (rCost (rRun μ n Q))), (0, .ref 66), (1, .int 10)]) dX10_told_91 rfl rfl (fun _ => rfl) (fun x6_91 ex6_91 => ?_)
          obtain rfl : x6_91 = nI (i + 1) := by rw [ex6_91]; exact nI_1 i
          refine z_goto 16 dX10_told_94 (by decide) ?_
          simp only [rLast, rHow, if_pos h33, if_pos h59, if_neg h80] at H
          subst ex3_47 ex4_68 ex5_89
          exact H
        · skip
          refine z_iconst (v := 1) dX10_told_83 rfl ?_
          refine z_goto 88 dX10_told_84 (by decide) ?_
          refine z_iadd dX10_told_88 ?_
          refine z_istore (i := 5) (fun y => [(5, .int y), (4, .int x4_68), (3, .int x3_47), (6, .int (nI i)), (2, .int (rCost (rRun μ n Q))), (0, .ref 66), (1, .int 10)]) dX10_told_89 rfl (fun _ => rfl) (fun x5_89 ex5_89 => ?_)
          refine z_iinc (fun y => [(6, .int y), (5, .int x5_89), (4, .int x4_68), (3, .int x3_47), (2, .int (rCost (rRun μ n Q))), (0, .ref 66), (1, .int 10)]) dX10_told_91 rfl rfl (fun _ => rfl) (fun x6_91 ex6_91 => ?_)
          obtain rfl : x6_91 = nI (i + 1) := by rw [ex6_91]; exact nI_1 i
          refine z_goto 16 dX10_told_94 (by decide) ?_
          simp only [rLast, rHow, if_pos h33, if_pos h59, if_pos h80] at H
          subst ex3_47 ex4_68 ex5_89
          exact H
    · skip
      refine z_aload_n dX10_told_36 rfl ?_
      refine m_getr dX10_told_37 fX10_54 sh66 rfl ?_
      refine z_iload dX10_told_40 rfl ?_
      refine m_ialdN (j := i) dX10_told_42 sh80 rfl (by omega) rfl ?_
      refine z_goto 47 dX10_told_43 (by decide) ?_
      refine z_istore_n (i := 3) (fun y => [(3, .int y), (6, .int (nI i)), (5, .int (rHow (rRun μ n Q) 5 i)), (4, .int (rHow (rRun μ n Q) 6 i)), (2, .int (rCost (rRun μ n Q))), (0, .ref 66), (1, .int 10)]) dX10_told_47 rfl rfl (fun _ => rfl) (fun x3_47 ex3_47 => ?_)
      refine z_iload dX10_told_48 rfl ?_
      refine z_aload_n dX10_told_50 rfl ?_
      refine m_getr dX10_told_51 fX10_48 sh66 rfl ?_
      refine z_iload dX10_told_54 rfl ?_
      refine m_ialdN (j := i) dX10_told_56 sh78 rfl (by omega) rfl ?_
      refine z_bipush (v := 6) dX10_told_57 rfl ?_
      refine z_icmp_ne 66 dX10_told_59 (by decide) (fun h59 => ?_) (fun h59 => ?_)
      · skip
        refine z_iconst (v := 0) dX10_told_66 rfl ?_
        refine z_iadd dX10_told_67 ?_
        refine z_istore (i := 4) (fun y => [(4, .int y), (3, .int x3_47), (6, .int (nI i)), (5, .int (rHow (rRun μ n Q) 5 i)), (2, .int (rCost (rRun μ n Q))), (0, .ref 66), (1, .int 10)]) dX10_told_68 rfl (fun _ => rfl) (fun x4_68 ex4_68 => ?_)
        refine z_iload dX10_told_70 rfl ?_
        refine z_aload_n dX10_told_72 rfl ?_
        refine m_getr dX10_told_73 fX10_48 sh66 rfl ?_
        refine z_iload dX10_told_76 rfl ?_
        refine m_ialdN (j := i) dX10_told_78 sh78 rfl (by omega) rfl ?_
        refine z_iconst (v := 5) dX10_told_79 rfl ?_
        refine z_icmp_ne 87 dX10_told_80 (by decide) (fun h80 => ?_) (fun h80 => ?_)
        · skip
          refine z_iconst (v := 0) dX10_told_87 rfl ?_
          refine z_iadd dX10_told_88 ?_
          refine z_istore (i := 5) (fun y => [(5, .int y), (4, .int x4_68), (3, .int x3_47), (6, .int (nI i)), (2, .int (rCost (rRun μ n Q))), (0, .ref 66), (1, .int 10)]) dX10_told_89 rfl (fun _ => rfl) (fun x5_89 ex5_89 => ?_)
          refine z_iinc (fun y => [(6, .int y), (5, .int x5_89), (4, .int x4_68), (3, .int x3_47), (2, .int (rCost (rRun μ n Q))), (0, .ref 66), (1, .int 10)]) dX10_told_91 rfl rfl (fun _ => rfl) (fun x6_91 ex6_91 => ?_)
          obtain rfl : x6_91 = nI (i + 1) := by rw [ex6_91]; exact nI_1 i
          refine z_goto 16 dX10_told_94 (by decide) ?_
          simp only [rLast, rHow, if_neg h33, if_neg h59, if_neg h80] at H
          subst ex3_47 ex4_68 ex5_89
          exact H
        · skip
          refine z_iconst (v := 1) dX10_told_83 rfl ?_
          refine z_goto 88 dX10_told_84 (by decide) ?_
          refine z_iadd dX10_told_88 ?_
          refine z_istore (i := 5) (fun y => [(5, .int y), (4, .int x4_68), (3, .int x3_47), (6, .int (nI i)), (2, .int (rCost (rRun μ n Q))), (0, .ref 66), (1, .int 10)]) dX10_told_89 rfl (fun _ => rfl) (fun x5_89 ex5_89 => ?_)
          refine z_iinc (fun y => [(6, .int y), (5, .int x5_89), (4, .int x4_68), (3, .int x3_47), (2, .int (rCost (rRun μ n Q))), (0, .ref 66), (1, .int 10)]) dX10_told_91 rfl rfl (fun _ => rfl) (fun x6_91 ex6_91 => ?_)
          obtain rfl : x6_91 = nI (i + 1) := by rw [ex6_91]; exact nI_1 i
          refine z_goto 16 dX10_told_94 (by decide) ?_
          simp only [rLast, rHow, if_neg h33, if_neg h59, if_pos h80] at H
          subst ex3_47 ex4_68 ex5_89
          exact H
      · skip
        refine z_iconst (v := 1) dX10_told_62 rfl ?_
        refine z_goto 67 dX10_told_63 (by decide) ?_
        refine z_iadd dX10_told_67 ?_
        refine z_istore (i := 4) (fun y => [(4, .int y), (3, .int x3_47), (6, .int (nI i)), (5, .int (rHow (rRun μ n Q) 5 i)), (2, .int (rCost (rRun μ n Q))), (0, .ref 66), (1, .int 10)]) dX10_told_68 rfl (fun _ => rfl) (fun x4_68 ex4_68 => ?_)
        refine z_iload dX10_told_70 rfl ?_
        refine z_aload_n dX10_told_72 rfl ?_
        refine m_getr dX10_told_73 fX10_48 sh66 rfl ?_
        refine z_iload dX10_told_76 rfl ?_
        refine m_ialdN (j := i) dX10_told_78 sh78 rfl (by omega) rfl ?_
        refine z_iconst (v := 5) dX10_told_79 rfl ?_
        refine z_icmp_ne 87 dX10_told_80 (by decide) (fun h80 => ?_) (fun h80 => ?_)
        · skip
          refine z_iconst (v := 0) dX10_told_87 rfl ?_
          refine z_iadd dX10_told_88 ?_
          refine z_istore (i := 5) (fun y => [(5, .int y), (4, .int x4_68), (3, .int x3_47), (6, .int (nI i)), (2, .int (rCost (rRun μ n Q))), (0, .ref 66), (1, .int 10)]) dX10_told_89 rfl (fun _ => rfl) (fun x5_89 ex5_89 => ?_)
          refine z_iinc (fun y => [(6, .int y), (5, .int x5_89), (4, .int x4_68), (3, .int x3_47), (2, .int (rCost (rRun μ n Q))), (0, .ref 66), (1, .int 10)]) dX10_told_91 rfl rfl (fun _ => rfl) (fun x6_91 ex6_91 => ?_)
          obtain rfl : x6_91 = nI (i + 1) := by rw [ex6_91]; exact nI_1 i
          refine z_goto 16 dX10_told_94 (by decide) ?_
          simp only [rLast, rHow, if_neg h33, if_pos h59, if_neg h80] at H
          subst ex3_47 ex4_68 ex5_89
          exact H
        · skip
          refine z_iconst (v := 1) dX10_told_83 rfl ?_
          refine z_goto 88 dX10_told_84 (by decide) ?_
          refine z_iadd dX10_told_88 ?_
          refine z_istore (i := 5) (fun y => [(5, .int y), (4, .int x4_68), (3, .int x3_47), (6, .int (nI i)), (2, .int (rCost (rRun μ n Q))), (0, .ref 66), (1, .int 10)]) dX10_told_89 rfl (fun _ => rfl) (fun x5_89 ex5_89 => ?_)
          refine z_iinc (fun y => [(6, .int y), (5, .int x5_89), (4, .int x4_68), (3, .int x3_47), (2, .int (rCost (rRun μ n Q))), (0, .ref 66), (1, .int 10)]) dX10_told_91 rfl rfl (fun _ => rfl) (fun x6_91 ex6_91 => ?_)
          obtain rfl : x6_91 = nI (i + 1) := by rw [ex6_91]; exact nI_1 i
          refine z_goto 16 dX10_told_94 (by decide) ?_
          simp only [rLast, rHow, if_neg h33, if_pos h59, if_pos h80] at H
          subst ex3_47 ex4_68 ex5_89
          exact H) (by
    refine z_iload dX10_told_16 rfl ?_
    refine z_aload_n dX10_told_18 rfl ?_
    refine m_geti dX10_told_19 fX10_105 sh66 rfl ?_
    refine z_icmp_ge 97 dX10_told_22 (by decide) (fun h22 => ?_) (fun h22 => absurd (hn1 ▸ nI_le (Nat.le_refl n) (by omega)) h22)
    refine z_iload_n dX10_told_97 rfl ?_
    refine z_tableIn 205 dX10_told_98 (by decide) (by decide) rfl (by decide) ?_
    refine z_iload_n dX10_told_205 rfl ?_
    refine m_iret dX10_told_206 rfl rfl ?_
    exact ⟨rfl, rfl, rfl⟩)
  refine z_aload_n dX10_told_0 rfl ?_
  refine m_callV (As := []) dX10_told_1 kX10_223 ⟨rfl, rfl⟩ rfl ⟨rfl, rfl⟩ rfl rfl sh66 rfl rfl (c_costNow hn h6 hQ hsd) (fun r1 μ1 ν1 hk1 => ?_)
  obtain ⟨rfl, rfl, rfl⟩ := hk1
  refine z_istore_n (i := 2) (fun y => [(2, .int y), (0, .ref 66), (1, .int 10)]) dX10_told_4 rfl rfl (fun _ => rfl) (fun x9 e9 => ?_)
  subst e9
  refine z_iconst (v := 0) dX10_told_5 rfl ?_
  refine z_istore_n (i := 3) (fun y => [(3, .int y), (2, .int (rCost (rRun μ n Q))), (0, .ref 66), (1, .int 10)]) dX10_told_6 rfl rfl (fun _ => rfl) (fun x9 e9 => ?_)
  subst e9
  refine z_iconst (v := 0) dX10_told_7 rfl ?_
  refine z_istore (i := 4) (fun y => [(4, .int y), (3, .int 0), (2, .int (rCost (rRun μ n Q))), (0, .ref 66), (1, .int 10)]) dX10_told_8 rfl (fun _ => rfl) (fun x9 e9 => ?_)
  subst e9
  refine z_iconst (v := 0) dX10_told_10 rfl ?_
  refine z_istore (i := 5) (fun y => [(5, .int y), (4, .int 0), (3, .int 0), (2, .int (rCost (rRun μ n Q))), (0, .ref 66), (1, .int 10)]) dX10_told_11 rfl (fun _ => rfl) (fun x9 e9 => ?_)
  subst e9
  refine z_iconst (v := 0) dX10_told_13 rfl ?_
  refine z_istore (i := 6) (fun y => [(6, .int y), (5, .int 0), (4, .int 0), (3, .int 0), (2, .int (rCost (rRun μ n Q))), (0, .ref 66), (1, .int 10)]) dX10_told_14 rfl (fun _ => rfl) (fun x9 e9 => ?_)
  subst e9
  exact hL 0 (Nat.zero_le n)
set_option maxRecDepth 100000 in
set_option maxHeartbeats 400000 in
theorem d_told_o {l : Launch} {G : zG} {μ : Mem} {ν : Lng} {n : Nat} (hn : μ 66 17 = nI n) (h6 : n ≤ 6) {Q : Nat → Nat} (hQ : zOrd (μ 75) n Q) (hsd : zSidesM μ n) {v : Int32} (hv : v < 0 ∨ 10 < v)  : Cm l G mX10_told [.ref 66, .int v] μ ν (fun a9 b9 c9 => (-1000000002) = a9 ∧ rRun μ n Q = b9 ∧ ν = c9) := by
  refine Con.of (by decide) (Nat.le_of_ble_eq_true rfl) ?_
  show Am l G mX10_told 0 [(0, .ref 66), (1, .int v)] [] μ ν _
  have hn1 : rRun μ n Q 66 17 = nI n := ((zEq.start.tr (zEq.looks n)).2 17 (by decide) (by decide)).trans hn
  have hL := m_for (l := l) (G := G) (M := mX10_told) (pc := 16) (ν := ν) (K := (fun a9 b9 c9 => (-1000000002) = a9 ∧ rRun μ n Q = b9 ∧ ν = c9)) (N := n) (fun i => [(6, .int (nI i)), (5, .int (rHow (rRun μ n Q) 5 i)), (4, .int (rHow (rRun μ n Q) 6 i)), (3, .int (rLast (rRun μ n Q) i)), (2, .int (rCost (rRun μ n Q))), (0, .ref 66), (1, .int v)]) (fun i => rRun μ n Q) (fun i hi H => by
    refine z_iload dX10_told_16 rfl ?_
    refine z_aload_n dX10_told_18 rfl ?_
    refine m_geti dX10_told_19 fX10_105 sh66 rfl ?_
    refine z_icmp_ge 97 dX10_told_22 (by decide) (fun h22 => absurd (hn1 ▸ h22) (nI_ge hi (by omega))) (fun h22 => ?_)
    refine z_aload_n dX10_told_25 rfl ?_
    refine m_getr dX10_told_26 fX10_54 sh66 rfl ?_
    refine z_iload dX10_told_29 rfl ?_
    refine m_ialdN (j := i) dX10_told_31 sh80 rfl (by omega) rfl ?_
    refine z_iload_n dX10_told_32 rfl ?_
    refine z_icmp_le 46 dX10_told_33 (by decide) (fun h33 => ?_) (fun h33 => ?_)
    · skip
      refine z_iload_n dX10_told_46 rfl ?_
      refine z_istore_n (i := 3) (fun y => [(3, .int y), (6, .int (nI i)), (5, .int (rHow (rRun μ n Q) 5 i)), (4, .int (rHow (rRun μ n Q) 6 i)), (2, .int (rCost (rRun μ n Q))), (0, .ref 66), (1, .int v)]) dX10_told_47 rfl rfl (fun _ => rfl) (fun x3_47 ex3_47 => ?_)
      refine z_iload dX10_told_48 rfl ?_
      refine z_aload_n dX10_told_50 rfl ?_
      refine m_getr dX10_told_51 fX10_48 sh66 rfl ?_
      refine z_iload dX10_told_54 rfl ?_
      refine m_ialdN (j := i) dX10_told_56 sh78 rfl (by omega) rfl ?_
      refine z_bipush (v := 6) dX10_told_57 rfl ?_
      refine z_icmp_ne 66 dX10_told_59 (by decide) (fun h59 => ?_) (fun h59 => ?_)
      · skip
        refine z_iconst (v := 0) dX10_told_66 rfl ?_
        refine z_iadd dX10_told_67 ?_
        refine z_istore (i := 4) (fun y => [(4, .int y), (3, .int x3_47), (6, .int (nI i)), (5, .int (rHow (rRun μ n Q) 5 i)), (2, .int (rCost (rRun μ n Q))), (0, .ref 66), (1, .int v)]) dX10_told_68 rfl (fun _ => rfl) (fun x4_68 ex4_68 => ?_)
        refine z_iload dX10_told_70 rfl ?_
        refine z_aload_n dX10_told_72 rfl ?_
        refine m_getr dX10_told_73 fX10_48 sh66 rfl ?_
        refine z_iload dX10_told_76 rfl ?_
        refine m_ialdN (j := i) dX10_told_78 sh78 rfl (by omega) rfl ?_
        refine z_iconst (v := 5) dX10_told_79 rfl ?_
        refine z_icmp_ne 87 dX10_told_80 (by decide) (fun h80 => ?_) (fun h80 => ?_)
        · skip
          refine z_iconst (v := 0) dX10_told_87 rfl ?_
          refine z_iadd dX10_told_88 ?_
          refine z_istore (i := 5) (fun y => [(5, .int y), (4, .int x4_68), (3, .int x3_47), (6, .int (nI i)), (2, .int (rCost (rRun μ n Q))), (0, .ref 66), (1, .int v)]) dX10_told_89 rfl (fun _ => rfl) (fun x5_89 ex5_89 => ?_)
          refine z_iinc (fun y => [(6, .int y), (5, .int x5_89), (4, .int x4_68), (3, .int x3_47), (2, .int (rCost (rRun μ n Q))), (0, .ref 66), (1, .int v)]) dX10_told_91 rfl rfl (fun _ => rfl) (fun x6_91 ex6_91 => ?_)
          obtain rfl : x6_91 = nI (i + 1) := by rw [ex6_91]; exact nI_1 i
          refine z_goto 16 dX10_told_94 (by decide) ?_
          simp only [rLast, rHow, if_pos h33, if_neg h59, if_neg h80] at H
          subst ex3_47 ex4_68 ex5_89
          exact H
        · skip
          refine z_iconst (v := 1) dX10_told_83 rfl ?_
          refine z_goto 88 dX10_told_84 (by decide) ?_
          refine z_iadd dX10_told_88 ?_
          refine z_istore (i := 5) (fun y => [(5, .int y), (4, .int x4_68), (3, .int x3_47), (6, .int (nI i)), (2, .int (rCost (rRun μ n Q))), (0, .ref 66), (1, .int v)]) dX10_told_89 rfl (fun _ => rfl) (fun x5_89 ex5_89 => ?_)
          refine z_iinc (fun y => [(6, .int y), (5, .int x5_89), (4, .int x4_68), (3, .int x3_47), (2, .int (rCost (rRun μ n Q))), (0, .ref 66), (1, .int v)]) dX10_told_91 rfl rfl (fun _ => rfl) (fun x6_91 ex6_91 => ?_)
          obtain rfl : x6_91 = nI (i + 1) := by rw [ex6_91]; exact nI_1 i
          refine z_goto 16 dX10_told_94 (by decide) ?_
          simp only [rLast, rHow, if_pos h33, if_neg h59, if_pos h80] at H
          subst ex3_47 ex4_68 ex5_89
          exact H
      · skip
        refine z_iconst (v := 1) dX10_told_62 rfl ?_
        refine z_goto 67 dX10_told_63 (by decide) ?_
        refine z_iadd dX10_told_67 ?_
        refine z_istore (i := 4) (fun y => [(4, .int y), (3, .int x3_47), (6, .int (nI i)), (5, .int (rHow (rRun μ n Q) 5 i)), (2, .int (rCost (rRun μ n Q))), (0, .ref 66), (1, .int v)]) dX10_told_68 rfl (fun _ => rfl) (fun x4_68 ex4_68 => ?_)
        refine z_iload dX10_told_70 rfl ?_
        refine z_aload_n dX10_told_72 rfl ?_
        refine m_getr dX10_told_73 fX10_48 sh66 rfl ?_
        refine z_iload dX10_told_76 rfl ?_
        refine m_ialdN (j := i) dX10_told_78 sh78 rfl (by omega) rfl ?_
        refine z_iconst (v := 5) dX10_told_79 rfl ?_
        refine z_icmp_ne 87 dX10_told_80 (by decide) (fun h80 => ?_) (fun h80 => ?_)
        · skip
          refine z_iconst (v := 0) dX10_told_87 rfl ?_
          refine z_iadd dX10_told_88 ?_
          refine z_istore (i := 5) (fun y => [(5, .int y), (4, .int x4_68), (3, .int x3_47), (6, .int (nI i)), (2, .int (rCost (rRun μ n Q))), (0, .ref 66), (1, .int v)]) dX10_told_89 rfl (fun _ => rfl) (fun x5_89 ex5_89 => ?_)
          refine z_iinc (fun y => [(6, .int y), (5, .int x5_89), (4, .int x4_68), (3, .int x3_47), (2, .int (rCost (rRun μ n Q))), (0, .ref 66), (1, .int v)]) dX10_told_91 rfl rfl (fun _ => rfl) (fun x6_91 ex6_91 => ?_)
          obtain rfl : x6_91 = nI (i + 1) := by rw [ex6_91]; exact nI_1 i
          refine z_goto 16 dX10_told_94 (by decide) ?_
          simp only [rLast, rHow, if_pos h33, if_pos h59, if_neg h80] at H
          subst ex3_47 ex4_68 ex5_89
          exact H
        · skip
          refine z_iconst (v := 1) dX10_told_83 rfl ?_
          refine z_goto 88 dX10_told_84 (by decide) ?_
          refine z_iadd dX10_told_88 ?_
          refine z_istore (i := 5) (fun y => [(5, .int y), (4, .int x4_68), (3, .int x3_47), (6, .int (nI i)), (2, .int (rCost (rRun μ n Q))), (0, .ref 66), (1, .int v)]) dX10_told_89 rfl (fun _ => rfl) (fun x5_89 ex5_89 => ?_)
          refine z_iinc (fun y => [(6, .int y), (5, .int x5_89), (4, .int x4_68), (3, .int x3_47), (2, .int (rCost (rRun μ n Q))), (0, .ref 66), (1, .int v)]) dX10_told_91 rfl rfl (fun _ => rfl) (fun x6_91 ex6_91 => ?_)
          obtain rfl : x6_91 = nI (i + 1) := by rw [ex6_91]; exact nI_1 i
          refine z_goto 16 dX10_told_94 (by decide) ?_
          simp only [rLast, rHow, if_pos h33, if_pos h59, if_pos h80] at H
          subst ex3_47 ex4_68 ex5_89
          exact H
    · skip
      refine z_aload_n dX10_told_36 rfl ?_
      refine m_getr dX10_told_37 fX10_54 sh66 rfl ?_
      refine z_iload dX10_told_40 rfl ?_
      refine m_ialdN (j := i) dX10_told_42 sh80 rfl (by omega) rfl ?_
      refine z_goto 47 dX10_told_43 (by decide) ?_
      refine z_istore_n (i := 3) (fun y => [(3, .int y), (6, .int (nI i)), (5, .int (rHow (rRun μ n Q) 5 i)), (4, .int (rHow (rRun μ n Q) 6 i)), (2, .int (rCost (rRun μ n Q))), (0, .ref 66), (1, .int v)]) dX10_told_47 rfl rfl (fun _ => rfl) (fun x3_47 ex3_47 => ?_)
      refine z_iload dX10_told_48 rfl ?_
      refine z_aload_n dX10_told_50 rfl ?_
      refine m_getr dX10_told_51 fX10_48 sh66 rfl ?_
      refine z_iload dX10_told_54 rfl ?_
      refine m_ialdN (j := i) dX10_told_56 sh78 rfl (by omega) rfl ?_
      refine z_bipush (v := 6) dX10_told_57 rfl ?_
      refine z_icmp_ne 66 dX10_told_59 (by decide) (fun h59 => ?_) (fun h59 => ?_)
      · skip
        refine z_iconst (v := 0) dX10_told_66 rfl ?_
        refine z_iadd dX10_told_67 ?_
        refine z_istore (i := 4) (fun y => [(4, .int y), (3, .int x3_47), (6, .int (nI i)), (5, .int (rHow (rRun μ n Q) 5 i)), (2, .int (rCost (rRun μ n Q))), (0, .ref 66), (1, .int v)]) dX10_told_68 rfl (fun _ => rfl) (fun x4_68 ex4_68 => ?_)
        refine z_iload dX10_told_70 rfl ?_
        refine z_aload_n dX10_told_72 rfl ?_
        refine m_getr dX10_told_73 fX10_48 sh66 rfl ?_
        refine z_iload dX10_told_76 rfl ?_
        refine m_ialdN (j := i) dX10_told_78 sh78 rfl (by omega) rfl ?_
        refine z_iconst (v := 5) dX10_told_79 rfl ?_
        refine z_icmp_ne 87 dX10_told_80 (by decide) (fun h80 => ?_) (fun h80 => ?_)
        · skip
          refine z_iconst (v := 0) dX10_told_87 rfl ?_
          refine z_iadd dX10_told_88 ?_
          refine z_istore (i := 5) (fun y => [(5, .int y), (4, .int x4_68), (3, .int x3_47), (6, .int (nI i)), (2, .int (rCost (rRun μ n Q))), (0, .ref 66), (1, .int v)]) dX10_told_89 rfl (fun _ => rfl) (fun x5_89 ex5_89 => ?_)
          refine z_iinc (fun y => [(6, .int y), (5, .int x5_89), (4, .int x4_68), (3, .int x3_47), (2, .int (rCost (rRun μ n Q))), (0, .ref 66), (1, .int v)]) dX10_told_91 rfl rfl (fun _ => rfl) (fun x6_91 ex6_91 => ?_)
          obtain rfl : x6_91 = nI (i + 1) := by rw [ex6_91]; exact nI_1 i
          refine z_goto 16 dX10_told_94 (by decide) ?_
          simp only [rLast, rHow, if_neg h33, if_neg h59, if_neg h80] at H
          subst ex3_47 ex4_68 ex5_89
          exact H
        · skip
          refine z_iconst (v := 1) dX10_told_83 rfl ?_
          refine z_goto 88 dX10_told_84 (by decide) ?_
          refine z_iadd dX10_told_88 ?_
          refine z_istore (i := 5) (fun y => [(5, .int y), (4, .int x4_68), (3, .int x3_47), (6, .int (nI i)), (2, .int (rCost (rRun μ n Q))), (0, .ref 66), (1, .int v)]) dX10_told_89 rfl (fun _ => rfl) (fun x5_89 ex5_89 => ?_)
          refine z_iinc (fun y => [(6, .int y), (5, .int x5_89), (4, .int x4_68), (3, .int x3_47), (2, .int (rCost (rRun μ n Q))), (0, .ref 66), (1, .int v)]) dX10_told_91 rfl rfl (fun _ => rfl) (fun x6_91 ex6_91 => ?_)
          obtain rfl : x6_91 = nI (i + 1) := by rw [ex6_91]; exact nI_1 i
          refine z_goto 16 dX10_told_94 (by decide) ?_
          simp only [rLast, rHow, if_neg h33, if_neg h59, if_pos h80] at H
          subst ex3_47 ex4_68 ex5_89
          exact H
      · skip
        refine z_iconst (v := 1) dX10_told_62 rfl ?_
        refine z_goto 67 dX10_told_63 (by decide) ?_
        refine z_iadd dX10_told_67 ?_
        refine z_istore (i := 4) (fun y => [(4, .int y), (3, .int x3_47), (6, .int (nI i)), (5, .int (rHow (rRun μ n Q) 5 i)), (2, .int (rCost (rRun μ n Q))), (0, .ref 66), (1, .int v)]) dX10_told_68 rfl (fun _ => rfl) (fun x4_68 ex4_68 => ?_)
        refine z_iload dX10_told_70 rfl ?_
        refine z_aload_n dX10_told_72 rfl ?_
        refine m_getr dX10_told_73 fX10_48 sh66 rfl ?_
        refine z_iload dX10_told_76 rfl ?_
        refine m_ialdN (j := i) dX10_told_78 sh78 rfl (by omega) rfl ?_
        refine z_iconst (v := 5) dX10_told_79 rfl ?_
        refine z_icmp_ne 87 dX10_told_80 (by decide) (fun h80 => ?_) (fun h80 => ?_)
        · skip
          refine z_iconst (v := 0) dX10_told_87 rfl ?_
          refine z_iadd dX10_told_88 ?_
          refine z_istore (i := 5) (fun y => [(5, .int y), (4, .int x4_68), (3, .int x3_47), (6, .int (nI i)), (2, .int (rCost (rRun μ n Q))), (0, .ref 66), (1, .int v)]) dX10_told_89 rfl (fun _ => rfl) (fun x5_89 ex5_89 => ?_)
          refine z_iinc (fun y => [(6, .int y), (5, .int x5_89), (4, .int x4_68), (3, .int x3_47), (2, .int (rCost (rRun μ n Q))), (0, .ref 66), (1, .int v)]) dX10_told_91 rfl rfl (fun _ => rfl) (fun x6_91 ex6_91 => ?_)
          obtain rfl : x6_91 = nI (i + 1) := by rw [ex6_91]; exact nI_1 i
          refine z_goto 16 dX10_told_94 (by decide) ?_
          simp only [rLast, rHow, if_neg h33, if_pos h59, if_neg h80] at H
          subst ex3_47 ex4_68 ex5_89
          exact H
        · skip
          refine z_iconst (v := 1) dX10_told_83 rfl ?_
          refine z_goto 88 dX10_told_84 (by decide) ?_
          refine z_iadd dX10_told_88 ?_
          refine z_istore (i := 5) (fun y => [(5, .int y), (4, .int x4_68), (3, .int x3_47), (6, .int (nI i)), (2, .int (rCost (rRun μ n Q))), (0, .ref 66), (1, .int v)]) dX10_told_89 rfl (fun _ => rfl) (fun x5_89 ex5_89 => ?_)
          refine z_iinc (fun y => [(6, .int y), (5, .int x5_89), (4, .int x4_68), (3, .int x3_47), (2, .int (rCost (rRun μ n Q))), (0, .ref 66), (1, .int v)]) dX10_told_91 rfl rfl (fun _ => rfl) (fun x6_91 ex6_91 => ?_)
          obtain rfl : x6_91 = nI (i + 1) := by rw [ex6_91]; exact nI_1 i
          refine z_goto 16 dX10_told_94 (by decide) ?_
          simp only [rLast, rHow, if_neg h33, if_pos h59, if_pos h80] at H
          subst ex3_47 ex4_68 ex5_89
          exact H) (by
    refine z_iload dX10_told_16 rfl ?_
    refine z_aload_n dX10_told_18 rfl ?_
    refine m_geti dX10_told_19 fX10_105 sh66 rfl ?_
    refine z_icmp_ge 97 dX10_told_22 (by decide) (fun h22 => ?_) (fun h22 => absurd (hn1 ▸ nI_le (Nat.le_refl n) (by omega)) h22)
    refine z_iload_n dX10_told_97 rfl ?_
    refine z_tableOut 207 dX10_told_98 (zswO hv rfl rfl) (by decide) ?_
    refine z_ldc dX10_told_207 cX10_112 ?_
    refine m_iret dX10_told_209 rfl rfl ?_
    exact ⟨rfl, rfl, rfl⟩)
  refine z_aload_n dX10_told_0 rfl ?_
  refine m_callV (As := []) dX10_told_1 kX10_223 ⟨rfl, rfl⟩ rfl ⟨rfl, rfl⟩ rfl rfl sh66 rfl rfl (c_costNow hn h6 hQ hsd) (fun r1 μ1 ν1 hk1 => ?_)
  obtain ⟨rfl, rfl, rfl⟩ := hk1
  refine z_istore_n (i := 2) (fun y => [(2, .int y), (0, .ref 66), (1, .int v)]) dX10_told_4 rfl rfl (fun _ => rfl) (fun x9 e9 => ?_)
  subst e9
  refine z_iconst (v := 0) dX10_told_5 rfl ?_
  refine z_istore_n (i := 3) (fun y => [(3, .int y), (2, .int (rCost (rRun μ n Q))), (0, .ref 66), (1, .int v)]) dX10_told_6 rfl rfl (fun _ => rfl) (fun x9 e9 => ?_)
  subst e9
  refine z_iconst (v := 0) dX10_told_7 rfl ?_
  refine z_istore (i := 4) (fun y => [(4, .int y), (3, .int 0), (2, .int (rCost (rRun μ n Q))), (0, .ref 66), (1, .int v)]) dX10_told_8 rfl (fun _ => rfl) (fun x9 e9 => ?_)
  subst e9
  refine z_iconst (v := 0) dX10_told_10 rfl ?_
  refine z_istore (i := 5) (fun y => [(5, .int y), (4, .int 0), (3, .int 0), (2, .int (rCost (rRun μ n Q))), (0, .ref 66), (1, .int v)]) dX10_told_11 rfl (fun _ => rfl) (fun x9 e9 => ?_)
  subst e9
  refine z_iconst (v := 0) dX10_told_13 rfl ?_
  refine z_istore (i := 6) (fun y => [(6, .int y), (5, .int 0), (4, .int 0), (3, .int 0), (2, .int (rCost (rRun μ n Q))), (0, .ref 66), (1, .int v)]) dX10_told_14 rfl (fun _ => rfl) (fun x9 e9 => ?_)
  subst e9
  exact hL 0 (Nat.zero_le n)
set_option maxRecDepth 100000 in
set_option maxHeartbeats 400000 in
theorem d_leaf_w {l : Launch} {G : zG} {μ : Mem} {ν : Lng} {w : Int32} (hw : w < 0 ∨ 1 < w) {v : Int32}  : Cm l G mX10_leaf [.ref 66, .int w, .int v] μ ν (fun a9 b9 c9 => (-1000000001) = a9 ∧ μ = b9 ∧ ν = c9) := by
  refine Con.of (by decide) (Nat.le_of_ble_eq_true rfl) ?_
  show Am l G mX10_leaf 0 [(0, .ref 66), (1, .int w), (2, .int v)] [] μ ν _
  refine z_iload_n dX10_leaf_0 rfl ?_
  refine z_iconst (v := 0) dX10_leaf_1 rfl ?_
  refine z_iconst (v := 1) dX10_leaf_2 rfl ?_
  refine m_callS (As := [.int _, .int _, .int _]) dX10_leaf_3 kX10_108 ⟨rfl, rfl⟩ rfl ⟨rfl, rfl⟩ rfl rfl rfl (c_inF hw) (fun r3 μ3 ν3 hk3 => ?_)
  obtain ⟨rfl, rfl, rfl⟩ := hk3
  refine z_if_ne 12 dX10_leaf_6 (by decide) (fun h6 => absurd (by decide) h6) (fun h6 => ?_)
  refine z_ldc dX10_leaf_9 cX10_227 ?_
  refine m_iret dX10_leaf_11 rfl rfl ?_
  exact ⟨rfl, rfl, rfl⟩
set_option maxRecDepth 100000 in
set_option maxHeartbeats 400000 in
theorem d_leaf_0 {l : Launch} {G : zG} {μ : Mem} {ν : Lng} {n : Nat} (hn : μ 66 17 = nI n) (hz6 : n ≤ 6) {Q : Nat → Nat} (hQ : zOrd (μ 75) n Q) (hsd : zSidesM μ n) {j : Nat} (hj : j ≤ 1)  : Cm l G mX10_leaf [.ref 66, .int (nI j), .int 0] μ ν (fun a9 b9 c9 => rRun μ n Q 70 (2 * j) = a9 ∧ rRun μ n Q = b9 ∧ ν = c9) := by
  refine Con.of (by decide) (Nat.le_of_ble_eq_true rfl) ?_
  show Am l G mX10_leaf 0 [(0, .ref 66), (1, .int (nI j)), (2, .int 0)] [] μ ν _
  refine z_iload_n dX10_leaf_0 rfl ?_
  refine z_iconst (v := 0) dX10_leaf_1 rfl ?_
  refine z_iconst (v := 1) dX10_leaf_2 rfl ?_
  refine m_callS (As := [.int _, .int _, .int _]) dX10_leaf_3 kX10_108 ⟨rfl, rfl⟩ rfl ⟨rfl, rfl⟩ rfl rfl rfl (c_inT (v := j) (lo := 0) (hi := 1) (Nat.zero_le j) hj (by decide)) (fun r3 μ3 ν3 hk3 => ?_)
  obtain ⟨rfl, rfl, rfl⟩ := hk3
  refine z_if_ne 12 dX10_leaf_6 (by decide) (fun h6 => ?_) (fun h6 => absurd h6 (by decide))
  refine z_aload_n dX10_leaf_12 rfl ?_
  refine m_callV (As := []) dX10_leaf_13 kX10_223 ⟨rfl, rfl⟩ rfl ⟨rfl, rfl⟩ rfl rfl sh66 rfl rfl (c_costNow hn hz6 hQ hsd) (fun r13 μ13 ν13 hk13 => ?_)
  obtain ⟨rfl, rfl, rfl⟩ := hk13
  refine z_pop dX10_leaf_16 rfl ?_
  refine z_iload_n dX10_leaf_17 rfl ?_
  refine z_tableIn 48 dX10_leaf_18 (by decide) (by decide) rfl (by decide) ?_
  refine z_aload_n dX10_leaf_48 rfl ?_
  refine m_getr dX10_leaf_49 fX10_23 sh66 rfl ?_
  refine z_iconst (v := 2) dX10_leaf_52 rfl ?_
  refine z_iload_n dX10_leaf_53 rfl ?_
  refine z_imul dX10_leaf_54 ?_
  rw [show (2 * nI j) = nI (2 * j) from z2n j]
  refine m_ialdN (j := (2 * j)) dX10_leaf_55 sh70 rfl (by omega) rfl ?_
  refine m_iret dX10_leaf_56 rfl rfl ?_
  exact ⟨rfl, rfl, rfl⟩
set_option maxRecDepth 100000 in
set_option maxHeartbeats 400000 in
theorem d_leaf_1 {l : Launch} {G : zG} {μ : Mem} {ν : Lng} {n : Nat} (hn : μ 66 17 = nI n) (hz6 : n ≤ 6) {Q : Nat → Nat} (hQ : zOrd (μ 75) n Q) (hsd : zSidesM μ n) {j : Nat} (hj : j ≤ 1)  : Cm l G mX10_leaf [.ref 66, .int (nI j), .int 1] μ ν (fun a9 b9 c9 => rRun μ n Q 70 (2 * j + 1) = a9 ∧ rRun μ n Q = b9 ∧ ν = c9) := by
  refine Con.of (by decide) (Nat.le_of_ble_eq_true rfl) ?_
  show Am l G mX10_leaf 0 [(0, .ref 66), (1, .int (nI j)), (2, .int 1)] [] μ ν _
  refine z_iload_n dX10_leaf_0 rfl ?_
  refine z_iconst (v := 0) dX10_leaf_1 rfl ?_
  refine z_iconst (v := 1) dX10_leaf_2 rfl ?_
  refine m_callS (As := [.int _, .int _, .int _]) dX10_leaf_3 kX10_108 ⟨rfl, rfl⟩ rfl ⟨rfl, rfl⟩ rfl rfl rfl (c_inT (v := j) (lo := 0) (hi := 1) (Nat.zero_le j) hj (by decide)) (fun r3 μ3 ν3 hk3 => ?_)
  obtain ⟨rfl, rfl, rfl⟩ := hk3
  refine z_if_ne 12 dX10_leaf_6 (by decide) (fun h6 => ?_) (fun h6 => absurd h6 (by decide))
  refine z_aload_n dX10_leaf_12 rfl ?_
  refine m_callV (As := []) dX10_leaf_13 kX10_223 ⟨rfl, rfl⟩ rfl ⟨rfl, rfl⟩ rfl rfl sh66 rfl rfl (c_costNow hn hz6 hQ hsd) (fun r13 μ13 ν13 hk13 => ?_)
  obtain ⟨rfl, rfl, rfl⟩ := hk13
  refine z_pop dX10_leaf_16 rfl ?_
  refine z_iload_n dX10_leaf_17 rfl ?_
  refine z_tableIn 57 dX10_leaf_18 (by decide) (by decide) rfl (by decide) ?_
  refine z_aload_n dX10_leaf_57 rfl ?_
  refine m_getr dX10_leaf_58 fX10_23 sh66 rfl ?_
  refine z_iconst (v := 2) dX10_leaf_61 rfl ?_
  refine z_iload_n dX10_leaf_62 rfl ?_
  refine z_imul dX10_leaf_63 ?_
  rw [show (2 * nI j) = nI (2 * j) from z2n j]
  refine z_iconst (v := 1) dX10_leaf_64 rfl ?_
  refine z_iadd dX10_leaf_65 ?_
  rw [show (nI (2 * j) + 1) = nI (2 * j + 1) from nI_1 (2 * j)]
  refine m_ialdN (j := (2 * j + 1)) dX10_leaf_66 sh70 rfl (by omega) rfl ?_
  refine m_iret dX10_leaf_67 rfl rfl ?_
  exact ⟨rfl, rfl, rfl⟩
set_option maxRecDepth 100000 in
set_option maxHeartbeats 400000 in
theorem d_leaf_2 {l : Launch} {G : zG} {μ : Mem} {ν : Lng} {n : Nat} (hn : μ 66 17 = nI n) (hz6 : n ≤ 6) {Q : Nat → Nat} (hQ : zOrd (μ 75) n Q) (hsd : zSidesM μ n) {j : Nat} (hj : j ≤ 1)  : Cm l G mX10_leaf [.ref 66, .int (nI j), .int 2] μ ν (fun a9 b9 c9 => rRun μ n Q 88 j = a9 ∧ rRun μ n Q = b9 ∧ ν = c9) := by
  refine Con.of (by decide) (Nat.le_of_ble_eq_true rfl) ?_
  show Am l G mX10_leaf 0 [(0, .ref 66), (1, .int (nI j)), (2, .int 2)] [] μ ν _
  refine z_iload_n dX10_leaf_0 rfl ?_
  refine z_iconst (v := 0) dX10_leaf_1 rfl ?_
  refine z_iconst (v := 1) dX10_leaf_2 rfl ?_
  refine m_callS (As := [.int _, .int _, .int _]) dX10_leaf_3 kX10_108 ⟨rfl, rfl⟩ rfl ⟨rfl, rfl⟩ rfl rfl rfl (c_inT (v := j) (lo := 0) (hi := 1) (Nat.zero_le j) hj (by decide)) (fun r3 μ3 ν3 hk3 => ?_)
  obtain ⟨rfl, rfl, rfl⟩ := hk3
  refine z_if_ne 12 dX10_leaf_6 (by decide) (fun h6 => ?_) (fun h6 => absurd h6 (by decide))
  refine z_aload_n dX10_leaf_12 rfl ?_
  refine m_callV (As := []) dX10_leaf_13 kX10_223 ⟨rfl, rfl⟩ rfl ⟨rfl, rfl⟩ rfl rfl sh66 rfl rfl (c_costNow hn hz6 hQ hsd) (fun r13 μ13 ν13 hk13 => ?_)
  obtain ⟨rfl, rfl, rfl⟩ := hk13
  refine z_pop dX10_leaf_16 rfl ?_
  refine z_iload_n dX10_leaf_17 rfl ?_
  refine z_tableIn 68 dX10_leaf_18 (by decide) (by decide) rfl (by decide) ?_
  refine z_aload_n dX10_leaf_68 rfl ?_
  refine m_getr dX10_leaf_69 fX10_78 sh66 rfl ?_
  refine z_iload_n dX10_leaf_72 rfl ?_
  refine m_ialdN (j := j) dX10_leaf_73 sh88 rfl (by omega) rfl ?_
  refine m_iret dX10_leaf_74 rfl rfl ?_
  exact ⟨rfl, rfl, rfl⟩
set_option maxRecDepth 100000 in
set_option maxHeartbeats 400000 in
theorem d_leaf_3 {l : Launch} {G : zG} {μ : Mem} {ν : Lng} {n : Nat} (hn : μ 66 17 = nI n) (hz6 : n ≤ 6) {Q : Nat → Nat} (hQ : zOrd (μ 75) n Q) (hsd : zSidesM μ n) {j : Nat} (hj : j ≤ 1)  : Cm l G mX10_leaf [.ref 66, .int (nI j), .int 3] μ ν (fun a9 b9 c9 => rRun μ n Q 89 j = a9 ∧ rRun μ n Q = b9 ∧ ν = c9) := by
  refine Con.of (by decide) (Nat.le_of_ble_eq_true rfl) ?_
  show Am l G mX10_leaf 0 [(0, .ref 66), (1, .int (nI j)), (2, .int 3)] [] μ ν _
  refine z_iload_n dX10_leaf_0 rfl ?_
  refine z_iconst (v := 0) dX10_leaf_1 rfl ?_
  refine z_iconst (v := 1) dX10_leaf_2 rfl ?_
  refine m_callS (As := [.int _, .int _, .int _]) dX10_leaf_3 kX10_108 ⟨rfl, rfl⟩ rfl ⟨rfl, rfl⟩ rfl rfl rfl (c_inT (v := j) (lo := 0) (hi := 1) (Nat.zero_le j) hj (by decide)) (fun r3 μ3 ν3 hk3 => ?_)
  obtain ⟨rfl, rfl, rfl⟩ := hk3
  refine z_if_ne 12 dX10_leaf_6 (by decide) (fun h6 => ?_) (fun h6 => absurd h6 (by decide))
  refine z_aload_n dX10_leaf_12 rfl ?_
  refine m_callV (As := []) dX10_leaf_13 kX10_223 ⟨rfl, rfl⟩ rfl ⟨rfl, rfl⟩ rfl rfl sh66 rfl rfl (c_costNow hn hz6 hQ hsd) (fun r13 μ13 ν13 hk13 => ?_)
  obtain ⟨rfl, rfl, rfl⟩ := hk13
  refine z_pop dX10_leaf_16 rfl ?_
  refine z_iload_n dX10_leaf_17 rfl ?_
  refine z_tableIn 75 dX10_leaf_18 (by decide) (by decide) rfl (by decide) ?_
  refine z_aload_n dX10_leaf_75 rfl ?_
  refine m_getr dX10_leaf_76 fX10_81 sh66 rfl ?_
  refine z_iload_n dX10_leaf_79 rfl ?_
  refine m_ialdN (j := j) dX10_leaf_80 sh89 rfl (by omega) rfl ?_
  refine m_iret dX10_leaf_81 rfl rfl ?_
  exact ⟨rfl, rfl, rfl⟩
set_option maxRecDepth 100000 in
set_option maxHeartbeats 400000 in
theorem d_leaf_o {l : Launch} {G : zG} {μ : Mem} {ν : Lng} {n : Nat} (hn : μ 66 17 = nI n) (hz6 : n ≤ 6) {Q : Nat → Nat} (hQ : zOrd (μ 75) n Q) (hsd : zSidesM μ n) {j : Nat} (hj : j ≤ 1) {v : Int32} (hv : v < 0 ∨ 3 < v)  : Cm l G mX10_leaf [.ref 66, .int (nI j), .int v] μ ν (fun a9 b9 c9 => (-1000000002) = a9 ∧ rRun μ n Q = b9 ∧ ν = c9) := by
  refine Con.of (by decide) (Nat.le_of_ble_eq_true rfl) ?_
  show Am l G mX10_leaf 0 [(0, .ref 66), (1, .int (nI j)), (2, .int v)] [] μ ν _
  refine z_iload_n dX10_leaf_0 rfl ?_
  refine z_iconst (v := 0) dX10_leaf_1 rfl ?_
  refine z_iconst (v := 1) dX10_leaf_2 rfl ?_
  refine m_callS (As := [.int _, .int _, .int _]) dX10_leaf_3 kX10_108 ⟨rfl, rfl⟩ rfl ⟨rfl, rfl⟩ rfl rfl rfl (c_inT (v := j) (lo := 0) (hi := 1) (Nat.zero_le j) hj (by decide)) (fun r3 μ3 ν3 hk3 => ?_)
  obtain ⟨rfl, rfl, rfl⟩ := hk3
  refine z_if_ne 12 dX10_leaf_6 (by decide) (fun h6 => ?_) (fun h6 => absurd h6 (by decide))
  refine z_aload_n dX10_leaf_12 rfl ?_
  refine m_callV (As := []) dX10_leaf_13 kX10_223 ⟨rfl, rfl⟩ rfl ⟨rfl, rfl⟩ rfl rfl sh66 rfl rfl (c_costNow hn hz6 hQ hsd) (fun r13 μ13 ν13 hk13 => ?_)
  obtain ⟨rfl, rfl, rfl⟩ := hk13
  refine z_pop dX10_leaf_16 rfl ?_
  refine z_iload_n dX10_leaf_17 rfl ?_
  refine z_tableOut 82 dX10_leaf_18 (zswO hv rfl rfl) (by decide) ?_
  refine z_ldc dX10_leaf_82 cX10_112 ?_
  refine m_iret dX10_leaf_84 rfl rfl ?_
  exact ⟨rfl, rfl, rfl⟩
set_option maxRecDepth 100000 in
set_option maxHeartbeats 400000 in
theorem d_waiter_w {l : Launch} {G : zG} {μ : Mem} {ν : Lng} {n : Nat} (hn : μ 66 17 = nI n) (h6 : n ≤ 6) {w : Int32} (hw : w < 0 ∨ nI n ≤ w) {v : Int32}  : Cm l G mX10_waiter [.ref 66, .int w, .int v] μ ν (fun a9 b9 c9 => (-1000000001) = a9 ∧ μ = b9 ∧ ν = c9) := by
  refine Con.of (by decide) (Nat.le_of_ble_eq_true rfl) ?_
  show Am l G mX10_waiter 0 [(0, .ref 66), (1, .int w), (2, .int v)] [] μ ν _
  refine z_aload_n dX10_waiter_0 rfl ?_
  refine z_iload_n dX10_waiter_1 rfl ?_
  refine m_callV (As := [.int _]) dX10_waiter_2 kX10_228 ⟨rfl, rfl⟩ rfl ⟨rfl, rfl⟩ rfl rfl sh66 rfl rfl (c_isOneF hn h6 hw) (fun r2 μ2 ν2 hk2 => ?_)
  obtain ⟨rfl, rfl, rfl⟩ := hk2
  refine z_if_ne 11 dX10_waiter_5 (by decide) (fun h5 => absurd (by decide) h5) (fun h5 => ?_)
  refine z_ldc dX10_waiter_8 cX10_227 ?_
  refine m_iret dX10_waiter_10 rfl rfl ?_
  exact ⟨rfl, rfl, rfl⟩
set_option maxRecDepth 100000 in
set_option maxHeartbeats 400000 in
theorem d_waiter_0 {l : Launch} {G : zG} {μ : Mem} {ν : Lng} {n : Nat} (hn : μ 66 17 = nI n) (h6 : n ≤ 6) {j : Nat} (hj : j < n)  : Cm l G mX10_waiter [.ref 66, .int (nI j), .int 0] μ ν (fun a9 b9 c9 => μ 71 j = a9 ∧ μ = b9 ∧ ν = c9) := by
  refine Con.of (by decide) (Nat.le_of_ble_eq_true rfl) ?_
  show Am l G mX10_waiter 0 [(0, .ref 66), (1, .int (nI j)), (2, .int 0)] [] μ ν _
  refine z_aload_n dX10_waiter_0 rfl ?_
  refine z_iload_n dX10_waiter_1 rfl ?_
  refine m_callV (As := [.int _]) dX10_waiter_2 kX10_228 ⟨rfl, rfl⟩ rfl ⟨rfl, rfl⟩ rfl rfl sh66 rfl rfl (c_isOneT hn h6 hj) (fun r2 μ2 ν2 hk2 => ?_)
  obtain ⟨rfl, rfl, rfl⟩ := hk2
  refine z_if_ne 11 dX10_waiter_5 (by decide) (fun h5 => ?_) (fun h5 => absurd h5 (by decide))
  refine z_iload_n dX10_waiter_11 rfl ?_
  refine z_tableIn 56 dX10_waiter_12 (by decide) (by decide) rfl (by decide) ?_
  refine z_aload_n dX10_waiter_56 rfl ?_
  refine m_getr dX10_waiter_57 fX10_26 sh66 rfl ?_
  refine z_iload_n dX10_waiter_60 rfl ?_
  refine m_ialdN (j := j) dX10_waiter_61 sh71 rfl (by omega) rfl ?_
  refine m_iret dX10_waiter_62 rfl rfl ?_
  exact ⟨rfl, rfl, rfl⟩
set_option maxRecDepth 100000 in
set_option maxHeartbeats 400000 in
theorem d_waiter_1 {l : Launch} {G : zG} {μ : Mem} {ν : Lng} {n : Nat} (hn : μ 66 17 = nI n) (h6 : n ≤ 6) {j : Nat} (hj : j < n)  : Cm l G mX10_waiter [.ref 66, .int (nI j), .int 1] μ ν (fun a9 b9 c9 => μ 75 j = a9 ∧ μ = b9 ∧ ν = c9) := by
  refine Con.of (by decide) (Nat.le_of_ble_eq_true rfl) ?_
  show Am l G mX10_waiter 0 [(0, .ref 66), (1, .int (nI j)), (2, .int 1)] [] μ ν _
  refine z_aload_n dX10_waiter_0 rfl ?_
  refine z_iload_n dX10_waiter_1 rfl ?_
  refine m_callV (As := [.int _]) dX10_waiter_2 kX10_228 ⟨rfl, rfl⟩ rfl ⟨rfl, rfl⟩ rfl rfl sh66 rfl rfl (c_isOneT hn h6 hj) (fun r2 μ2 ν2 hk2 => ?_)
  obtain ⟨rfl, rfl, rfl⟩ := hk2
  refine z_if_ne 11 dX10_waiter_5 (by decide) (fun h5 => ?_) (fun h5 => absurd h5 (by decide))
  refine z_iload_n dX10_waiter_11 rfl ?_
  refine z_tableIn 63 dX10_waiter_12 (by decide) (by decide) rfl (by decide) ?_
  refine z_aload_n dX10_waiter_63 rfl ?_
  refine m_getr dX10_waiter_64 fX10_38 sh66 rfl ?_
  refine z_iload_n dX10_waiter_67 rfl ?_
  refine m_ialdN (j := j) dX10_waiter_68 sh75 rfl (by omega) rfl ?_
  refine m_iret dX10_waiter_69 rfl rfl ?_
  exact ⟨rfl, rfl, rfl⟩
set_option maxRecDepth 100000 in
set_option maxHeartbeats 400000 in
theorem d_waiter_2 {l : Launch} {G : zG} {μ : Mem} {ν : Lng} {n : Nat} (hn : μ 66 17 = nI n) (h6 : n ≤ 6) {j : Nat} (hj : j < n)  : Cm l G mX10_waiter [.ref 66, .int (nI j), .int 2] μ ν (fun a9 b9 c9 => μ 72 j = a9 ∧ μ = b9 ∧ ν = c9) := by
  refine Con.of (by decide) (Nat.le_of_ble_eq_true rfl) ?_
  show Am l G mX10_waiter 0 [(0, .ref 66), (1, .int (nI j)), (2, .int 2)] [] μ ν _
  refine z_aload_n dX10_waiter_0 rfl ?_
  refine z_iload_n dX10_waiter_1 rfl ?_
  refine m_callV (As := [.int _]) dX10_waiter_2 kX10_228 ⟨rfl, rfl⟩ rfl ⟨rfl, rfl⟩ rfl rfl sh66 rfl rfl (c_isOneT hn h6 hj) (fun r2 μ2 ν2 hk2 => ?_)
  obtain ⟨rfl, rfl, rfl⟩ := hk2
  refine z_if_ne 11 dX10_waiter_5 (by decide) (fun h5 => ?_) (fun h5 => absurd h5 (by decide))
  refine z_iload_n dX10_waiter_11 rfl ?_
  refine z_tableIn 70 dX10_waiter_12 (by decide) (by decide) rfl (by decide) ?_
  refine z_aload_n dX10_waiter_70 rfl ?_
  refine m_getr dX10_waiter_71 fX10_29 sh66 rfl ?_
  refine z_iload_n dX10_waiter_74 rfl ?_
  refine m_ialdN (j := j) dX10_waiter_75 sh72 rfl (by omega) rfl ?_
  refine m_iret dX10_waiter_76 rfl rfl ?_
  exact ⟨rfl, rfl, rfl⟩
set_option maxRecDepth 100000 in
set_option maxHeartbeats 400000 in
theorem d_waiter_3 {l : Launch} {G : zG} {μ : Mem} {ν : Lng} {n : Nat} (hn : μ 66 17 = nI n) (h6 : n ≤ 6) {j : Nat} (hj : j < n)  : Cm l G mX10_waiter [.ref 66, .int (nI j), .int 3] μ ν (fun a9 b9 c9 => μ 73 j = a9 ∧ μ = b9 ∧ ν = c9) := by
  refine Con.of (by decide) (Nat.le_of_ble_eq_true rfl) ?_
  show Am l G mX10_waiter 0 [(0, .ref 66), (1, .int (nI j)), (2, .int 3)] [] μ ν _
  refine z_aload_n dX10_waiter_0 rfl ?_
  refine z_iload_n dX10_waiter_1 rfl ?_
  refine m_callV (As := [.int _]) dX10_waiter_2 kX10_228 ⟨rfl, rfl⟩ rfl ⟨rfl, rfl⟩ rfl rfl sh66 rfl rfl (c_isOneT hn h6 hj) (fun r2 μ2 ν2 hk2 => ?_)
  obtain ⟨rfl, rfl, rfl⟩ := hk2
  refine z_if_ne 11 dX10_waiter_5 (by decide) (fun h5 => ?_) (fun h5 => absurd h5 (by decide))
  refine z_iload_n dX10_waiter_11 rfl ?_
  refine z_tableIn 77 dX10_waiter_12 (by decide) (by decide) rfl (by decide) ?_
  refine z_aload_n dX10_waiter_77 rfl ?_
  refine m_getr dX10_waiter_78 fX10_32 sh66 rfl ?_
  refine z_iload_n dX10_waiter_81 rfl ?_
  refine m_ialdN (j := j) dX10_waiter_82 sh73 rfl (by omega) rfl ?_
  refine m_iret dX10_waiter_83 rfl rfl ?_
  exact ⟨rfl, rfl, rfl⟩
set_option maxRecDepth 100000 in
set_option maxHeartbeats 400000 in
theorem d_waiter_4 {l : Launch} {G : zG} {μ : Mem} {ν : Lng} {n : Nat} (hn : μ 66 17 = nI n) (h6 : n ≤ 6) {j : Nat} (hj : j < n)  : Cm l G mX10_waiter [.ref 66, .int (nI j), .int 4] μ ν (fun a9 b9 c9 => μ 75 (12 + j) = a9 ∧ μ = b9 ∧ ν = c9) := by
  refine Con.of (by decide) (Nat.le_of_ble_eq_true rfl) ?_
  show Am l G mX10_waiter 0 [(0, .ref 66), (1, .int (nI j)), (2, .int 4)] [] μ ν _
  refine z_aload_n dX10_waiter_0 rfl ?_
  refine z_iload_n dX10_waiter_1 rfl ?_
  refine m_callV (As := [.int _]) dX10_waiter_2 kX10_228 ⟨rfl, rfl⟩ rfl ⟨rfl, rfl⟩ rfl rfl sh66 rfl rfl (c_isOneT hn h6 hj) (fun r2 μ2 ν2 hk2 => ?_)
  obtain ⟨rfl, rfl, rfl⟩ := hk2
  refine z_if_ne 11 dX10_waiter_5 (by decide) (fun h5 => ?_) (fun h5 => absurd h5 (by decide))
  refine z_iload_n dX10_waiter_11 rfl ?_
  refine z_tableIn 84 dX10_waiter_12 (by decide) (by decide) rfl (by decide) ?_
  refine z_aload_n dX10_waiter_84 rfl ?_
  refine m_getr dX10_waiter_85 fX10_38 sh66 rfl ?_
  refine z_bipush (v := 12) dX10_waiter_88 rfl ?_
  refine z_iload_n dX10_waiter_90 rfl ?_
  refine z_iadd dX10_waiter_91 ?_
  rw [show (12 + nI j) = nI (12 + j) from z6a 12 j]
  refine m_ialdN (j := (12 + j)) dX10_waiter_92 sh75 rfl (by omega) rfl ?_
  refine m_iret dX10_waiter_93 rfl rfl ?_
  exact ⟨rfl, rfl, rfl⟩
set_option maxRecDepth 100000 in
set_option maxHeartbeats 400000 in
theorem d_waiter_5 {l : Launch} {G : zG} {μ : Mem} {ν : Lng} {n : Nat} (hn : μ 66 17 = nI n) (h6 : n ≤ 6) {j : Nat} (hj : j < n)  : Cm l G mX10_waiter [.ref 66, .int (nI j), .int 5] μ ν (fun a9 b9 c9 => μ 75 (6 + j) = a9 ∧ μ = b9 ∧ ν = c9) := by
  refine Con.of (by decide) (Nat.le_of_ble_eq_true rfl) ?_
  show Am l G mX10_waiter 0 [(0, .ref 66), (1, .int (nI j)), (2, .int 5)] [] μ ν _
  refine z_aload_n dX10_waiter_0 rfl ?_
  refine z_iload_n dX10_waiter_1 rfl ?_
  refine m_callV (As := [.int _]) dX10_waiter_2 kX10_228 ⟨rfl, rfl⟩ rfl ⟨rfl, rfl⟩ rfl rfl sh66 rfl rfl (c_isOneT hn h6 hj) (fun r2 μ2 ν2 hk2 => ?_)
  obtain ⟨rfl, rfl, rfl⟩ := hk2
  refine z_if_ne 11 dX10_waiter_5 (by decide) (fun h5 => ?_) (fun h5 => absurd h5 (by decide))
  refine z_iload_n dX10_waiter_11 rfl ?_
  refine z_tableIn 94 dX10_waiter_12 (by decide) (by decide) rfl (by decide) ?_
  refine z_aload_n dX10_waiter_94 rfl ?_
  refine m_getr dX10_waiter_95 fX10_38 sh66 rfl ?_
  refine z_bipush (v := 6) dX10_waiter_98 rfl ?_
  refine z_iload_n dX10_waiter_100 rfl ?_
  refine z_iadd dX10_waiter_101 ?_
  rw [show (6 + nI j) = nI (6 + j) from z6a 6 j]
  refine m_ialdN (j := (6 + j)) dX10_waiter_102 sh75 rfl (by omega) rfl ?_
  refine m_iret dX10_waiter_103 rfl rfl ?_
  exact ⟨rfl, rfl, rfl⟩
set_option maxRecDepth 100000 in
set_option maxHeartbeats 400000 in
theorem d_waiter_6 {l : Launch} {G : zG} {μ : Mem} {ν : Lng} {n : Nat} (hn : μ 66 17 = nI n) (h6 : n ≤ 6) {j : Nat} (hj : j < n)  : Cm l G mX10_waiter [.ref 66, .int (nI j), .int 6] μ ν (fun a9 b9 c9 => μ 74 j = a9 ∧ μ = b9 ∧ ν = c9) := by
  refine Con.of (by decide) (Nat.le_of_ble_eq_true rfl) ?_
  show Am l G mX10_waiter 0 [(0, .ref 66), (1, .int (nI j)), (2, .int 6)] [] μ ν _
  refine z_aload_n dX10_waiter_0 rfl ?_
  refine z_iload_n dX10_waiter_1 rfl ?_
  refine m_callV (As := [.int _]) dX10_waiter_2 kX10_228 ⟨rfl, rfl⟩ rfl ⟨rfl, rfl⟩ rfl rfl sh66 rfl rfl (c_isOneT hn h6 hj) (fun r2 μ2 ν2 hk2 => ?_)
  obtain ⟨rfl, rfl, rfl⟩ := hk2
  refine z_if_ne 11 dX10_waiter_5 (by decide) (fun h5 => ?_) (fun h5 => absurd h5 (by decide))
  refine z_iload_n dX10_waiter_11 rfl ?_
  refine z_tableIn 104 dX10_waiter_12 (by decide) (by decide) rfl (by decide) ?_
  refine z_aload_n dX10_waiter_104 rfl ?_
  refine m_getr dX10_waiter_105 fX10_35 sh66 rfl ?_
  refine z_iload_n dX10_waiter_108 rfl ?_
  refine m_ialdN (j := j) dX10_waiter_109 sh74 rfl (by omega) rfl ?_
  refine m_iret dX10_waiter_110 rfl rfl ?_
  exact ⟨rfl, rfl, rfl⟩
set_option maxRecDepth 100000 in
set_option maxHeartbeats 400000 in
theorem d_waiter_o {l : Launch} {G : zG} {μ : Mem} {ν : Lng} {n : Nat} (hn : μ 66 17 = nI n) (h6 : n ≤ 6) {j : Nat} (hj : j < n) {v : Int32} (hv : v < 0 ∨ 6 < v)  : Cm l G mX10_waiter [.ref 66, .int (nI j), .int v] μ ν (fun a9 b9 c9 => (-1000000002) = a9 ∧ μ = b9 ∧ ν = c9) := by
  refine Con.of (by decide) (Nat.le_of_ble_eq_true rfl) ?_
  show Am l G mX10_waiter 0 [(0, .ref 66), (1, .int (nI j)), (2, .int v)] [] μ ν _
  refine z_aload_n dX10_waiter_0 rfl ?_
  refine z_iload_n dX10_waiter_1 rfl ?_
  refine m_callV (As := [.int _]) dX10_waiter_2 kX10_228 ⟨rfl, rfl⟩ rfl ⟨rfl, rfl⟩ rfl rfl sh66 rfl rfl (c_isOneT hn h6 hj) (fun r2 μ2 ν2 hk2 => ?_)
  obtain ⟨rfl, rfl, rfl⟩ := hk2
  refine z_if_ne 11 dX10_waiter_5 (by decide) (fun h5 => ?_) (fun h5 => absurd h5 (by decide))
  refine z_iload_n dX10_waiter_11 rfl ?_
  refine z_tableOut 111 dX10_waiter_12 (zswO hv rfl rfl) (by decide) ?_
  refine z_ldc dX10_waiter_111 cX10_112 ?_
  refine m_iret dX10_waiter_113 rfl rfl ?_
  exact ⟨rfl, rfl, rfl⟩
set_option maxRecDepth 100000 in
set_option maxHeartbeats 400000 in
theorem d_becomes {l : Launch} {G : zG} {μ : Mem} {ν : Lng} {k : Nat} (hk : k < 21) {v : Int32}  : Cm l G mX10_becomes [.ref 66, .int (nI k), .int v] μ ν (fun a9 b9 c9 => μ 75 k = a9 ∧ up2 μ 75 k v = b9 ∧ ν = c9) := by
  refine Con.of (by decide) (Nat.le_of_ble_eq_true rfl) ?_
  show Am l G mX10_becomes 0 [(0, .ref 66), (1, .int (nI k)), (2, .int v)] [] μ ν _
  refine z_aload_n dX10_becomes_0 rfl ?_
  refine m_getr dX10_becomes_1 fX10_38 sh66 rfl ?_
  refine z_iload_n dX10_becomes_4 rfl ?_
  refine m_ialdN (j := k) dX10_becomes_5 sh75 rfl (by omega) rfl ?_
  refine z_istore_n (i := 3) (fun y => [(3, .int y), (0, .ref 66), (1, .int (nI k)), (2, .int v)]) dX10_becomes_6 rfl rfl (fun _ => rfl) (fun x9 e9 => ?_)
  subst e9
  refine z_aload_n dX10_becomes_7 rfl ?_
  refine m_getr dX10_becomes_8 fX10_38 sh66 rfl ?_
  refine z_iload_n dX10_becomes_11 rfl ?_
  refine z_iload_n dX10_becomes_12 rfl ?_
  refine m_iastN (j := k) dX10_becomes_13 sh75 rfl (by omega) rfl ?_
  refine z_iload_n dX10_becomes_14 rfl ?_
  refine m_iret dX10_becomes_15 rfl rfl ?_
  exact ⟨rfl, rfl, rfl⟩
set_option maxRecDepth 100000 in
set_option maxHeartbeats 400000 in
theorem d_come_w {l : Launch} {G : zG} {μ : Mem} {ν : Lng} {n : Nat} (hn : μ 66 17 = nI n) (h6 : n ≤ 6) {w : Int32} (hw : w < 0 ∨ nI n ≤ w) {v : Int32}  : Cm l G mX10_come [.ref 66, .int w, .int v] μ ν (fun a9 b9 c9 => (-1000000001) = a9 ∧ μ = b9 ∧ ν = c9) := by
  refine Con.of (by decide) (Nat.le_of_ble_eq_true rfl) ?_
  show Am l G mX10_come 0 [(0, .ref 66), (1, .int w), (2, .int v)] [] μ ν _
  refine z_aload_n dX10_come_0 rfl ?_
  refine z_iload_n dX10_come_1 rfl ?_
  refine m_callV (As := [.int _]) dX10_come_2 kX10_228 ⟨rfl, rfl⟩ rfl ⟨rfl, rfl⟩ rfl rfl sh66 rfl rfl (c_isOneF hn h6 hw) (fun r2 μ2 ν2 hk2 => ?_)
  obtain ⟨rfl, rfl, rfl⟩ := hk2
  refine z_if_ne 13 dX10_come_5 (by decide) (fun h5 => absurd (by decide) h5) (fun h5 => ?_)
  refine z_ldc dX10_come_8 cX10_227 ?_
  refine z_goto 35 dX10_come_10 (by decide) ?_
  refine m_iret dX10_come_35 rfl rfl ?_
  exact ⟨rfl, rfl, rfl⟩
set_option maxRecDepth 100000 in
set_option maxHeartbeats 400000 in
theorem d_come_o {l : Launch} {G : zG} {μ : Mem} {ν : Lng} {n : Nat} (hn : μ 66 17 = nI n) (h6 : n ≤ 6) {j : Nat} (hj : j < n) {v : Int32} (hv : v < 0 ∨ 999 < v)  : Cm l G mX10_come [.ref 66, .int (nI j), .int v] μ ν (fun a9 b9 c9 => (-1000000002) = a9 ∧ μ = b9 ∧ ν = c9) := by
  refine Con.of (by decide) (Nat.le_of_ble_eq_true rfl) ?_
  show Am l G mX10_come 0 [(0, .ref 66), (1, .int (nI j)), (2, .int v)] [] μ ν _
  refine z_aload_n dX10_come_0 rfl ?_
  refine z_iload_n dX10_come_1 rfl ?_
  refine m_callV (As := [.int _]) dX10_come_2 kX10_228 ⟨rfl, rfl⟩ rfl ⟨rfl, rfl⟩ rfl rfl sh66 rfl rfl (c_isOneT hn h6 hj) (fun r2 μ2 ν2 hk2 => ?_)
  obtain ⟨rfl, rfl, rfl⟩ := hk2
  refine z_if_ne 13 dX10_come_5 (by decide) (fun h5 => ?_) (fun h5 => absurd h5 (by decide))
  refine z_iload_n dX10_come_13 rfl ?_
  refine z_iconst (v := 0) dX10_come_14 rfl ?_
  refine z_sipush (v := 999) dX10_come_15 rfl ?_
  refine m_callS (As := [.int _, .int _, .int _]) dX10_come_18 kX10_108 ⟨rfl, rfl⟩ rfl ⟨rfl, rfl⟩ rfl rfl rfl (c_inF hv) (fun r18 μ18 ν18 hk18 => ?_)
  obtain ⟨rfl, rfl, rfl⟩ := hk18
  refine z_if_eq 33 dX10_come_21 (by decide) (fun h21 => ?_) (fun h21 => absurd (by decide) h21)
  refine z_ldc dX10_come_33 cX10_112 ?_
  refine m_iret dX10_come_35 rfl rfl ?_
  exact ⟨rfl, rfl, rfl⟩
set_option maxRecDepth 100000 in
set_option maxHeartbeats 400000 in
theorem d_come {l : Launch} {G : zG} {μ : Mem} {ν : Lng} {n : Nat} (hn : μ 66 17 = nI n) (h6 : n ≤ 6) {j : Nat} (hj : j < n) {v : Nat} (hv1 : 0 ≤ v) (hv2 : v ≤ 999)  : Cm l G mX10_come [.ref 66, .int (nI j), .int (nI v)] μ ν (fun a9 b9 c9 => μ 75 j = a9 ∧ up2 μ 75 j (nI v) = b9 ∧ ν = c9) := by
  refine Con.of (by decide) (Nat.le_of_ble_eq_true rfl) ?_
  show Am l G mX10_come 0 [(0, .ref 66), (1, .int (nI j)), (2, .int (nI v))] [] μ ν _
  refine z_aload_n dX10_come_0 rfl ?_
  refine z_iload_n dX10_come_1 rfl ?_
  refine m_callV (As := [.int _]) dX10_come_2 kX10_228 ⟨rfl, rfl⟩ rfl ⟨rfl, rfl⟩ rfl rfl sh66 rfl rfl (c_isOneT hn h6 hj) (fun r2 μ2 ν2 hk2 => ?_)
  obtain ⟨rfl, rfl, rfl⟩ := hk2
  refine z_if_ne 13 dX10_come_5 (by decide) (fun h5 => ?_) (fun h5 => absurd h5 (by decide))
  refine z_iload_n dX10_come_13 rfl ?_
  refine z_iconst (v := 0) dX10_come_14 rfl ?_
  refine z_sipush (v := 999) dX10_come_15 rfl ?_
  refine m_callS (As := [.int _, .int _, .int _]) dX10_come_18 kX10_108 ⟨rfl, rfl⟩ rfl ⟨rfl, rfl⟩ rfl rfl rfl (c_inT (v := v) (lo := 0) (hi := 999) hv1 hv2 (by decide)) (fun r18 μ18 ν18 hk18 => ?_)
  obtain ⟨rfl, rfl, rfl⟩ := hk18
  refine z_if_eq 33 dX10_come_21 (by decide) (fun h21 => absurd h21 (by decide)) (fun h21 => ?_)
  refine z_aload_n dX10_come_24 rfl ?_
  refine z_iload_n dX10_come_25 rfl ?_
  refine z_iload_n dX10_come_26 rfl ?_
  refine m_callV (As := [.int _, .int _]) dX10_come_27 kX10_231 ⟨rfl, rfl⟩ rfl ⟨rfl, rfl⟩ rfl rfl sh66 rfl rfl (d_becomes (k := j) (by omega)) (fun r27 μ27 ν27 hk27 => ?_)
  obtain ⟨rfl, rfl, rfl⟩ := hk27
  refine z_goto 35 dX10_come_30 (by decide) ?_
  refine m_iret dX10_come_35 rfl rfl ?_
  exact ⟨rfl, rfl, rfl⟩
set_option maxRecDepth 100000 in
set_option maxHeartbeats 400000 in
theorem d_rule_w {l : Launch} {G : zG} {μ : Mem} {ν : Lng} {n : Nat} (hn : μ 66 17 = nI n) (h6 : n ≤ 6) {w : Int32} (hw : w < 0 ∨ nI n ≤ w) {v : Int32}  : Cm l G mX10_rule [.ref 66, .int w, .int v] μ ν (fun a9 b9 c9 => (-1000000001) = a9 ∧ μ = b9 ∧ ν = c9) := by
  refine Con.of (by decide) (Nat.le_of_ble_eq_true rfl) ?_
  show Am l G mX10_rule 0 [(0, .ref 66), (1, .int w), (2, .int v)] [] μ ν _
  refine z_aload_n dX10_rule_0 rfl ?_
  refine z_iload_n dX10_rule_1 rfl ?_
  refine m_callV (As := [.int _]) dX10_rule_2 kX10_228 ⟨rfl, rfl⟩ rfl ⟨rfl, rfl⟩ rfl rfl sh66 rfl rfl (c_isOneF hn h6 hw) (fun r2 μ2 ν2 hk2 => ?_)
  obtain ⟨rfl, rfl, rfl⟩ := hk2
  refine z_if_ne 13 dX10_rule_5 (by decide) (fun h5 => absurd (by decide) h5) (fun h5 => ?_)
  refine z_ldc dX10_rule_8 cX10_227 ?_
  refine z_goto 36 dX10_rule_10 (by decide) ?_
  refine m_iret dX10_rule_36 rfl rfl ?_
  exact ⟨rfl, rfl, rfl⟩
set_option maxRecDepth 100000 in
set_option maxHeartbeats 400000 in
theorem d_rule_o {l : Launch} {G : zG} {μ : Mem} {ν : Lng} {n : Nat} (hn : μ 66 17 = nI n) (h6 : n ≤ 6) {j : Nat} (hj : j < n) {v : Int32} (hv : v < 0 ∨ 2 < v)  : Cm l G mX10_rule [.ref 66, .int (nI j), .int v] μ ν (fun a9 b9 c9 => (-1000000002) = a9 ∧ μ = b9 ∧ ν = c9) := by
  refine Con.of (by decide) (Nat.le_of_ble_eq_true rfl) ?_
  show Am l G mX10_rule 0 [(0, .ref 66), (1, .int (nI j)), (2, .int v)] [] μ ν _
  refine z_aload_n dX10_rule_0 rfl ?_
  refine z_iload_n dX10_rule_1 rfl ?_
  refine m_callV (As := [.int _]) dX10_rule_2 kX10_228 ⟨rfl, rfl⟩ rfl ⟨rfl, rfl⟩ rfl rfl sh66 rfl rfl (c_isOneT hn h6 hj) (fun r2 μ2 ν2 hk2 => ?_)
  obtain ⟨rfl, rfl, rfl⟩ := hk2
  refine z_if_ne 13 dX10_rule_5 (by decide) (fun h5 => ?_) (fun h5 => absurd h5 (by decide))
  refine z_iload_n dX10_rule_13 rfl ?_
  refine z_iconst (v := 0) dX10_rule_14 rfl ?_
  refine z_iconst (v := 2) dX10_rule_15 rfl ?_
  refine m_callS (As := [.int _, .int _, .int _]) dX10_rule_16 kX10_108 ⟨rfl, rfl⟩ rfl ⟨rfl, rfl⟩ rfl rfl rfl (c_inF hv) (fun r16 μ16 ν16 hk16 => ?_)
  obtain ⟨rfl, rfl, rfl⟩ := hk16
  refine z_if_eq 34 dX10_rule_19 (by decide) (fun h19 => ?_) (fun h19 => absurd (by decide) h19)
  refine z_ldc dX10_rule_34 cX10_112 ?_
  refine m_iret dX10_rule_36 rfl rfl ?_
  exact ⟨rfl, rfl, rfl⟩
set_option maxRecDepth 100000 in
set_option maxHeartbeats 400000 in
theorem d_rule {l : Launch} {G : zG} {μ : Mem} {ν : Lng} {n : Nat} (hn : μ 66 17 = nI n) (h6 : n ≤ 6) {j : Nat} (hj : j < n) {v : Nat} (hv1 : 0 ≤ v) (hv2 : v ≤ 2)  : Cm l G mX10_rule [.ref 66, .int (nI j), .int (nI v)] μ ν (fun a9 b9 c9 => μ 75 (6 + j) = a9 ∧ up2 μ 75 (6 + j) (nI v) = b9 ∧ ν = c9) := by
  refine Con.of (by decide) (Nat.le_of_ble_eq_true rfl) ?_
  show Am l G mX10_rule 0 [(0, .ref 66), (1, .int (nI j)), (2, .int (nI v))] [] μ ν _
  refine z_aload_n dX10_rule_0 rfl ?_
  refine z_iload_n dX10_rule_1 rfl ?_
  refine m_callV (As := [.int _]) dX10_rule_2 kX10_228 ⟨rfl, rfl⟩ rfl ⟨rfl, rfl⟩ rfl rfl sh66 rfl rfl (c_isOneT hn h6 hj) (fun r2 μ2 ν2 hk2 => ?_)
  obtain ⟨rfl, rfl, rfl⟩ := hk2
  refine z_if_ne 13 dX10_rule_5 (by decide) (fun h5 => ?_) (fun h5 => absurd h5 (by decide))
  refine z_iload_n dX10_rule_13 rfl ?_
  refine z_iconst (v := 0) dX10_rule_14 rfl ?_
  refine z_iconst (v := 2) dX10_rule_15 rfl ?_
  refine m_callS (As := [.int _, .int _, .int _]) dX10_rule_16 kX10_108 ⟨rfl, rfl⟩ rfl ⟨rfl, rfl⟩ rfl rfl rfl (c_inT (v := v) (lo := 0) (hi := 2) hv1 hv2 (by decide)) (fun r16 μ16 ν16 hk16 => ?_)
  obtain ⟨rfl, rfl, rfl⟩ := hk16
  refine z_if_eq 34 dX10_rule_19 (by decide) (fun h19 => absurd h19 (by decide)) (fun h19 => ?_)
  refine z_aload_n dX10_rule_22 rfl ?_
  refine z_bipush (v := 6) dX10_rule_23 rfl ?_
  refine z_iload_n dX10_rule_25 rfl ?_
  refine z_iadd dX10_rule_26 ?_
  rw [show (6 + nI j) = nI (6 + j) from z6a 6 j]
  refine z_iload_n dX10_rule_27 rfl ?_
  refine m_callV (As := [.int _, .int _]) dX10_rule_28 kX10_231 ⟨rfl, rfl⟩ rfl ⟨rfl, rfl⟩ rfl rfl sh66 rfl rfl (d_becomes (k := (6 + j)) (by omega)) (fun r28 μ28 ν28 hk28 => ?_)
  obtain ⟨rfl, rfl, rfl⟩ := hk28
  refine z_goto 36 dX10_rule_31 (by decide) ?_
  refine m_iret dX10_rule_36 rfl rfl ?_
  exact ⟨rfl, rfl, rfl⟩
set_option maxRecDepth 100000 in
set_option maxHeartbeats 400000 in
theorem d_kick_w {l : Launch} {G : zG} {μ : Mem} {ν : Lng} {n : Nat} (hn : μ 66 17 = nI n) (h6 : n ≤ 6) {w : Int32} (hw : w < 0 ∨ nI n ≤ w) {v : Int32}  : Cm l G mX10_kick [.ref 66, .int w, .int v] μ ν (fun a9 b9 c9 => (-1000000001) = a9 ∧ μ = b9 ∧ ν = c9) := by
  refine Con.of (by decide) (Nat.le_of_ble_eq_true rfl) ?_
  show Am l G mX10_kick 0 [(0, .ref 66), (1, .int w), (2, .int v)] [] μ ν _
  refine z_aload_n dX10_kick_0 rfl ?_
  refine z_iload_n dX10_kick_1 rfl ?_
  refine m_callV (As := [.int _]) dX10_kick_2 kX10_228 ⟨rfl, rfl⟩ rfl ⟨rfl, rfl⟩ rfl rfl sh66 rfl rfl (c_isOneF hn h6 hw) (fun r2 μ2 ν2 hk2 => ?_)
  obtain ⟨rfl, rfl, rfl⟩ := hk2
  refine z_if_ne 13 dX10_kick_5 (by decide) (fun h5 => absurd (by decide) h5) (fun h5 => ?_)
  refine z_ldc dX10_kick_8 cX10_227 ?_
  refine z_goto 37 dX10_kick_10 (by decide) ?_
  refine m_iret dX10_kick_37 rfl rfl ?_
  exact ⟨rfl, rfl, rfl⟩
set_option maxRecDepth 100000 in
set_option maxHeartbeats 400000 in
theorem d_kick_o {l : Launch} {G : zG} {μ : Mem} {ν : Lng} {n : Nat} (hn : μ 66 17 = nI n) (h6 : n ≤ 6) {j : Nat} (hj : j < n) {v : Int32} (hv : v < 1 ∨ 9 < v)  : Cm l G mX10_kick [.ref 66, .int (nI j), .int v] μ ν (fun a9 b9 c9 => (-1000000002) = a9 ∧ μ = b9 ∧ ν = c9) := by
  refine Con.of (by decide) (Nat.le_of_ble_eq_true rfl) ?_
  show Am l G mX10_kick 0 [(0, .ref 66), (1, .int (nI j)), (2, .int v)] [] μ ν _
  refine z_aload_n dX10_kick_0 rfl ?_
  refine z_iload_n dX10_kick_1 rfl ?_
  refine m_callV (As := [.int _]) dX10_kick_2 kX10_228 ⟨rfl, rfl⟩ rfl ⟨rfl, rfl⟩ rfl rfl sh66 rfl rfl (c_isOneT hn h6 hj) (fun r2 μ2 ν2 hk2 => ?_)
  obtain ⟨rfl, rfl, rfl⟩ := hk2
  refine z_if_ne 13 dX10_kick_5 (by decide) (fun h5 => ?_) (fun h5 => absurd h5 (by decide))
  refine z_iload_n dX10_kick_13 rfl ?_
  refine z_iconst (v := 1) dX10_kick_14 rfl ?_
  refine z_bipush (v := 9) dX10_kick_15 rfl ?_
  refine m_callS (As := [.int _, .int _, .int _]) dX10_kick_17 kX10_108 ⟨rfl, rfl⟩ rfl ⟨rfl, rfl⟩ rfl rfl rfl (c_inF hv) (fun r17 μ17 ν17 hk17 => ?_)
  obtain ⟨rfl, rfl, rfl⟩ := hk17
  refine z_if_eq 35 dX10_kick_20 (by decide) (fun h20 => ?_) (fun h20 => absurd (by decide) h20)
  refine z_ldc dX10_kick_35 cX10_112 ?_
  refine m_iret dX10_kick_37 rfl rfl ?_
  exact ⟨rfl, rfl, rfl⟩
set_option maxRecDepth 100000 in
set_option maxHeartbeats 400000 in
theorem d_kick {l : Launch} {G : zG} {μ : Mem} {ν : Lng} {n : Nat} (hn : μ 66 17 = nI n) (h6 : n ≤ 6) {j : Nat} (hj : j < n) {v : Nat} (hv1 : 1 ≤ v) (hv2 : v ≤ 9)  : Cm l G mX10_kick [.ref 66, .int (nI j), .int (nI v)] μ ν (fun a9 b9 c9 => μ 75 (12 + j) = a9 ∧ up2 μ 75 (12 + j) (nI v) = b9 ∧ ν = c9) := by
  refine Con.of (by decide) (Nat.le_of_ble_eq_true rfl) ?_
  show Am l G mX10_kick 0 [(0, .ref 66), (1, .int (nI j)), (2, .int (nI v))] [] μ ν _
  refine z_aload_n dX10_kick_0 rfl ?_
  refine z_iload_n dX10_kick_1 rfl ?_
  refine m_callV (As := [.int _]) dX10_kick_2 kX10_228 ⟨rfl, rfl⟩ rfl ⟨rfl, rfl⟩ rfl rfl sh66 rfl rfl (c_isOneT hn h6 hj) (fun r2 μ2 ν2 hk2 => ?_)
  obtain ⟨rfl, rfl, rfl⟩ := hk2
  refine z_if_ne 13 dX10_kick_5 (by decide) (fun h5 => ?_) (fun h5 => absurd h5 (by decide))
  refine z_iload_n dX10_kick_13 rfl ?_
  refine z_iconst (v := 1) dX10_kick_14 rfl ?_
  refine z_bipush (v := 9) dX10_kick_15 rfl ?_
  refine m_callS (As := [.int _, .int _, .int _]) dX10_kick_17 kX10_108 ⟨rfl, rfl⟩ rfl ⟨rfl, rfl⟩ rfl rfl rfl (c_inT (v := v) (lo := 1) (hi := 9) hv1 hv2 (by decide)) (fun r17 μ17 ν17 hk17 => ?_)
  obtain ⟨rfl, rfl, rfl⟩ := hk17
  refine z_if_eq 35 dX10_kick_20 (by decide) (fun h20 => absurd h20 (by decide)) (fun h20 => ?_)
  refine z_aload_n dX10_kick_23 rfl ?_
  refine z_bipush (v := 12) dX10_kick_24 rfl ?_
  refine z_iload_n dX10_kick_26 rfl ?_
  refine z_iadd dX10_kick_27 ?_
  rw [show (12 + nI j) = nI (12 + j) from z6a 12 j]
  refine z_iload_n dX10_kick_28 rfl ?_
  refine m_callV (As := [.int _, .int _]) dX10_kick_29 kX10_231 ⟨rfl, rfl⟩ rfl ⟨rfl, rfl⟩ rfl rfl sh66 rfl rfl (d_becomes (k := (12 + j)) (by omega)) (fun r29 μ29 ν29 hk29 => ?_)
  obtain ⟨rfl, rfl, rfl⟩ := hk29
  refine z_goto 37 dX10_kick_32 (by decide) ?_
  refine m_iret dX10_kick_37 rfl rfl ?_
  exact ⟨rfl, rfl, rfl⟩
set_option maxRecDepth 100000 in
set_option maxHeartbeats 400000 in
theorem d_glass {l : Launch} {G : zG} {μ : Mem} {ν : Lng} {b : Int32} : Cm l G mX10_glass [.ref 66, .int b] μ ν (fun a9 b9 c9 => μ 75 18 = a9 ∧ up2 μ 75 18 (if b = 0 then 0 else 1) = b9 ∧ ν = c9) := by
  refine Con.of (by decide) (Nat.le_of_ble_eq_true rfl) ?_
  show Am l G mX10_glass 0 [(0, .ref 66), (1, .int b)] [] μ ν _
  refine z_aload_n dX10_glass_0 rfl ?_
  refine z_bipush (v := 18) dX10_glass_1 rfl ?_
  refine z_iload_n dX10_glass_3 rfl ?_
  refine z_if_eq 11 dX10_glass_4 (by decide) (fun h4 => ?_) (fun h4 => ?_)
  · skip
    refine z_iconst (v := 0) dX10_glass_11 rfl ?_
    refine m_callV (As := [.int _, .int _]) dX10_glass_12 kX10_231 ⟨rfl, rfl⟩ rfl ⟨rfl, rfl⟩ rfl rfl sh66 rfl rfl (d_becomes (k := 18) (by decide)) (fun r12 μ12 ν12 hk12 => ?_)
    obtain ⟨rfl, rfl, rfl⟩ := hk12
    refine m_iret dX10_glass_15 rfl rfl ?_
    refine ⟨rfl, ?_, rfl⟩
    simp only [if_pos h4]
  · skip
    refine z_iconst (v := 1) dX10_glass_7 rfl ?_
    refine z_goto 12 dX10_glass_8 (by decide) ?_
    refine m_callV (As := [.int _, .int _]) dX10_glass_12 kX10_231 ⟨rfl, rfl⟩ rfl ⟨rfl, rfl⟩ rfl rfl sh66 rfl rfl (d_becomes (k := 18) (by decide)) (fun r12 μ12 ν12 hk12 => ?_)
    obtain ⟨rfl, rfl, rfl⟩ := hk12
    refine m_iret dX10_glass_15 rfl rfl ?_
    refine ⟨rfl, ?_, rfl⟩
    simp only [if_neg h4]
set_option maxRecDepth 100000 in
set_option maxHeartbeats 400000 in
theorem d_noise_o {l : Launch} {G : zG} {μ : Mem} {ν : Lng} {v : Int32} (hv : v < 0 ∨ 9 < v)  : Cm l G mX10_noise [.ref 66, .int v] μ ν (fun a9 b9 c9 => (-1000000002) = a9 ∧ μ = b9 ∧ ν = c9) := by
  refine Con.of (by decide) (Nat.le_of_ble_eq_true rfl) ?_
  show Am l G mX10_noise 0 [(0, .ref 66), (1, .int v)] [] μ ν _
  refine z_iload_n dX10_noise_0 rfl ?_
  refine z_iconst (v := 0) dX10_noise_1 rfl ?_
  refine z_bipush (v := 9) dX10_noise_2 rfl ?_
  refine m_callS (As := [.int _, .int _, .int _]) dX10_noise_4 kX10_108 ⟨rfl, rfl⟩ rfl ⟨rfl, rfl⟩ rfl rfl rfl (c_inF hv) (fun r4 μ4 ν4 hk4 => ?_)
  obtain ⟨rfl, rfl, rfl⟩ := hk4
  refine z_if_eq 20 dX10_noise_7 (by decide) (fun h7 => ?_) (fun h7 => absurd (by decide) h7)
  refine z_ldc dX10_noise_20 cX10_112 ?_
  refine m_iret dX10_noise_22 rfl rfl ?_
  exact ⟨rfl, rfl, rfl⟩
set_option maxRecDepth 100000 in
set_option maxHeartbeats 400000 in
theorem d_noise {l : Launch} {G : zG} {μ : Mem} {ν : Lng} {v : Nat} (hv : v ≤ 9)  : Cm l G mX10_noise [.ref 66, .int (nI v)] μ ν (fun a9 b9 c9 => μ 75 19 = a9 ∧ up2 μ 75 19 (nI v) = b9 ∧ ν = c9) := by
  refine Con.of (by decide) (Nat.le_of_ble_eq_true rfl) ?_
  show Am l G mX10_noise 0 [(0, .ref 66), (1, .int (nI v))] [] μ ν _
  refine z_iload_n dX10_noise_0 rfl ?_
  refine z_iconst (v := 0) dX10_noise_1 rfl ?_
  refine z_bipush (v := 9) dX10_noise_2 rfl ?_
  refine m_callS (As := [.int _, .int _, .int _]) dX10_noise_4 kX10_108 ⟨rfl, rfl⟩ rfl ⟨rfl, rfl⟩ rfl rfl rfl (c_inT (v := v) (lo := 0) (hi := 9) (Nat.zero_le v) hv (by decide)) (fun r4 μ4 ν4 hk4 => ?_)
  obtain ⟨rfl, rfl, rfl⟩ := hk4
  refine z_if_eq 20 dX10_noise_7 (by decide) (fun h7 => absurd h7 (by decide)) (fun h7 => ?_)
  refine z_aload_n dX10_noise_10 rfl ?_
  refine z_bipush (v := 19) dX10_noise_11 rfl ?_
  refine z_iload_n dX10_noise_13 rfl ?_
  refine m_callV (As := [.int _, .int _]) dX10_noise_14 kX10_231 ⟨rfl, rfl⟩ rfl ⟨rfl, rfl⟩ rfl rfl sh66 rfl rfl (d_becomes (k := 19) (by decide)) (fun r14 μ14 ν14 hk14 => ?_)
  obtain ⟨rfl, rfl, rfl⟩ := hk14
  refine z_goto 22 dX10_noise_17 (by decide) ?_
  refine m_iret dX10_noise_22 rfl rfl ?_
  exact ⟨rfl, rfl, rfl⟩
set_option maxRecDepth 100000 in
set_option maxHeartbeats 400000 in
theorem d_seed_o {l : Launch} {G : zG} {μ : Mem} {ν : Lng} {v : Int32} (hv : v < 0)  : Cm l G mX10_seed [.ref 66, .int v] μ ν (fun a9 b9 c9 => (-1000000002) = a9 ∧ μ = b9 ∧ ν = c9) := by
  refine Con.of (by decide) (Nat.le_of_ble_eq_true rfl) ?_
  show Am l G mX10_seed 0 [(0, .ref 66), (1, .int v)] [] μ ν _
  refine z_iload_n dX10_seed_0 rfl ?_
  refine z_if_lt 14 dX10_seed_1 (by decide) (fun h1 => ?_) (fun h1 => absurd hv h1)
  refine z_ldc dX10_seed_14 cX10_112 ?_
  refine m_iret dX10_seed_16 rfl rfl ?_
  exact ⟨rfl, rfl, rfl⟩
set_option maxRecDepth 100000 in
set_option maxHeartbeats 400000 in
theorem d_seed {l : Launch} {G : zG} {μ : Mem} {ν : Lng} {v : Int32} (hv : 0 ≤ v)  : Cm l G mX10_seed [.ref 66, .int v] μ ν (fun a9 b9 c9 => μ 75 20 = a9 ∧ up2 μ 75 20 v = b9 ∧ ν = c9) := by
  refine Con.of (by decide) (Nat.le_of_ble_eq_true rfl) ?_
  show Am l G mX10_seed 0 [(0, .ref 66), (1, .int v)] [] μ ν _
  refine z_iload_n dX10_seed_0 rfl ?_
  refine z_if_lt 14 dX10_seed_1 (by decide) (fun h1 => (znle hv h1).elim) (fun h1 => ?_)
  refine z_aload_n dX10_seed_4 rfl ?_
  refine z_bipush (v := 20) dX10_seed_5 rfl ?_
  refine z_iload_n dX10_seed_7 rfl ?_
  refine m_callV (As := [.int _, .int _]) dX10_seed_8 kX10_231 ⟨rfl, rfl⟩ rfl ⟨rfl, rfl⟩ rfl rfl sh66 rfl rfl (d_becomes (k := 20) (by decide)) (fun r8 μ8 ν8 hk8 => ?_)
  obtain ⟨rfl, rfl, rfl⟩ := hk8
  refine z_goto 16 dX10_seed_11 (by decide) ?_
  refine m_iret dX10_seed_16 rfl rfl ?_
  exact ⟨rfl, rfl, rfl⟩
set_option maxRecDepth 100000 in
set_option maxHeartbeats 400000 in
theorem d_tear {l : Launch} {G : zG} {μ : Mem} {ν : Lng}  : Cm l G mX10_tear [.ref 66] μ ν (fun a9 b9 c9 => μ 66 45 = a9 ∧ up2 μ 66 45 0 = b9 ∧ ν = c9) := by
  refine Con.of (by decide) (Nat.le_of_ble_eq_true rfl) ?_
  show Am l G mX10_tear 0 [(0, .ref 66)] [] μ ν _
  refine z_aload_n dX10_tear_0 rfl ?_
  refine m_geti dX10_tear_1 fX10_181 sh66 rfl ?_
  refine z_istore_n (i := 1) (fun y => [(1, .int y), (0, .ref 66)]) dX10_tear_4 rfl rfl (fun _ => rfl) (fun x9 e9 => ?_)
  subst e9
  refine z_aload_n dX10_tear_5 rfl ?_
  refine z_iconst (v := 0) dX10_tear_6 rfl ?_
  refine m_puti dX10_tear_7 fX10_181 (fun q h => by cases h; rfl) rfl rfl sh66 rfl ?_
  refine z_iload_n dX10_tear_10 rfl ?_
  refine m_iret dX10_tear_11 rfl rfl ?_
  exact ⟨rfl, rfl, rfl⟩
set_option maxRecDepth 100000 in
set_option maxHeartbeats 400000 in
theorem d_pass_w {l : Launch} {G : zG} {μ : Mem} {ν : Lng} {n : Nat} (hn : μ 66 17 = nI n) (h6 : n ≤ 6) {w : Int32} (hw : w < 0 ∨ nI n ≤ w) {v : Int32}  : Cm l G mX10_pass [.ref 66, .int w, .int v] μ ν (fun a9 b9 c9 => (-1000000001) = a9 ∧ μ = b9 ∧ ν = c9) := by
  refine Con.of (by decide) (Nat.le_of_ble_eq_true rfl) ?_
  show Am l G mX10_pass 0 [(0, .ref 66), (1, .int w), (2, .int v)] [] μ ν _
  refine z_aload_n dX10_pass_0 rfl ?_
  refine z_iload_n dX10_pass_1 rfl ?_
  refine m_callV (As := [.int _]) dX10_pass_2 kX10_228 ⟨rfl, rfl⟩ rfl ⟨rfl, rfl⟩ rfl rfl sh66 rfl rfl (c_isOneF hn h6 hw) (fun r2 μ2 ν2 hk2 => ?_)
  obtain ⟨rfl, rfl, rfl⟩ := hk2
  refine z_if_ne 11 dX10_pass_5 (by decide) (fun h5 => absurd (by decide) h5) (fun h5 => ?_)
  refine z_ldc dX10_pass_8 cX10_227 ?_
  refine m_iret dX10_pass_10 rfl rfl ?_
  exact ⟨rfl, rfl, rfl⟩
set_option maxRecDepth 100000 in
set_option maxHeartbeats 400000 in
theorem d_pass_0 {l : Launch} {G : zG} {μ : Mem} {ν : Lng} {n : Nat} (hn : μ 66 17 = nI n) (h6 : n ≤ 6) {Q : Nat → Nat} (hQ : zOrd (μ 75) n Q) (hsd : zSidesM μ n) {j : Nat} (hj : j < n)  : Cm l G mX10_pass [.ref 66, .int (nI j), .int 0] μ ν (fun a9 b9 c9 => rRun μ n Q 78 j = a9 ∧ rRun μ n Q = b9 ∧ ν = c9) := by
  refine Con.of (by decide) (Nat.le_of_ble_eq_true rfl) ?_
  show Am l G mX10_pass 0 [(0, .ref 66), (1, .int (nI j)), (2, .int 0)] [] μ ν _
  refine z_aload_n dX10_pass_0 rfl ?_
  refine z_iload_n dX10_pass_1 rfl ?_
  refine m_callV (As := [.int _]) dX10_pass_2 kX10_228 ⟨rfl, rfl⟩ rfl ⟨rfl, rfl⟩ rfl rfl sh66 rfl rfl (c_isOneT hn h6 hj) (fun r2 μ2 ν2 hk2 => ?_)
  obtain ⟨rfl, rfl, rfl⟩ := hk2
  refine z_if_ne 11 dX10_pass_5 (by decide) (fun h5 => ?_) (fun h5 => absurd h5 (by decide))
  refine z_aload_n dX10_pass_11 rfl ?_
  refine m_callV (As := []) dX10_pass_12 kX10_223 ⟨rfl, rfl⟩ rfl ⟨rfl, rfl⟩ rfl rfl sh66 rfl rfl (c_costNow hn h6 hQ hsd) (fun r12 μ12 ν12 hk12 => ?_)
  obtain ⟨rfl, rfl, rfl⟩ := hk12
  refine z_pop dX10_pass_15 rfl ?_
  refine z_iload_n dX10_pass_16 rfl ?_
  refine z_tableIn 56 dX10_pass_17 (by decide) (by decide) rfl (by decide) ?_
  refine z_aload_n dX10_pass_56 rfl ?_
  refine m_getr dX10_pass_57 fX10_48 sh66 rfl ?_
  refine z_iload_n dX10_pass_60 rfl ?_
  refine m_ialdN (j := j) dX10_pass_61 sh78 rfl (by omega) rfl ?_
  refine m_iret dX10_pass_62 rfl rfl ?_
  exact ⟨rfl, rfl, rfl⟩
set_option maxRecDepth 100000 in
set_option maxHeartbeats 400000 in
theorem d_pass_1 {l : Launch} {G : zG} {μ : Mem} {ν : Lng} {n : Nat} (hn : μ 66 17 = nI n) (h6 : n ≤ 6) {Q : Nat → Nat} (hQ : zOrd (μ 75) n Q) (hsd : zSidesM μ n) {j : Nat} (hj : j < n)  : Cm l G mX10_pass [.ref 66, .int (nI j), .int 1] μ ν (fun a9 b9 c9 => rRun μ n Q 79 j = a9 ∧ rRun μ n Q = b9 ∧ ν = c9) := by
  refine Con.of (by decide) (Nat.le_of_ble_eq_true rfl) ?_
  show Am l G mX10_pass 0 [(0, .ref 66), (1, .int (nI j)), (2, .int 1)] [] μ ν _
  refine z_aload_n dX10_pass_0 rfl ?_
  refine z_iload_n dX10_pass_1 rfl ?_
  refine m_callV (As := [.int _]) dX10_pass_2 kX10_228 ⟨rfl, rfl⟩ rfl ⟨rfl, rfl⟩ rfl rfl sh66 rfl rfl (c_isOneT hn h6 hj) (fun r2 μ2 ν2 hk2 => ?_)
  obtain ⟨rfl, rfl, rfl⟩ := hk2
  refine z_if_ne 11 dX10_pass_5 (by decide) (fun h5 => ?_) (fun h5 => absurd h5 (by decide))
  refine z_aload_n dX10_pass_11 rfl ?_
  refine m_callV (As := []) dX10_pass_12 kX10_223 ⟨rfl, rfl⟩ rfl ⟨rfl, rfl⟩ rfl rfl sh66 rfl rfl (c_costNow hn h6 hQ hsd) (fun r12 μ12 ν12 hk12 => ?_)
  obtain ⟨rfl, rfl, rfl⟩ := hk12
  refine z_pop dX10_pass_15 rfl ?_
  refine z_iload_n dX10_pass_16 rfl ?_
  refine z_tableIn 63 dX10_pass_17 (by decide) (by decide) rfl (by decide) ?_
  refine z_aload_n dX10_pass_63 rfl ?_
  refine m_getr dX10_pass_64 fX10_51 sh66 rfl ?_
  refine z_iload_n dX10_pass_67 rfl ?_
  refine m_ialdN (j := j) dX10_pass_68 sh79 rfl (by omega) rfl ?_
  refine m_iret dX10_pass_69 rfl rfl ?_
  exact ⟨rfl, rfl, rfl⟩
set_option maxRecDepth 100000 in
set_option maxHeartbeats 400000 in
theorem d_pass_2 {l : Launch} {G : zG} {μ : Mem} {ν : Lng} {n : Nat} (hn : μ 66 17 = nI n) (h6 : n ≤ 6) {Q : Nat → Nat} (hQ : zOrd (μ 75) n Q) (hsd : zSidesM μ n) {j : Nat} (hj : j < n)  : Cm l G mX10_pass [.ref 66, .int (nI j), .int 2] μ ν (fun a9 b9 c9 => rRun μ n Q 80 j = a9 ∧ rRun μ n Q = b9 ∧ ν = c9) := by
  refine Con.of (by decide) (Nat.le_of_ble_eq_true rfl) ?_
  show Am l G mX10_pass 0 [(0, .ref 66), (1, .int (nI j)), (2, .int 2)] [] μ ν _
  refine z_aload_n dX10_pass_0 rfl ?_
  refine z_iload_n dX10_pass_1 rfl ?_
  refine m_callV (As := [.int _]) dX10_pass_2 kX10_228 ⟨rfl, rfl⟩ rfl ⟨rfl, rfl⟩ rfl rfl sh66 rfl rfl (c_isOneT hn h6 hj) (fun r2 μ2 ν2 hk2 => ?_)
  obtain ⟨rfl, rfl, rfl⟩ := hk2
  refine z_if_ne 11 dX10_pass_5 (by decide) (fun h5 => ?_) (fun h5 => absurd h5 (by decide))
  refine z_aload_n dX10_pass_11 rfl ?_
  refine m_callV (As := []) dX10_pass_12 kX10_223 ⟨rfl, rfl⟩ rfl ⟨rfl, rfl⟩ rfl rfl sh66 rfl rfl (c_costNow hn h6 hQ hsd) (fun r12 μ12 ν12 hk12 => ?_)
  obtain ⟨rfl, rfl, rfl⟩ := hk12
  refine z_pop dX10_pass_15 rfl ?_
  refine z_iload_n dX10_pass_16 rfl ?_
  refine z_tableIn 70 dX10_pass_17 (by decide) (by decide) rfl (by decide) ?_
  refine z_aload_n dX10_pass_70 rfl ?_
  refine m_getr dX10_pass_71 fX10_54 sh66 rfl ?_
  refine z_iload_n dX10_pass_74 rfl ?_
  refine m_ialdN (j := j) dX10_pass_75 sh80 rfl (by omega) rfl ?_
  refine m_iret dX10_pass_76 rfl rfl ?_
  exact ⟨rfl, rfl, rfl⟩
set_option maxRecDepth 100000 in
set_option maxHeartbeats 400000 in
theorem d_pass_3 {l : Launch} {G : zG} {μ : Mem} {ν : Lng} {n : Nat} (hn : μ 66 17 = nI n) (h6 : n ≤ 6) {Q : Nat → Nat} (hQ : zOrd (μ 75) n Q) (hsd : zSidesM μ n) {j : Nat} (hj : j < n)  : Cm l G mX10_pass [.ref 66, .int (nI j), .int 3] μ ν (fun a9 b9 c9 => rRun μ n Q 81 j = a9 ∧ rRun μ n Q = b9 ∧ ν = c9) := by
  refine Con.of (by decide) (Nat.le_of_ble_eq_true rfl) ?_
  show Am l G mX10_pass 0 [(0, .ref 66), (1, .int (nI j)), (2, .int 3)] [] μ ν _
  refine z_aload_n dX10_pass_0 rfl ?_
  refine z_iload_n dX10_pass_1 rfl ?_
  refine m_callV (As := [.int _]) dX10_pass_2 kX10_228 ⟨rfl, rfl⟩ rfl ⟨rfl, rfl⟩ rfl rfl sh66 rfl rfl (c_isOneT hn h6 hj) (fun r2 μ2 ν2 hk2 => ?_)
  obtain ⟨rfl, rfl, rfl⟩ := hk2
  refine z_if_ne 11 dX10_pass_5 (by decide) (fun h5 => ?_) (fun h5 => absurd h5 (by decide))
  refine z_aload_n dX10_pass_11 rfl ?_
  refine m_callV (As := []) dX10_pass_12 kX10_223 ⟨rfl, rfl⟩ rfl ⟨rfl, rfl⟩ rfl rfl sh66 rfl rfl (c_costNow hn h6 hQ hsd) (fun r12 μ12 ν12 hk12 => ?_)
  obtain ⟨rfl, rfl, rfl⟩ := hk12
  refine z_pop dX10_pass_15 rfl ?_
  refine z_iload_n dX10_pass_16 rfl ?_
  refine z_tableIn 77 dX10_pass_17 (by decide) (by decide) rfl (by decide) ?_
  refine z_aload_n dX10_pass_77 rfl ?_
  refine m_getr dX10_pass_78 fX10_57 sh66 rfl ?_
  refine z_iload_n dX10_pass_81 rfl ?_
  refine m_ialdN (j := j) dX10_pass_82 sh81 rfl (by omega) rfl ?_
  refine m_iret dX10_pass_83 rfl rfl ?_
  exact ⟨rfl, rfl, rfl⟩
set_option maxRecDepth 100000 in
set_option maxHeartbeats 400000 in
theorem d_pass_4 {l : Launch} {G : zG} {μ : Mem} {ν : Lng} {n : Nat} (hn : μ 66 17 = nI n) (h6 : n ≤ 6) {Q : Nat → Nat} (hQ : zOrd (μ 75) n Q) (hsd : zSidesM μ n) {j : Nat} (hj : j < n)  : Cm l G mX10_pass [.ref 66, .int (nI j), .int 4] μ ν (fun a9 b9 c9 => rRun μ n Q 82 j = a9 ∧ rRun μ n Q = b9 ∧ ν = c9) := by
  refine Con.of (by decide) (Nat.le_of_ble_eq_true rfl) ?_
  show Am l G mX10_pass 0 [(0, .ref 66), (1, .int (nI j)), (2, .int 4)] [] μ ν _
  refine z_aload_n dX10_pass_0 rfl ?_
  refine z_iload_n dX10_pass_1 rfl ?_
  refine m_callV (As := [.int _]) dX10_pass_2 kX10_228 ⟨rfl, rfl⟩ rfl ⟨rfl, rfl⟩ rfl rfl sh66 rfl rfl (c_isOneT hn h6 hj) (fun r2 μ2 ν2 hk2 => ?_)
  obtain ⟨rfl, rfl, rfl⟩ := hk2
  refine z_if_ne 11 dX10_pass_5 (by decide) (fun h5 => ?_) (fun h5 => absurd h5 (by decide))
  refine z_aload_n dX10_pass_11 rfl ?_
  refine m_callV (As := []) dX10_pass_12 kX10_223 ⟨rfl, rfl⟩ rfl ⟨rfl, rfl⟩ rfl rfl sh66 rfl rfl (c_costNow hn h6 hQ hsd) (fun r12 μ12 ν12 hk12 => ?_)
  obtain ⟨rfl, rfl, rfl⟩ := hk12
  refine z_pop dX10_pass_15 rfl ?_
  refine z_iload_n dX10_pass_16 rfl ?_
  refine z_tableIn 84 dX10_pass_17 (by decide) (by decide) rfl (by decide) ?_
  refine z_aload_n dX10_pass_84 rfl ?_
  refine m_getr dX10_pass_85 fX10_60 sh66 rfl ?_
  refine z_iload_n dX10_pass_88 rfl ?_
  refine m_ialdN (j := j) dX10_pass_89 sh82 rfl (by omega) rfl ?_
  refine m_iret dX10_pass_90 rfl rfl ?_
  exact ⟨rfl, rfl, rfl⟩
set_option maxRecDepth 100000 in
set_option maxHeartbeats 400000 in
theorem d_pass_5 {l : Launch} {G : zG} {μ : Mem} {ν : Lng} {n : Nat} (hn : μ 66 17 = nI n) (h6 : n ≤ 6) {Q : Nat → Nat} (hQ : zOrd (μ 75) n Q) (hsd : zSidesM μ n) {j : Nat} (hj : j < n)  : Cm l G mX10_pass [.ref 66, .int (nI j), .int 5] μ ν (fun a9 b9 c9 => (if rRun μ n Q 83 j = 0 then 0 else 1) = a9 ∧ rRun μ n Q = b9 ∧ ν = c9) := by
  refine Con.of (by decide) (Nat.le_of_ble_eq_true rfl) ?_
  show Am l G mX10_pass 0 [(0, .ref 66), (1, .int (nI j)), (2, .int 5)] [] μ ν _
  refine z_aload_n dX10_pass_0 rfl ?_
  refine z_iload_n dX10_pass_1 rfl ?_
  refine m_callV (As := [.int _]) dX10_pass_2 kX10_228 ⟨rfl, rfl⟩ rfl ⟨rfl, rfl⟩ rfl rfl sh66 rfl rfl (c_isOneT hn h6 hj) (fun r2 μ2 ν2 hk2 => ?_)
  obtain ⟨rfl, rfl, rfl⟩ := hk2
  refine z_if_ne 11 dX10_pass_5 (by decide) (fun h5 => ?_) (fun h5 => absurd h5 (by decide))
  refine z_aload_n dX10_pass_11 rfl ?_
  refine m_callV (As := []) dX10_pass_12 kX10_223 ⟨rfl, rfl⟩ rfl ⟨rfl, rfl⟩ rfl rfl sh66 rfl rfl (c_costNow hn h6 hQ hsd) (fun r12 μ12 ν12 hk12 => ?_)
  obtain ⟨rfl, rfl, rfl⟩ := hk12
  refine z_pop dX10_pass_15 rfl ?_
  refine z_iload_n dX10_pass_16 rfl ?_
  refine z_tableIn 91 dX10_pass_17 (by decide) (by decide) rfl (by decide) ?_
  refine z_aload_n dX10_pass_91 rfl ?_
  refine m_getr dX10_pass_92 fX10_63 sh66 rfl ?_
  refine z_iload_n dX10_pass_95 rfl ?_
  refine m_zaldN (j := j) dX10_pass_96 sh83 rfl (by omega) rfl ?_
  refine z_if_eq 104 dX10_pass_97 (by decide) (fun h97 => ?_) (fun h97 => ?_)
  · skip
    refine z_iconst (v := 0) dX10_pass_104 rfl ?_
    refine m_iret dX10_pass_105 rfl rfl ?_
    refine ⟨?_, rfl, rfl⟩
    simp only [if_pos h97]
  · skip
    refine z_iconst (v := 1) dX10_pass_100 rfl ?_
    refine z_goto 105 dX10_pass_101 (by decide) ?_
    refine m_iret dX10_pass_105 rfl rfl ?_
    refine ⟨?_, rfl, rfl⟩
    simp only [if_neg h97]
set_option maxRecDepth 100000 in
set_option maxHeartbeats 400000 in
theorem d_pass_o {l : Launch} {G : zG} {μ : Mem} {ν : Lng} {n : Nat} (hn : μ 66 17 = nI n) (h6 : n ≤ 6) {Q : Nat → Nat} (hQ : zOrd (μ 75) n Q) (hsd : zSidesM μ n) {j : Nat} (hj : j < n) {v : Int32} (hv : v < 0 ∨ 5 < v)  : Cm l G mX10_pass [.ref 66, .int (nI j), .int v] μ ν (fun a9 b9 c9 => (-1000000002) = a9 ∧ rRun μ n Q = b9 ∧ ν = c9) := by
  refine Con.of (by decide) (Nat.le_of_ble_eq_true rfl) ?_
  show Am l G mX10_pass 0 [(0, .ref 66), (1, .int (nI j)), (2, .int v)] [] μ ν _
  refine z_aload_n dX10_pass_0 rfl ?_
  refine z_iload_n dX10_pass_1 rfl ?_
  refine m_callV (As := [.int _]) dX10_pass_2 kX10_228 ⟨rfl, rfl⟩ rfl ⟨rfl, rfl⟩ rfl rfl sh66 rfl rfl (c_isOneT hn h6 hj) (fun r2 μ2 ν2 hk2 => ?_)
  obtain ⟨rfl, rfl, rfl⟩ := hk2
  refine z_if_ne 11 dX10_pass_5 (by decide) (fun h5 => ?_) (fun h5 => absurd h5 (by decide))
  refine z_aload_n dX10_pass_11 rfl ?_
  refine m_callV (As := []) dX10_pass_12 kX10_223 ⟨rfl, rfl⟩ rfl ⟨rfl, rfl⟩ rfl rfl sh66 rfl rfl (c_costNow hn h6 hQ hsd) (fun r12 μ12 ν12 hk12 => ?_)
  obtain ⟨rfl, rfl, rfl⟩ := hk12
  refine z_pop dX10_pass_15 rfl ?_
  refine z_iload_n dX10_pass_16 rfl ?_
  refine z_tableOut 106 dX10_pass_17 (zswO hv rfl rfl) (by decide) ?_
  refine z_ldc dX10_pass_106 cX10_112 ?_
  refine m_iret dX10_pass_108 rfl rfl ?_
  exact ⟨rfl, rfl, rfl⟩
set_option maxRecDepth 100000 in
set_option maxHeartbeats 400000 in
theorem d_leafAt_w {l : Launch} {G : zG} {μ : Mem} {ν : Lng} {w : Int32} (hw : w < 0 ∨ 1 < w) {v : Int32}  : Cm l G mX10_leafAt [.ref 66, .int w, .int v] μ ν (fun a9 b9 c9 => (-1000000001) = a9 ∧ μ = b9 ∧ ν = c9) := by
  refine Con.of (by decide) (Nat.le_of_ble_eq_true rfl) ?_
  show Am l G mX10_leafAt 0 [(0, .ref 66), (1, .int w), (2, .int v)] [] μ ν _
  refine z_iload_n dX10_leafAt_0 rfl ?_
  refine z_iconst (v := 0) dX10_leafAt_1 rfl ?_
  refine z_iconst (v := 1) dX10_leafAt_2 rfl ?_
  refine m_callS (As := [.int _, .int _, .int _]) dX10_leafAt_3 kX10_108 ⟨rfl, rfl⟩ rfl ⟨rfl, rfl⟩ rfl rfl rfl (c_inF hw) (fun r3 μ3 ν3 hk3 => ?_)
  obtain ⟨rfl, rfl, rfl⟩ := hk3
  refine z_if_ne 12 dX10_leafAt_6 (by decide) (fun h6 => absurd (by decide) h6) (fun h6 => ?_)
  refine z_ldc dX10_leafAt_9 cX10_227 ?_
  refine m_iret dX10_leafAt_11 rfl rfl ?_
  exact ⟨rfl, rfl, rfl⟩
set_option maxRecDepth 100000 in
set_option maxHeartbeats 400000 in
theorem d_leafAt_o {l : Launch} {G : zG} {μ : Mem} {ν : Lng} {j : Nat} (hj : j ≤ 1) {v : Int32} (hv : v < 0 ∨ 9999 < v)  : Cm l G mX10_leafAt [.ref 66, .int (nI j), .int v] μ ν (fun a9 b9 c9 => (-1000000002) = a9 ∧ μ = b9 ∧ ν = c9) := by
  refine Con.of (by decide) (Nat.le_of_ble_eq_true rfl) ?_
  show Am l G mX10_leafAt 0 [(0, .ref 66), (1, .int (nI j)), (2, .int v)] [] μ ν _
  refine z_iload_n dX10_leafAt_0 rfl ?_
  refine z_iconst (v := 0) dX10_leafAt_1 rfl ?_
  refine z_iconst (v := 1) dX10_leafAt_2 rfl ?_
  refine m_callS (As := [.int _, .int _, .int _]) dX10_leafAt_3 kX10_108 ⟨rfl, rfl⟩ rfl ⟨rfl, rfl⟩ rfl rfl rfl (c_inT (v := j) (lo := 0) (hi := 1) (Nat.zero_le j) hj (by decide)) (fun r3 μ3 ν3 hk3 => ?_)
  obtain ⟨rfl, rfl, rfl⟩ := hk3
  refine z_if_ne 12 dX10_leafAt_6 (by decide) (fun h6 => ?_) (fun h6 => absurd h6 (by decide))
  refine z_iload_n dX10_leafAt_12 rfl ?_
  refine z_iconst (v := 0) dX10_leafAt_13 rfl ?_
  refine z_sipush (v := 9999) dX10_leafAt_14 rfl ?_
  refine m_callS (As := [.int _, .int _, .int _]) dX10_leafAt_17 kX10_108 ⟨rfl, rfl⟩ rfl ⟨rfl, rfl⟩ rfl rfl rfl (c_inF hv) (fun r17 μ17 ν17 hk17 => ?_)
  obtain ⟨rfl, rfl, rfl⟩ := hk17
  refine z_if_ne 26 dX10_leafAt_20 (by decide) (fun h20 => absurd (by decide) h20) (fun h20 => ?_)
  refine z_ldc dX10_leafAt_23 cX10_112 ?_
  refine m_iret dX10_leafAt_25 rfl rfl ?_
  exact ⟨rfl, rfl, rfl⟩
def rAt (μ : Mem) (lf : Nat) (t : Int32) : Int32 := if ¬ rBusy μ (2 * lf + 0) t = 0 then 1 else if rBusy μ (2 * lf + 1) t = 0 then rSwing μ lf t else 1
set_option maxRecDepth 100000 in
set_option maxHeartbeats 400000 in
theorem d_leafAt {l : Launch} {G : zG} {μ : Mem} {ν : Lng} {n : Nat} (hn : μ 66 17 = nI n) (hz6 : n ≤ 6) {Q : Nat → Nat} (hQ : zOrd (μ 75) n Q) (hsd : zSidesM μ n) {j : Nat} (hj : j ≤ 1) {v : Nat} (hv : v ≤ 9999)  : Cm l G mX10_leafAt [.ref 66, .int (nI j), .int (nI v)] μ ν (fun a9 b9 c9 => rAt (rRun μ n Q) j (nI v) = a9 ∧ rRun μ n Q = b9 ∧ ν = c9) := by
  refine Con.of (by decide) (Nat.le_of_ble_eq_true rfl) ?_
  show Am l G mX10_leafAt 0 [(0, .ref 66), (1, .int (nI j)), (2, .int (nI v))] [] μ ν _
  refine z_iload_n dX10_leafAt_0 rfl ?_
  refine z_iconst (v := 0) dX10_leafAt_1 rfl ?_
  refine z_iconst (v := 1) dX10_leafAt_2 rfl ?_
  refine m_callS (As := [.int _, .int _, .int _]) dX10_leafAt_3 kX10_108 ⟨rfl, rfl⟩ rfl ⟨rfl, rfl⟩ rfl rfl rfl (c_inT (v := j) (lo := 0) (hi := 1) (Nat.zero_le j) hj (by decide)) (fun r3 μ3 ν3 hk3 => ?_)
  obtain ⟨rfl, rfl, rfl⟩ := hk3
  refine z_if_ne 12 dX10_leafAt_6 (by decide) (fun h6 => ?_) (fun h6 => absurd h6 (by decide))
  refine z_iload_n dX10_leafAt_12 rfl ?_
  refine z_iconst (v := 0) dX10_leafAt_13 rfl ?_
  refine z_sipush (v := 9999) dX10_leafAt_14 rfl ?_
  refine m_callS (As := [.int _, .int _, .int _]) dX10_leafAt_17 kX10_108 ⟨rfl, rfl⟩ rfl ⟨rfl, rfl⟩ rfl rfl rfl (c_inT (v := v) (lo := 0) (hi := 9999) (Nat.zero_le v) hv (by decide)) (fun r17 μ17 ν17 hk17 => ?_)
  obtain ⟨rfl, rfl, rfl⟩ := hk17
  refine z_if_ne 26 dX10_leafAt_20 (by decide) (fun h20 => ?_) (fun h20 => absurd h20 (by decide))
  refine z_aload_n dX10_leafAt_26 rfl ?_
  refine m_callV (As := []) dX10_leafAt_27 kX10_223 ⟨rfl, rfl⟩ rfl ⟨rfl, rfl⟩ rfl rfl sh66 rfl rfl (c_costNow hn hz6 hQ hsd) (fun r27 μ27 ν27 hk27 => ?_)
  obtain ⟨rfl, rfl, rfl⟩ := hk27
  refine z_pop dX10_leafAt_30 rfl ?_
  refine z_aload_n dX10_leafAt_31 rfl ?_
  refine z_iload_n dX10_leafAt_32 rfl ?_
  refine z_iconst (v := 0) dX10_leafAt_33 rfl ?_
  refine z_iload_n dX10_leafAt_34 rfl ?_
  refine m_callV (As := [.int _, .int _, .int _]) dX10_leafAt_35 kX10_184 ⟨rfl, rfl⟩ rfl ⟨rfl, rfl⟩ rfl rfl sh66 rfl rfl (c_isBusy (lf := j) (s := 0) (by omega) (by decide)) (fun r35 μ35 ν35 hk35 => ?_)
  obtain ⟨rfl, rfl, rfl⟩ := hk35
  refine z_if_ne 51 dX10_leafAt_38 (by decide) (fun h38 => ?_) (fun h38 => ?_)
  · skip
    refine z_iconst (v := 1) dX10_leafAt_51 rfl ?_
    refine z_goto 61 dX10_leafAt_52 (by decide) ?_
    refine m_iret dX10_leafAt_61 rfl rfl ?_
    refine ⟨?_, rfl, rfl⟩
    subst_vars
    simp only [rAt, h38, not_true_eq_false, not_false_eq_true, if_true, if_false]
  · skip
    refine z_aload_n dX10_leafAt_41 rfl ?_
    refine z_iload_n dX10_leafAt_42 rfl ?_
    refine z_iconst (v := 1) dX10_leafAt_43 rfl ?_
    refine z_iload_n dX10_leafAt_44 rfl ?_
    refine m_callV (As := [.int _, .int _, .int _]) dX10_leafAt_45 kX10_184 ⟨rfl, rfl⟩ rfl ⟨rfl, rfl⟩ rfl rfl sh66 rfl rfl (c_isBusy (lf := j) (s := 1) (by omega) (by decide)) (fun r45 μ45 ν45 hk45 => ?_)
    obtain ⟨rfl, rfl, rfl⟩ := hk45
    refine z_if_eq 55 dX10_leafAt_48 (by decide) (fun h48 => ?_) (fun h48 => ?_)
    · skip
      refine z_aload_n dX10_leafAt_55 rfl ?_
      refine z_iload_n dX10_leafAt_56 rfl ?_
      refine z_iload_n dX10_leafAt_57 rfl ?_
      refine m_callV (As := [.int _, .int _]) dX10_leafAt_58 kX10_198 ⟨rfl, rfl⟩ rfl ⟨rfl, rfl⟩ rfl rfl sh66 rfl rfl (c_swing (lf := j) (by omega)) (fun r58 μ58 ν58 hk58 => ?_)
      obtain ⟨rfl, rfl, rfl⟩ := hk58
      refine m_iret dX10_leafAt_61 rfl rfl ?_
      refine ⟨?_, rfl, rfl⟩
      subst_vars
      simp only [rAt, h38, h48, not_true_eq_false, not_false_eq_true, if_true, if_false]
    · skip
      refine z_iconst (v := 1) dX10_leafAt_51 rfl ?_
      refine z_goto 61 dX10_leafAt_52 (by decide) ?_
      refine m_iret dX10_leafAt_61 rfl rfl ?_
      refine ⟨?_, rfl, rfl⟩
      subst_vars
      simp only [rAt, h38, h48, not_true_eq_false, not_false_eq_true, if_true, if_false]
set_option maxRecDepth 100000 in
set_option maxHeartbeats 400000 in
theorem d_write_w {l : Launch} {G : zG} {μ : Mem} {ν : Lng} {n : Nat} (hn : μ 66 17 = nI n) (h6 : n ≤ 6) {w : Int32} (hw : w < 0 ∨ nI n ≤ w) {v : Int32}  : Cm l G mX10_write [.ref 66, .int w, .int v] μ ν (fun a9 b9 c9 => (-1000000001) = a9 ∧ μ = b9 ∧ ν = c9) := by
  refine Con.of (by decide) (Nat.le_of_ble_eq_true rfl) ?_
  show Am l G mX10_write 0 [(0, .ref 66), (1, .int w), (2, .int v)] [] μ ν _
  refine z_aload_n dX10_write_0 rfl ?_
  refine z_iload_n dX10_write_1 rfl ?_
  refine m_callV (As := [.int _]) dX10_write_2 kX10_228 ⟨rfl, rfl⟩ rfl ⟨rfl, rfl⟩ rfl rfl sh66 rfl rfl (c_isOneF hn h6 hw) (fun r2 μ2 ν2 hk2 => ?_)
  obtain ⟨rfl, rfl, rfl⟩ := hk2
  refine z_if_ne 11 dX10_write_5 (by decide) (fun h5 => absurd (by decide) h5) (fun h5 => ?_)
  refine z_ldc dX10_write_8 cX10_227 ?_
  refine m_iret dX10_write_10 rfl rfl ?_
  exact ⟨rfl, rfl, rfl⟩
set_option maxRecDepth 100000 in
set_option maxHeartbeats 400000 in
theorem d_write_o {l : Launch} {G : zG} {μ : Mem} {ν : Lng} {n : Nat} (hn : μ 66 17 = nI n) (h6 : n ≤ 6) {j : Nat} (hj : j < n) {v : Int32} (hv : v < 0 ∨ 6 < v)  : Cm l G mX10_write [.ref 66, .int (nI j), .int v] μ ν (fun a9 b9 c9 => (-1000000002) = a9 ∧ μ = b9 ∧ ν = c9) := by
  refine Con.of (by decide) (Nat.le_of_ble_eq_true rfl) ?_
  show Am l G mX10_write 0 [(0, .ref 66), (1, .int (nI j)), (2, .int v)] [] μ ν _
  refine z_aload_n dX10_write_0 rfl ?_
  refine z_iload_n dX10_write_1 rfl ?_
  refine m_callV (As := [.int _]) dX10_write_2 kX10_228 ⟨rfl, rfl⟩ rfl ⟨rfl, rfl⟩ rfl rfl sh66 rfl rfl (c_isOneT hn h6 hj) (fun r2 μ2 ν2 hk2 => ?_)
  obtain ⟨rfl, rfl, rfl⟩ := hk2
  refine z_if_ne 11 dX10_write_5 (by decide) (fun h5 => ?_) (fun h5 => absurd h5 (by decide))
  refine z_iload_n dX10_write_11 rfl ?_
  refine z_iconst (v := 0) dX10_write_12 rfl ?_
  refine z_bipush (v := 6) dX10_write_13 rfl ?_
  refine m_callS (As := [.int _, .int _, .int _]) dX10_write_15 kX10_108 ⟨rfl, rfl⟩ rfl ⟨rfl, rfl⟩ rfl rfl rfl (c_inF hv) (fun r15 μ15 ν15 hk15 => ?_)
  obtain ⟨rfl, rfl, rfl⟩ := hk15
  refine z_if_ne 24 dX10_write_18 (by decide) (fun h18 => absurd (by decide) h18) (fun h18 => ?_)
  refine z_ldc dX10_write_21 cX10_112 ?_
  refine m_iret dX10_write_23 rfl rfl ?_
  exact ⟨rfl, rfl, rfl⟩
set_option maxRecDepth 100000 in
set_option maxHeartbeats 400000 in
theorem d_write_f {l : Launch} {G : zG} {μ : Mem} {ν : Lng} {n : Nat} (hn : μ 66 17 = nI n) (h6 : n ≤ 6) {j : Nat} (hj : j < n) {v : Nat} (hv : v ≤ 6) (hb : μ 66 45 = nI 20)  : Cm l G mX10_write [.ref 66, .int (nI j), .int (nI v)] μ ν (fun a9 b9 c9 => (-1000000004) = a9 ∧ μ = b9 ∧ ν = c9) := by
  refine Con.of (by decide) (Nat.le_of_ble_eq_true rfl) ?_
  show Am l G mX10_write 0 [(0, .ref 66), (1, .int (nI j)), (2, .int (nI v))] [] μ ν _
  refine z_aload_n dX10_write_0 rfl ?_
  refine z_iload_n dX10_write_1 rfl ?_
  refine m_callV (As := [.int _]) dX10_write_2 kX10_228 ⟨rfl, rfl⟩ rfl ⟨rfl, rfl⟩ rfl rfl sh66 rfl rfl (c_isOneT hn h6 hj) (fun r2 μ2 ν2 hk2 => ?_)
  obtain ⟨rfl, rfl, rfl⟩ := hk2
  refine z_if_ne 11 dX10_write_5 (by decide) (fun h5 => ?_) (fun h5 => absurd h5 (by decide))
  refine z_iload_n dX10_write_11 rfl ?_
  refine z_iconst (v := 0) dX10_write_12 rfl ?_
  refine z_bipush (v := 6) dX10_write_13 rfl ?_
  refine m_callS (As := [.int _, .int _, .int _]) dX10_write_15 kX10_108 ⟨rfl, rfl⟩ rfl ⟨rfl, rfl⟩ rfl rfl rfl (c_inT (v := v) (lo := 0) (hi := 6) (Nat.zero_le v) hv (by decide)) (fun r15 μ15 ν15 hk15 => ?_)
  obtain ⟨rfl, rfl, rfl⟩ := hk15
  refine z_if_ne 24 dX10_write_18 (by decide) (fun h18 => ?_) (fun h18 => absurd h18 (by decide))
  refine z_aload_n dX10_write_24 rfl ?_
  refine m_geti dX10_write_25 fX10_181 sh66 rfl ?_
  rw [hb]
  refine z_bipush (v := 20) dX10_write_28 rfl ?_
  refine z_icmp_ne 36 dX10_write_30 (by decide) (fun h30 => absurd (by decide) h30) (fun h30 => ?_)
  refine z_ldc dX10_write_33 cX10_116 ?_
  refine m_iret dX10_write_35 rfl rfl ?_
  exact ⟨rfl, rfl, rfl⟩
set_option maxRecDepth 100000 in
set_option maxHeartbeats 400000 in
theorem d_write {l : Launch} {G : zG} {μ : Mem} {ν : Lng} {n : Nat} (hn : μ 66 17 = nI n) (h6 : n ≤ 6) {j : Nat} (hj : j < n) {v b : Nat} (hv : v ≤ 6) (hb : μ 66 45 = nI b) (hb2 : b < 20)  : Cm l G mX10_write [.ref 66, .int (nI j), .int (nI v)] μ ν (fun a9 b9 c9 => nI (b + 1) = a9 ∧ up2 (up2 (up2 μ 96 (2 * b) (nI j)) 96 (2 * b + 1) (nI v)) 66 45 (nI (b + 1)) = b9 ∧ ν = c9) := by
  refine Con.of (by decide) (Nat.le_of_ble_eq_true rfl) ?_
  show Am l G mX10_write 0 [(0, .ref 66), (1, .int (nI j)), (2, .int (nI v))] [] μ ν _
  refine z_aload_n dX10_write_0 rfl ?_
  refine z_iload_n dX10_write_1 rfl ?_
  refine m_callV (As := [.int _]) dX10_write_2 kX10_228 ⟨rfl, rfl⟩ rfl ⟨rfl, rfl⟩ rfl rfl sh66 rfl rfl (c_isOneT hn h6 hj) (fun r2 μ2 ν2 hk2 => ?_)
  obtain ⟨rfl, rfl, rfl⟩ := hk2
  refine z_if_ne 11 dX10_write_5 (by decide) (fun h5 => ?_) (fun h5 => absurd h5 (by decide))
  refine z_iload_n dX10_write_11 rfl ?_
  refine z_iconst (v := 0) dX10_write_12 rfl ?_
  refine z_bipush (v := 6) dX10_write_13 rfl ?_
  refine m_callS (As := [.int _, .int _, .int _]) dX10_write_15 kX10_108 ⟨rfl, rfl⟩ rfl ⟨rfl, rfl⟩ rfl rfl rfl (c_inT (v := v) (lo := 0) (hi := 6) (Nat.zero_le v) hv (by decide)) (fun r15 μ15 ν15 hk15 => ?_)
  obtain ⟨rfl, rfl, rfl⟩ := hk15
  refine z_if_ne 24 dX10_write_18 (by decide) (fun h18 => ?_) (fun h18 => absurd h18 (by decide))
  refine z_aload_n dX10_write_24 rfl ?_
  refine m_geti dX10_write_25 fX10_181 sh66 rfl ?_
  rw [hb]
  refine z_bipush (v := 20) dX10_write_28 rfl ?_
  refine z_icmp_ne 36 dX10_write_30 (by decide) (fun h30 => ?_) (fun h30 => absurd h30 (zne (a := b) (b := 20) (by omega) (by omega) (by omega)))
  refine z_aload_n dX10_write_36 rfl ?_
  refine m_getr dX10_write_37 fX10_102 sh66 rfl ?_
  refine z_iconst (v := 2) dX10_write_40 rfl ?_
  refine z_aload_n dX10_write_41 rfl ?_
  refine m_geti dX10_write_42 fX10_181 sh66 rfl ?_
  rw [hb]
  refine z_imul dX10_write_45 ?_
  rw [show (2 * nI b) = nI (2 * b) from z2n b]
  refine z_iload_n dX10_write_46 rfl ?_
  refine m_iastN (j := (2 * b)) dX10_write_47 sh96 rfl (by omega) rfl ?_
  refine z_aload_n dX10_write_48 rfl ?_
  refine m_getr dX10_write_49 fX10_102 sh66 rfl ?_
  refine z_iconst (v := 2) dX10_write_52 rfl ?_
  refine z_aload_n dX10_write_53 rfl ?_
  refine m_geti dX10_write_54 fX10_181 sh66 rfl ?_
  rw [up2_ne (by decide), hb]
  refine z_imul dX10_write_57 ?_
  rw [show (2 * nI b) = nI (2 * b) from z2n b]
  refine z_iconst (v := 1) dX10_write_58 rfl ?_
  refine z_iadd dX10_write_59 ?_
  rw [show (nI (2 * b) + 1) = nI (2 * b + 1) from nI_1 (2 * b)]
  refine z_iload_n dX10_write_60 rfl ?_
  refine m_iastN (j := (2 * b + 1)) dX10_write_61 sh96 rfl (by omega) rfl ?_
  refine z_aload_n dX10_write_62 rfl ?_
  refine z_dup dX10_write_63 rfl ?_
  refine m_geti dX10_write_64 fX10_181 sh66 rfl ?_
  rw [up2_ne (by decide), up2_ne (by decide), hb]
  refine z_iconst (v := 1) dX10_write_67 rfl ?_
  refine z_iadd dX10_write_68 ?_
  rw [show (nI b + 1) = nI (b + 1) from nI_1 b]
  refine m_puti dX10_write_69 fX10_181 (fun q h => by cases h; rfl) rfl rfl sh66 rfl ?_
  refine z_aload_n dX10_write_72 rfl ?_
  refine m_geti dX10_write_73 fX10_181 sh66 rfl ?_
  refine m_iret dX10_write_76 rfl rfl ?_
  exact ⟨(up2_same _ _ _ _).symm, rfl, rfl⟩
def rJudge (τ : Mem) (i : Nat) : Bool := decide (¬ τ 78 (τ 96 (2 * i)).toNatClampNeg = τ 96 (2 * i + 1))
set_option maxRecDepth 100000 in
set_option maxHeartbeats 400000 in
theorem d_judge {l : Launch} {G : zG} {μ : Mem} {ν : Lng} {n : Nat} (hn : μ 66 17 = nI n) (h6 : n ≤ 6) {Q : Nat → Nat} (hQ : zOrd (μ 75) n Q) (hsd : zSidesM μ n) {b : Nat} (hb : μ 66 45 = nI b) (hb2 : b ≤ 20) (hbw : ∀ i, i < b → ∃ m : Nat, m < n ∧ μ 96 (2 * i) = nI m)  : Cm l G mX10_judge [.ref 66] μ ν (fun a9 b9 c9 => zFirst (rJudge (rRun μ n Q)) 0 b = a9 ∧ rRun μ n Q = b9 ∧ ν = c9) := by
  refine Con.of (by decide) (Nat.le_of_ble_eq_true rfl) ?_
  show Am l G mX10_judge 0 [(0, .ref 66)] [] μ ν _
  have fr : zEq μ (rRun μ n Q) := zEq.start.tr (zEq.looks n)
  have hb1 : rRun μ n Q 66 45 = nI b := (fr.2 45 (by decide) (by decide)).trans hb
  have hL := m_forP (l := l) (G := G) (M := mX10_judge) (pc := 7) (ν := ν) (K := (fun a9 b9 c9 => zFirst (rJudge (rRun μ n Q)) 0 b = a9 ∧ rRun μ n Q = b9 ∧ ν = c9)) (N := b) (fun i => ∀ a, a < i → rJudge (rRun μ n Q) a = false) (fun i => [(1, .int (nI i)), (0, .ref 66)]) (fun _ => rRun μ n Q) (fun i hi hP H => by
    obtain ⟨m, hm, em⟩ := hbw i hi
    rw [← fr.1 96 (by unfold zMe; omega)] at em
    refine z_iload_n dX10_judge_7 rfl ?_
    refine z_aload_n dX10_judge_8 rfl ?_
    refine m_geti dX10_judge_9 fX10_181 sh66 rfl ?_
    refine z_icmp_ge 49 dX10_judge_12 (by decide) (fun h12 => absurd (hb1 ▸ h12) (nI_ge hi (by omega))) (fun h12 => ?_)
    refine z_aload_n dX10_judge_15 rfl ?_
    refine m_getr dX10_judge_16 fX10_48 sh66 rfl ?_
    refine z_aload_n dX10_judge_19 rfl ?_
    refine m_getr dX10_judge_20 fX10_102 sh66 rfl ?_
    refine z_iconst (v := 2) dX10_judge_23 rfl ?_
    refine z_iload_n dX10_judge_24 rfl ?_
    refine z_imul dX10_judge_25 ?_
    rw [show (2 * nI i) = nI (2 * i) from z2n i]
    refine m_ialdN (j := (2 * i)) dX10_judge_26 sh96 rfl (by omega) rfl ?_
    refine m_ialdN (j := m) dX10_judge_27 sh78 em (by omega) rfl ?_
    refine z_aload_n dX10_judge_28 rfl ?_
    refine m_getr dX10_judge_29 fX10_102 sh66 rfl ?_
    refine z_iconst (v := 2) dX10_judge_32 rfl ?_
    refine z_iload_n dX10_judge_33 rfl ?_
    refine z_imul dX10_judge_34 ?_
    rw [show (2 * nI i) = nI (2 * i) from z2n i]
    refine z_iconst (v := 1) dX10_judge_35 rfl ?_
    refine z_iadd dX10_judge_36 ?_
    rw [show (nI (2 * i) + 1) = nI (2 * i + 1) from nI_1 (2 * i)]
    refine m_ialdN (j := (2 * i + 1)) dX10_judge_37 sh96 rfl (by omega) rfl ?_
    refine z_icmp_eq 43 dX10_judge_38 (by decide) (fun h38 => ?_) (fun h38 => ?_)
    · skip
      refine z_iinc (fun y => [(1, .int y), (0, .ref 66)]) dX10_judge_43 rfl rfl (fun _ => rfl) (fun x1_43 ex1_43 => ?_)
      obtain rfl : x1_43 = nI (i + 1) := by rw [ex1_43]; exact nI_1 i
      refine z_goto 7 dX10_judge_46 (by decide) ?_
      refine H (fun a ha => ?_)
      by_cases e : a = i
      · subst e
        unfold rJudge
        rw [em, nI_clamp (show m < 2 ^ 31 by omega)]
        exact decide_eq_false (fun q => q h38)
      · exact hP a (by omega)
    · skip
      refine z_iload_n dX10_judge_41 rfl ?_
      refine m_iret dX10_judge_42 rfl rfl ?_
      refine ⟨zFirst_at (i := i) ?_ 0 b (by omega) (by omega) (fun a _ h => hP a h), rfl, rfl⟩
      unfold rJudge
      rw [em, nI_clamp (show m < 2 ^ 31 by omega)]
      exact decide_eq_true h38) (fun hP => by
    refine z_iload_n dX10_judge_7 rfl ?_
    refine z_aload_n dX10_judge_8 rfl ?_
    refine m_geti dX10_judge_9 fX10_181 sh66 rfl ?_
    refine z_icmp_ge 49 dX10_judge_12 (by decide) (fun h12 => ?_) (fun h12 => absurd (hb1 ▸ nI_le (Nat.le_refl b) (by omega)) h12)
    refine z_iconst (v := -1) dX10_judge_49 rfl ?_
    refine m_iret dX10_judge_50 rfl rfl ?_
    exact ⟨zFirst_no 0 b (fun a _ h => hP a (by omega)), rfl, rfl⟩)
  refine z_aload_n dX10_judge_0 rfl ?_
  refine m_callV (As := []) dX10_judge_1 kX10_223 ⟨rfl, rfl⟩ rfl ⟨rfl, rfl⟩ rfl rfl sh66 rfl rfl (c_costNow hn h6 hQ hsd) (fun r1 μ1 ν1 hk1 => ?_)
  obtain ⟨rfl, rfl, rfl⟩ := hk1
  refine z_pop dX10_judge_4 rfl ?_
  refine z_iconst (v := 0) dX10_judge_5 rfl ?_
  refine z_istore_n (i := 1) (fun y => [(1, .int y), (0, .ref 66)]) dX10_judge_6 rfl rfl (fun _ => rfl) (fun x9 e9 => ?_)
  subst e9
  exact hL 0 (Nat.zero_le b) (fun a h => absurd h (Nat.not_lt_zero a))
