
def zOd (q : Nat) : Nat → Int64
  | 0 => 1000000000
  | i + 1 => zOd q i * (1000 - nI q).toInt64 / 1000
def zUp (q x : Nat) (i : Nat) : Bool := decide (¬ 0 < lg_cmp (zOd q i) ((nI x).toInt64 * 10000000))
set_option maxRecDepth 100000 in
set_option maxHeartbeats 400000 in
theorem c_until_a {l : Launch} {G : zG} {μ : Mem} {ν : Lng} {v : Int32} (hv : v < 0 ∨ 1000 < v) {y : Int32}  : Cm l G mX9_until [.ref 0, .int v, .int y] μ ν (fun a9 b9 c9 => (-1000000002) = a9 ∧ μ = b9 ∧ ν = c9) := by
  refine Con.of (by decide) (Nat.le_of_ble_eq_true rfl) ?_
  show Am l G mX9_until 0 [(0, .ref 0), (1, .int v), (2, .int y)] [] μ ν _
  refine z_iload_n dX9_until_0 rfl ?_
  refine z_if_lt 21 dX9_until_1 (by decide) (fun h1 => ?_) (fun h1 => ?_)
  · skip
    refine z_ldc dX9_until_21 cX9_73 ?_
    refine m_iret dX9_until_23 rfl rfl ?_
    exact ⟨rfl, rfl, rfl⟩
  · skip
    refine z_iload_n dX9_until_4 rfl ?_
    refine z_sipush (v := 1000) dX9_until_5 rfl ?_
    refine z_icmp_gt 21 dX9_until_8 (by decide) (fun h8 => ?_) (fun h8 => (hv.elim h1 h8).elim)
    refine z_ldc dX9_until_21 cX9_73 ?_
    refine m_iret dX9_until_23 rfl rfl ?_
    exact ⟨rfl, rfl, rfl⟩
set_option maxRecDepth 100000 in
set_option maxHeartbeats 400000 in
theorem c_until_b {l : Launch} {G : zG} {μ : Mem} {ν : Lng} {q : Nat} (hq : q ≤ 1000) {v : Int32} (hv : v < 0 ∨ 100 < v)  : Cm l G mX9_until [.ref 0, .int (nI q), .int v] μ ν (fun a9 b9 c9 => (-1000000002) = a9 ∧ μ = b9 ∧ ν = c9) := by
  refine Con.of (by decide) (Nat.le_of_ble_eq_true rfl) ?_
  show Am l G mX9_until 0 [(0, .ref 0), (1, .int (nI q)), (2, .int v)] [] μ ν _
  refine z_iload_n dX9_until_0 rfl ?_
  refine z_if_lt 21 dX9_until_1 (by decide) (fun h1 => absurd h1 (nI_nlt (a := q) (b := 0) (by omega) (by omega))) (fun h1 => ?_)
  refine z_iload_n dX9_until_4 rfl ?_
  refine z_sipush (v := 1000) dX9_until_5 rfl ?_
  refine z_icmp_gt 21 dX9_until_8 (by decide) (fun h8 => absurd h8 (nI_nlt (a := 1000) (b := q) (by omega) (by omega))) (fun h8 => ?_)
  refine z_iload_n dX9_until_11 rfl ?_
  refine z_if_lt 21 dX9_until_12 (by decide) (fun h12 => ?_) (fun h12 => ?_)
  · skip
    refine z_ldc dX9_until_21 cX9_73 ?_
    refine m_iret dX9_until_23 rfl rfl ?_
    exact ⟨rfl, rfl, rfl⟩
  · skip
    refine z_iload_n dX9_until_15 rfl ?_
    refine z_bipush (v := 100) dX9_until_16 rfl ?_
    refine z_icmp_le 24 dX9_until_18 (by decide) (fun h18 => (zbad hv h12 h18).elim) (fun h18 => ?_)
    refine z_ldc dX9_until_21 cX9_73 ?_
    refine m_iret dX9_until_23 rfl rfl ?_
    exact ⟨rfl, rfl, rfl⟩
set_option maxRecDepth 100000 in
set_option maxHeartbeats 400000 in
theorem c_until {l : Launch} {G : zG} {μ : Mem} {ν : Lng} {q x N : Nat} (hq : q ≤ 1000) (hx : x ≤ 100) (hN : N = 10000)  : Cm l G mX9_until [.ref 0, .int (nI q), .int (nI x)] μ ν (fun a9 b9 c9 => zFirst (zUp q x) 0 N = a9 ∧ μ = b9 ∧ ν = c9) := by
  refine Con.of (by decide) (Nat.le_of_ble_eq_true rfl) ?_
  show Am l G mX9_until 0 [(0, .ref 0), (1, .int (nI q)), (2, .int (nI x))] [] μ ν _
  have hL := m_forP (l := l) (G := G) (M := mX9_until) (pc := 39) (ν := ν) (K := (fun a9 b9 c9 => zFirst (zUp q x) 0 N = a9 ∧ μ = b9 ∧ ν = c9)) (N := N) (fun i => ∀ a, a < i → zUp q x a = false) (fun i => [(7, .int (nI i)), (5, .long ((nI x).toInt64 * 10000000)), (3, .long (zOd q i)), (0, .ref 0), (1, .int (nI q)), (2, .int (nI x))]) (fun _ => μ) (fun i hi hP H => by
    refine z_iload dX9_until_39 rfl ?_
    refine z_sipush (v := 9999) dX9_until_41 rfl ?_
    refine z_icmp_gt 76 dX9_until_44 (by decide) (fun h44 => absurd h44 (nI_nlt (a := 9999) (b := i) (by omega) (by omega))) (fun h44 => ?_)
    refine z_lload_n dX9_until_47 rfl ?_
    refine z_lload dX9_until_48 rfl ?_
    refine z_lcmp dX9_until_50 ?_
    refine z_if_gt 57 dX9_until_51 (by decide) (fun h51 => ?_) (fun h51 => ?_)
    · skip
      refine z_lload_n dX9_until_57 rfl ?_
      refine z_sipush (v := 1000) dX9_until_58 rfl ?_
      refine z_iload_n dX9_until_61 rfl ?_
      refine z_isub dX9_until_62 ?_
      refine z_i2l dX9_until_63 ?_
      refine z_lmul dX9_until_64 ?_
      refine z_ldc2 dX9_until_65 cX9_274 ?_
      refine z_ldiv dX9_until_68 (by decide) ?_
      refine z_lstore_n (i := 3) (fun y => [(3, .long y), (7, .int (nI i)), (5, .long ((nI x).toInt64 * 10000000)), (0, .ref 0), (1, .int (nI q)), (2, .int (nI x))]) dX9_until_69 rfl rfl (fun _ => rfl) (fun x9 e9 => ?_)
      subst e9
      refine z_iinc (fun y => [(7, .int y), (3, .long (((zOd q i) * ((1000 - nI q)).toInt64) / (1000))), (5, .long ((nI x).toInt64 * 10000000)), (0, .ref 0), (1, .int (nI q)), (2, .int (nI x))]) dX9_until_70 rfl rfl (fun _ => rfl) (fun x7_70 ex7_70 => ?_)
      obtain rfl : x7_70 = nI (i + 1) := by rw [ex7_70]; exact nI_1 i
      refine z_goto 39 dX9_until_73 (by decide) ?_
      refine z_lv [0, 2, 1, 3, 4, 5] rfl ?_
      refine H (fun a ha => ?_)
      by_cases e : a = i
      · subst e
        exact decide_eq_false (fun z => z h51)
      · exact hP a (by omega)
    · skip
      refine z_iload dX9_until_54 rfl ?_
      refine m_iret dX9_until_56 rfl rfl ?_
      exact ⟨zFirst_at (i := i) (decide_eq_true h51) 0 N (by omega) (by omega) (fun a _ h => hP a h), rfl, rfl⟩) (fun hP => by
    refine z_iload dX9_until_39 rfl ?_
    refine z_sipush (v := 9999) dX9_until_41 rfl ?_
    refine z_icmp_gt 76 dX9_until_44 (by decide) (fun h44 => ?_) (fun h44 => absurd (nI_lt (a := 9999) (b := N) (by omega) (by omega)) h44)
    refine z_iconst (v := -1) dX9_until_76 rfl ?_
    refine m_iret dX9_until_77 rfl rfl ?_
    exact ⟨zFirst_no 0 N (fun a _ h => hP a (by omega)), rfl, rfl⟩)
  refine z_iload_n dX9_until_0 rfl ?_
  refine z_if_lt 21 dX9_until_1 (by decide) (fun h1 => absurd h1 (nI_nlt (a := q) (b := 0) (by omega) (by omega))) (fun h1 => ?_)
  refine z_iload_n dX9_until_4 rfl ?_
  refine z_sipush (v := 1000) dX9_until_5 rfl ?_
  refine z_icmp_gt 21 dX9_until_8 (by decide) (fun h8 => absurd h8 (nI_nlt (a := 1000) (b := q) (by omega) (by omega))) (fun h8 => ?_)
  refine z_iload_n dX9_until_11 rfl ?_
  refine z_if_lt 21 dX9_until_12 (by decide) (fun h12 => absurd h12 (nI_nlt (a := x) (b := 0) (by omega) (by omega))) (fun h12 => ?_)
  refine z_iload_n dX9_until_15 rfl ?_
  refine z_bipush (v := 100) dX9_until_16 rfl ?_
  refine z_icmp_le 24 dX9_until_18 (by decide) (fun h18 => ?_) (fun h18 => absurd (nI_le (a := x) (b := 100) (by omega) (by omega)) h18)
  refine z_ldc2 dX9_until_24 cX9_270 ?_
  refine z_lstore_n (i := 3) (fun y => [(3, .long y), (0, .ref 0), (1, .int (nI q)), (2, .int (nI x))]) dX9_until_27 rfl rfl (fun _ => rfl) (fun x9 e9 => ?_)
  subst e9
  refine z_iload_n dX9_until_28 rfl ?_
  refine z_i2l dX9_until_29 ?_
  refine z_ldc2 dX9_until_30 cX9_272 ?_
  refine z_lmul dX9_until_33 ?_
  refine z_lstore (i := 5) (fun y => [(5, .long y), (3, .long (1000000000)), (0, .ref 0), (1, .int (nI q)), (2, .int (nI x))]) dX9_until_34 rfl (fun _ => rfl) (fun x9 e9 => ?_)
  subst e9
  refine z_iconst (v := 0) dX9_until_36 rfl ?_
  refine z_istore (i := 7) (fun y => [(7, .int y), (5, .long ((nI x).toInt64 * (10000000))), (3, .long (1000000000)), (0, .ref 0), (1, .int (nI q)), (2, .int (nI x))]) dX9_until_37 rfl (fun _ => rfl) (fun x9 e9 => ?_)
  subst e9
  exact hL 0 (Nat.zero_le _) (fun a h => absurd h (Nat.not_lt_zero a))
set_option maxRecDepth 100000 in
set_option maxHeartbeats 400000 in
theorem d_until_a {l : Launch} {G : zG} {μ : Mem} {ν : Lng} {v : Int32} (hv : v < 0 ∨ 1000 < v) {y : Int32}  : Cm l G mX10_until [.ref 66, .int v, .int y] μ ν (fun a9 b9 c9 => (-1000000002) = a9 ∧ μ = b9 ∧ ν = c9) := by
  refine Con.of (by decide) (Nat.le_of_ble_eq_true rfl) ?_
  show Am l G mX10_until 0 [(0, .ref 66), (1, .int v), (2, .int y)] [] μ ν _
  refine z_iload_n dX10_until_0 rfl ?_
  refine z_iconst (v := 0) dX10_until_1 rfl ?_
  refine z_sipush (v := 1000) dX10_until_2 rfl ?_
  refine m_callS (As := [.int _, .int _, .int _]) dX10_until_5 kX10_108 ⟨rfl, rfl⟩ rfl ⟨rfl, rfl⟩ rfl rfl rfl (c_inF hv) (fun r5 μ5 ν5 hk5 => ?_)
  obtain ⟨rfl, rfl, rfl⟩ := hk5
  refine z_if_eq 21 dX10_until_8 (by decide) (fun h8 => ?_) (fun h8 => absurd (by decide) h8)
  refine z_ldc dX10_until_21 cX10_112 ?_
  refine m_iret dX10_until_23 rfl rfl ?_
  exact ⟨rfl, rfl, rfl⟩
set_option maxRecDepth 100000 in
set_option maxHeartbeats 400000 in
theorem d_until_b {l : Launch} {G : zG} {μ : Mem} {ν : Lng} {q : Nat} (hq : q ≤ 1000) {v : Int32} (hv : v < 0 ∨ 100 < v)  : Cm l G mX10_until [.ref 66, .int (nI q), .int v] μ ν (fun a9 b9 c9 => (-1000000002) = a9 ∧ μ = b9 ∧ ν = c9) := by
  refine Con.of (by decide) (Nat.le_of_ble_eq_true rfl) ?_
  show Am l G mX10_until 0 [(0, .ref 66), (1, .int (nI q)), (2, .int v)] [] μ ν _
  refine z_iload_n dX10_until_0 rfl ?_
  refine z_iconst (v := 0) dX10_until_1 rfl ?_
  refine z_sipush (v := 1000) dX10_until_2 rfl ?_
  refine m_callS (As := [.int _, .int _, .int _]) dX10_until_5 kX10_108 ⟨rfl, rfl⟩ rfl ⟨rfl, rfl⟩ rfl rfl rfl (c_inT (v := q) (lo := 0) (hi := 1000) (Nat.zero_le q) hq (by decide)) (fun r5 μ5 ν5 hk5 => ?_)
  obtain ⟨rfl, rfl, rfl⟩ := hk5
  refine z_if_eq 21 dX10_until_8 (by decide) (fun h8 => absurd h8 (by decide)) (fun h8 => ?_)
  refine z_iload_n dX10_until_11 rfl ?_
  refine z_iconst (v := 0) dX10_until_12 rfl ?_
  refine z_bipush (v := 100) dX10_until_13 rfl ?_
  refine m_callS (As := [.int _, .int _, .int _]) dX10_until_15 kX10_108 ⟨rfl, rfl⟩ rfl ⟨rfl, rfl⟩ rfl rfl rfl (c_inF hv) (fun r15 μ15 ν15 hk15 => ?_)
  obtain ⟨rfl, rfl, rfl⟩ := hk15
  refine z_if_ne 24 dX10_until_18 (by decide) (fun h18 => absurd (by decide) h18) (fun h18 => ?_)
  refine z_ldc dX10_until_21 cX10_112 ?_
  refine m_iret dX10_until_23 rfl rfl ?_
  exact ⟨rfl, rfl, rfl⟩
set_option maxRecDepth 100000 in
set_option maxHeartbeats 400000 in
theorem d_until {l : Launch} {G : zG} {μ : Mem} {ν : Lng} {q x N : Nat} (hq : q ≤ 1000) (hx : x ≤ 100) (hN : N = 10000)  : Cm l G mX10_until [.ref 66, .int (nI q), .int (nI x)] μ ν (fun a9 b9 c9 => zFirst (zUp q x) 0 N = a9 ∧ μ = b9 ∧ ν = c9) := by
  refine Con.of (by decide) (Nat.le_of_ble_eq_true rfl) ?_
  show Am l G mX10_until 0 [(0, .ref 66), (1, .int (nI q)), (2, .int (nI x))] [] μ ν _
  have hL := m_forP (l := l) (G := G) (M := mX10_until) (pc := 39) (ν := ν) (K := (fun a9 b9 c9 => zFirst (zUp q x) 0 N = a9 ∧ μ = b9 ∧ ν = c9)) (N := N) (fun i => ∀ a, a < i → zUp q x a = false) (fun i => [(7, .int (nI i)), (5, .long ((nI x).toInt64 * 10000000)), (3, .long (zOd q i)), (0, .ref 66), (1, .int (nI q)), (2, .int (nI x))]) (fun _ => μ) (fun i hi hP H => by
    refine z_iload dX10_until_39 rfl ?_
    refine z_sipush (v := 10000) dX10_until_41 rfl ?_
    refine z_icmp_ge 76 dX10_until_44 (by decide) (fun h44 => absurd h44 (nI_ge (a := i) (b := 10000) (by omega) (by omega))) (fun h44 => ?_)
    refine z_lload_n dX10_until_47 rfl ?_
    refine z_lload dX10_until_48 rfl ?_
    refine z_lcmp dX10_until_50 ?_
    refine z_if_gt 57 dX10_until_51 (by decide) (fun h51 => ?_) (fun h51 => ?_)
    · skip
      refine z_lload_n dX10_until_57 rfl ?_
      refine z_sipush (v := 1000) dX10_until_58 rfl ?_
      refine z_iload_n dX10_until_61 rfl ?_
      refine z_isub dX10_until_62 ?_
      refine z_i2l dX10_until_63 ?_
      refine z_lmul dX10_until_64 ?_
      refine z_ldc2 dX10_until_65 cX10_262 ?_
      refine z_ldiv dX10_until_68 (by decide) ?_
      refine z_lstore_n (i := 3) (fun y => [(3, .long y), (7, .int (nI i)), (5, .long ((nI x).toInt64 * 10000000)), (0, .ref 66), (1, .int (nI q)), (2, .int (nI x))]) dX10_until_69 rfl rfl (fun _ => rfl) (fun x9 e9 => ?_)
      subst e9
      refine z_iinc (fun y => [(7, .int y), (3, .long (((zOd q i) * ((1000 - nI q)).toInt64) / (1000))), (5, .long ((nI x).toInt64 * 10000000)), (0, .ref 66), (1, .int (nI q)), (2, .int (nI x))]) dX10_until_70 rfl rfl (fun _ => rfl) (fun x7_70 ex7_70 => ?_)
      obtain rfl : x7_70 = nI (i + 1) := by rw [ex7_70]; exact nI_1 i
      refine z_goto 39 dX10_until_73 (by decide) ?_
      refine z_lv [0, 2, 1, 3, 4, 5] rfl ?_
      refine H (fun a ha => ?_)
      by_cases e : a = i
      · subst e
        exact decide_eq_false (fun z => z h51)
      · exact hP a (by omega)
    · skip
      refine z_iload dX10_until_54 rfl ?_
      refine m_iret dX10_until_56 rfl rfl ?_
      exact ⟨zFirst_at (i := i) (decide_eq_true h51) 0 N (by omega) (by omega) (fun a _ h => hP a h), rfl, rfl⟩) (fun hP => by
    refine z_iload dX10_until_39 rfl ?_
    refine z_sipush (v := 10000) dX10_until_41 rfl ?_
    refine z_icmp_ge 76 dX10_until_44 (by decide) (fun h44 => ?_) (fun h44 => absurd (nI_le (a := 10000) (b := N) (by omega) (by omega)) h44)
    refine z_iconst (v := -1) dX10_until_76 rfl ?_
    refine m_iret dX10_until_77 rfl rfl ?_
    exact ⟨zFirst_no 0 N (fun a _ h => hP a (by omega)), rfl, rfl⟩)
  refine z_iload_n dX10_until_0 rfl ?_
  refine z_iconst (v := 0) dX10_until_1 rfl ?_
  refine z_sipush (v := 1000) dX10_until_2 rfl ?_
  refine m_callS (As := [.int _, .int _, .int _]) dX10_until_5 kX10_108 ⟨rfl, rfl⟩ rfl ⟨rfl, rfl⟩ rfl rfl rfl (c_inT (v := q) (lo := 0) (hi := 1000) (Nat.zero_le q) hq (by decide)) (fun r5 μ5 ν5 hk5 => ?_)
  obtain ⟨rfl, rfl, rfl⟩ := hk5
  refine z_if_eq 21 dX10_until_8 (by decide) (fun h8 => absurd h8 (by decide)) (fun h8 => ?_)
  refine z_iload_n dX10_until_11 rfl ?_
  refine z_iconst (v := 0) dX10_until_12 rfl ?_
  refine z_bipush (v := 100) dX10_until_13 rfl ?_
  refine m_callS (As := [.int _, .int _, .int _]) dX10_until_15 kX10_108 ⟨rfl, rfl⟩ rfl ⟨rfl, rfl⟩ rfl rfl rfl (c_inT (v := x) (lo := 0) (hi := 100) (Nat.zero_le x) hx (by decide)) (fun r15 μ15 ν15 hk15 => ?_)
  obtain ⟨rfl, rfl, rfl⟩ := hk15
  refine z_if_ne 24 dX10_until_18 (by decide) (fun h18 => ?_) (fun h18 => absurd h18 (by decide))
  refine z_ldc2 dX10_until_24 cX10_258 ?_
  refine z_lstore_n (i := 3) (fun y => [(3, .long y), (0, .ref 66), (1, .int (nI q)), (2, .int (nI x))]) dX10_until_27 rfl rfl (fun _ => rfl) (fun x9 e9 => ?_)
  subst e9
  refine z_iload_n dX10_until_28 rfl ?_
  refine z_i2l dX10_until_29 ?_
  refine z_ldc2 dX10_until_30 cX10_260 ?_
  refine z_lmul dX10_until_33 ?_
  refine z_lstore (i := 5) (fun y => [(5, .long y), (3, .long (1000000000)), (0, .ref 66), (1, .int (nI q)), (2, .int (nI x))]) dX10_until_34 rfl (fun _ => rfl) (fun x9 e9 => ?_)
  subst e9
  refine z_iconst (v := 0) dX10_until_36 rfl ?_
  refine z_istore (i := 7) (fun y => [(7, .int y), (5, .long ((nI x).toInt64 * (10000000))), (3, .long (1000000000)), (0, .ref 66), (1, .int (nI q)), (2, .int (nI x))]) dX10_until_37 rfl (fun _ => rfl) (fun x9 e9 => ?_)
  subst e9
  exact hL 0 (Nat.zero_le _) (fun a h => absurd h (Nat.not_lt_zero a))
theorem op_until (u v : Int32) : zOp mX9_until [.ref 0, .int u, .int v] mX10_until [.ref 66, .int u, .int v] := by
  intro l G μ ν n h
  have h6 := h.1
  have hn := h.2.1
  have hm := h.2.2.1
  rcases zrng u 0 1000 (by decide) (by decide) with hu | ⟨a, -, ha, rfl⟩
  · exact zOp.same h (c_until_a hu) (d_until_a hu) rfl
  rcases zrng v 0 100 (by decide) (by decide) with hu | ⟨b, -, hb, rfl⟩
  · exact zOp.same h (c_until_b ha hu) (d_until_b ha hu) rfl
  obtain ⟨N, hN⟩ : ∃ N, N = 10000 := ⟨_, rfl⟩
  exact zOp.same h (c_until ha hb hN) (d_until ha hb hN) rfl

def zCa (h q : Int32) : Int32 := h * (if 0 < 100 - q * h then 100 - q * h else 0)
def zSt (q : Int32) : Nat → Int32
  | 0 => 1
  | i + 1 => if zCa (nI (i + 2)) q ≤ zCa (zSt q i) q then zSt q i else nI (i + 2)
def zCv (h q : Int32) : Int32 := if 0 ≤ 100 - q * h then h * (100 - q * h) else 0
def zSu (q : Int32) : Nat → Int32 × Int32
  | 0 => (0, -1)
  | i + 1 => if zCv (nI (i + 1)) q ≤ (zSu q i).2 then zSu q i else (nI (i + 1), zCv (nI (i + 1)) q)
theorem zStack : ∀ q : Fin 101, (zSu (nI q.1) 9).1 = zSt (nI q.1) 8 := by decide +kernel
set_option maxRecDepth 100000 in
set_option maxHeartbeats 400000 in
theorem c_carried {l : Launch} {G : zG} {μ : Mem} {ν : Lng} {h q : Int32}  : Cm l G mX9_carried [.int h, .int q] μ ν (fun a9 b9 c9 => zCa h q = a9 ∧ μ = b9 ∧ ν = c9) := by
  refine Con.of (by decide) (Nat.le_of_ble_eq_true rfl) ?_
  show Am l G mX9_carried 0 [(0, .int h), (1, .int q)] [] μ ν _
  refine z_iload_n dX9_carried_0 rfl ?_
  refine z_iconst (v := 0) dX9_carried_1 rfl ?_
  refine z_bipush (v := 100) dX9_carried_2 rfl ?_
  refine z_iload_n dX9_carried_4 rfl ?_
  refine z_iload_n dX9_carried_5 rfl ?_
  refine z_imul dX9_carried_6 ?_
  refine z_isub dX9_carried_7 ?_
  refine z_max dX9_carried_8 kX9_265 wSt_max wIniMath wCo_max rfl rfl rfl rfl ?_
  refine z_imul dX9_carried_11 ?_
  refine m_iret dX9_carried_12 rfl rfl ?_
  exact ⟨rfl, rfl, rfl⟩
set_option maxRecDepth 100000 in
set_option maxHeartbeats 400000 in
theorem c_stack_o {l : Launch} {G : zG} {μ : Mem} {ν : Lng} {v : Int32} (hv : v < 0 ∨ 100 < v)  : Cm l G mX9_stack [.ref 0, .int v] μ ν (fun a9 b9 c9 => (-1000000002) = a9 ∧ μ = b9 ∧ ν = c9) := by
  refine Con.of (by decide) (Nat.le_of_ble_eq_true rfl) ?_
  show Am l G mX9_stack 0 [(0, .ref 0), (1, .int v)] [] μ ν _
  refine z_iload_n dX9_stack_0 rfl ?_
  refine z_if_lt 10 dX9_stack_1 (by decide) (fun h1 => ?_) (fun h1 => ?_)
  · skip
    refine z_ldc dX9_stack_10 cX9_73 ?_
    refine m_iret dX9_stack_12 rfl rfl ?_
    exact ⟨rfl, rfl, rfl⟩
  · skip
    refine z_iload_n dX9_stack_4 rfl ?_
    refine z_bipush (v := 100) dX9_stack_5 rfl ?_
    refine z_icmp_le 13 dX9_stack_7 (by decide) (fun h7 => (zbad hv h1 h7).elim) (fun h7 => ?_)
    refine z_ldc dX9_stack_10 cX9_73 ?_
    refine m_iret dX9_stack_12 rfl rfl ?_
    exact ⟨rfl, rfl, rfl⟩
set_option maxRecDepth 100000 in
set_option maxHeartbeats 400000 in
theorem c_stack {l : Launch} {G : zG} {μ : Mem} {ν : Lng} {q : Nat} (hq : q ≤ 100)  : Cm l G mX9_stack [.ref 0, .int (nI q)] μ ν (fun a9 b9 c9 => zSt (nI q) 8 = a9 ∧ μ = b9 ∧ ν = c9) := by
  refine Con.of (by decide) (Nat.le_of_ble_eq_true rfl) ?_
  show Am l G mX9_stack 0 [(0, .ref 0), (1, .int (nI q))] [] μ ν _
  have hL := m_for (l := l) (G := G) (M := mX9_stack) (pc := 17) (ν := ν) (K := (fun a9 b9 c9 => zSt (nI q) 8 = a9 ∧ μ = b9 ∧ ν = c9)) (N := 8) (fun i => [(3, .int (nI (i + 2))), (2, .int (zSt (nI q) i)), (0, .ref 0), (1, .int (nI q))]) (fun i => μ) (fun i hi H => by
    refine z_iload_n dX9_stack_17 rfl ?_
    refine z_bipush (v := 9) dX9_stack_18 rfl ?_
    refine z_icmp_gt 44 dX9_stack_20 (by decide) (fun h20 => absurd h20 (nI_nlt (a := 9) (b := i + 2) (by omega) (by omega))) (fun h20 => ?_)
    refine z_iload_n dX9_stack_23 rfl ?_
    refine z_iload_n dX9_stack_24 rfl ?_
    refine m_callS (As := [.int _, .int _]) dX9_stack_25 kX9_262 ⟨rfl, rfl⟩ rfl ⟨rfl, rfl⟩ rfl rfl rfl c_carried (fun r25 μ25 ν25 hk25 => ?_)
    obtain ⟨rfl, rfl, rfl⟩ := hk25
    refine z_iload_n dX9_stack_28 rfl ?_
    refine z_iload_n dX9_stack_29 rfl ?_
    refine m_callS (As := [.int _, .int _]) dX9_stack_30 kX9_262 ⟨rfl, rfl⟩ rfl ⟨rfl, rfl⟩ rfl rfl rfl c_carried (fun r30 μ30 ν30 hk30 => ?_)
    obtain ⟨rfl, rfl, rfl⟩ := hk30
    refine z_icmp_le 38 dX9_stack_33 (by decide) (fun h33 => ?_) (fun h33 => ?_)
    · skip
      refine z_iinc (fun y => [(3, .int y), (2, .int (zSt (nI q) i)), (0, .ref 0), (1, .int (nI q))]) dX9_stack_38 rfl rfl (fun _ => rfl) (fun x3_38 ex3_38 => ?_)
      obtain rfl : x3_38 = nI (i + 1 + 2) := by rw [ex3_38]; exact nI_1 (i + 2)
      refine z_goto 17 dX9_stack_41 (by decide) ?_
      simp only [zSt, if_pos h33] at H
      exact H
    · skip
      refine z_iload_n dX9_stack_36 rfl ?_
      refine z_istore_n (i := 2) (fun y => [(2, .int y), (3, .int (nI (i + 2))), (0, .ref 0), (1, .int (nI q))]) dX9_stack_37 rfl rfl (fun _ => rfl) (fun x9 e9 => ?_)
      subst e9
      refine z_iinc (fun y => [(3, .int y), (2, .int (nI (i + 2))), (0, .ref 0), (1, .int (nI q))]) dX9_stack_38 rfl rfl (fun _ => rfl) (fun x3_38 ex3_38 => ?_)
      obtain rfl : x3_38 = nI (i + 1 + 2) := by rw [ex3_38]; exact nI_1 (i + 2)
      refine z_goto 17 dX9_stack_41 (by decide) ?_
      simp only [zSt, if_neg h33] at H
      exact H) (by
    refine z_iload_n dX9_stack_17 rfl ?_
    refine z_bipush (v := 9) dX9_stack_18 rfl ?_
    refine z_icmp_gt 44 dX9_stack_20 (by decide) (fun h20 => ?_) (fun h20 => absurd (nI_lt (a := 9) (b := 10) (by decide) (by decide)) h20)
    refine z_iload_n dX9_stack_44 rfl ?_
    refine m_iret dX9_stack_45 rfl rfl ?_
    exact ⟨rfl, rfl, rfl⟩)
  refine z_iload_n dX9_stack_0 rfl ?_
  refine z_if_lt 10 dX9_stack_1 (by decide) (fun h1 => absurd h1 (nI_nlt (a := q) (b := 0) (by omega) (by omega))) (fun h1 => ?_)
  refine z_iload_n dX9_stack_4 rfl ?_
  refine z_bipush (v := 100) dX9_stack_5 rfl ?_
  refine z_icmp_le 13 dX9_stack_7 (by decide) (fun h7 => ?_) (fun h7 => absurd (nI_le (a := q) (b := 100) (by omega) (by omega)) h7)
  refine z_iconst (v := 1) dX9_stack_13 rfl ?_
  refine z_istore_n (i := 2) (fun y => [(2, .int y), (0, .ref 0), (1, .int (nI q))]) dX9_stack_14 rfl rfl (fun _ => rfl) (fun x9 e9 => ?_)
  subst e9
  refine z_iconst (v := 2) dX9_stack_15 rfl ?_
  refine z_istore_n (i := 3) (fun y => [(3, .int y), (2, .int 1), (0, .ref 0), (1, .int (nI q))]) dX9_stack_16 rfl rfl (fun _ => rfl) (fun x9 e9 => ?_)
  subst e9
  exact hL 0 (by decide)
set_option maxRecDepth 100000 in
set_option maxHeartbeats 400000 in
theorem d_stack_o {l : Launch} {G : zG} {μ : Mem} {ν : Lng} {v : Int32} (hv : v < 0 ∨ 100 < v)  : Cm l G mX10_stack [.ref 66, .int v] μ ν (fun a9 b9 c9 => (-1000000002) = a9 ∧ μ = b9 ∧ ν = c9) := by
  refine Con.of (by decide) (Nat.le_of_ble_eq_true rfl) ?_
  show Am l G mX10_stack 0 [(0, .ref 66), (1, .int v)] [] μ ν _
  refine z_iload_n dX10_stack_0 rfl ?_
  refine z_iconst (v := 0) dX10_stack_1 rfl ?_
  refine z_bipush (v := 100) dX10_stack_2 rfl ?_
  refine m_callS (As := [.int _, .int _, .int _]) dX10_stack_4 kX10_108 ⟨rfl, rfl⟩ rfl ⟨rfl, rfl⟩ rfl rfl rfl (c_inF hv) (fun r4 μ4 ν4 hk4 => ?_)
  obtain ⟨rfl, rfl, rfl⟩ := hk4
  refine z_if_ne 13 dX10_stack_7 (by decide) (fun h7 => absurd (by decide) h7) (fun h7 => ?_)
  refine z_ldc dX10_stack_10 cX10_112 ?_
  refine m_iret dX10_stack_12 rfl rfl ?_
  exact ⟨rfl, rfl, rfl⟩
set_option maxRecDepth 100000 in
set_option maxHeartbeats 400000 in
theorem d_stack {l : Launch} {G : zG} {μ : Mem} {ν : Lng} {q : Nat} (hq : q ≤ 100)  : Cm l G mX10_stack [.ref 66, .int (nI q)] μ ν (fun a9 b9 c9 => (zSu (nI q) 9).1 = a9 ∧ μ = b9 ∧ ν = c9) := by
  refine Con.of (by decide) (Nat.le_of_ble_eq_true rfl) ?_
  show Am l G mX10_stack 0 [(0, .ref 66), (1, .int (nI q))] [] μ ν _
  have hL := m_for (l := l) (G := G) (M := mX10_stack) (pc := 20) (ν := ν) (K := (fun a9 b9 c9 => (zSu (nI q) 9).1 = a9 ∧ μ = b9 ∧ ν = c9)) (N := 9) (fun i => [(4, .int (nI (i + 1))), (3, .int ((zSu (nI q) i).2)), (2, .int ((zSu (nI q) i).1)), (0, .ref 66), (1, .int (nI q))]) (fun i => μ) (fun i hi H => by
    refine z_iload dX10_stack_20 rfl ?_
    refine z_bipush (v := 10) dX10_stack_22 rfl ?_
    refine z_icmp_ge 84 dX10_stack_24 (by decide) (fun h24 => absurd h24 (nI_ge (a := i + 1) (b := 10) (by omega) (by decide))) (fun h24 => ?_)
    refine z_bipush (v := 100) dX10_stack_27 rfl ?_
    refine z_iload_n dX10_stack_29 rfl ?_
    refine z_iload dX10_stack_30 rfl ?_
    refine z_imul dX10_stack_32 ?_
    refine z_isub dX10_stack_33 ?_
    refine z_istore (i := 5) (fun y => [(5, .int y), (4, .int (nI (i + 1))), (3, .int ((zSu (nI q) i).2)), (2, .int ((zSu (nI q) i).1)), (0, .ref 66), (1, .int (nI q))]) dX10_stack_34 rfl (fun _ => rfl) (fun x9 e9 => ?_)
    subst e9
    refine z_iload dX10_stack_36 rfl ?_
    refine z_if_ge 45 dX10_stack_38 (by decide) (fun h38 => ?_) (fun h38 => ?_)
    · skip
      refine z_iload dX10_stack_45 rfl ?_
      refine z_iload dX10_stack_47 rfl ?_
      refine z_imul dX10_stack_49 ?_
      refine z_istore (i := 5) (fun y => [(5, .int y), (4, .int (nI (i + 1))), (3, .int ((zSu (nI q) i).2)), (2, .int ((zSu (nI q) i).1)), (0, .ref 66), (1, .int (nI q))]) dX10_stack_50 rfl (fun _ => rfl) (fun vv evv => ?_)
      refine z_iload dX10_stack_52 rfl ?_
      refine z_iload_n dX10_stack_54 rfl ?_
      refine z_icmp_le 63 dX10_stack_55 (by decide) (fun h55 => ?_) (fun h55 => ?_)
      · skip
        refine z_iload_n dX10_stack_63 rfl ?_
        refine z_istore_n (i := 2) (fun y => [(2, .int y), (5, .int vv), (4, .int (nI (i + 1))), (3, .int ((zSu (nI q) i).2)), (0, .ref 66), (1, .int (nI q))]) dX10_stack_64 rfl rfl (fun _ => rfl) (fun x2_64 ex2_64 => ?_)
        refine z_iload dX10_stack_65 rfl ?_
        refine z_iload_n dX10_stack_67 rfl ?_
        refine z_icmp_le 76 dX10_stack_68 (by decide) (fun h68 => ?_) (fun h68 => ?_)
        · skip
          refine z_iload_n dX10_stack_76 rfl ?_
          refine z_istore_n (i := 3) (fun y => [(3, .int y), (2, .int x2_64), (5, .int vv), (4, .int (nI (i + 1))), (0, .ref 66), (1, .int (nI q))]) dX10_stack_77 rfl rfl (fun _ => rfl) (fun x3_77 ex3_77 => ?_)
          refine z_iinc (fun y => [(4, .int y), (3, .int x3_77), (2, .int x2_64), (5, .int vv), (0, .ref 66), (1, .int (nI q))]) dX10_stack_78 rfl rfl (fun _ => rfl) (fun x4_78 ex4_78 => ?_)
          obtain rfl : x4_78 = nI (i + 1 + 1) := by rw [ex4_78]; exact nI_1 (i + 1)
          refine z_goto 20 dX10_stack_81 (by decide) ?_
          refine z_lv [0, 1, 2, 4, 5] rfl ?_
          have ev : vv = zCv (nI (i + 1)) (nI q) := by
            rw [evv]
            unfold zCv
            simp only [if_pos h38, if_pos h55, if_pos h68]
          rw [ev] at h55 h68
          first | exact (h68 h55).elim | exact (h55 h68).elim | (rw [show zSu (nI q) (i + 1) = zSu (nI q) i from if_pos h55] at H; subst ex2_64 ex3_77; exact H) | (rw [show zSu (nI q) (i + 1) = (nI (i + 1), zCv (nI (i + 1)) (nI q)) from if_neg h55] at H; subst ex2_64 ex3_77; rw [ev]; exact H)
        · skip
          refine z_iload dX10_stack_71 rfl ?_
          refine z_goto 77 dX10_stack_73 (by decide) ?_
          refine z_istore_n (i := 3) (fun y => [(3, .int y), (2, .int x2_64), (5, .int vv), (4, .int (nI (i + 1))), (0, .ref 66), (1, .int (nI q))]) dX10_stack_77 rfl rfl (fun _ => rfl) (fun x3_77 ex3_77 => ?_)
          refine z_iinc (fun y => [(4, .int y), (3, .int x3_77), (2, .int x2_64), (5, .int vv), (0, .ref 66), (1, .int (nI q))]) dX10_stack_78 rfl rfl (fun _ => rfl) (fun x4_78 ex4_78 => ?_)
          obtain rfl : x4_78 = nI (i + 1 + 1) := by rw [ex4_78]; exact nI_1 (i + 1)
          refine z_goto 20 dX10_stack_81 (by decide) ?_
          refine z_lv [0, 1, 2, 4, 5] rfl ?_
          have ev : vv = zCv (nI (i + 1)) (nI q) := by
            rw [evv]
            unfold zCv
            simp only [if_pos h38, if_pos h55, if_neg h68]
          rw [ev] at h55 h68
          first | exact (h68 h55).elim | exact (h55 h68).elim | (rw [show zSu (nI q) (i + 1) = zSu (nI q) i from if_pos h55] at H; subst ex2_64 ex3_77; exact H) | (rw [show zSu (nI q) (i + 1) = (nI (i + 1), zCv (nI (i + 1)) (nI q)) from if_neg h55] at H; subst ex2_64 ex3_77; rw [ev]; exact H)
      · skip
        refine z_iload dX10_stack_58 rfl ?_
        refine z_goto 64 dX10_stack_60 (by decide) ?_
        refine z_istore_n (i := 2) (fun y => [(2, .int y), (5, .int vv), (4, .int (nI (i + 1))), (3, .int ((zSu (nI q) i).2)), (0, .ref 66), (1, .int (nI q))]) dX10_stack_64 rfl rfl (fun _ => rfl) (fun x2_64 ex2_64 => ?_)
        refine z_iload dX10_stack_65 rfl ?_
        refine z_iload_n dX10_stack_67 rfl ?_
        refine z_icmp_le 76 dX10_stack_68 (by decide) (fun h68 => ?_) (fun h68 => ?_)
        · skip
          refine z_iload_n dX10_stack_76 rfl ?_
          refine z_istore_n (i := 3) (fun y => [(3, .int y), (2, .int x2_64), (5, .int vv), (4, .int (nI (i + 1))), (0, .ref 66), (1, .int (nI q))]) dX10_stack_77 rfl rfl (fun _ => rfl) (fun x3_77 ex3_77 => ?_)
          refine z_iinc (fun y => [(4, .int y), (3, .int x3_77), (2, .int x2_64), (5, .int vv), (0, .ref 66), (1, .int (nI q))]) dX10_stack_78 rfl rfl (fun _ => rfl) (fun x4_78 ex4_78 => ?_)
          obtain rfl : x4_78 = nI (i + 1 + 1) := by rw [ex4_78]; exact nI_1 (i + 1)
          refine z_goto 20 dX10_stack_81 (by decide) ?_
          refine z_lv [0, 1, 2, 4, 5] rfl ?_
          have ev : vv = zCv (nI (i + 1)) (nI q) := by
            rw [evv]
            unfold zCv
            simp only [if_pos h38, if_neg h55, if_pos h68]
          rw [ev] at h55 h68
          first | exact (h68 h55).elim | exact (h55 h68).elim | (rw [show zSu (nI q) (i + 1) = zSu (nI q) i from if_pos h55] at H; subst ex2_64 ex3_77; exact H) | (rw [show zSu (nI q) (i + 1) = (nI (i + 1), zCv (nI (i + 1)) (nI q)) from if_neg h55] at H; subst ex2_64 ex3_77; rw [ev]; exact H)
        · skip
          refine z_iload dX10_stack_71 rfl ?_
          refine z_goto 77 dX10_stack_73 (by decide) ?_
          refine z_istore_n (i := 3) (fun y => [(3, .int y), (2, .int x2_64), (5, .int vv), (4, .int (nI (i + 1))), (0, .ref 66), (1, .int (nI q))]) dX10_stack_77 rfl rfl (fun _ => rfl) (fun x3_77 ex3_77 => ?_)
          refine z_iinc (fun y => [(4, .int y), (3, .int x3_77), (2, .int x2_64), (5, .int vv), (0, .ref 66), (1, .int (nI q))]) dX10_stack_78 rfl rfl (fun _ => rfl) (fun x4_78 ex4_78 => ?_)
          obtain rfl : x4_78 = nI (i + 1 + 1) := by rw [ex4_78]; exact nI_1 (i + 1)
          refine z_goto 20 dX10_stack_81 (by decide) ?_
          refine z_lv [0, 1, 2, 4, 5] rfl ?_
          have ev : vv = zCv (nI (i + 1)) (nI q) := by
            rw [evv]
            unfold zCv
            simp only [if_pos h38, if_neg h55, if_neg h68]
          rw [ev] at h55 h68
          first | exact (h68 h55).elim | exact (h55 h68).elim | (rw [show zSu (nI q) (i + 1) = zSu (nI q) i from if_pos h55] at H; subst ex2_64 ex3_77; exact H) | (rw [show zSu (nI q) (i + 1) = (nI (i + 1), zCv (nI (i + 1)) (nI q)) from if_neg h55] at H; subst ex2_64 ex3_77; rw [ev]; exact H)
    · skip
      refine z_iconst (v := 0) dX10_stack_41 rfl ?_
      refine z_goto 50 dX10_stack_42 (by decide) ?_
      refine z_istore (i := 5) (fun y => [(5, .int y), (4, .int (nI (i + 1))), (3, .int ((zSu (nI q) i).2)), (2, .int ((zSu (nI q) i).1)), (0, .ref 66), (1, .int (nI q))]) dX10_stack_50 rfl (fun _ => rfl) (fun vv evv => ?_)
      refine z_iload dX10_stack_52 rfl ?_
      refine z_iload_n dX10_stack_54 rfl ?_
      refine z_icmp_le 63 dX10_stack_55 (by decide) (fun h55 => ?_) (fun h55 => ?_)
      · skip
        refine z_iload_n dX10_stack_63 rfl ?_
        refine z_istore_n (i := 2) (fun y => [(2, .int y), (5, .int vv), (4, .int (nI (i + 1))), (3, .int ((zSu (nI q) i).2)), (0, .ref 66), (1, .int (nI q))]) dX10_stack_64 rfl rfl (fun _ => rfl) (fun x2_64 ex2_64 => ?_)
        refine z_iload dX10_stack_65 rfl ?_
        refine z_iload_n dX10_stack_67 rfl ?_
        refine z_icmp_le 76 dX10_stack_68 (by decide) (fun h68 => ?_) (fun h68 => ?_)
        · skip
          refine z_iload_n dX10_stack_76 rfl ?_
          refine z_istore_n (i := 3) (fun y => [(3, .int y), (2, .int x2_64), (5, .int vv), (4, .int (nI (i + 1))), (0, .ref 66), (1, .int (nI q))]) dX10_stack_77 rfl rfl (fun _ => rfl) (fun x3_77 ex3_77 => ?_)
          refine z_iinc (fun y => [(4, .int y), (3, .int x3_77), (2, .int x2_64), (5, .int vv), (0, .ref 66), (1, .int (nI q))]) dX10_stack_78 rfl rfl (fun _ => rfl) (fun x4_78 ex4_78 => ?_)
          obtain rfl : x4_78 = nI (i + 1 + 1) := by rw [ex4_78]; exact nI_1 (i + 1)
          refine z_goto 20 dX10_stack_81 (by decide) ?_
          refine z_lv [0, 1, 2, 4, 5] rfl ?_
          have ev : vv = zCv (nI (i + 1)) (nI q) := by
            rw [evv]
            unfold zCv
            simp only [if_neg h38, if_pos h55, if_pos h68]
          rw [ev] at h55 h68
          first | exact (h68 h55).elim | exact (h55 h68).elim | (rw [show zSu (nI q) (i + 1) = zSu (nI q) i from if_pos h55] at H; subst ex2_64 ex3_77; exact H) | (rw [show zSu (nI q) (i + 1) = (nI (i + 1), zCv (nI (i + 1)) (nI q)) from if_neg h55] at H; subst ex2_64 ex3_77; rw [ev]; exact H)
        · skip
          refine z_iload dX10_stack_71 rfl ?_
          refine z_goto 77 dX10_stack_73 (by decide) ?_
          refine z_istore_n (i := 3) (fun y => [(3, .int y), (2, .int x2_64), (5, .int vv), (4, .int (nI (i + 1))), (0, .ref 66), (1, .int (nI q))]) dX10_stack_77 rfl rfl (fun _ => rfl) (fun x3_77 ex3_77 => ?_)
          refine z_iinc (fun y => [(4, .int y), (3, .int x3_77), (2, .int x2_64), (5, .int vv), (0, .ref 66), (1, .int (nI q))]) dX10_stack_78 rfl rfl (fun _ => rfl) (fun x4_78 ex4_78 => ?_)
          obtain rfl : x4_78 = nI (i + 1 + 1) := by rw [ex4_78]; exact nI_1 (i + 1)
          refine z_goto 20 dX10_stack_81 (by decide) ?_
          refine z_lv [0, 1, 2, 4, 5] rfl ?_
          have ev : vv = zCv (nI (i + 1)) (nI q) := by
            rw [evv]
            unfold zCv
            simp only [if_neg h38, if_pos h55, if_neg h68]
          rw [ev] at h55 h68
          first | exact (h68 h55).elim | exact (h55 h68).elim | (rw [show zSu (nI q) (i + 1) = zSu (nI q) i from if_pos h55] at H; subst ex2_64 ex3_77; exact H) | (rw [show zSu (nI q) (i + 1) = (nI (i + 1), zCv (nI (i + 1)) (nI q)) from if_neg h55] at H; subst ex2_64 ex3_77; rw [ev]; exact H)
      · skip
        refine z_iload dX10_stack_58 rfl ?_
        refine z_goto 64 dX10_stack_60 (by decide) ?_
        refine z_istore_n (i := 2) (fun y => [(2, .int y), (5, .int vv), (4, .int (nI (i + 1))), (3, .int ((zSu (nI q) i).2)), (0, .ref 66), (1, .int (nI q))]) dX10_stack_64 rfl rfl (fun _ => rfl) (fun x2_64 ex2_64 => ?_)
        refine z_iload dX10_stack_65 rfl ?_
        refine z_iload_n dX10_stack_67 rfl ?_
        refine z_icmp_le 76 dX10_stack_68 (by decide) (fun h68 => ?_) (fun h68 => ?_)
        · skip
          refine z_iload_n dX10_stack_76 rfl ?_
          refine z_istore_n (i := 3) (fun y => [(3, .int y), (2, .int x2_64), (5, .int vv), (4, .int (nI (i + 1))), (0, .ref 66), (1, .int (nI q))]) dX10_stack_77 rfl rfl (fun _ => rfl) (fun x3_77 ex3_77 => ?_)
          refine z_iinc (fun y => [(4, .int y), (3, .int x3_77), (2, .int x2_64), (5, .int vv), (0, .ref 66), (1, .int (nI q))]) dX10_stack_78 rfl rfl (fun _ => rfl) (fun x4_78 ex4_78 => ?_)
          obtain rfl : x4_78 = nI (i + 1 + 1) := by rw [ex4_78]; exact nI_1 (i + 1)
          refine z_goto 20 dX10_stack_81 (by decide) ?_
          refine z_lv [0, 1, 2, 4, 5] rfl ?_
          have ev : vv = zCv (nI (i + 1)) (nI q) := by
            rw [evv]
            unfold zCv
            simp only [if_neg h38, if_neg h55, if_pos h68]
          rw [ev] at h55 h68
          first | exact (h68 h55).elim | exact (h55 h68).elim | (rw [show zSu (nI q) (i + 1) = zSu (nI q) i from if_pos h55] at H; subst ex2_64 ex3_77; exact H) | (rw [show zSu (nI q) (i + 1) = (nI (i + 1), zCv (nI (i + 1)) (nI q)) from if_neg h55] at H; subst ex2_64 ex3_77; rw [ev]; exact H)
        · skip
          refine z_iload dX10_stack_71 rfl ?_
          refine z_goto 77 dX10_stack_73 (by decide) ?_
          refine z_istore_n (i := 3) (fun y => [(3, .int y), (2, .int x2_64), (5, .int vv), (4, .int (nI (i + 1))), (0, .ref 66), (1, .int (nI q))]) dX10_stack_77 rfl rfl (fun _ => rfl) (fun x3_77 ex3_77 => ?_)
          refine z_iinc (fun y => [(4, .int y), (3, .int x3_77), (2, .int x2_64), (5, .int vv), (0, .ref 66), (1, .int (nI q))]) dX10_stack_78 rfl rfl (fun _ => rfl) (fun x4_78 ex4_78 => ?_)
          obtain rfl : x4_78 = nI (i + 1 + 1) := by rw [ex4_78]; exact nI_1 (i + 1)
          refine z_goto 20 dX10_stack_81 (by decide) ?_
          refine z_lv [0, 1, 2, 4, 5] rfl ?_
          have ev : vv = zCv (nI (i + 1)) (nI q) := by
            rw [evv]
            unfold zCv
            simp only [if_neg h38, if_neg h55, if_neg h68]
          rw [ev] at h55 h68
          first | exact (h68 h55).elim | exact (h55 h68).elim | (rw [show zSu (nI q) (i + 1) = zSu (nI q) i from if_pos h55] at H; subst ex2_64 ex3_77; exact H) | (rw [show zSu (nI q) (i + 1) = (nI (i + 1), zCv (nI (i + 1)) (nI q)) from if_neg h55] at H; subst ex2_64 ex3_77; rw [ev]; exact H)) (by
    refine z_iload dX10_stack_20 rfl ?_
    refine z_bipush (v := 10) dX10_stack_22 rfl ?_
    refine z_icmp_ge 84 dX10_stack_24 (by decide) (fun h24 => ?_) (fun h24 => absurd (nI_le (a := 10) (b := 10) (by decide) (by decide)) h24)
    refine z_iload_n dX10_stack_84 rfl ?_
    refine m_iret dX10_stack_85 rfl rfl ?_
    exact ⟨rfl, rfl, rfl⟩)
  refine z_iload_n dX10_stack_0 rfl ?_
  refine z_iconst (v := 0) dX10_stack_1 rfl ?_
  refine z_bipush (v := 100) dX10_stack_2 rfl ?_
  refine m_callS (As := [.int _, .int _, .int _]) dX10_stack_4 kX10_108 ⟨rfl, rfl⟩ rfl ⟨rfl, rfl⟩ rfl rfl rfl (c_inT (v := q) (lo := 0) (hi := 100) (Nat.zero_le q) hq (by decide)) (fun r4 μ4 ν4 hk4 => ?_)
  obtain ⟨rfl, rfl, rfl⟩ := hk4
  refine z_if_ne 13 dX10_stack_7 (by decide) (fun h7 => ?_) (fun h7 => absurd h7 (by decide))
  refine z_iconst (v := 0) dX10_stack_13 rfl ?_
  refine z_istore_n (i := 2) (fun y => [(2, .int y), (0, .ref 66), (1, .int (nI q))]) dX10_stack_14 rfl rfl (fun _ => rfl) (fun x9 e9 => ?_)
  subst e9
  refine z_iconst (v := -1) dX10_stack_15 rfl ?_
  refine z_istore_n (i := 3) (fun y => [(3, .int y), (2, .int 0), (0, .ref 66), (1, .int (nI q))]) dX10_stack_16 rfl rfl (fun _ => rfl) (fun x9 e9 => ?_)
  subst e9
  refine z_iconst (v := 1) dX10_stack_17 rfl ?_
  refine z_istore (i := 4) (fun y => [(4, .int y), (3, .int (-1)), (2, .int 0), (0, .ref 66), (1, .int (nI q))]) dX10_stack_18 rfl (fun _ => rfl) (fun x9 e9 => ?_)
  subst e9
  exact hL 0 (by decide)
theorem op_stack (v : Int32) : zOp mX9_stack [.ref 0, .int v] mX10_stack [.ref 66, .int v] := by
  intro l G μ ν n h
  have h6 := h.1
  have hn := h.2.1
  have hm := h.2.2.1
  rcases zrng v 0 100 (by decide) (by decide) with hu | ⟨a, -, ha, rfl⟩
  · exact zOp.same h (c_stack_o hu) (d_stack_o hu) rfl
  · exact zOp.same h (c_stack ha) (d_stack ha) (zStack ⟨a, by omega⟩)

def zLo (v s : Int32) (x y : Nat) : Int32 := if x = 0 then (if y = 0 then v + 20 else 0) else if y = 0 then s else 9
def zRi (v1 s1 v2 s2 : Int32) (x : Nat) (acc : Int32) : Nat → Int32
  | 0 => acc
  | y + 1 => if zLo v1 s2 (1 - x) y < zLo v1 s2 x y then zRi v1 s1 v2 s2 x acc y else if zLo v2 s1 (1 - y) x < zLo v2 s1 y x then zRi v1 s1 v2 s2 x acc y else zRi v1 s1 v2 s2 x acc y ||| (1 <<< (nI (2 * x + y) &&& 31))
def zRo (v1 s1 v2 s2 : Int32) : Nat → Int32
  | 0 => 0
  | x + 1 => zRi v1 s1 v2 s2 x (zRo v1 s1 v2 s2 x) 2
set_option maxRecDepth 100000 in
set_option maxHeartbeats 400000 in
theorem c_lossOf00 {l : Launch} {G : zG} {μ : Mem} {ν : Lng} {a b : Nat} (ha : a < 6) (hb : b < 6)  : Cm l G mX8_lossOf [.ref 44, .int (nI a), .int (nI b), .int 0, .int 0] μ ν (fun a9 b9 c9 => zLo (μ 20 a) (μ 19 b) 0 0 = a9 ∧ μ = b9 ∧ ν = c9) := by
  refine Con.of (by decide) (Nat.le_of_ble_eq_true rfl) ?_
  show Am l G mX8_lossOf 0 [(0, .ref 44), (1, .int (nI a)), (2, .int (nI b)), (3, .int 0), (4, .int 0)] [] μ ν _
  refine z_iload_n dX8_lossOf_0 rfl ?_
  refine z_if_ne 26 dX8_lossOf_1 (by decide) (fun h1 => absurd (by decide) h1) (fun h1 => ?_)
  refine z_iload dX8_lossOf_4 rfl ?_
  refine z_if_ne 24 dX8_lossOf_6 (by decide) (fun h6 => absurd (by decide) h6) (fun h6 => ?_)
  refine z_aload_n dX8_lossOf_9 rfl ?_
  refine m_getr dX8_lossOf_10 fX8_32 sh44 rfl ?_
  refine m_getr dX8_lossOf_13 fX8_131 sh15 rfl ?_
  refine z_iload_n dX8_lossOf_16 rfl ?_
  refine m_ialdN (j := a) dX8_lossOf_17 sh20 rfl (by omega) rfl ?_
  refine z_bipush (v := 20) dX8_lossOf_18 rfl ?_
  refine z_iadd dX8_lossOf_20 ?_
  refine z_goto 25 dX8_lossOf_21 (by decide) ?_
  refine m_iret dX8_lossOf_25 rfl rfl ?_
  exact ⟨rfl, rfl, rfl⟩
set_option maxRecDepth 100000 in
set_option maxHeartbeats 400000 in
theorem c_lossOf01 {l : Launch} {G : zG} {μ : Mem} {ν : Lng} {a b : Nat} (ha : a < 6) (hb : b < 6)  : Cm l G mX8_lossOf [.ref 44, .int (nI a), .int (nI b), .int 0, .int 1] μ ν (fun a9 b9 c9 => zLo (μ 20 a) (μ 19 b) 0 1 = a9 ∧ μ = b9 ∧ ν = c9) := by
  refine Con.of (by decide) (Nat.le_of_ble_eq_true rfl) ?_
  show Am l G mX8_lossOf 0 [(0, .ref 44), (1, .int (nI a)), (2, .int (nI b)), (3, .int 0), (4, .int 1)] [] μ ν _
  refine z_iload_n dX8_lossOf_0 rfl ?_
  refine z_if_ne 26 dX8_lossOf_1 (by decide) (fun h1 => absurd (by decide) h1) (fun h1 => ?_)
  refine z_iload dX8_lossOf_4 rfl ?_
  refine z_if_ne 24 dX8_lossOf_6 (by decide) (fun h6 => ?_) (fun h6 => absurd h6 (by decide))
  refine z_iconst (v := 0) dX8_lossOf_24 rfl ?_
  refine m_iret dX8_lossOf_25 rfl rfl ?_
  exact ⟨rfl, rfl, rfl⟩
set_option maxRecDepth 100000 in
set_option maxHeartbeats 400000 in
theorem c_lossOf10 {l : Launch} {G : zG} {μ : Mem} {ν : Lng} {a b : Nat} (ha : a < 6) (hb : b < 6)  : Cm l G mX8_lossOf [.ref 44, .int (nI a), .int (nI b), .int 1, .int 0] μ ν (fun a9 b9 c9 => zLo (μ 20 a) (μ 19 b) 1 0 = a9 ∧ μ = b9 ∧ ν = c9) := by
  refine Con.of (by decide) (Nat.le_of_ble_eq_true rfl) ?_
  show Am l G mX8_lossOf 0 [(0, .ref 44), (1, .int (nI a)), (2, .int (nI b)), (3, .int 1), (4, .int 0)] [] μ ν _
  refine z_iload_n dX8_lossOf_0 rfl ?_
  refine z_if_ne 26 dX8_lossOf_1 (by decide) (fun h1 => ?_) (fun h1 => absurd h1 (by decide))
  refine z_iload dX8_lossOf_26 rfl ?_
  refine z_if_ne 43 dX8_lossOf_28 (by decide) (fun h28 => absurd (by decide) h28) (fun h28 => ?_)
  refine z_aload_n dX8_lossOf_31 rfl ?_
  refine m_getr dX8_lossOf_32 fX8_32 sh44 rfl ?_
  refine m_getr dX8_lossOf_35 fX8_134 sh15 rfl ?_
  refine z_iload_n dX8_lossOf_38 rfl ?_
  refine m_ialdN (j := b) dX8_lossOf_39 sh19 rfl (by omega) rfl ?_
  refine z_goto 45 dX8_lossOf_40 (by decide) ?_
  refine m_iret dX8_lossOf_45 rfl rfl ?_
  exact ⟨rfl, rfl, rfl⟩
set_option maxRecDepth 100000 in
set_option maxHeartbeats 400000 in
theorem c_lossOf11 {l : Launch} {G : zG} {μ : Mem} {ν : Lng} {a b : Nat} (ha : a < 6) (hb : b < 6)  : Cm l G mX8_lossOf [.ref 44, .int (nI a), .int (nI b), .int 1, .int 1] μ ν (fun a9 b9 c9 => zLo (μ 20 a) (μ 19 b) 1 1 = a9 ∧ μ = b9 ∧ ν = c9) := by
  refine Con.of (by decide) (Nat.le_of_ble_eq_true rfl) ?_
  show Am l G mX8_lossOf 0 [(0, .ref 44), (1, .int (nI a)), (2, .int (nI b)), (3, .int 1), (4, .int 1)] [] μ ν _
  refine z_iload_n dX8_lossOf_0 rfl ?_
  refine z_if_ne 26 dX8_lossOf_1 (by decide) (fun h1 => ?_) (fun h1 => absurd h1 (by decide))
  refine z_iload dX8_lossOf_26 rfl ?_
  refine z_if_ne 43 dX8_lossOf_28 (by decide) (fun h28 => ?_) (fun h28 => absurd h28 (by decide))
  refine z_bipush (v := 9) dX8_lossOf_43 rfl ?_
  refine m_iret dX8_lossOf_45 rfl rfl ?_
  exact ⟨rfl, rfl, rfl⟩
theorem c_lossOf {l : Launch} {G : zG} {μ : Mem} {ν : Lng} {a b x y : Nat} (ha : a < 6) (hb : b < 6) (hx : x < 2) (hy : y < 2) : Cm l G mX8_lossOf [.ref 44, .int (nI a), .int (nI b), .int (nI x), .int (nI y)] μ ν (fun a9 b9 c9 => zLo (μ 20 a) (μ 19 b) x y = a9 ∧ μ = b9 ∧ ν = c9) := by
  rcases (show x = 0 ∨ x = 1 by omega) with rfl | rfl
  · rcases (show y = 0 ∨ y = 1 by omega) with rfl | rfl
    · exact c_lossOf00 ha hb
    · exact c_lossOf01 ha hb
  · rcases (show y = 0 ∨ y = 1 by omega) with rfl | rfl
    · exact c_lossOf10 ha hb
    · exact c_lossOf11 ha hb
set_option maxRecDepth 100000 in
set_option maxHeartbeats 400000 in
theorem d_loss00 {l : Launch} {G : zG} {μ : Mem} {ν : Lng} {a b : Nat} (ha : a < 6) (hb : b < 6)  : Cm l G mX10_loss [.ref 66, .int (nI a), .int (nI b), .int 0, .int 0] μ ν (fun a9 b9 c9 => zLo (μ 73 a) (μ 72 b) 0 0 = a9 ∧ μ = b9 ∧ ν = c9) := by
  refine Con.of (by decide) (Nat.le_of_ble_eq_true rfl) ?_
  show Am l G mX10_loss 0 [(0, .ref 66), (1, .int (nI a)), (2, .int (nI b)), (3, .int 0), (4, .int 0)] [] μ ν _
  refine z_iload_n dX10_loss_0 rfl ?_
  refine z_if_ne 23 dX10_loss_1 (by decide) (fun h1 => absurd (by decide) h1) (fun h1 => ?_)
  refine z_iload dX10_loss_4 rfl ?_
  refine z_if_ne 21 dX10_loss_6 (by decide) (fun h6 => absurd (by decide) h6) (fun h6 => ?_)
  refine z_aload_n dX10_loss_9 rfl ?_
  refine m_getr dX10_loss_10 fX10_32 sh66 rfl ?_
  refine z_iload_n dX10_loss_13 rfl ?_
  refine m_ialdN (j := a) dX10_loss_14 sh73 rfl (by omega) rfl ?_
  refine z_bipush (v := 20) dX10_loss_15 rfl ?_
  refine z_iadd dX10_loss_17 ?_
  refine z_goto 22 dX10_loss_18 (by decide) ?_
  refine m_iret dX10_loss_22 rfl rfl ?_
  exact ⟨rfl, rfl, rfl⟩
set_option maxRecDepth 100000 in
set_option maxHeartbeats 400000 in
theorem d_loss01 {l : Launch} {G : zG} {μ : Mem} {ν : Lng} {a b : Nat} (ha : a < 6) (hb : b < 6)  : Cm l G mX10_loss [.ref 66, .int (nI a), .int (nI b), .int 0, .int 1] μ ν (fun a9 b9 c9 => zLo (μ 73 a) (μ 72 b) 0 1 = a9 ∧ μ = b9 ∧ ν = c9) := by
  refine Con.of (by decide) (Nat.le_of_ble_eq_true rfl) ?_
  show Am l G mX10_loss 0 [(0, .ref 66), (1, .int (nI a)), (2, .int (nI b)), (3, .int 0), (4, .int 1)] [] μ ν _
  refine z_iload_n dX10_loss_0 rfl ?_
  refine z_if_ne 23 dX10_loss_1 (by decide) (fun h1 => absurd (by decide) h1) (fun h1 => ?_)
  refine z_iload dX10_loss_4 rfl ?_
  refine z_if_ne 21 dX10_loss_6 (by decide) (fun h6 => ?_) (fun h6 => absurd h6 (by decide))
  refine z_iconst (v := 0) dX10_loss_21 rfl ?_
  refine m_iret dX10_loss_22 rfl rfl ?_
  exact ⟨rfl, rfl, rfl⟩
set_option maxRecDepth 100000 in
set_option maxHeartbeats 400000 in
theorem d_loss10 {l : Launch} {G : zG} {μ : Mem} {ν : Lng} {a b : Nat} (ha : a < 6) (hb : b < 6)  : Cm l G mX10_loss [.ref 66, .int (nI a), .int (nI b), .int 1, .int 0] μ ν (fun a9 b9 c9 => zLo (μ 73 a) (μ 72 b) 1 0 = a9 ∧ μ = b9 ∧ ν = c9) := by
  refine Con.of (by decide) (Nat.le_of_ble_eq_true rfl) ?_
  show Am l G mX10_loss 0 [(0, .ref 66), (1, .int (nI a)), (2, .int (nI b)), (3, .int 1), (4, .int 0)] [] μ ν _
  refine z_iload_n dX10_loss_0 rfl ?_
  refine z_if_ne 23 dX10_loss_1 (by decide) (fun h1 => ?_) (fun h1 => absurd h1 (by decide))
  refine z_iload dX10_loss_23 rfl ?_
  refine z_if_ne 37 dX10_loss_25 (by decide) (fun h25 => absurd (by decide) h25) (fun h25 => ?_)
  refine z_aload_n dX10_loss_28 rfl ?_
  refine m_getr dX10_loss_29 fX10_29 sh66 rfl ?_
  refine z_iload_n dX10_loss_32 rfl ?_
  refine m_ialdN (j := b) dX10_loss_33 sh72 rfl (by omega) rfl ?_
  refine z_goto 39 dX10_loss_34 (by decide) ?_
  refine m_iret dX10_loss_39 rfl rfl ?_
  exact ⟨rfl, rfl, rfl⟩
set_option maxRecDepth 100000 in
set_option maxHeartbeats 400000 in
theorem d_loss11 {l : Launch} {G : zG} {μ : Mem} {ν : Lng} {a b : Nat} (ha : a < 6) (hb : b < 6)  : Cm l G mX10_loss [.ref 66, .int (nI a), .int (nI b), .int 1, .int 1] μ ν (fun a9 b9 c9 => zLo (μ 73 a) (μ 72 b) 1 1 = a9 ∧ μ = b9 ∧ ν = c9) := by
  refine Con.of (by decide) (Nat.le_of_ble_eq_true rfl) ?_
  show Am l G mX10_loss 0 [(0, .ref 66), (1, .int (nI a)), (2, .int (nI b)), (3, .int 1), (4, .int 1)] [] μ ν _
  refine z_iload_n dX10_loss_0 rfl ?_
  refine z_if_ne 23 dX10_loss_1 (by decide) (fun h1 => ?_) (fun h1 => absurd h1 (by decide))
  refine z_iload dX10_loss_23 rfl ?_
  refine z_if_ne 37 dX10_loss_25 (by decide) (fun h25 => ?_) (fun h25 => absurd h25 (by decide))
  refine z_bipush (v := 9) dX10_loss_37 rfl ?_
  refine m_iret dX10_loss_39 rfl rfl ?_
  exact ⟨rfl, rfl, rfl⟩
theorem d_loss {l : Launch} {G : zG} {μ : Mem} {ν : Lng} {a b x y : Nat} (ha : a < 6) (hb : b < 6) (hx : x < 2) (hy : y < 2) : Cm l G mX10_loss [.ref 66, .int (nI a), .int (nI b), .int (nI x), .int (nI y)] μ ν (fun a9 b9 c9 => zLo (μ 73 a) (μ 72 b) x y = a9 ∧ μ = b9 ∧ ν = c9) := by
  rcases (show x = 0 ∨ x = 1 by omega) with rfl | rfl
  · rcases (show y = 0 ∨ y = 1 by omega) with rfl | rfl
    · exact d_loss00 ha hb
    · exact d_loss01 ha hb
  · rcases (show y = 0 ∨ y = 1 by omega) with rfl | rfl
    · exact d_loss10 ha hb
    · exact d_loss11 ha hb
set_option maxRecDepth 100000 in
set_option maxHeartbeats 400000 in
theorem c_resting {l : Launch} {G : zG} {μ : Mem} {ν : Lng} {a b : Nat} (ha : a < 6) (hb : b < 6)  : Cm l G mX8_restingPairs [.ref 44, .int (nI a), .int (nI b)] μ ν (fun a9 b9 c9 => zRo (μ 20 a) (μ 19 a) (μ 20 b) (μ 19 b) 2 = a9 ∧ μ = b9 ∧ ν = c9) := by
  refine Con.of (by decide) (Nat.le_of_ble_eq_true rfl) ?_
  show Am l G mX8_restingPairs 0 [(0, .ref 44), (1, .int (nI a)), (2, .int (nI b))] [] μ ν _
  have hL := m_for (l := l) (G := G) (M := mX8_restingPairs) (pc := 5) (ν := ν) (K := (fun a9 b9 c9 => zRo (μ 20 a) (μ 19 a) (μ 20 b) (μ 19 b) 2 = a9 ∧ μ = b9 ∧ ν = c9)) (N := 2) (fun x => [(4, .int (nI x)), (3, .int (zRo (μ 20 a) (μ 19 a) (μ 20 b) (μ 19 b) x)), (0, .ref 44), (1, .int (nI a)), (2, .int (nI b))]) (fun _ => μ) (fun x hx H0 => by
    have hI := m_for (l := l) (G := G) (M := mX8_restingPairs) (pc := 14) (ν := ν) (K := (fun a9 b9 c9 => zRo (μ 20 a) (μ 19 a) (μ 20 b) (μ 19 b) 2 = a9 ∧ μ = b9 ∧ ν = c9)) (N := 2) (fun z => [(5, .int (nI z)), (4, .int (nI x)), (3, .int (zRi (μ 20 a) (μ 19 a) (μ 20 b) (μ 19 b) x (zRo (μ 20 a) (μ 19 a) (μ 20 b) (μ 19 b) x) z)), (0, .ref 44), (1, .int (nI a)), (2, .int (nI b))]) (fun z => μ) (fun z hi H => by
      refine z_iload dX8_restingPairs_14 rfl ?_
      refine z_iconst (v := 2) dX8_restingPairs_16 rfl ?_
      refine z_icmp_ge 112 dX8_restingPairs_17 (by decide) (fun h17 => absurd h17 (nI_ge (a := z) (b := 2) hi (by decide))) (fun h17 => ?_)
      refine z_aload_n dX8_restingPairs_20 rfl ?_
      refine z_iload_n dX8_restingPairs_21 rfl ?_
      refine z_iload_n dX8_restingPairs_22 rfl ?_
      refine z_iload dX8_restingPairs_23 rfl ?_
      refine z_iload dX8_restingPairs_25 rfl ?_
      refine m_callV (As := [.int _, .int _, .int _, .int _]) dX8_restingPairs_27 kX8_127 ⟨rfl, rfl⟩ rfl ⟨rfl, rfl⟩ rfl rfl sh44 rfl rfl (c_lossOf (x := x) (y := z) ha hb hx hi) (fun r27 μ27 ν27 hk27 => ?_)
      obtain ⟨rfl, rfl, rfl⟩ := hk27
      refine z_aload_n dX8_restingPairs_30 rfl ?_
      refine z_iload_n dX8_restingPairs_31 rfl ?_
      refine z_iload_n dX8_restingPairs_32 rfl ?_
      refine z_iconst (v := 1) dX8_restingPairs_33 rfl ?_
      refine z_iload dX8_restingPairs_34 rfl ?_
      refine z_isub dX8_restingPairs_36 ?_
      rw [show (1 - nI x) = nI (1 - x) from zfar hx]
      refine z_iload dX8_restingPairs_37 rfl ?_
      refine m_callV (As := [.int _, .int _, .int _, .int _]) dX8_restingPairs_39 kX8_127 ⟨rfl, rfl⟩ rfl ⟨rfl, rfl⟩ rfl rfl sh44 rfl rfl (c_lossOf (x := 1 - x) (y := z) ha hb (by omega) hi) (fun r39 μ39 ν39 hk39 => ?_)
      obtain ⟨rfl, rfl, rfl⟩ := hk39
      refine z_icmp_gt 49 dX8_restingPairs_42 (by decide) (fun h42 => ?_) (fun h42 => ?_)
      · skip
        refine z_iconst (v := 0) dX8_restingPairs_49 rfl ?_
        refine z_istore (i := 6) (fun y => [(6, .int y), (5, .int (nI z)), (4, .int (nI x)), (3, .int (zRi (μ 20 a) (μ 19 a) (μ 20 b) (μ 19 b) x (zRo (μ 20 a) (μ 19 a) (μ 20 b) (μ 19 b) x) z)), (0, .ref 44), (1, .int (nI a)), (2, .int (nI b))]) dX8_restingPairs_50 rfl (fun _ => rfl) (fun x9 e9 => ?_)
        subst e9
        refine z_aload_n dX8_restingPairs_52 rfl ?_
        refine z_iload_n dX8_restingPairs_53 rfl ?_
        refine z_iload_n dX8_restingPairs_54 rfl ?_
        refine z_iload dX8_restingPairs_55 rfl ?_
        refine z_iload dX8_restingPairs_57 rfl ?_
        refine m_callV (As := [.int _, .int _, .int _, .int _]) dX8_restingPairs_59 kX8_127 ⟨rfl, rfl⟩ rfl ⟨rfl, rfl⟩ rfl rfl sh44 rfl rfl (c_lossOf (x := z) (y := x) hb ha hi hx) (fun r59 μ59 ν59 hk59 => ?_)
        obtain ⟨rfl, rfl, rfl⟩ := hk59
        refine z_aload_n dX8_restingPairs_62 rfl ?_
        refine z_iload_n dX8_restingPairs_63 rfl ?_
        refine z_iload_n dX8_restingPairs_64 rfl ?_
        refine z_iconst (v := 1) dX8_restingPairs_65 rfl ?_
        refine z_iload dX8_restingPairs_66 rfl ?_
        refine z_isub dX8_restingPairs_68 ?_
        rw [show (1 - nI z) = nI (1 - z) from zfar hi]
        refine z_iload dX8_restingPairs_69 rfl ?_
        refine m_callV (As := [.int _, .int _, .int _, .int _]) dX8_restingPairs_71 kX8_127 ⟨rfl, rfl⟩ rfl ⟨rfl, rfl⟩ rfl rfl sh44 rfl rfl (c_lossOf (x := 1 - z) (y := x) hb ha (by omega) hx) (fun r71 μ71 ν71 hk71 => ?_)
        obtain ⟨rfl, rfl, rfl⟩ := hk71
        refine z_icmp_gt 81 dX8_restingPairs_74 (by decide) (fun h74 => ?_) (fun h74 => ?_)
        · skip
          refine z_iconst (v := 0) dX8_restingPairs_81 rfl ?_
          refine z_istore (i := 7) (fun y => [(7, .int y), (6, .int 0), (5, .int (nI z)), (4, .int (nI x)), (3, .int (zRi (μ 20 a) (μ 19 a) (μ 20 b) (μ 19 b) x (zRo (μ 20 a) (μ 19 a) (μ 20 b) (μ 19 b) x) z)), (0, .ref 44), (1, .int (nI a)), (2, .int (nI b))]) dX8_restingPairs_82 rfl (fun _ => rfl) (fun x9 e9 => ?_)
          subst e9
          refine z_iload dX8_restingPairs_84 rfl ?_
          refine z_if_eq 106 dX8_restingPairs_86 (by decide) (fun h86 => ?_) (fun h86 => absurd (by decide) h86)
          refine z_iinc (fun y => [(5, .int y), (7, .int 0), (6, .int 0), (4, .int (nI x)), (3, .int (zRi (μ 20 a) (μ 19 a) (μ 20 b) (μ 19 b) x (zRo (μ 20 a) (μ 19 a) (μ 20 b) (μ 19 b) x) z)), (0, .ref 44), (1, .int (nI a)), (2, .int (nI b))]) dX8_restingPairs_106 rfl rfl (fun _ => rfl) (fun x5_106 ex5_106 => ?_)
          obtain rfl : x5_106 = nI (z + 1) := by rw [ex5_106]; exact nI_1 z
          refine z_goto 14 dX8_restingPairs_109 (by decide) ?_
          refine z_lv [0, 3, 4, 5, 6, 7] rfl ?_
          simp only [zRi, if_pos h42, if_pos h74] at H
          try subst ex3_105
          exact H
        · skip
          refine z_iconst (v := 1) dX8_restingPairs_77 rfl ?_
          refine z_goto 82 dX8_restingPairs_78 (by decide) ?_
          refine z_istore (i := 7) (fun y => [(7, .int y), (6, .int 0), (5, .int (nI z)), (4, .int (nI x)), (3, .int (zRi (μ 20 a) (μ 19 a) (μ 20 b) (μ 19 b) x (zRo (μ 20 a) (μ 19 a) (μ 20 b) (μ 19 b) x) z)), (0, .ref 44), (1, .int (nI a)), (2, .int (nI b))]) dX8_restingPairs_82 rfl (fun _ => rfl) (fun x9 e9 => ?_)
          subst e9
          refine z_iload dX8_restingPairs_84 rfl ?_
          refine z_if_eq 106 dX8_restingPairs_86 (by decide) (fun h86 => ?_) (fun h86 => absurd (by decide) h86)
          refine z_iinc (fun y => [(5, .int y), (7, .int 1), (6, .int 0), (4, .int (nI x)), (3, .int (zRi (μ 20 a) (μ 19 a) (μ 20 b) (μ 19 b) x (zRo (μ 20 a) (μ 19 a) (μ 20 b) (μ 19 b) x) z)), (0, .ref 44), (1, .int (nI a)), (2, .int (nI b))]) dX8_restingPairs_106 rfl rfl (fun _ => rfl) (fun x5_106 ex5_106 => ?_)
          obtain rfl : x5_106 = nI (z + 1) := by rw [ex5_106]; exact nI_1 z
          refine z_goto 14 dX8_restingPairs_109 (by decide) ?_
          refine z_lv [0, 3, 4, 5, 6, 7] rfl ?_
          simp only [zRi, if_pos h42, if_neg h74] at H
          try subst ex3_105
          exact H
      · skip
        refine z_iconst (v := 1) dX8_restingPairs_45 rfl ?_
        refine z_goto 50 dX8_restingPairs_46 (by decide) ?_
        refine z_istore (i := 6) (fun y => [(6, .int y), (5, .int (nI z)), (4, .int (nI x)), (3, .int (zRi (μ 20 a) (μ 19 a) (μ 20 b) (μ 19 b) x (zRo (μ 20 a) (μ 19 a) (μ 20 b) (μ 19 b) x) z)), (0, .ref 44), (1, .int (nI a)), (2, .int (nI b))]) dX8_restingPairs_50 rfl (fun _ => rfl) (fun x9 e9 => ?_)
        subst e9
        refine z_aload_n dX8_restingPairs_52 rfl ?_
        refine z_iload_n dX8_restingPairs_53 rfl ?_
        refine z_iload_n dX8_restingPairs_54 rfl ?_
        refine z_iload dX8_restingPairs_55 rfl ?_
        refine z_iload dX8_restingPairs_57 rfl ?_
        refine m_callV (As := [.int _, .int _, .int _, .int _]) dX8_restingPairs_59 kX8_127 ⟨rfl, rfl⟩ rfl ⟨rfl, rfl⟩ rfl rfl sh44 rfl rfl (c_lossOf (x := z) (y := x) hb ha hi hx) (fun r59 μ59 ν59 hk59 => ?_)
        obtain ⟨rfl, rfl, rfl⟩ := hk59
        refine z_aload_n dX8_restingPairs_62 rfl ?_
        refine z_iload_n dX8_restingPairs_63 rfl ?_
        refine z_iload_n dX8_restingPairs_64 rfl ?_
        refine z_iconst (v := 1) dX8_restingPairs_65 rfl ?_
        refine z_iload dX8_restingPairs_66 rfl ?_
        refine z_isub dX8_restingPairs_68 ?_
        rw [show (1 - nI z) = nI (1 - z) from zfar hi]
        refine z_iload dX8_restingPairs_69 rfl ?_
        refine m_callV (As := [.int _, .int _, .int _, .int _]) dX8_restingPairs_71 kX8_127 ⟨rfl, rfl⟩ rfl ⟨rfl, rfl⟩ rfl rfl sh44 rfl rfl (c_lossOf (x := 1 - z) (y := x) hb ha (by omega) hx) (fun r71 μ71 ν71 hk71 => ?_)
        obtain ⟨rfl, rfl, rfl⟩ := hk71
        refine z_icmp_gt 81 dX8_restingPairs_74 (by decide) (fun h74 => ?_) (fun h74 => ?_)
        · skip
          refine z_iconst (v := 0) dX8_restingPairs_81 rfl ?_
          refine z_istore (i := 7) (fun y => [(7, .int y), (6, .int 1), (5, .int (nI z)), (4, .int (nI x)), (3, .int (zRi (μ 20 a) (μ 19 a) (μ 20 b) (μ 19 b) x (zRo (μ 20 a) (μ 19 a) (μ 20 b) (μ 19 b) x) z)), (0, .ref 44), (1, .int (nI a)), (2, .int (nI b))]) dX8_restingPairs_82 rfl (fun _ => rfl) (fun x9 e9 => ?_)
          subst e9
          refine z_iload dX8_restingPairs_84 rfl ?_
          refine z_if_eq 106 dX8_restingPairs_86 (by decide) (fun h86 => absurd h86 (by decide)) (fun h86 => ?_)
          refine z_iload dX8_restingPairs_89 rfl ?_
          refine z_if_eq 106 dX8_restingPairs_91 (by decide) (fun h91 => ?_) (fun h91 => absurd (by decide) h91)
          refine z_iinc (fun y => [(5, .int y), (7, .int 0), (6, .int 1), (4, .int (nI x)), (3, .int (zRi (μ 20 a) (μ 19 a) (μ 20 b) (μ 19 b) x (zRo (μ 20 a) (μ 19 a) (μ 20 b) (μ 19 b) x) z)), (0, .ref 44), (1, .int (nI a)), (2, .int (nI b))]) dX8_restingPairs_106 rfl rfl (fun _ => rfl) (fun x5_106 ex5_106 => ?_)
          obtain rfl : x5_106 = nI (z + 1) := by rw [ex5_106]; exact nI_1 z
          refine z_goto 14 dX8_restingPairs_109 (by decide) ?_
          refine z_lv [0, 3, 4, 5, 6, 7] rfl ?_
          simp only [zRi, if_neg h42, if_pos h74] at H
          try subst ex3_105
          exact H
        · skip
          refine z_iconst (v := 1) dX8_restingPairs_77 rfl ?_
          refine z_goto 82 dX8_restingPairs_78 (by decide) ?_
          refine z_istore (i := 7) (fun y => [(7, .int y), (6, .int 1), (5, .int (nI z)), (4, .int (nI x)), (3, .int (zRi (μ 20 a) (μ 19 a) (μ 20 b) (μ 19 b) x (zRo (μ 20 a) (μ 19 a) (μ 20 b) (μ 19 b) x) z)), (0, .ref 44), (1, .int (nI a)), (2, .int (nI b))]) dX8_restingPairs_82 rfl (fun _ => rfl) (fun x9 e9 => ?_)
          subst e9
          refine z_iload dX8_restingPairs_84 rfl ?_
          refine z_if_eq 106 dX8_restingPairs_86 (by decide) (fun h86 => absurd h86 (by decide)) (fun h86 => ?_)
          refine z_iload dX8_restingPairs_89 rfl ?_
          refine z_if_eq 106 dX8_restingPairs_91 (by decide) (fun h91 => absurd h91 (by decide)) (fun h91 => ?_)
          refine z_iload_n dX8_restingPairs_94 rfl ?_
          refine z_iconst (v := 1) dX8_restingPairs_95 rfl ?_
          refine z_iconst (v := 2) dX8_restingPairs_96 rfl ?_
          refine z_iload dX8_restingPairs_97 rfl ?_
          refine z_imul dX8_restingPairs_99 ?_
          refine z_iload dX8_restingPairs_100 rfl ?_
          refine z_iadd dX8_restingPairs_102 ?_
          rw [show ((2 * nI x) + nI z) = nI (2 * x + z) from z2s x z]
          refine z_ishl dX8_restingPairs_103 ?_
          refine z_ior dX8_restingPairs_104 ?_
          refine z_istore_n (i := 3) (fun y => [(3, .int y), (7, .int 1), (6, .int 1), (5, .int (nI z)), (4, .int (nI x)), (0, .ref 44), (1, .int (nI a)), (2, .int (nI b))]) dX8_restingPairs_105 rfl rfl (fun _ => rfl) (fun x3_105 ex3_105 => ?_)
          refine z_iinc (fun y => [(5, .int y), (3, .int x3_105), (7, .int 1), (6, .int 1), (4, .int (nI x)), (0, .ref 44), (1, .int (nI a)), (2, .int (nI b))]) dX8_restingPairs_106 rfl rfl (fun _ => rfl) (fun x5_106 ex5_106 => ?_)
          obtain rfl : x5_106 = nI (z + 1) := by rw [ex5_106]; exact nI_1 z
          refine z_goto 14 dX8_restingPairs_109 (by decide) ?_
          refine z_lv [0, 4, 1, 5, 6, 7] rfl ?_
          simp only [zRi, if_neg h42, if_neg h74] at H
          try subst ex3_105
          exact H) (by
      refine z_iload dX8_restingPairs_14 rfl ?_
      refine z_iconst (v := 2) dX8_restingPairs_16 rfl ?_
      refine z_icmp_ge 112 dX8_restingPairs_17 (by decide) (fun h17 => ?_) (fun h17 => absurd (nI_le (a := 2) (b := 2) (by decide) (by decide)) h17)
      refine z_iinc (fun y => [(4, .int y), (5, .int (nI 2)), (3, .int (zRi (μ 20 a) (μ 19 a) (μ 20 b) (μ 19 b) x (zRo (μ 20 a) (μ 19 a) (μ 20 b) (μ 19 b) x) 2)), (0, .ref 44), (1, .int (nI a)), (2, .int (nI b))]) dX8_restingPairs_112 rfl rfl (fun _ => rfl) (fun x4_112 ex4_112 => ?_)
      obtain rfl : x4_112 = nI (x + 1) := by rw [ex4_112]; exact nI_1 x
      refine z_goto 5 dX8_restingPairs_115 (by decide) ?_
      refine z_lv [0, 2, 3, 4, 5] rfl ?_
      exact H0)
    refine z_iload dX8_restingPairs_5 rfl ?_
    refine z_iconst (v := 2) dX8_restingPairs_7 rfl ?_
    refine z_icmp_ge 118 dX8_restingPairs_8 (by decide) (fun h8 => absurd h8 (nI_ge (a := x) (b := 2) hx (by decide))) (fun h8 => ?_)
    refine z_iconst (v := 0) dX8_restingPairs_11 rfl ?_
    refine z_istore (i := 5) (fun y => [(5, .int y), (4, .int (nI x)), (3, .int (zRo (μ 20 a) (μ 19 a) (μ 20 b) (μ 19 b) x)), (0, .ref 44), (1, .int (nI a)), (2, .int (nI b))]) dX8_restingPairs_12 rfl (fun _ => rfl) (fun x9 e9 => ?_)
    subst e9
    exact hI 0 (by decide)) (by
    refine z_iload dX8_restingPairs_5 rfl ?_
    refine z_iconst (v := 2) dX8_restingPairs_7 rfl ?_
    refine z_icmp_ge 118 dX8_restingPairs_8 (by decide) (fun h8 => ?_) (fun h8 => absurd (nI_le (a := 2) (b := 2) (by decide) (by decide)) h8)
    refine z_iload_n dX8_restingPairs_118 rfl ?_
    refine m_iret dX8_restingPairs_119 rfl rfl ?_
    exact ⟨rfl, rfl, rfl⟩)
  refine z_iconst (v := 0) dX8_restingPairs_0 rfl ?_
  refine z_istore_n (i := 3) (fun y => [(3, .int y), (0, .ref 44), (1, .int (nI a)), (2, .int (nI b))]) dX8_restingPairs_1 rfl rfl (fun _ => rfl) (fun x9 e9 => ?_)
  subst e9
  refine z_iconst (v := 0) dX8_restingPairs_2 rfl ?_
  refine z_istore (i := 4) (fun y => [(4, .int y), (3, .int 0), (0, .ref 44), (1, .int (nI a)), (2, .int (nI b))]) dX8_restingPairs_3 rfl (fun _ => rfl) (fun x9 e9 => ?_)
  subst e9
  exact hL 0 (by decide)
set_option maxRecDepth 100000 in
set_option maxHeartbeats 400000 in
theorem c_rests_a {l : Launch} {G : zG} {μ : Mem} {ν : Lng} {n : Nat} (hn : μ 15 6 = nI n) (hz6 : n ≤ 6) {w : Int32} (hw : w < 0 ∨ nI n ≤ w) {v : Int32}  : Cm l G mX9_rests [.ref 0, .int w, .int v] μ ν (fun a9 b9 c9 => (-1000000001) = a9 ∧ μ = b9 ∧ ν = c9) := by
  refine Con.of (by decide) (Nat.le_of_ble_eq_true rfl) ?_
  show Am l G mX9_rests 0 [(0, .ref 0), (1, .int w), (2, .int v)] [] μ ν _
  refine z_aload_n dX9_rests_0 rfl ?_
  refine z_iload_n dX9_rests_1 rfl ?_
  refine m_callV (As := [.int _]) dX9_rests_2 kX9_155 ⟨rfl, rfl⟩ rfl ⟨rfl, rfl⟩ rfl rfl sh0 rfl rfl (c_noW1 hn hz6 hw) (fun r2 μ2 ν2 hk2 => ?_)
  obtain ⟨rfl, rfl, rfl⟩ := hk2
  refine z_if_ne 21 dX9_rests_5 (by decide) (fun h5 => ?_) (fun h5 => absurd h5 (by decide))
  refine z_ldc dX9_rests_21 cX9_136 ?_
  refine m_iret dX9_rests_23 rfl rfl ?_
  exact ⟨rfl, rfl, rfl⟩
set_option maxRecDepth 100000 in
set_option maxHeartbeats 400000 in
theorem c_rests_b {l : Launch} {G : zG} {μ : Mem} {ν : Lng} {n : Nat} (hn : μ 15 6 = nI n) (hz6 : n ≤ 6) {a : Nat} (ha : a < n) {w : Int32} (hw : w < 0 ∨ nI n ≤ w)  : Cm l G mX9_rests [.ref 0, .int (nI a), .int w] μ ν (fun a9 b9 c9 => (-1000000001) = a9 ∧ μ = b9 ∧ ν = c9) := by
  refine Con.of (by decide) (Nat.le_of_ble_eq_true rfl) ?_
  show Am l G mX9_rests 0 [(0, .ref 0), (1, .int (nI a)), (2, .int w)] [] μ ν _
  refine z_aload_n dX9_rests_0 rfl ?_
  refine z_iload_n dX9_rests_1 rfl ?_
  refine m_callV (As := [.int _]) dX9_rests_2 kX9_155 ⟨rfl, rfl⟩ rfl ⟨rfl, rfl⟩ rfl rfl sh0 rfl rfl (c_noW0 hn hz6 ha) (fun r2 μ2 ν2 hk2 => ?_)
  obtain ⟨rfl, rfl, rfl⟩ := hk2
  refine z_if_ne 21 dX9_rests_5 (by decide) (fun h5 => absurd (by decide) h5) (fun h5 => ?_)
  refine z_aload_n dX9_rests_8 rfl ?_
  refine z_iload_n dX9_rests_9 rfl ?_
  refine m_callV (As := [.int _]) dX9_rests_10 kX9_155 ⟨rfl, rfl⟩ rfl ⟨rfl, rfl⟩ rfl rfl sh0 rfl rfl (c_noW1 hn hz6 hw) (fun r10 μ10 ν10 hk10 => ?_)
  obtain ⟨rfl, rfl, rfl⟩ := hk10
  refine z_if_ne 21 dX9_rests_13 (by decide) (fun h13 => ?_) (fun h13 => absurd h13 (by decide))
  refine z_ldc dX9_rests_21 cX9_136 ?_
  refine m_iret dX9_rests_23 rfl rfl ?_
  exact ⟨rfl, rfl, rfl⟩
set_option maxRecDepth 100000 in
set_option maxHeartbeats 400000 in
theorem c_rests_c {l : Launch} {G : zG} {μ : Mem} {ν : Lng} {n : Nat} (hn : μ 15 6 = nI n) (hz6 : n ≤ 6) {a : Nat} (ha : a < n)  : Cm l G mX9_rests [.ref 0, .int (nI a), .int (nI a)] μ ν (fun a9 b9 c9 => (-1000000001) = a9 ∧ μ = b9 ∧ ν = c9) := by
  refine Con.of (by decide) (Nat.le_of_ble_eq_true rfl) ?_
  show Am l G mX9_rests 0 [(0, .ref 0), (1, .int (nI a)), (2, .int (nI a))] [] μ ν _
  refine z_aload_n dX9_rests_0 rfl ?_
  refine z_iload_n dX9_rests_1 rfl ?_
  refine m_callV (As := [.int _]) dX9_rests_2 kX9_155 ⟨rfl, rfl⟩ rfl ⟨rfl, rfl⟩ rfl rfl sh0 rfl rfl (c_noW0 hn hz6 ha) (fun r2 μ2 ν2 hk2 => ?_)
  obtain ⟨rfl, rfl, rfl⟩ := hk2
  refine z_if_ne 21 dX9_rests_5 (by decide) (fun h5 => absurd (by decide) h5) (fun h5 => ?_)
  refine z_aload_n dX9_rests_8 rfl ?_
  refine z_iload_n dX9_rests_9 rfl ?_
  refine m_callV (As := [.int _]) dX9_rests_10 kX9_155 ⟨rfl, rfl⟩ rfl ⟨rfl, rfl⟩ rfl rfl sh0 rfl rfl (c_noW0 hn hz6 ha) (fun r10 μ10 ν10 hk10 => ?_)
  obtain ⟨rfl, rfl, rfl⟩ := hk10
  refine z_if_ne 21 dX9_rests_13 (by decide) (fun h13 => absurd (by decide) h13) (fun h13 => ?_)
  refine z_iload_n dX9_rests_16 rfl ?_
  refine z_iload_n dX9_rests_17 rfl ?_
  refine z_icmp_ne 24 dX9_rests_18 (by decide) (fun h18 => absurd rfl h18) (fun h18 => ?_)
  refine z_ldc dX9_rests_21 cX9_136 ?_
  refine m_iret dX9_rests_23 rfl rfl ?_
  exact ⟨rfl, rfl, rfl⟩
set_option maxRecDepth 100000 in
set_option maxHeartbeats 400000 in
theorem c_rests_d {l : Launch} {G : zG} {μ : Mem} {ν : Lng} {n : Nat} (hn : μ 15 6 = nI n) (hz6 : n ≤ 6) {a b : Nat} (ha : a < n) (hb : b < n) (hab : a ≠ b) (he : μ 18 a = μ 18 b)  : Cm l G mX9_rests [.ref 0, .int (nI a), .int (nI b)] μ ν (fun a9 b9 c9 => (-1000000003) = a9 ∧ μ = b9 ∧ ν = c9) := by
  refine Con.of (by decide) (Nat.le_of_ble_eq_true rfl) ?_
  show Am l G mX9_rests 0 [(0, .ref 0), (1, .int (nI a)), (2, .int (nI b))] [] μ ν _
  refine z_aload_n dX9_rests_0 rfl ?_
  refine z_iload_n dX9_rests_1 rfl ?_
  refine m_callV (As := [.int _]) dX9_rests_2 kX9_155 ⟨rfl, rfl⟩ rfl ⟨rfl, rfl⟩ rfl rfl sh0 rfl rfl (c_noW0 hn hz6 ha) (fun r2 μ2 ν2 hk2 => ?_)
  obtain ⟨rfl, rfl, rfl⟩ := hk2
  refine z_if_ne 21 dX9_rests_5 (by decide) (fun h5 => absurd (by decide) h5) (fun h5 => ?_)
  refine z_aload_n dX9_rests_8 rfl ?_
  refine z_iload_n dX9_rests_9 rfl ?_
  refine m_callV (As := [.int _]) dX9_rests_10 kX9_155 ⟨rfl, rfl⟩ rfl ⟨rfl, rfl⟩ rfl rfl sh0 rfl rfl (c_noW0 hn hz6 hb) (fun r10 μ10 ν10 hk10 => ?_)
  obtain ⟨rfl, rfl, rfl⟩ := hk10
  refine z_if_ne 21 dX9_rests_13 (by decide) (fun h13 => absurd (by decide) h13) (fun h13 => ?_)
  refine z_iload_n dX9_rests_16 rfl ?_
  refine z_iload_n dX9_rests_17 rfl ?_
  refine z_icmp_ne 24 dX9_rests_18 (by decide) (fun h18 => ?_) (fun h18 => absurd h18 (zne hab (by omega) (by omega)))
  refine z_aload_n dX9_rests_24 rfl ?_
  refine m_getr dX9_rests_25 fX9_19 sh0 rfl ?_
  refine m_getr dX9_rests_28 fX9_158 sh15 rfl ?_
  refine z_iload_n dX9_rests_31 rfl ?_
  refine m_ialdN (j := a) dX9_rests_32 sh18 rfl (by omega) rfl ?_
  refine z_aload_n dX9_rests_33 rfl ?_
  refine m_getr dX9_rests_34 fX9_19 sh0 rfl ?_
  refine m_getr dX9_rests_37 fX9_158 sh15 rfl ?_
  refine z_iload_n dX9_rests_40 rfl ?_
  refine m_ialdN (j := b) dX9_rests_41 sh18 rfl (by omega) rfl ?_
  refine z_icmp_ne 48 dX9_rests_42 (by decide) (fun h42 => absurd he h42) (fun h42 => ?_)
  refine z_ldc dX9_rests_45 cX9_182 ?_
  refine m_iret dX9_rests_47 rfl rfl ?_
  exact ⟨rfl, rfl, rfl⟩
set_option maxRecDepth 100000 in
set_option maxHeartbeats 400000 in
theorem c_rests {l : Launch} {G : zG} {μ : Mem} {ν : Lng} {n : Nat} (hn : μ 15 6 = nI n) (hz6 : n ≤ 6) {a b : Nat} (ha : a < n) (hb : b < n) (hab : a ≠ b) (he : ¬ μ 18 a = μ 18 b)  : Cm l G mX9_rests [.ref 0, .int (nI a), .int (nI b)] μ ν (fun a9 b9 c9 => zRo (μ 20 a) (μ 19 a) (μ 20 b) (μ 19 b) 2 = a9 ∧ μ = b9 ∧ ν = c9) := by
  refine Con.of (by decide) (Nat.le_of_ble_eq_true rfl) ?_
  show Am l G mX9_rests 0 [(0, .ref 0), (1, .int (nI a)), (2, .int (nI b))] [] μ ν _
  refine z_aload_n dX9_rests_0 rfl ?_
  refine z_iload_n dX9_rests_1 rfl ?_
  refine m_callV (As := [.int _]) dX9_rests_2 kX9_155 ⟨rfl, rfl⟩ rfl ⟨rfl, rfl⟩ rfl rfl sh0 rfl rfl (c_noW0 hn hz6 ha) (fun r2 μ2 ν2 hk2 => ?_)
  obtain ⟨rfl, rfl, rfl⟩ := hk2
  refine z_if_ne 21 dX9_rests_5 (by decide) (fun h5 => absurd (by decide) h5) (fun h5 => ?_)
  refine z_aload_n dX9_rests_8 rfl ?_
  refine z_iload_n dX9_rests_9 rfl ?_
  refine m_callV (As := [.int _]) dX9_rests_10 kX9_155 ⟨rfl, rfl⟩ rfl ⟨rfl, rfl⟩ rfl rfl sh0 rfl rfl (c_noW0 hn hz6 hb) (fun r10 μ10 ν10 hk10 => ?_)
  obtain ⟨rfl, rfl, rfl⟩ := hk10
  refine z_if_ne 21 dX9_rests_13 (by decide) (fun h13 => absurd (by decide) h13) (fun h13 => ?_)
  refine z_iload_n dX9_rests_16 rfl ?_
  refine z_iload_n dX9_rests_17 rfl ?_
  refine z_icmp_ne 24 dX9_rests_18 (by decide) (fun h18 => ?_) (fun h18 => absurd h18 (zne hab (by omega) (by omega)))
  refine z_aload_n dX9_rests_24 rfl ?_
  refine m_getr dX9_rests_25 fX9_19 sh0 rfl ?_
  refine m_getr dX9_rests_28 fX9_158 sh15 rfl ?_
  refine z_iload_n dX9_rests_31 rfl ?_
  refine m_ialdN (j := a) dX9_rests_32 sh18 rfl (by omega) rfl ?_
  refine z_aload_n dX9_rests_33 rfl ?_
  refine m_getr dX9_rests_34 fX9_19 sh0 rfl ?_
  refine m_getr dX9_rests_37 fX9_158 sh15 rfl ?_
  refine z_iload_n dX9_rests_40 rfl ?_
  refine m_ialdN (j := b) dX9_rests_41 sh18 rfl (by omega) rfl ?_
  refine z_icmp_ne 48 dX9_rests_42 (by decide) (fun h42 => ?_) (fun h42 => absurd h42 he)
  refine z_aload_n dX9_rests_48 rfl ?_
  refine m_getr dX9_rests_49 fX9_44 sh0 rfl ?_
  refine z_iload_n dX9_rests_52 rfl ?_
  refine z_iload_n dX9_rests_53 rfl ?_
  refine m_callV (As := [.int _, .int _]) dX9_rests_54 kX9_259 ⟨rfl, rfl⟩ rfl ⟨rfl, rfl⟩ rfl rfl sh44 rfl rfl (c_resting (a := a) (b := b) (by omega) (by omega)) (fun r54 μ54 ν54 hk54 => ?_)
  obtain ⟨rfl, rfl, rfl⟩ := hk54
  refine m_iret dX9_rests_57 rfl rfl ?_
  exact ⟨rfl, rfl, rfl⟩
set_option maxRecDepth 100000 in
set_option maxHeartbeats 400000 in
theorem d_rests_a {l : Launch} {G : zG} {μ : Mem} {ν : Lng} {n : Nat} (hn : μ 66 17 = nI n) (hz6 : n ≤ 6) {w : Int32} (hw : w < 0 ∨ nI n ≤ w) {v : Int32}  : Cm l G mX10_rests [.ref 66, .int w, .int v] μ ν (fun a9 b9 c9 => (-1000000001) = a9 ∧ μ = b9 ∧ ν = c9) := by
  refine Con.of (by decide) (Nat.le_of_ble_eq_true rfl) ?_
  show Am l G mX10_rests 0 [(0, .ref 66), (1, .int w), (2, .int v)] [] μ ν _
  refine z_aload_n dX10_rests_0 rfl ?_
  refine z_iload_n dX10_rests_1 rfl ?_
  refine m_callV (As := [.int _]) dX10_rests_2 kX10_228 ⟨rfl, rfl⟩ rfl ⟨rfl, rfl⟩ rfl rfl sh66 rfl rfl (c_isOneF hn hz6 hw) (fun r2 μ2 ν2 hk2 => ?_)
  obtain ⟨rfl, rfl, rfl⟩ := hk2
  refine z_if_eq 21 dX10_rests_5 (by decide) (fun h5 => ?_) (fun h5 => absurd (by decide) h5)
  refine z_ldc dX10_rests_21 cX10_227 ?_
  refine m_iret dX10_rests_23 rfl rfl ?_
  exact ⟨rfl, rfl, rfl⟩
set_option maxRecDepth 100000 in
set_option maxHeartbeats 400000 in
theorem d_rests_b {l : Launch} {G : zG} {μ : Mem} {ν : Lng} {n : Nat} (hn : μ 66 17 = nI n) (hz6 : n ≤ 6) {a : Nat} (ha : a < n) {w : Int32} (hw : w < 0 ∨ nI n ≤ w)  : Cm l G mX10_rests [.ref 66, .int (nI a), .int w] μ ν (fun a9 b9 c9 => (-1000000001) = a9 ∧ μ = b9 ∧ ν = c9) := by
  refine Con.of (by decide) (Nat.le_of_ble_eq_true rfl) ?_
  show Am l G mX10_rests 0 [(0, .ref 66), (1, .int (nI a)), (2, .int w)] [] μ ν _
  refine z_aload_n dX10_rests_0 rfl ?_
  refine z_iload_n dX10_rests_1 rfl ?_
  refine m_callV (As := [.int _]) dX10_rests_2 kX10_228 ⟨rfl, rfl⟩ rfl ⟨rfl, rfl⟩ rfl rfl sh66 rfl rfl (c_isOneT hn hz6 ha) (fun r2 μ2 ν2 hk2 => ?_)
  obtain ⟨rfl, rfl, rfl⟩ := hk2
  refine z_if_eq 21 dX10_rests_5 (by decide) (fun h5 => absurd h5 (by decide)) (fun h5 => ?_)
  refine z_aload_n dX10_rests_8 rfl ?_
  refine z_iload_n dX10_rests_9 rfl ?_
  refine m_callV (As := [.int _]) dX10_rests_10 kX10_228 ⟨rfl, rfl⟩ rfl ⟨rfl, rfl⟩ rfl rfl sh66 rfl rfl (c_isOneF hn hz6 hw) (fun r10 μ10 ν10 hk10 => ?_)
  obtain ⟨rfl, rfl, rfl⟩ := hk10
  refine z_if_eq 21 dX10_rests_13 (by decide) (fun h13 => ?_) (fun h13 => absurd (by decide) h13)
  refine z_ldc dX10_rests_21 cX10_227 ?_
  refine m_iret dX10_rests_23 rfl rfl ?_
  exact ⟨rfl, rfl, rfl⟩
set_option maxRecDepth 100000 in
set_option maxHeartbeats 400000 in
theorem d_rests_c {l : Launch} {G : zG} {μ : Mem} {ν : Lng} {n : Nat} (hn : μ 66 17 = nI n) (hz6 : n ≤ 6) {a : Nat} (ha : a < n)  : Cm l G mX10_rests [.ref 66, .int (nI a), .int (nI a)] μ ν (fun a9 b9 c9 => (-1000000001) = a9 ∧ μ = b9 ∧ ν = c9) := by
  refine Con.of (by decide) (Nat.le_of_ble_eq_true rfl) ?_
  show Am l G mX10_rests 0 [(0, .ref 66), (1, .int (nI a)), (2, .int (nI a))] [] μ ν _
  refine z_aload_n dX10_rests_0 rfl ?_
  refine z_iload_n dX10_rests_1 rfl ?_
  refine m_callV (As := [.int _]) dX10_rests_2 kX10_228 ⟨rfl, rfl⟩ rfl ⟨rfl, rfl⟩ rfl rfl sh66 rfl rfl (c_isOneT hn hz6 ha) (fun r2 μ2 ν2 hk2 => ?_)
  obtain ⟨rfl, rfl, rfl⟩ := hk2
  refine z_if_eq 21 dX10_rests_5 (by decide) (fun h5 => absurd h5 (by decide)) (fun h5 => ?_)
  refine z_aload_n dX10_rests_8 rfl ?_
  refine z_iload_n dX10_rests_9 rfl ?_
  refine m_callV (As := [.int _]) dX10_rests_10 kX10_228 ⟨rfl, rfl⟩ rfl ⟨rfl, rfl⟩ rfl rfl sh66 rfl rfl (c_isOneT hn hz6 ha) (fun r10 μ10 ν10 hk10 => ?_)
  obtain ⟨rfl, rfl, rfl⟩ := hk10
  refine z_if_eq 21 dX10_rests_13 (by decide) (fun h13 => absurd h13 (by decide)) (fun h13 => ?_)
  refine z_iload_n dX10_rests_16 rfl ?_
  refine z_iload_n dX10_rests_17 rfl ?_
  refine z_icmp_ne 24 dX10_rests_18 (by decide) (fun h18 => absurd rfl h18) (fun h18 => ?_)
  refine z_ldc dX10_rests_21 cX10_227 ?_
  refine m_iret dX10_rests_23 rfl rfl ?_
  exact ⟨rfl, rfl, rfl⟩
set_option maxRecDepth 100000 in
set_option maxHeartbeats 400000 in
theorem d_rests_d {l : Launch} {G : zG} {μ : Mem} {ν : Lng} {n : Nat} (hn : μ 66 17 = nI n) (hz6 : n ≤ 6) {a b : Nat} (ha : a < n) (hb : b < n) (hab : a ≠ b) (he : μ 71 a = μ 71 b)  : Cm l G mX10_rests [.ref 66, .int (nI a), .int (nI b)] μ ν (fun a9 b9 c9 => (-1000000003) = a9 ∧ μ = b9 ∧ ν = c9) := by
  refine Con.of (by decide) (Nat.le_of_ble_eq_true rfl) ?_
  show Am l G mX10_rests 0 [(0, .ref 66), (1, .int (nI a)), (2, .int (nI b))] [] μ ν _
  refine z_aload_n dX10_rests_0 rfl ?_
  refine z_iload_n dX10_rests_1 rfl ?_
  refine m_callV (As := [.int _]) dX10_rests_2 kX10_228 ⟨rfl, rfl⟩ rfl ⟨rfl, rfl⟩ rfl rfl sh66 rfl rfl (c_isOneT hn hz6 ha) (fun r2 μ2 ν2 hk2 => ?_)
  obtain ⟨rfl, rfl, rfl⟩ := hk2
  refine z_if_eq 21 dX10_rests_5 (by decide) (fun h5 => absurd h5 (by decide)) (fun h5 => ?_)
  refine z_aload_n dX10_rests_8 rfl ?_
  refine z_iload_n dX10_rests_9 rfl ?_
  refine m_callV (As := [.int _]) dX10_rests_10 kX10_228 ⟨rfl, rfl⟩ rfl ⟨rfl, rfl⟩ rfl rfl sh66 rfl rfl (c_isOneT hn hz6 hb) (fun r10 μ10 ν10 hk10 => ?_)
  obtain ⟨rfl, rfl, rfl⟩ := hk10
  refine z_if_eq 21 dX10_rests_13 (by decide) (fun h13 => absurd h13 (by decide)) (fun h13 => ?_)
  refine z_iload_n dX10_rests_16 rfl ?_
  refine z_iload_n dX10_rests_17 rfl ?_
  refine z_icmp_ne 24 dX10_rests_18 (by decide) (fun h18 => ?_) (fun h18 => absurd h18 (zne hab (by omega) (by omega)))
  refine z_aload_n dX10_rests_24 rfl ?_
  refine m_getr dX10_rests_25 fX10_26 sh66 rfl ?_
  refine z_iload_n dX10_rests_28 rfl ?_
  refine m_ialdN (j := a) dX10_rests_29 sh71 rfl (by omega) rfl ?_
  refine z_aload_n dX10_rests_30 rfl ?_
  refine m_getr dX10_rests_31 fX10_26 sh66 rfl ?_
  refine z_iload_n dX10_rests_34 rfl ?_
  refine m_ialdN (j := b) dX10_rests_35 sh71 rfl (by omega) rfl ?_
  refine z_icmp_ne 42 dX10_rests_36 (by decide) (fun h36 => absurd he h36) (fun h36 => ?_)
  refine z_ldc dX10_rests_39 cX10_241 ?_
  refine m_iret dX10_rests_41 rfl rfl ?_
  exact ⟨rfl, rfl, rfl⟩
set_option maxRecDepth 100000 in
set_option maxHeartbeats 400000 in
theorem d_rests {l : Launch} {G : zG} {μ : Mem} {ν : Lng} {n : Nat} (hn : μ 66 17 = nI n) (hz6 : n ≤ 6) {a b : Nat} (ha : a < n) (hb : b < n) (hab : a ≠ b) (he : ¬ μ 71 a = μ 71 b)  : Cm l G mX10_rests [.ref 66, .int (nI a), .int (nI b)] μ ν (fun a9 b9 c9 => zRo (μ 73 a) (μ 72 a) (μ 73 b) (μ 72 b) 2 = a9 ∧ μ = b9 ∧ ν = c9) := by
  refine Con.of (by decide) (Nat.le_of_ble_eq_true rfl) ?_
  show Am l G mX10_rests 0 [(0, .ref 66), (1, .int (nI a)), (2, .int (nI b))] [] μ ν _
  have hL := m_for (l := l) (G := G) (M := mX10_rests) (pc := 47) (ν := ν) (K := (fun a9 b9 c9 => zRo (μ 73 a) (μ 72 a) (μ 73 b) (μ 72 b) 2 = a9 ∧ μ = b9 ∧ ν = c9)) (N := 2) (fun x => [(4, .int (nI x)), (3, .int (zRo (μ 73 a) (μ 72 a) (μ 73 b) (μ 72 b) x)), (0, .ref 66), (1, .int (nI a)), (2, .int (nI b))]) (fun _ => μ) (fun x hx H0 => by
    have hI := m_for (l := l) (G := G) (M := mX10_rests) (pc := 56) (ν := ν) (K := (fun a9 b9 c9 => zRo (μ 73 a) (μ 72 a) (μ 73 b) (μ 72 b) 2 = a9 ∧ μ = b9 ∧ ν = c9)) (N := 2) (fun z => [(5, .int (nI z)), (4, .int (nI x)), (3, .int (zRi (μ 73 a) (μ 72 a) (μ 73 b) (μ 72 b) x (zRo (μ 73 a) (μ 72 a) (μ 73 b) (μ 72 b) x) z)), (0, .ref 66), (1, .int (nI a)), (2, .int (nI b))]) (fun z => μ) (fun z hi H => by
      refine z_iload dX10_rests_56 rfl ?_
      refine z_iconst (v := 2) dX10_rests_58 rfl ?_
      refine z_icmp_ge 146 dX10_rests_59 (by decide) (fun h59 => absurd h59 (nI_ge (a := z) (b := 2) hi (by decide))) (fun h59 => ?_)
      refine z_aload_n dX10_rests_62 rfl ?_
      refine z_iload_n dX10_rests_63 rfl ?_
      refine z_iload_n dX10_rests_64 rfl ?_
      refine z_iload dX10_rests_65 rfl ?_
      refine z_iload dX10_rests_67 rfl ?_
      refine m_callV (As := [.int _, .int _, .int _, .int _]) dX10_rests_69 kX10_254 ⟨rfl, rfl⟩ rfl ⟨rfl, rfl⟩ rfl rfl sh66 rfl rfl (d_loss (a := a) (b := b) (x := x) (y := z) (by omega) (by omega) hx hi) (fun r69 μ69 ν69 hk69 => ?_)
      obtain ⟨rfl, rfl, rfl⟩ := hk69
      refine z_aload_n dX10_rests_72 rfl ?_
      refine z_iload_n dX10_rests_73 rfl ?_
      refine z_iload_n dX10_rests_74 rfl ?_
      refine z_iconst (v := 1) dX10_rests_75 rfl ?_
      refine z_iload dX10_rests_76 rfl ?_
      refine z_isub dX10_rests_78 ?_
      rw [show (1 - nI x) = nI (1 - x) from zfar hx]
      refine z_iload dX10_rests_79 rfl ?_
      refine m_callV (As := [.int _, .int _, .int _, .int _]) dX10_rests_81 kX10_254 ⟨rfl, rfl⟩ rfl ⟨rfl, rfl⟩ rfl rfl sh66 rfl rfl (d_loss (a := a) (b := b) (x := 1 - x) (y := z) (by omega) (by omega) (by omega) hi) (fun r81 μ81 ν81 hk81 => ?_)
      obtain ⟨rfl, rfl, rfl⟩ := hk81
      refine z_icmp_gt 116 dX10_rests_84 (by decide) (fun h84 => ?_) (fun h84 => ?_)
      · skip
        refine z_iconst (v := 0) dX10_rests_116 rfl ?_
        refine z_istore (i := 6) (fun y => [(6, .int y), (5, .int (nI z)), (4, .int (nI x)), (3, .int (zRi (μ 73 a) (μ 72 a) (μ 73 b) (μ 72 b) x (zRo (μ 73 a) (μ 72 a) (μ 73 b) (μ 72 b) x) z)), (0, .ref 66), (1, .int (nI a)), (2, .int (nI b))]) dX10_rests_117 rfl (fun _ => rfl) (fun x9 e9 => ?_)
        subst e9
        refine z_iload_n dX10_rests_119 rfl ?_
        refine z_iload dX10_rests_120 rfl ?_
        refine z_if_eq 137 dX10_rests_122 (by decide) (fun h122 => ?_) (fun h122 => absurd (by decide) h122)
        refine z_iconst (v := 0) dX10_rests_137 rfl ?_
        refine z_ior dX10_rests_138 ?_
        refine z_istore_n (i := 3) (fun y => [(3, .int y), (6, .int 0), (5, .int (nI z)), (4, .int (nI x)), (0, .ref 66), (1, .int (nI a)), (2, .int (nI b))]) dX10_rests_139 rfl rfl (fun _ => rfl) (fun x3_139 ex3_139 => ?_)
        refine z_iinc (fun y => [(5, .int y), (3, .int x3_139), (6, .int 0), (4, .int (nI x)), (0, .ref 66), (1, .int (nI a)), (2, .int (nI b))]) dX10_rests_140 rfl rfl (fun _ => rfl) (fun x5_140 ex5_140 => ?_)
        obtain rfl : x5_140 = nI (z + 1) := by rw [ex5_140]; exact nI_1 z
        refine z_goto 56 dX10_rests_143 (by decide) ?_
        refine z_lv [0, 3, 1, 4, 5, 6] rfl ?_
        simp only [zRi, if_pos h84] at H
        try rw [Int32.or_zero] at ex3_139
        subst ex3_139
        exact H
      · skip
        refine z_aload_n dX10_rests_87 rfl ?_
        refine z_iload_n dX10_rests_88 rfl ?_
        refine z_iload_n dX10_rests_89 rfl ?_
        refine z_iload dX10_rests_90 rfl ?_
        refine z_iload dX10_rests_92 rfl ?_
        refine m_callV (As := [.int _, .int _, .int _, .int _]) dX10_rests_94 kX10_254 ⟨rfl, rfl⟩ rfl ⟨rfl, rfl⟩ rfl rfl sh66 rfl rfl (d_loss (a := b) (b := a) (x := z) (y := x) (by omega) (by omega) hi hx) (fun r94 μ94 ν94 hk94 => ?_)
        obtain ⟨rfl, rfl, rfl⟩ := hk94
        refine z_aload_n dX10_rests_97 rfl ?_
        refine z_iload_n dX10_rests_98 rfl ?_
        refine z_iload_n dX10_rests_99 rfl ?_
        refine z_iconst (v := 1) dX10_rests_100 rfl ?_
        refine z_iload dX10_rests_101 rfl ?_
        refine z_isub dX10_rests_103 ?_
        rw [show (1 - nI z) = nI (1 - z) from zfar hi]
        refine z_iload dX10_rests_104 rfl ?_
        refine m_callV (As := [.int _, .int _, .int _, .int _]) dX10_rests_106 kX10_254 ⟨rfl, rfl⟩ rfl ⟨rfl, rfl⟩ rfl rfl sh66 rfl rfl (d_loss (a := b) (b := a) (x := 1 - z) (y := x) (by omega) (by omega) (by omega) hx) (fun r106 μ106 ν106 hk106 => ?_)
        obtain ⟨rfl, rfl, rfl⟩ := hk106
        refine z_icmp_gt 116 dX10_rests_109 (by decide) (fun h109 => ?_) (fun h109 => ?_)
        · skip
          refine z_iconst (v := 0) dX10_rests_116 rfl ?_
          refine z_istore (i := 6) (fun y => [(6, .int y), (5, .int (nI z)), (4, .int (nI x)), (3, .int (zRi (μ 73 a) (μ 72 a) (μ 73 b) (μ 72 b) x (zRo (μ 73 a) (μ 72 a) (μ 73 b) (μ 72 b) x) z)), (0, .ref 66), (1, .int (nI a)), (2, .int (nI b))]) dX10_rests_117 rfl (fun _ => rfl) (fun x9 e9 => ?_)
          subst e9
          refine z_iload_n dX10_rests_119 rfl ?_
          refine z_iload dX10_rests_120 rfl ?_
          refine z_if_eq 137 dX10_rests_122 (by decide) (fun h122 => ?_) (fun h122 => absurd (by decide) h122)
          refine z_iconst (v := 0) dX10_rests_137 rfl ?_
          refine z_ior dX10_rests_138 ?_
          refine z_istore_n (i := 3) (fun y => [(3, .int y), (6, .int 0), (5, .int (nI z)), (4, .int (nI x)), (0, .ref 66), (1, .int (nI a)), (2, .int (nI b))]) dX10_rests_139 rfl rfl (fun _ => rfl) (fun x3_139 ex3_139 => ?_)
          refine z_iinc (fun y => [(5, .int y), (3, .int x3_139), (6, .int 0), (4, .int (nI x)), (0, .ref 66), (1, .int (nI a)), (2, .int (nI b))]) dX10_rests_140 rfl rfl (fun _ => rfl) (fun x5_140 ex5_140 => ?_)
          obtain rfl : x5_140 = nI (z + 1) := by rw [ex5_140]; exact nI_1 z
          refine z_goto 56 dX10_rests_143 (by decide) ?_
          refine z_lv [0, 3, 1, 4, 5, 6] rfl ?_
          simp only [zRi, if_neg h84, if_pos h109] at H
          try rw [Int32.or_zero] at ex3_139
          subst ex3_139
          exact H
        · skip
          refine z_iconst (v := 1) dX10_rests_112 rfl ?_
          refine z_goto 117 dX10_rests_113 (by decide) ?_
          refine z_istore (i := 6) (fun y => [(6, .int y), (5, .int (nI z)), (4, .int (nI x)), (3, .int (zRi (μ 73 a) (μ 72 a) (μ 73 b) (μ 72 b) x (zRo (μ 73 a) (μ 72 a) (μ 73 b) (μ 72 b) x) z)), (0, .ref 66), (1, .int (nI a)), (2, .int (nI b))]) dX10_rests_117 rfl (fun _ => rfl) (fun x9 e9 => ?_)
          subst e9
          refine z_iload_n dX10_rests_119 rfl ?_
          refine z_iload dX10_rests_120 rfl ?_
          refine z_if_eq 137 dX10_rests_122 (by decide) (fun h122 => absurd h122 (by decide)) (fun h122 => ?_)
          refine z_iconst (v := 1) dX10_rests_125 rfl ?_
          refine z_iconst (v := 2) dX10_rests_126 rfl ?_
          refine z_iload dX10_rests_127 rfl ?_
          refine z_imul dX10_rests_129 ?_
          refine z_iload dX10_rests_130 rfl ?_
          refine z_iadd dX10_rests_132 ?_
          rw [show ((2 * nI x) + nI z) = nI (2 * x + z) from z2s x z]
          refine z_ishl dX10_rests_133 ?_
          refine z_goto 138 dX10_rests_134 (by decide) ?_
          refine z_ior dX10_rests_138 ?_
          refine z_istore_n (i := 3) (fun y => [(3, .int y), (6, .int 1), (5, .int (nI z)), (4, .int (nI x)), (0, .ref 66), (1, .int (nI a)), (2, .int (nI b))]) dX10_rests_139 rfl rfl (fun _ => rfl) (fun x3_139 ex3_139 => ?_)
          refine z_iinc (fun y => [(5, .int y), (3, .int x3_139), (6, .int 1), (4, .int (nI x)), (0, .ref 66), (1, .int (nI a)), (2, .int (nI b))]) dX10_rests_140 rfl rfl (fun _ => rfl) (fun x5_140 ex5_140 => ?_)
          obtain rfl : x5_140 = nI (z + 1) := by rw [ex5_140]; exact nI_1 z
          refine z_goto 56 dX10_rests_143 (by decide) ?_
          refine z_lv [0, 3, 1, 4, 5, 6] rfl ?_
          simp only [zRi, if_neg h84, if_neg h109] at H
          try rw [Int32.or_zero] at ex3_139
          subst ex3_139
          exact H) (by
      refine z_iload dX10_rests_56 rfl ?_
      refine z_iconst (v := 2) dX10_rests_58 rfl ?_
      refine z_icmp_ge 146 dX10_rests_59 (by decide) (fun h59 => ?_) (fun h59 => absurd (nI_le (a := 2) (b := 2) (by decide) (by decide)) h59)
      refine z_iinc (fun y => [(4, .int y), (5, .int (nI 2)), (3, .int (zRi (μ 73 a) (μ 72 a) (μ 73 b) (μ 72 b) x (zRo (μ 73 a) (μ 72 a) (μ 73 b) (μ 72 b) x) 2)), (0, .ref 66), (1, .int (nI a)), (2, .int (nI b))]) dX10_rests_146 rfl rfl (fun _ => rfl) (fun x4_146 ex4_146 => ?_)
      obtain rfl : x4_146 = nI (x + 1) := by rw [ex4_146]; exact nI_1 x
      refine z_goto 47 dX10_rests_149 (by decide) ?_
      refine z_lv [0, 2, 3, 4, 5] rfl ?_
      exact H0)
    refine z_iload dX10_rests_47 rfl ?_
    refine z_iconst (v := 2) dX10_rests_49 rfl ?_
    refine z_icmp_ge 152 dX10_rests_50 (by decide) (fun h50 => absurd h50 (nI_ge (a := x) (b := 2) hx (by decide))) (fun h50 => ?_)
    refine z_iconst (v := 0) dX10_rests_53 rfl ?_
    refine z_istore (i := 5) (fun y => [(5, .int y), (4, .int (nI x)), (3, .int (zRo (μ 73 a) (μ 72 a) (μ 73 b) (μ 72 b) x)), (0, .ref 66), (1, .int (nI a)), (2, .int (nI b))]) dX10_rests_54 rfl (fun _ => rfl) (fun x9 e9 => ?_)
    subst e9
    exact hI 0 (by decide)) (by
    refine z_iload dX10_rests_47 rfl ?_
    refine z_iconst (v := 2) dX10_rests_49 rfl ?_
    refine z_icmp_ge 152 dX10_rests_50 (by decide) (fun h50 => ?_) (fun h50 => absurd (nI_le (a := 2) (b := 2) (by decide) (by decide)) h50)
    refine z_iload_n dX10_rests_152 rfl ?_
    refine m_iret dX10_rests_153 rfl rfl ?_
    exact ⟨rfl, rfl, rfl⟩)
  refine z_aload_n dX10_rests_0 rfl ?_
  refine z_iload_n dX10_rests_1 rfl ?_
  refine m_callV (As := [.int _]) dX10_rests_2 kX10_228 ⟨rfl, rfl⟩ rfl ⟨rfl, rfl⟩ rfl rfl sh66 rfl rfl (c_isOneT hn hz6 ha) (fun r2 μ2 ν2 hk2 => ?_)
  obtain ⟨rfl, rfl, rfl⟩ := hk2
  refine z_if_eq 21 dX10_rests_5 (by decide) (fun h5 => absurd h5 (by decide)) (fun h5 => ?_)
  refine z_aload_n dX10_rests_8 rfl ?_
  refine z_iload_n dX10_rests_9 rfl ?_
  refine m_callV (As := [.int _]) dX10_rests_10 kX10_228 ⟨rfl, rfl⟩ rfl ⟨rfl, rfl⟩ rfl rfl sh66 rfl rfl (c_isOneT hn hz6 hb) (fun r10 μ10 ν10 hk10 => ?_)
  obtain ⟨rfl, rfl, rfl⟩ := hk10
  refine z_if_eq 21 dX10_rests_13 (by decide) (fun h13 => absurd h13 (by decide)) (fun h13 => ?_)
  refine z_iload_n dX10_rests_16 rfl ?_
  refine z_iload_n dX10_rests_17 rfl ?_
  refine z_icmp_ne 24 dX10_rests_18 (by decide) (fun h18 => ?_) (fun h18 => absurd h18 (zne hab (by omega) (by omega)))
  refine z_aload_n dX10_rests_24 rfl ?_
  refine m_getr dX10_rests_25 fX10_26 sh66 rfl ?_
  refine z_iload_n dX10_rests_28 rfl ?_
  refine m_ialdN (j := a) dX10_rests_29 sh71 rfl (by omega) rfl ?_
  refine z_aload_n dX10_rests_30 rfl ?_
  refine m_getr dX10_rests_31 fX10_26 sh66 rfl ?_
  refine z_iload_n dX10_rests_34 rfl ?_
  refine m_ialdN (j := b) dX10_rests_35 sh71 rfl (by omega) rfl ?_
  refine z_icmp_ne 42 dX10_rests_36 (by decide) (fun h36 => ?_) (fun h36 => absurd h36 he)
  refine z_iconst (v := 0) dX10_rests_42 rfl ?_
  refine z_istore_n (i := 3) (fun y => [(3, .int y), (0, .ref 66), (1, .int (nI a)), (2, .int (nI b))]) dX10_rests_43 rfl rfl (fun _ => rfl) (fun x9 e9 => ?_)
  subst e9
  refine z_iconst (v := 0) dX10_rests_44 rfl ?_
  refine z_istore (i := 4) (fun y => [(4, .int y), (3, .int 0), (0, .ref 66), (1, .int (nI a)), (2, .int (nI b))]) dX10_rests_45 rfl (fun _ => rfl) (fun x9 e9 => ?_)
  subst e9
  exact hL 0 (by decide)
theorem op_rests (u v : Int32) : zOp mX9_rests [.ref 0, .int u, .int v] mX10_rests [.ref 66, .int u, .int v] := by
  intro l G μ ν n h
  have h6 := h.1
  have hn := h.2.1
  have hm := h.2.2.1
  rcases zwho u n (by omega) with hw | ⟨a, ha, rfl⟩
  · exact zOp.same h (c_rests_a hn h6 hw) (d_rests_a hm h6 hw) rfl
  rcases zwho v n (by omega) with hw | ⟨b, hb, rfl⟩
  · exact zOp.same h (c_rests_b hn h6 ha hw) (d_rests_b hm h6 ha hw) rfl
  by_cases hab : a = b
  · subst hab
    exact zOp.same h (c_rests_c hn h6 ha) (d_rests_c hm h6 ha) rfl
  obtain ⟨a1, a2, a3, -⟩ := h.hp.1 a ha
  obtain ⟨b1, b2, b3, -⟩ := h.hp.1 b hb
  by_cases he : μ 18 a = μ 18 b
  · exact zOp.same h (c_rests_d hn h6 ha hb hab he) (d_rests_d hm h6 ha hb hab (by rw [← a1, ← b1]; exact he)) rfl
  · exact zOp.same h (c_rests hn h6 ha hb hab he) (d_rests hm h6 ha hb hab (by rw [← a1, ← b1]; exact he)) (by rw [a2, a3, b2, b3])
