
def zEu (a b : Nat) : Nat → Nat × Nat
  | 0 => (a, b)
  | i + 1 => if (zEu a b i).2 = 0 then zEu a b i else ((zEu a b i).2, (zEu a b i).1 % (zEu a b i).2)
theorem zEu_stop {a b i : Nat} (h : (zEu a b i).2 = 0) : ∀ d, zEu a b (i + d) = zEu a b i
  | 0 => rfl
  | d + 1 => by
    have e := zEu_stop h d
    rw [← Nat.add_assoc, zEu, e, if_pos h]
theorem zEu_gcd {a b : Nat} : ∀ i, Nat.gcd (zEu a b i).2 (zEu a b i).1 = Nat.gcd b a
  | 0 => rfl
  | i + 1 => by
    rw [zEu]
    split
    · exact zEu_gcd i
    · exact (Nat.gcd_rec _ _).symm.trans (zEu_gcd i)
theorem zEu_le {a b m : Nat} (ha : a ≤ m) (hb : b ≤ m) : ∀ i, (zEu a b i).1 ≤ m ∧ (zEu a b i).2 ≤ m
  | 0 => ⟨ha, hb⟩
  | i + 1 => by
    obtain ⟨h1, h2⟩ := zEu_le ha hb i
    rw [zEu]
    split
    · exact ⟨h1, h2⟩
    · exact ⟨h2, Nat.le_trans (Nat.mod_le _ _) h1⟩
theorem zEu_half {a b : Nat} (i : Nat) : 2 * (zEu a b (i + 2)).2 ≤ (zEu a b i).2 := by
  rw [zEu]
  split
  · rename_i h; rw [h]; omega
  · rename_i h
    rw [zEu] at h ⊢
    split
    · rename_i h2; rw [if_pos h2] at h; exact absurd h2 h
    · rename_i h2
      rw [if_neg h2] at h
      dsimp only at h ⊢
      have q1 := Nat.mod_lt (zEu a b i).1 (Nat.pos_of_ne_zero h2)
      generalize (zEu a b i).1 % (zEu a b i).2 = r at h q1
      generalize (zEu a b i).2 = l at q1
      have q2 := Nat.mod_lt l (Nat.pos_of_ne_zero h)
      have q3 := Nat.div_add_mod l r
      have q4 : 1 ≤ l / r := Nat.div_pos (by omega) (Nat.pos_of_ne_zero h)
      have q5 : r * 1 ≤ r * (l / r) := Nat.mul_le_mul_left r q4
      omega
theorem zEu_pow {a b : Nat} : ∀ k, 2 ^ k * (zEu a b (2 * k)).2 ≤ b
  | 0 => by show 1 * b ≤ b; omega
  | k + 1 => by
    have h := zEu_pow (a := a) (b := b) k
    have h2 := zEu_half (a := a) (b := b) (2 * k)
    rw [show 2 * (k + 1) = 2 * k + 2 by omega, Nat.pow_succ, Nat.mul_assoc]
    exact Nat.le_trans (Nat.mul_le_mul_left _ h2) h
theorem zEu_end {a b : Nat} (hb : b ≤ 20000) : (zEu a b 100).1 = Nat.gcd b a := by
  have h := zEu_pow (a := a) (b := b) 15
  have h0 : (zEu a b (2 * 15)).2 = 0 := by
    rw [show (2 : Nat) ^ 15 = 32768 by decide] at h
    omega
  have e : zEu a b 100 = zEu a b (2 * 15) := zEu_stop h0 70
  rw [e, ← zEu_gcd (2 * 15), h0, Nat.gcd_zero_left]
set_option maxRecDepth 100000 in
set_option maxHeartbeats 400000 in
theorem c_gcd0 {l : Launch} {G : zG} {μ : Mem} {ν : Lng} {a b N : Nat} (ha : a ≤ 20000) (hb : b ≤ 20000) (hN : N = 100)  : Cm l G mX9_commonDivisor [.int (nI a), .int (nI b)] μ ν (fun a9 b9 c9 => nI (zEu a b N).1 = a9 ∧ μ = b9 ∧ ν = c9) := by
  refine Con.of (by decide) (Nat.le_of_ble_eq_true rfl) ?_
  show Am l G mX9_commonDivisor 0 [(0, .int (nI a)), (1, .int (nI b))] [] μ ν _
  have hle := zEu_le ha hb
  have hL := m_for (l := l) (G := G) (M := mX9_commonDivisor) (pc := 7) (ν := ν) (K := (fun a9 b9 c9 => nI (zEu a b N).1 = a9 ∧ μ = b9 ∧ ν = c9)) (N := N) (fun i => [(4, .int (nI i)), (3, .int (nI (zEu a b i).2)), (2, .int (nI (zEu a b i).1)), (0, .int (nI a)), (1, .int (nI b))]) (fun _ => μ) (fun i hi H => by
    obtain ⟨hl1, hl2⟩ := hle i
    refine z_iload dX9_commonDivisor_7 rfl ?_
    refine z_bipush (v := 100) dX9_commonDivisor_9 rfl ?_
    refine z_icmp_ge 34 dX9_commonDivisor_11 (by decide) (fun h11 => absurd h11 (nI_ge (a := i) (b := 100) (by omega) (by decide))) (fun h11 => ?_)
    refine z_iload_n dX9_commonDivisor_14 rfl ?_
    refine z_if_eq 34 dX9_commonDivisor_15 (by decide) (fun h15 => ?_) (fun h15 => ?_)
    · skip
      refine z_iload_n dX9_commonDivisor_34 rfl ?_
      refine m_iret dX9_commonDivisor_35 rfl rfl ?_
      refine ⟨?_, rfl, rfl⟩
      have hz : (zEu a b i).2 = 0 := by
        have := congrArg Int32.toInt h15
        rw [nI_toInt (by omega)] at this
        exact Int.ofNat.inj this
      obtain ⟨d, rfl⟩ : ∃ d, N = i + d := ⟨N - i, by omega⟩
      rw [zEu_stop hz d]
    · skip
      have hz : (zEu a b i).2 ≠ 0 := fun q => h15 (by rw [q]; rfl)
      refine z_iload_n dX9_commonDivisor_18 rfl ?_
      refine z_iload_n dX9_commonDivisor_19 rfl ?_
      refine z_irem dX9_commonDivisor_20 h15 ?_
      rw [show (nI (zEu a b i).1 - nI (zEu a b i).1 / nI (zEu a b i).2 * nI (zEu a b i).2) = nI ((zEu a b i).1 % (zEu a b i).2) from pk_rem (by omega) (Nat.pos_of_ne_zero hz) (by omega)]
      refine z_istore (i := 5) (fun y => [(5, .int y), (4, .int (nI i)), (3, .int (nI (zEu a b i).2)), (2, .int (nI (zEu a b i).1)), (0, .int (nI a)), (1, .int (nI b))]) dX9_commonDivisor_21 rfl (fun _ => rfl) (fun x9 e9 => ?_)
      subst e9
      refine z_iload_n dX9_commonDivisor_23 rfl ?_
      refine z_istore_n (i := 2) (fun y => [(2, .int y), (5, .int (nI ((zEu a b i).1 % (zEu a b i).2))), (4, .int (nI i)), (3, .int (nI (zEu a b i).2)), (0, .int (nI a)), (1, .int (nI b))]) dX9_commonDivisor_24 rfl rfl (fun _ => rfl) (fun x9 e9 => ?_)
      subst e9
      refine z_iload dX9_commonDivisor_25 rfl ?_
      refine z_istore_n (i := 3) (fun y => [(3, .int y), (2, .int (nI (zEu a b i).2)), (5, .int (nI ((zEu a b i).1 % (zEu a b i).2))), (4, .int (nI i)), (0, .int (nI a)), (1, .int (nI b))]) dX9_commonDivisor_27 rfl rfl (fun _ => rfl) (fun x9 e9 => ?_)
      subst e9
      refine z_iinc (fun y => [(4, .int y), (3, .int (nI ((zEu a b i).1 % (zEu a b i).2))), (2, .int (nI (zEu a b i).2)), (5, .int (nI ((zEu a b i).1 % (zEu a b i).2))), (0, .int (nI a)), (1, .int (nI b))]) dX9_commonDivisor_28 rfl rfl (fun _ => rfl) (fun x4_28 ex4_28 => ?_)
      obtain rfl : x4_28 = nI (i + 1) := by rw [ex4_28]; exact nI_1 i
      refine z_goto 7 dX9_commonDivisor_31 (by decide) ?_
      refine z_lv [0, 1, 2, 4, 5] rfl ?_
      rw [show zEu a b (i + 1) = ((zEu a b i).2, (zEu a b i).1 % (zEu a b i).2) from if_neg hz] at H
      exact H) (by
    refine z_iload dX9_commonDivisor_7 rfl ?_
    refine z_bipush (v := 100) dX9_commonDivisor_9 rfl ?_
    refine z_icmp_ge 34 dX9_commonDivisor_11 (by decide) (fun h11 => ?_) (fun h11 => absurd (nI_le (a := 100) (b := N) (by omega) (by omega)) h11)
    refine z_iload_n dX9_commonDivisor_34 rfl ?_
    refine m_iret dX9_commonDivisor_35 rfl rfl ?_
    exact ⟨rfl, rfl, rfl⟩)
  refine z_iload_n dX9_commonDivisor_0 rfl ?_
  refine z_istore_n (i := 2) (fun y => [(2, .int y), (0, .int (nI a)), (1, .int (nI b))]) dX9_commonDivisor_1 rfl rfl (fun _ => rfl) (fun x9 e9 => ?_)
  subst e9
  refine z_iload_n dX9_commonDivisor_2 rfl ?_
  refine z_istore_n (i := 3) (fun y => [(3, .int y), (2, .int (nI a)), (0, .int (nI a)), (1, .int (nI b))]) dX9_commonDivisor_3 rfl rfl (fun _ => rfl) (fun x9 e9 => ?_)
  subst e9
  refine z_iconst (v := 0) dX9_commonDivisor_4 rfl ?_
  refine z_istore (i := 4) (fun y => [(4, .int y), (3, .int (nI b)), (2, .int (nI a)), (0, .int (nI a)), (1, .int (nI b))]) dX9_commonDivisor_5 rfl (fun _ => rfl) (fun x9 e9 => ?_)
  subst e9
  exact hL 0 (Nat.zero_le _)
theorem c_gcd {l : Launch} {G : zG} {μ : Mem} {ν : Lng} {a b : Nat} (ha : a ≤ 20000) (hb : b ≤ 20000) : Cm l G mX9_commonDivisor [.int (nI a), .int (nI b)] μ ν (fun a9 b9 c9 => nI (Nat.gcd b a) = a9 ∧ μ = b9 ∧ ν = c9) := by
  have e := c_gcd0 (l := l) (G := G) (μ := μ) (ν := ν) ha hb rfl
  rw [zEu_end hb] at e
  exact e
set_option maxRecDepth 100000 in
set_option maxHeartbeats 400000 in
theorem c_unheard_a {l : Launch} {G : zG} {μ : Mem} {ν : Lng} {v : Int32} (hv : v < 0 ∨ 100 < v) {y z : Int32}  : Cm l G mX9_unheard [.ref 0, .int v, .int y, .int z] μ ν (fun a9 b9 c9 => (-1000000002) = a9 ∧ μ = b9 ∧ ν = c9) := by
  refine Con.of (by decide) (Nat.le_of_ble_eq_true rfl) ?_
  show Am l G mX9_unheard 0 [(0, .ref 0), (1, .int v), (2, .int y), (3, .int z)] [] μ ν _
  refine z_iload_n dX9_unheard_0 rfl ?_
  refine z_if_lt 29 dX9_unheard_1 (by decide) (fun h1 => ?_) (fun h1 => ?_)
  · skip
    refine z_ldc dX9_unheard_29 cX9_73 ?_
    refine m_iret dX9_unheard_31 rfl rfl ?_
    exact ⟨rfl, rfl, rfl⟩
  · skip
    refine z_iload_n dX9_unheard_4 rfl ?_
    refine z_bipush (v := 100) dX9_unheard_5 rfl ?_
    refine z_icmp_gt 29 dX9_unheard_7 (by decide) (fun h7 => ?_) (fun h7 => (hv.elim h1 h7).elim)
    refine z_ldc dX9_unheard_29 cX9_73 ?_
    refine m_iret dX9_unheard_31 rfl rfl ?_
    exact ⟨rfl, rfl, rfl⟩
set_option maxRecDepth 100000 in
set_option maxHeartbeats 400000 in
theorem c_unheard_b {l : Launch} {G : zG} {μ : Mem} {ν : Lng} {q : Nat} (hq : q ≤ 100) {v : Int32} (hv : v < 0 ∨ 100 < v) {z : Int32}  : Cm l G mX9_unheard [.ref 0, .int (nI q), .int v, .int z] μ ν (fun a9 b9 c9 => (-1000000002) = a9 ∧ μ = b9 ∧ ν = c9) := by
  refine Con.of (by decide) (Nat.le_of_ble_eq_true rfl) ?_
  show Am l G mX9_unheard 0 [(0, .ref 0), (1, .int (nI q)), (2, .int v), (3, .int z)] [] μ ν _
  refine z_iload_n dX9_unheard_0 rfl ?_
  refine z_if_lt 29 dX9_unheard_1 (by decide) (fun h1 => absurd h1 (nI_nlt (a := q) (b := 0) (by omega) (by omega))) (fun h1 => ?_)
  refine z_iload_n dX9_unheard_4 rfl ?_
  refine z_bipush (v := 100) dX9_unheard_5 rfl ?_
  refine z_icmp_gt 29 dX9_unheard_7 (by decide) (fun h7 => absurd h7 (nI_nlt (a := 100) (b := q) (by omega) (by omega))) (fun h7 => ?_)
  refine z_iload_n dX9_unheard_10 rfl ?_
  refine z_if_lt 29 dX9_unheard_11 (by decide) (fun h11 => ?_) (fun h11 => ?_)
  · skip
    refine z_ldc dX9_unheard_29 cX9_73 ?_
    refine m_iret dX9_unheard_31 rfl rfl ?_
    exact ⟨rfl, rfl, rfl⟩
  · skip
    refine z_iload_n dX9_unheard_14 rfl ?_
    refine z_bipush (v := 100) dX9_unheard_15 rfl ?_
    refine z_icmp_gt 29 dX9_unheard_17 (by decide) (fun h17 => ?_) (fun h17 => (hv.elim h11 h17).elim)
    refine z_ldc dX9_unheard_29 cX9_73 ?_
    refine m_iret dX9_unheard_31 rfl rfl ?_
    exact ⟨rfl, rfl, rfl⟩
set_option maxRecDepth 100000 in
set_option maxHeartbeats 400000 in
theorem c_unheard_c {l : Launch} {G : zG} {μ : Mem} {ν : Lng} {q r : Nat} (hq : q ≤ 100) (hr : r ≤ 100) {v : Int32} (hv : v < 0 ∨ 1 < v)  : Cm l G mX9_unheard [.ref 0, .int (nI q), .int (nI r), .int v] μ ν (fun a9 b9 c9 => (-1000000002) = a9 ∧ μ = b9 ∧ ν = c9) := by
  refine Con.of (by decide) (Nat.le_of_ble_eq_true rfl) ?_
  show Am l G mX9_unheard 0 [(0, .ref 0), (1, .int (nI q)), (2, .int (nI r)), (3, .int v)] [] μ ν _
  refine z_iload_n dX9_unheard_0 rfl ?_
  refine z_if_lt 29 dX9_unheard_1 (by decide) (fun h1 => absurd h1 (nI_nlt (a := q) (b := 0) (by omega) (by omega))) (fun h1 => ?_)
  refine z_iload_n dX9_unheard_4 rfl ?_
  refine z_bipush (v := 100) dX9_unheard_5 rfl ?_
  refine z_icmp_gt 29 dX9_unheard_7 (by decide) (fun h7 => absurd h7 (nI_nlt (a := 100) (b := q) (by omega) (by omega))) (fun h7 => ?_)
  refine z_iload_n dX9_unheard_10 rfl ?_
  refine z_if_lt 29 dX9_unheard_11 (by decide) (fun h11 => absurd h11 (nI_nlt (a := r) (b := 0) (by omega) (by omega))) (fun h11 => ?_)
  refine z_iload_n dX9_unheard_14 rfl ?_
  refine z_bipush (v := 100) dX9_unheard_15 rfl ?_
  refine z_icmp_gt 29 dX9_unheard_17 (by decide) (fun h17 => absurd h17 (nI_nlt (a := 100) (b := r) (by omega) (by omega))) (fun h17 => ?_)
  refine z_iload_n dX9_unheard_20 rfl ?_
  refine z_if_lt 29 dX9_unheard_21 (by decide) (fun h21 => ?_) (fun h21 => ?_)
  · skip
    refine z_ldc dX9_unheard_29 cX9_73 ?_
    refine m_iret dX9_unheard_31 rfl rfl ?_
    exact ⟨rfl, rfl, rfl⟩
  · skip
    refine z_iload_n dX9_unheard_24 rfl ?_
    refine z_iconst (v := 1) dX9_unheard_25 rfl ?_
    refine z_icmp_le 32 dX9_unheard_26 (by decide) (fun h26 => (zbad hv h21 h26).elim) (fun h26 => ?_)
    refine z_ldc dX9_unheard_29 cX9_73 ?_
    refine m_iret dX9_unheard_31 rfl rfl ?_
    exact ⟨rfl, rfl, rfl⟩
set_option maxRecDepth 100000 in
set_option maxHeartbeats 400000 in
theorem c_unheard_n0 {l : Launch} {G : zG} {μ : Mem} {ν : Lng} {q r : Nat} (hq : q ≤ 100) (hr : r ≤ 100) (h0 : Nat.gcd (100 * q) (100 * q + (100 - q) * r) = 0)  : Cm l G mX9_unheard [.ref 0, .int (nI q), .int (nI r), .int 0] μ ν (fun a9 b9 c9 => (-1000000003) = a9 ∧ μ = b9 ∧ ν = c9) := by
  have hM : (100 - q) * r ≤ 10000 := Nat.mul_le_mul (show 100 - q ≤ 100 by omega) hr
  refine Con.of (by decide) (Nat.le_of_ble_eq_true rfl) ?_
  show Am l G mX9_unheard 0 [(0, .ref 0), (1, .int (nI q)), (2, .int (nI r)), (3, .int 0)] [] μ ν _
  refine z_iload_n dX9_unheard_0 rfl ?_
  refine z_if_lt 29 dX9_unheard_1 (by decide) (fun h1 => absurd h1 (nI_nlt (a := q) (b := 0) (by omega) (by omega))) (fun h1 => ?_)
  refine z_iload_n dX9_unheard_4 rfl ?_
  refine z_bipush (v := 100) dX9_unheard_5 rfl ?_
  refine z_icmp_gt 29 dX9_unheard_7 (by decide) (fun h7 => absurd h7 (nI_nlt (a := 100) (b := q) (by omega) (by omega))) (fun h7 => ?_)
  refine z_iload_n dX9_unheard_10 rfl ?_
  refine z_if_lt 29 dX9_unheard_11 (by decide) (fun h11 => absurd h11 (nI_nlt (a := r) (b := 0) (by omega) (by omega))) (fun h11 => ?_)
  refine z_iload_n dX9_unheard_14 rfl ?_
  refine z_bipush (v := 100) dX9_unheard_15 rfl ?_
  refine z_icmp_gt 29 dX9_unheard_17 (by decide) (fun h17 => absurd h17 (nI_nlt (a := 100) (b := r) (by omega) (by omega))) (fun h17 => ?_)
  refine z_iload_n dX9_unheard_20 rfl ?_
  refine z_if_lt 29 dX9_unheard_21 (by decide) (fun h21 => absurd h21 (by decide)) (fun h21 => ?_)
  refine z_iload_n dX9_unheard_24 rfl ?_
  refine z_iconst (v := 1) dX9_unheard_25 rfl ?_
  refine z_icmp_le 32 dX9_unheard_26 (by decide) (fun h26 => ?_) (fun h26 => absurd (by decide) h26)
  refine z_bipush (v := 100) dX9_unheard_32 rfl ?_
  refine z_iload_n dX9_unheard_34 rfl ?_
  refine z_imul dX9_unheard_35 ?_
  rw [show (100 * nI q) = nI (100 * q) from (by rw [show (100 : Int32) = nI 100 from rfl, pk_mul])]
  refine z_istore (i := 4) (fun y => [(4, .int y), (0, .ref 0), (1, .int (nI q)), (2, .int (nI r)), (3, .int 0)]) dX9_unheard_36 rfl (fun _ => rfl) (fun x9 e9 => ?_)
  subst e9
  refine z_iload dX9_unheard_38 rfl ?_
  refine z_bipush (v := 100) dX9_unheard_40 rfl ?_
  refine z_iload_n dX9_unheard_42 rfl ?_
  refine z_isub dX9_unheard_43 ?_
  rw [show (100 - nI q) = nI (100 - q) from (by rw [show (100 : Int32) = nI 100 from rfl, pk_sub (by omega)])]
  refine z_iload_n dX9_unheard_44 rfl ?_
  refine z_imul dX9_unheard_45 ?_
  rw [show (nI (100 - q) * nI r) = nI ((100 - q) * r) from pk_mul _ _]
  refine z_iadd dX9_unheard_46 ?_
  rw [show (nI (100 * q) + nI ((100 - q) * r)) = nI (100 * q + (100 - q) * r) from nI_add _ _]
  refine z_istore (i := 5) (fun y => [(5, .int y), (4, .int (nI (100 * q))), (0, .ref 0), (1, .int (nI q)), (2, .int (nI r)), (3, .int 0)]) dX9_unheard_47 rfl (fun _ => rfl) (fun x9 e9 => ?_)
  subst e9
  refine z_iload dX9_unheard_49 rfl ?_
  refine z_iload dX9_unheard_51 rfl ?_
  refine m_callS (As := [.int _, .int _]) dX9_unheard_53 kX9_276 ⟨rfl, rfl⟩ rfl ⟨rfl, rfl⟩ rfl rfl rfl (c_gcd (a := (100 * q + (100 - q) * r)) (b := (100 * q)) (by omega) (by omega)) (fun r53 μ53 ν53 hk53 => ?_)
  obtain ⟨rfl, rfl, rfl⟩ := hk53
  refine z_istore (i := 6) (fun y => [(6, .int y), (5, .int (nI (100 * q + (100 - q) * r))), (4, .int (nI (100 * q))), (0, .ref 0), (1, .int (nI q)), (2, .int (nI r)), (3, .int 0)]) dX9_unheard_56 rfl (fun _ => rfl) (fun x9 e9 => ?_)
  subst e9
  refine z_iload dX9_unheard_58 rfl ?_
  refine z_if_ne 66 dX9_unheard_60 (by decide) (fun h60 => absurd (by rw [h0]; rfl) h60) (fun h60 => ?_)
  refine z_ldc dX9_unheard_63 cX9_182 ?_
  refine m_iret dX9_unheard_65 rfl rfl ?_
  exact ⟨rfl, rfl, rfl⟩
set_option maxRecDepth 100000 in
set_option maxHeartbeats 400000 in
theorem c_unheard_0 {l : Launch} {G : zG} {μ : Mem} {ν : Lng} {q r : Nat} (hq : q ≤ 100) (hr : r ≤ 100) (h0 : 0 < Nat.gcd (100 * q) (100 * q + (100 - q) * r)) (hg : Nat.gcd (100 * q) (100 * q + (100 - q) * r) ≤ 20000)  : Cm l G mX9_unheard [.ref 0, .int (nI q), .int (nI r), .int 0] μ ν (fun a9 b9 c9 => nI ((100 * q) / Nat.gcd (100 * q) (100 * q + (100 - q) * r)) = a9 ∧ μ = b9 ∧ ν = c9) := by
  have hM : (100 - q) * r ≤ 10000 := Nat.mul_le_mul (show 100 - q ≤ 100 by omega) hr
  refine Con.of (by decide) (Nat.le_of_ble_eq_true rfl) ?_
  show Am l G mX9_unheard 0 [(0, .ref 0), (1, .int (nI q)), (2, .int (nI r)), (3, .int 0)] [] μ ν _
  refine z_iload_n dX9_unheard_0 rfl ?_
  refine z_if_lt 29 dX9_unheard_1 (by decide) (fun h1 => absurd h1 (nI_nlt (a := q) (b := 0) (by omega) (by omega))) (fun h1 => ?_)
  refine z_iload_n dX9_unheard_4 rfl ?_
  refine z_bipush (v := 100) dX9_unheard_5 rfl ?_
  refine z_icmp_gt 29 dX9_unheard_7 (by decide) (fun h7 => absurd h7 (nI_nlt (a := 100) (b := q) (by omega) (by omega))) (fun h7 => ?_)
  refine z_iload_n dX9_unheard_10 rfl ?_
  refine z_if_lt 29 dX9_unheard_11 (by decide) (fun h11 => absurd h11 (nI_nlt (a := r) (b := 0) (by omega) (by omega))) (fun h11 => ?_)
  refine z_iload_n dX9_unheard_14 rfl ?_
  refine z_bipush (v := 100) dX9_unheard_15 rfl ?_
  refine z_icmp_gt 29 dX9_unheard_17 (by decide) (fun h17 => absurd h17 (nI_nlt (a := 100) (b := r) (by omega) (by omega))) (fun h17 => ?_)
  refine z_iload_n dX9_unheard_20 rfl ?_
  refine z_if_lt 29 dX9_unheard_21 (by decide) (fun h21 => absurd h21 (by decide)) (fun h21 => ?_)
  refine z_iload_n dX9_unheard_24 rfl ?_
  refine z_iconst (v := 1) dX9_unheard_25 rfl ?_
  refine z_icmp_le 32 dX9_unheard_26 (by decide) (fun h26 => ?_) (fun h26 => absurd (by decide) h26)
  refine z_bipush (v := 100) dX9_unheard_32 rfl ?_
  refine z_iload_n dX9_unheard_34 rfl ?_
  refine z_imul dX9_unheard_35 ?_
  rw [show (100 * nI q) = nI (100 * q) from (by rw [show (100 : Int32) = nI 100 from rfl, pk_mul])]
  refine z_istore (i := 4) (fun y => [(4, .int y), (0, .ref 0), (1, .int (nI q)), (2, .int (nI r)), (3, .int 0)]) dX9_unheard_36 rfl (fun _ => rfl) (fun x9 e9 => ?_)
  subst e9
  refine z_iload dX9_unheard_38 rfl ?_
  refine z_bipush (v := 100) dX9_unheard_40 rfl ?_
  refine z_iload_n dX9_unheard_42 rfl ?_
  refine z_isub dX9_unheard_43 ?_
  rw [show (100 - nI q) = nI (100 - q) from (by rw [show (100 : Int32) = nI 100 from rfl, pk_sub (by omega)])]
  refine z_iload_n dX9_unheard_44 rfl ?_
  refine z_imul dX9_unheard_45 ?_
  rw [show (nI (100 - q) * nI r) = nI ((100 - q) * r) from pk_mul _ _]
  refine z_iadd dX9_unheard_46 ?_
  rw [show (nI (100 * q) + nI ((100 - q) * r)) = nI (100 * q + (100 - q) * r) from nI_add _ _]
  refine z_istore (i := 5) (fun y => [(5, .int y), (4, .int (nI (100 * q))), (0, .ref 0), (1, .int (nI q)), (2, .int (nI r)), (3, .int 0)]) dX9_unheard_47 rfl (fun _ => rfl) (fun x9 e9 => ?_)
  subst e9
  refine z_iload dX9_unheard_49 rfl ?_
  refine z_iload dX9_unheard_51 rfl ?_
  refine m_callS (As := [.int _, .int _]) dX9_unheard_53 kX9_276 ⟨rfl, rfl⟩ rfl ⟨rfl, rfl⟩ rfl rfl rfl (c_gcd (a := (100 * q + (100 - q) * r)) (b := (100 * q)) (by omega) (by omega)) (fun r53 μ53 ν53 hk53 => ?_)
  obtain ⟨rfl, rfl, rfl⟩ := hk53
  refine z_istore (i := 6) (fun y => [(6, .int y), (5, .int (nI (100 * q + (100 - q) * r))), (4, .int (nI (100 * q))), (0, .ref 0), (1, .int (nI q)), (2, .int (nI r)), (3, .int 0)]) dX9_unheard_56 rfl (fun _ => rfl) (fun x9 e9 => ?_)
  subst e9
  refine z_iload dX9_unheard_58 rfl ?_
  refine z_if_ne 66 dX9_unheard_60 (by decide) (fun h60 => ?_) (fun h60 => absurd h60 (nI_ne0 h0 (by omega)))
  refine z_iload_n dX9_unheard_66 rfl ?_
  refine z_if_ne 75 dX9_unheard_67 (by decide) (fun h67 => absurd (by decide) h67) (fun h67 => ?_)
  refine z_iload dX9_unheard_70 rfl ?_
  refine z_goto 77 dX9_unheard_72 (by decide) ?_
  refine z_iload dX9_unheard_77 rfl ?_
  refine z_idiv dX9_unheard_79 (nI_ne0 h0 (by omega)) ?_
  rw [show (nI (100 * q) / nI (Nat.gcd (100 * q) (100 * q + (100 - q) * r))) = nI ((100 * q) / Nat.gcd (100 * q) (100 * q + (100 - q) * r)) from pk_div (by omega) h0 (by omega)]
  refine m_iret dX9_unheard_80 rfl rfl ?_
  exact ⟨rfl, rfl, rfl⟩
set_option maxRecDepth 100000 in
set_option maxHeartbeats 400000 in
theorem c_unheard_n1 {l : Launch} {G : zG} {μ : Mem} {ν : Lng} {q r : Nat} (hq : q ≤ 100) (hr : r ≤ 100) (h0 : Nat.gcd (100 * q) (100 * q + (100 - q) * r) = 0)  : Cm l G mX9_unheard [.ref 0, .int (nI q), .int (nI r), .int 1] μ ν (fun a9 b9 c9 => (-1000000003) = a9 ∧ μ = b9 ∧ ν = c9) := by
  have hM : (100 - q) * r ≤ 10000 := Nat.mul_le_mul (show 100 - q ≤ 100 by omega) hr
  refine Con.of (by decide) (Nat.le_of_ble_eq_true rfl) ?_
  show Am l G mX9_unheard 0 [(0, .ref 0), (1, .int (nI q)), (2, .int (nI r)), (3, .int 1)] [] μ ν _
  refine z_iload_n dX9_unheard_0 rfl ?_
  refine z_if_lt 29 dX9_unheard_1 (by decide) (fun h1 => absurd h1 (nI_nlt (a := q) (b := 0) (by omega) (by omega))) (fun h1 => ?_)
  refine z_iload_n dX9_unheard_4 rfl ?_
  refine z_bipush (v := 100) dX9_unheard_5 rfl ?_
  refine z_icmp_gt 29 dX9_unheard_7 (by decide) (fun h7 => absurd h7 (nI_nlt (a := 100) (b := q) (by omega) (by omega))) (fun h7 => ?_)
  refine z_iload_n dX9_unheard_10 rfl ?_
  refine z_if_lt 29 dX9_unheard_11 (by decide) (fun h11 => absurd h11 (nI_nlt (a := r) (b := 0) (by omega) (by omega))) (fun h11 => ?_)
  refine z_iload_n dX9_unheard_14 rfl ?_
  refine z_bipush (v := 100) dX9_unheard_15 rfl ?_
  refine z_icmp_gt 29 dX9_unheard_17 (by decide) (fun h17 => absurd h17 (nI_nlt (a := 100) (b := r) (by omega) (by omega))) (fun h17 => ?_)
  refine z_iload_n dX9_unheard_20 rfl ?_
  refine z_if_lt 29 dX9_unheard_21 (by decide) (fun h21 => absurd h21 (by decide)) (fun h21 => ?_)
  refine z_iload_n dX9_unheard_24 rfl ?_
  refine z_iconst (v := 1) dX9_unheard_25 rfl ?_
  refine z_icmp_le 32 dX9_unheard_26 (by decide) (fun h26 => ?_) (fun h26 => absurd (by decide) h26)
  refine z_bipush (v := 100) dX9_unheard_32 rfl ?_
  refine z_iload_n dX9_unheard_34 rfl ?_
  refine z_imul dX9_unheard_35 ?_
  rw [show (100 * nI q) = nI (100 * q) from (by rw [show (100 : Int32) = nI 100 from rfl, pk_mul])]
  refine z_istore (i := 4) (fun y => [(4, .int y), (0, .ref 0), (1, .int (nI q)), (2, .int (nI r)), (3, .int 1)]) dX9_unheard_36 rfl (fun _ => rfl) (fun x9 e9 => ?_)
  subst e9
  refine z_iload dX9_unheard_38 rfl ?_
  refine z_bipush (v := 100) dX9_unheard_40 rfl ?_
  refine z_iload_n dX9_unheard_42 rfl ?_
  refine z_isub dX9_unheard_43 ?_
  rw [show (100 - nI q) = nI (100 - q) from (by rw [show (100 : Int32) = nI 100 from rfl, pk_sub (by omega)])]
  refine z_iload_n dX9_unheard_44 rfl ?_
  refine z_imul dX9_unheard_45 ?_
  rw [show (nI (100 - q) * nI r) = nI ((100 - q) * r) from pk_mul _ _]
  refine z_iadd dX9_unheard_46 ?_
  rw [show (nI (100 * q) + nI ((100 - q) * r)) = nI (100 * q + (100 - q) * r) from nI_add _ _]
  refine z_istore (i := 5) (fun y => [(5, .int y), (4, .int (nI (100 * q))), (0, .ref 0), (1, .int (nI q)), (2, .int (nI r)), (3, .int 1)]) dX9_unheard_47 rfl (fun _ => rfl) (fun x9 e9 => ?_)
  subst e9
  refine z_iload dX9_unheard_49 rfl ?_
  refine z_iload dX9_unheard_51 rfl ?_
  refine m_callS (As := [.int _, .int _]) dX9_unheard_53 kX9_276 ⟨rfl, rfl⟩ rfl ⟨rfl, rfl⟩ rfl rfl rfl (c_gcd (a := (100 * q + (100 - q) * r)) (b := (100 * q)) (by omega) (by omega)) (fun r53 μ53 ν53 hk53 => ?_)
  obtain ⟨rfl, rfl, rfl⟩ := hk53
  refine z_istore (i := 6) (fun y => [(6, .int y), (5, .int (nI (100 * q + (100 - q) * r))), (4, .int (nI (100 * q))), (0, .ref 0), (1, .int (nI q)), (2, .int (nI r)), (3, .int 1)]) dX9_unheard_56 rfl (fun _ => rfl) (fun x9 e9 => ?_)
  subst e9
  refine z_iload dX9_unheard_58 rfl ?_
  refine z_if_ne 66 dX9_unheard_60 (by decide) (fun h60 => absurd (by rw [h0]; rfl) h60) (fun h60 => ?_)
  refine z_ldc dX9_unheard_63 cX9_182 ?_
  refine m_iret dX9_unheard_65 rfl rfl ?_
  exact ⟨rfl, rfl, rfl⟩
set_option maxRecDepth 100000 in
set_option maxHeartbeats 400000 in
theorem c_unheard_1 {l : Launch} {G : zG} {μ : Mem} {ν : Lng} {q r : Nat} (hq : q ≤ 100) (hr : r ≤ 100) (h0 : 0 < Nat.gcd (100 * q) (100 * q + (100 - q) * r)) (hg : Nat.gcd (100 * q) (100 * q + (100 - q) * r) ≤ 20000)  : Cm l G mX9_unheard [.ref 0, .int (nI q), .int (nI r), .int 1] μ ν (fun a9 b9 c9 => nI ((100 * q + (100 - q) * r) / Nat.gcd (100 * q) (100 * q + (100 - q) * r)) = a9 ∧ μ = b9 ∧ ν = c9) := by
  have hM : (100 - q) * r ≤ 10000 := Nat.mul_le_mul (show 100 - q ≤ 100 by omega) hr
  refine Con.of (by decide) (Nat.le_of_ble_eq_true rfl) ?_
  show Am l G mX9_unheard 0 [(0, .ref 0), (1, .int (nI q)), (2, .int (nI r)), (3, .int 1)] [] μ ν _
  refine z_iload_n dX9_unheard_0 rfl ?_
  refine z_if_lt 29 dX9_unheard_1 (by decide) (fun h1 => absurd h1 (nI_nlt (a := q) (b := 0) (by omega) (by omega))) (fun h1 => ?_)
  refine z_iload_n dX9_unheard_4 rfl ?_
  refine z_bipush (v := 100) dX9_unheard_5 rfl ?_
  refine z_icmp_gt 29 dX9_unheard_7 (by decide) (fun h7 => absurd h7 (nI_nlt (a := 100) (b := q) (by omega) (by omega))) (fun h7 => ?_)
  refine z_iload_n dX9_unheard_10 rfl ?_
  refine z_if_lt 29 dX9_unheard_11 (by decide) (fun h11 => absurd h11 (nI_nlt (a := r) (b := 0) (by omega) (by omega))) (fun h11 => ?_)
  refine z_iload_n dX9_unheard_14 rfl ?_
  refine z_bipush (v := 100) dX9_unheard_15 rfl ?_
  refine z_icmp_gt 29 dX9_unheard_17 (by decide) (fun h17 => absurd h17 (nI_nlt (a := 100) (b := r) (by omega) (by omega))) (fun h17 => ?_)
  refine z_iload_n dX9_unheard_20 rfl ?_
  refine z_if_lt 29 dX9_unheard_21 (by decide) (fun h21 => absurd h21 (by decide)) (fun h21 => ?_)
  refine z_iload_n dX9_unheard_24 rfl ?_
  refine z_iconst (v := 1) dX9_unheard_25 rfl ?_
  refine z_icmp_le 32 dX9_unheard_26 (by decide) (fun h26 => ?_) (fun h26 => absurd (by decide) h26)
  refine z_bipush (v := 100) dX9_unheard_32 rfl ?_
  refine z_iload_n dX9_unheard_34 rfl ?_
  refine z_imul dX9_unheard_35 ?_
  rw [show (100 * nI q) = nI (100 * q) from (by rw [show (100 : Int32) = nI 100 from rfl, pk_mul])]
  refine z_istore (i := 4) (fun y => [(4, .int y), (0, .ref 0), (1, .int (nI q)), (2, .int (nI r)), (3, .int 1)]) dX9_unheard_36 rfl (fun _ => rfl) (fun x9 e9 => ?_)
  subst e9
  refine z_iload dX9_unheard_38 rfl ?_
  refine z_bipush (v := 100) dX9_unheard_40 rfl ?_
  refine z_iload_n dX9_unheard_42 rfl ?_
  refine z_isub dX9_unheard_43 ?_
  rw [show (100 - nI q) = nI (100 - q) from (by rw [show (100 : Int32) = nI 100 from rfl, pk_sub (by omega)])]
  refine z_iload_n dX9_unheard_44 rfl ?_
  refine z_imul dX9_unheard_45 ?_
  rw [show (nI (100 - q) * nI r) = nI ((100 - q) * r) from pk_mul _ _]
  refine z_iadd dX9_unheard_46 ?_
  rw [show (nI (100 * q) + nI ((100 - q) * r)) = nI (100 * q + (100 - q) * r) from nI_add _ _]
  refine z_istore (i := 5) (fun y => [(5, .int y), (4, .int (nI (100 * q))), (0, .ref 0), (1, .int (nI q)), (2, .int (nI r)), (3, .int 1)]) dX9_unheard_47 rfl (fun _ => rfl) (fun x9 e9 => ?_)
  subst e9
  refine z_iload dX9_unheard_49 rfl ?_
  refine z_iload dX9_unheard_51 rfl ?_
  refine m_callS (As := [.int _, .int _]) dX9_unheard_53 kX9_276 ⟨rfl, rfl⟩ rfl ⟨rfl, rfl⟩ rfl rfl rfl (c_gcd (a := (100 * q + (100 - q) * r)) (b := (100 * q)) (by omega) (by omega)) (fun r53 μ53 ν53 hk53 => ?_)
  obtain ⟨rfl, rfl, rfl⟩ := hk53
  refine z_istore (i := 6) (fun y => [(6, .int y), (5, .int (nI (100 * q + (100 - q) * r))), (4, .int (nI (100 * q))), (0, .ref 0), (1, .int (nI q)), (2, .int (nI r)), (3, .int 1)]) dX9_unheard_56 rfl (fun _ => rfl) (fun x9 e9 => ?_)
  subst e9
  refine z_iload dX9_unheard_58 rfl ?_
  refine z_if_ne 66 dX9_unheard_60 (by decide) (fun h60 => ?_) (fun h60 => absurd h60 (nI_ne0 h0 (by omega)))
  refine z_iload_n dX9_unheard_66 rfl ?_
  refine z_if_ne 75 dX9_unheard_67 (by decide) (fun h67 => ?_) (fun h67 => absurd h67 (by decide))
  refine z_iload dX9_unheard_75 rfl ?_
  refine z_iload dX9_unheard_77 rfl ?_
  refine z_idiv dX9_unheard_79 (nI_ne0 h0 (by omega)) ?_
  rw [show (nI (100 * q + (100 - q) * r) / nI (Nat.gcd (100 * q) (100 * q + (100 - q) * r))) = nI ((100 * q + (100 - q) * r) / Nat.gcd (100 * q) (100 * q + (100 - q) * r)) from pk_div (by omega) h0 (by omega)]
  refine m_iret dX9_unheard_80 rfl rfl ?_
  exact ⟨rfl, rfl, rfl⟩
set_option maxRecDepth 100000 in
set_option maxHeartbeats 400000 in
theorem d_unheard_a {l : Launch} {G : zG} {μ : Mem} {ν : Lng} {v : Int32} (hv : v < 0 ∨ 100 < v) {y z : Int32}  : Cm l G mX10_unheard [.ref 66, .int v, .int y, .int z] μ ν (fun a9 b9 c9 => (-1000000002) = a9 ∧ μ = b9 ∧ ν = c9) := by
  refine Con.of (by decide) (Nat.le_of_ble_eq_true rfl) ?_
  show Am l G mX10_unheard 0 [(0, .ref 66), (1, .int v), (2, .int y), (3, .int z)] [] μ ν _
  refine z_iload_n dX10_unheard_0 rfl ?_
  refine z_iconst (v := 0) dX10_unheard_1 rfl ?_
  refine z_bipush (v := 100) dX10_unheard_2 rfl ?_
  refine m_callS (As := [.int _, .int _, .int _]) dX10_unheard_4 kX10_108 ⟨rfl, rfl⟩ rfl ⟨rfl, rfl⟩ rfl rfl rfl (c_inF hv) (fun r4 μ4 ν4 hk4 => ?_)
  obtain ⟨rfl, rfl, rfl⟩ := hk4
  refine z_if_eq 29 dX10_unheard_7 (by decide) (fun h7 => ?_) (fun h7 => absurd (by decide) h7)
  refine z_ldc dX10_unheard_29 cX10_112 ?_
  refine m_iret dX10_unheard_31 rfl rfl ?_
  exact ⟨rfl, rfl, rfl⟩
set_option maxRecDepth 100000 in
set_option maxHeartbeats 400000 in
theorem d_unheard_b {l : Launch} {G : zG} {μ : Mem} {ν : Lng} {q : Nat} (hq : q ≤ 100) {v : Int32} (hv : v < 0 ∨ 100 < v) {z : Int32}  : Cm l G mX10_unheard [.ref 66, .int (nI q), .int v, .int z] μ ν (fun a9 b9 c9 => (-1000000002) = a9 ∧ μ = b9 ∧ ν = c9) := by
  refine Con.of (by decide) (Nat.le_of_ble_eq_true rfl) ?_
  show Am l G mX10_unheard 0 [(0, .ref 66), (1, .int (nI q)), (2, .int v), (3, .int z)] [] μ ν _
  refine z_iload_n dX10_unheard_0 rfl ?_
  refine z_iconst (v := 0) dX10_unheard_1 rfl ?_
  refine z_bipush (v := 100) dX10_unheard_2 rfl ?_
  refine m_callS (As := [.int _, .int _, .int _]) dX10_unheard_4 kX10_108 ⟨rfl, rfl⟩ rfl ⟨rfl, rfl⟩ rfl rfl rfl (c_inT (v := q) (lo := 0) (hi := 100) (Nat.zero_le q) hq (by decide)) (fun r4 μ4 ν4 hk4 => ?_)
  obtain ⟨rfl, rfl, rfl⟩ := hk4
  refine z_if_eq 29 dX10_unheard_7 (by decide) (fun h7 => absurd h7 (by decide)) (fun h7 => ?_)
  refine z_iload_n dX10_unheard_10 rfl ?_
  refine z_iconst (v := 0) dX10_unheard_11 rfl ?_
  refine z_bipush (v := 100) dX10_unheard_12 rfl ?_
  refine m_callS (As := [.int _, .int _, .int _]) dX10_unheard_14 kX10_108 ⟨rfl, rfl⟩ rfl ⟨rfl, rfl⟩ rfl rfl rfl (c_inF hv) (fun r14 μ14 ν14 hk14 => ?_)
  obtain ⟨rfl, rfl, rfl⟩ := hk14
  refine z_if_eq 29 dX10_unheard_17 (by decide) (fun h17 => ?_) (fun h17 => absurd (by decide) h17)
  refine z_ldc dX10_unheard_29 cX10_112 ?_
  refine m_iret dX10_unheard_31 rfl rfl ?_
  exact ⟨rfl, rfl, rfl⟩
set_option maxRecDepth 100000 in
set_option maxHeartbeats 400000 in
theorem d_unheard_c {l : Launch} {G : zG} {μ : Mem} {ν : Lng} {q r : Nat} (hq : q ≤ 100) (hr : r ≤ 100) {v : Int32} (hv : v < 0 ∨ 1 < v)  : Cm l G mX10_unheard [.ref 66, .int (nI q), .int (nI r), .int v] μ ν (fun a9 b9 c9 => (-1000000002) = a9 ∧ μ = b9 ∧ ν = c9) := by
  refine Con.of (by decide) (Nat.le_of_ble_eq_true rfl) ?_
  show Am l G mX10_unheard 0 [(0, .ref 66), (1, .int (nI q)), (2, .int (nI r)), (3, .int v)] [] μ ν _
  refine z_iload_n dX10_unheard_0 rfl ?_
  refine z_iconst (v := 0) dX10_unheard_1 rfl ?_
  refine z_bipush (v := 100) dX10_unheard_2 rfl ?_
  refine m_callS (As := [.int _, .int _, .int _]) dX10_unheard_4 kX10_108 ⟨rfl, rfl⟩ rfl ⟨rfl, rfl⟩ rfl rfl rfl (c_inT (v := q) (lo := 0) (hi := 100) (Nat.zero_le q) hq (by decide)) (fun r4 μ4 ν4 hk4 => ?_)
  obtain ⟨rfl, rfl, rfl⟩ := hk4
  refine z_if_eq 29 dX10_unheard_7 (by decide) (fun h7 => absurd h7 (by decide)) (fun h7 => ?_)
  refine z_iload_n dX10_unheard_10 rfl ?_
  refine z_iconst (v := 0) dX10_unheard_11 rfl ?_
  refine z_bipush (v := 100) dX10_unheard_12 rfl ?_
  refine m_callS (As := [.int _, .int _, .int _]) dX10_unheard_14 kX10_108 ⟨rfl, rfl⟩ rfl ⟨rfl, rfl⟩ rfl rfl rfl (c_inT (v := r) (lo := 0) (hi := 100) (Nat.zero_le r) hr (by decide)) (fun r14 μ14 ν14 hk14 => ?_)
  obtain ⟨rfl, rfl, rfl⟩ := hk14
  refine z_if_eq 29 dX10_unheard_17 (by decide) (fun h17 => absurd h17 (by decide)) (fun h17 => ?_)
  refine z_iload_n dX10_unheard_20 rfl ?_
  refine z_iconst (v := 0) dX10_unheard_21 rfl ?_
  refine z_iconst (v := 1) dX10_unheard_22 rfl ?_
  refine m_callS (As := [.int _, .int _, .int _]) dX10_unheard_23 kX10_108 ⟨rfl, rfl⟩ rfl ⟨rfl, rfl⟩ rfl rfl rfl (c_inF hv) (fun r23 μ23 ν23 hk23 => ?_)
  obtain ⟨rfl, rfl, rfl⟩ := hk23
  refine z_if_ne 32 dX10_unheard_26 (by decide) (fun h26 => absurd (by decide) h26) (fun h26 => ?_)
  refine z_ldc dX10_unheard_29 cX10_112 ?_
  refine m_iret dX10_unheard_31 rfl rfl ?_
  exact ⟨rfl, rfl, rfl⟩
set_option maxRecDepth 100000 in
set_option maxHeartbeats 400000 in
theorem d_unheard_n0 {l : Launch} {G : zG} {μ : Mem} {ν : Lng} {q r : Nat} (hq : q ≤ 100) (hr : r ≤ 100) (h0 : (100 * q + (100 - q) * r) = 0)  : Cm l G mX10_unheard [.ref 66, .int (nI q), .int (nI r), .int 0] μ ν (fun a9 b9 c9 => (-1000000003) = a9 ∧ μ = b9 ∧ ν = c9) := by
  have hM : (100 - q) * r ≤ 10000 := Nat.mul_le_mul (show 100 - q ≤ 100 by omega) hr
  refine Con.of (by decide) (Nat.le_of_ble_eq_true rfl) ?_
  show Am l G mX10_unheard 0 [(0, .ref 66), (1, .int (nI q)), (2, .int (nI r)), (3, .int 0)] [] μ ν _
  refine z_iload_n dX10_unheard_0 rfl ?_
  refine z_iconst (v := 0) dX10_unheard_1 rfl ?_
  refine z_bipush (v := 100) dX10_unheard_2 rfl ?_
  refine m_callS (As := [.int _, .int _, .int _]) dX10_unheard_4 kX10_108 ⟨rfl, rfl⟩ rfl ⟨rfl, rfl⟩ rfl rfl rfl (c_inT (v := q) (lo := 0) (hi := 100) (Nat.zero_le q) hq (by decide)) (fun r4 μ4 ν4 hk4 => ?_)
  obtain ⟨rfl, rfl, rfl⟩ := hk4
  refine z_if_eq 29 dX10_unheard_7 (by decide) (fun h7 => absurd h7 (by decide)) (fun h7 => ?_)
  refine z_iload_n dX10_unheard_10 rfl ?_
  refine z_iconst (v := 0) dX10_unheard_11 rfl ?_
  refine z_bipush (v := 100) dX10_unheard_12 rfl ?_
  refine m_callS (As := [.int _, .int _, .int _]) dX10_unheard_14 kX10_108 ⟨rfl, rfl⟩ rfl ⟨rfl, rfl⟩ rfl rfl rfl (c_inT (v := r) (lo := 0) (hi := 100) (Nat.zero_le r) hr (by decide)) (fun r14 μ14 ν14 hk14 => ?_)
  obtain ⟨rfl, rfl, rfl⟩ := hk14
  refine z_if_eq 29 dX10_unheard_17 (by decide) (fun h17 => absurd h17 (by decide)) (fun h17 => ?_)
  refine z_iload_n dX10_unheard_20 rfl ?_
  refine z_iconst (v := 0) dX10_unheard_21 rfl ?_
  refine z_iconst (v := 1) dX10_unheard_22 rfl ?_
  refine m_callS (As := [.int _, .int _, .int _]) dX10_unheard_23 kX10_108 ⟨rfl, rfl⟩ rfl ⟨rfl, rfl⟩ rfl rfl rfl (c_inT (v := 0) (lo := 0) (hi := 1) (by decide) (by decide) (by decide)) (fun r23 μ23 ν23 hk23 => ?_)
  obtain ⟨rfl, rfl, rfl⟩ := hk23
  refine z_if_ne 32 dX10_unheard_26 (by decide) (fun h26 => ?_) (fun h26 => absurd h26 (by decide))
  refine z_bipush (v := 100) dX10_unheard_32 rfl ?_
  refine z_iload_n dX10_unheard_34 rfl ?_
  refine z_imul dX10_unheard_35 ?_
  rw [show (100 * nI q) = nI (100 * q) from (by rw [show (100 : Int32) = nI 100 from rfl, pk_mul])]
  refine z_istore (i := 4) (fun y => [(4, .int y), (0, .ref 66), (1, .int (nI q)), (2, .int (nI r)), (3, .int 0)]) dX10_unheard_36 rfl (fun _ => rfl) (fun x9 e9 => ?_)
  subst e9
  refine z_iload dX10_unheard_38 rfl ?_
  refine z_bipush (v := 100) dX10_unheard_40 rfl ?_
  refine z_iload_n dX10_unheard_42 rfl ?_
  refine z_isub dX10_unheard_43 ?_
  rw [show (100 - nI q) = nI (100 - q) from (by rw [show (100 : Int32) = nI 100 from rfl, pk_sub (by omega)])]
  refine z_iload_n dX10_unheard_44 rfl ?_
  refine z_imul dX10_unheard_45 ?_
  rw [show (nI (100 - q) * nI r) = nI ((100 - q) * r) from pk_mul _ _]
  refine z_iadd dX10_unheard_46 ?_
  rw [show (nI (100 * q) + nI ((100 - q) * r)) = nI (100 * q + (100 - q) * r) from nI_add _ _]
  refine z_istore (i := 5) (fun y => [(5, .int y), (4, .int (nI (100 * q))), (0, .ref 66), (1, .int (nI q)), (2, .int (nI r)), (3, .int 0)]) dX10_unheard_47 rfl (fun _ => rfl) (fun x9 e9 => ?_)
  subst e9
  refine z_iload dX10_unheard_49 rfl ?_
  refine z_if_ne 57 dX10_unheard_51 (by decide) (fun h51 => absurd (by rw [h0]; rfl) h51) (fun h51 => ?_)
  refine z_ldc dX10_unheard_54 cX10_241 ?_
  refine m_iret dX10_unheard_56 rfl rfl ?_
  exact ⟨rfl, rfl, rfl⟩
set_option maxRecDepth 100000 in
set_option maxHeartbeats 400000 in
theorem d_unheard_0 {l : Launch} {G : zG} {μ : Mem} {ν : Lng} {q r : Nat} (hq : q ≤ 100) (hr : r ≤ 100) (hB : 0 < (100 * q + (100 - q) * r)) (h0 : 0 < Nat.gcd (100 * q) (100 * q + (100 - q) * r)) (hg : Nat.gcd (100 * q) (100 * q + (100 - q) * r) ≤ 20000)  : Cm l G mX10_unheard [.ref 66, .int (nI q), .int (nI r), .int 0] μ ν (fun a9 b9 c9 => nI ((100 * q) / Nat.gcd (100 * q) (100 * q + (100 - q) * r)) = a9 ∧ μ = b9 ∧ ν = c9) := by
  have hM : (100 - q) * r ≤ 10000 := Nat.mul_le_mul (show 100 - q ≤ 100 by omega) hr
  refine Con.of (by decide) (Nat.le_of_ble_eq_true rfl) ?_
  show Am l G mX10_unheard 0 [(0, .ref 66), (1, .int (nI q)), (2, .int (nI r)), (3, .int 0)] [] μ ν _
  have hX : Am l G mX10_unheard 88 [(6, .int (nI (Nat.gcd (100 * q) (100 * q + (100 - q) * r)))), (5, .int (nI (100 * q + (100 - q) * r))), (4, .int (nI (100 * q))), (0, .ref 66), (1, .int (nI q)), (2, .int (nI r)), (3, .int 0)] [] μ ν (fun a9 b9 c9 => nI ((100 * q) / Nat.gcd (100 * q) (100 * q + (100 - q) * r)) = a9 ∧ μ = b9 ∧ ν = c9) := by
    refine z_iload_n dX10_unheard_88 rfl ?_
    refine z_if_ne 97 dX10_unheard_89 (by decide) (fun h89 => absurd (by decide) h89) (fun h89 => ?_)
    refine z_iload dX10_unheard_92 rfl ?_
    refine z_goto 99 dX10_unheard_94 (by decide) ?_
    refine z_iload dX10_unheard_99 rfl ?_
    refine z_idiv dX10_unheard_101 (nI_ne0 h0 (by omega)) ?_
    rw [show (nI (100 * q) / nI (Nat.gcd (100 * q) (100 * q + (100 - q) * r))) = nI ((100 * q) / Nat.gcd (100 * q) (100 * q + (100 - q) * r)) from pk_div (by omega) h0 (by omega)]
    refine m_iret dX10_unheard_102 rfl rfl ?_
    exact ⟨rfl, rfl, rfl⟩
  have hE : ∀ b a : Nat, a ≤ 20000 → b ≤ 20000 → Nat.gcd b a = Nat.gcd (100 * q) (100 * q + (100 - q) * r) → Am l G mX10_unheard 65 [(7, .int (nI b)), (6, .int (nI a)), (5, .int (nI (100 * q + (100 - q) * r))), (4, .int (nI (100 * q))), (0, .ref 66), (1, .int (nI q)), (2, .int (nI r)), (3, .int 0)] [] μ ν (fun a9 b9 c9 => nI ((100 * q) / Nat.gcd (100 * q) (100 * q + (100 - q) * r)) = a9 ∧ μ = b9 ∧ ν = c9) := by
    intro b
    induction b using Nat.strongRecOn with
    | ind b ih =>
      intro a ha hb e
      have ih : ∀ m, m < b → ∀ a, a ≤ 20000 → Nat.gcd m a = Nat.gcd (100 * q) (100 * q + (100 - q) * r) → Am l G mX10_unheard 65 [(7, .int (nI m)), (6, .int (nI a)), (5, .int (nI (100 * q + (100 - q) * r))), (4, .int (nI (100 * q))), (0, .ref 66), (1, .int (nI q)), (2, .int (nI r)), (3, .int 0)] [] μ ν (fun a9 b9 c9 => nI ((100 * q) / Nat.gcd (100 * q) (100 * q + (100 - q) * r)) = a9 ∧ μ = b9 ∧ ν = c9) := fun m hm a ha e => ih m hm a ha (by omega) e
      rcases (show b = 0 ∨ 0 < b by omega) with rfl | hp
      · skip
        refine z_iload dX10_unheard_65 rfl ?_
        refine z_if_le 88 dX10_unheard_67 (by decide) (fun h67 => ?_) (fun h67 => absurd (show nI 0 ≤ 0 by decide) h67)
        refine z_lv [1, 2, 3, 4, 5, 6, 7] rfl ?_
        rw [Nat.gcd_zero_left] at e
        rw [e]
        exact hX
      · skip
        refine z_iload dX10_unheard_65 rfl ?_
        refine z_if_le 88 dX10_unheard_67 (by decide) (fun h67 => absurd h67 (nI_nle hp (by omega))) (fun h67 => ?_)
        refine z_iload dX10_unheard_70 rfl ?_
        refine z_iload dX10_unheard_72 rfl ?_
        refine z_irem dX10_unheard_74 (nI_ne0 hp (by omega)) ?_
        rw [show (nI a - nI a / nI b * nI b) = nI (a % b) from pk_rem (by omega) hp (by omega)]
        refine z_istore (i := 8) (fun y => [(8, .int y), (7, .int (nI b)), (6, .int (nI a)), (5, .int (nI (100 * q + (100 - q) * r))), (4, .int (nI (100 * q))), (0, .ref 66), (1, .int (nI q)), (2, .int (nI r)), (3, .int 0)]) dX10_unheard_75 rfl (fun _ => rfl) (fun x9 e9 => ?_)
        subst e9
        refine z_iload dX10_unheard_77 rfl ?_
        refine z_istore (i := 6) (fun y => [(6, .int y), (8, .int (nI (a % b))), (7, .int (nI b)), (5, .int (nI (100 * q + (100 - q) * r))), (4, .int (nI (100 * q))), (0, .ref 66), (1, .int (nI q)), (2, .int (nI r)), (3, .int 0)]) dX10_unheard_79 rfl (fun _ => rfl) (fun x9 e9 => ?_)
        subst e9
        refine z_iload dX10_unheard_81 rfl ?_
        refine z_istore (i := 7) (fun y => [(7, .int y), (6, .int (nI b)), (8, .int (nI (a % b))), (5, .int (nI (100 * q + (100 - q) * r))), (4, .int (nI (100 * q))), (0, .ref 66), (1, .int (nI q)), (2, .int (nI r)), (3, .int 0)]) dX10_unheard_83 rfl (fun _ => rfl) (fun x9 e9 => ?_)
        subst e9
        refine z_goto 65 dX10_unheard_85 (by decide) ?_
        refine z_lv [0, 1, 3, 4, 5, 6, 7, 8] rfl ?_
        exact ih (a % b) (Nat.mod_lt _ hp) b hb (by rw [← e]; exact (Nat.gcd_rec b a).symm)
  refine z_iload_n dX10_unheard_0 rfl ?_
  refine z_iconst (v := 0) dX10_unheard_1 rfl ?_
  refine z_bipush (v := 100) dX10_unheard_2 rfl ?_
  refine m_callS (As := [.int _, .int _, .int _]) dX10_unheard_4 kX10_108 ⟨rfl, rfl⟩ rfl ⟨rfl, rfl⟩ rfl rfl rfl (c_inT (v := q) (lo := 0) (hi := 100) (Nat.zero_le q) hq (by decide)) (fun r4 μ4 ν4 hk4 => ?_)
  obtain ⟨rfl, rfl, rfl⟩ := hk4
  refine z_if_eq 29 dX10_unheard_7 (by decide) (fun h7 => absurd h7 (by decide)) (fun h7 => ?_)
  refine z_iload_n dX10_unheard_10 rfl ?_
  refine z_iconst (v := 0) dX10_unheard_11 rfl ?_
  refine z_bipush (v := 100) dX10_unheard_12 rfl ?_
  refine m_callS (As := [.int _, .int _, .int _]) dX10_unheard_14 kX10_108 ⟨rfl, rfl⟩ rfl ⟨rfl, rfl⟩ rfl rfl rfl (c_inT (v := r) (lo := 0) (hi := 100) (Nat.zero_le r) hr (by decide)) (fun r14 μ14 ν14 hk14 => ?_)
  obtain ⟨rfl, rfl, rfl⟩ := hk14
  refine z_if_eq 29 dX10_unheard_17 (by decide) (fun h17 => absurd h17 (by decide)) (fun h17 => ?_)
  refine z_iload_n dX10_unheard_20 rfl ?_
  refine z_iconst (v := 0) dX10_unheard_21 rfl ?_
  refine z_iconst (v := 1) dX10_unheard_22 rfl ?_
  refine m_callS (As := [.int _, .int _, .int _]) dX10_unheard_23 kX10_108 ⟨rfl, rfl⟩ rfl ⟨rfl, rfl⟩ rfl rfl rfl (c_inT (v := 0) (lo := 0) (hi := 1) (by decide) (by decide) (by decide)) (fun r23 μ23 ν23 hk23 => ?_)
  obtain ⟨rfl, rfl, rfl⟩ := hk23
  refine z_if_ne 32 dX10_unheard_26 (by decide) (fun h26 => ?_) (fun h26 => absurd h26 (by decide))
  refine z_bipush (v := 100) dX10_unheard_32 rfl ?_
  refine z_iload_n dX10_unheard_34 rfl ?_
  refine z_imul dX10_unheard_35 ?_
  rw [show (100 * nI q) = nI (100 * q) from (by rw [show (100 : Int32) = nI 100 from rfl, pk_mul])]
  refine z_istore (i := 4) (fun y => [(4, .int y), (0, .ref 66), (1, .int (nI q)), (2, .int (nI r)), (3, .int 0)]) dX10_unheard_36 rfl (fun _ => rfl) (fun x9 e9 => ?_)
  subst e9
  refine z_iload dX10_unheard_38 rfl ?_
  refine z_bipush (v := 100) dX10_unheard_40 rfl ?_
  refine z_iload_n dX10_unheard_42 rfl ?_
  refine z_isub dX10_unheard_43 ?_
  rw [show (100 - nI q) = nI (100 - q) from (by rw [show (100 : Int32) = nI 100 from rfl, pk_sub (by omega)])]
  refine z_iload_n dX10_unheard_44 rfl ?_
  refine z_imul dX10_unheard_45 ?_
  rw [show (nI (100 - q) * nI r) = nI ((100 - q) * r) from pk_mul _ _]
  refine z_iadd dX10_unheard_46 ?_
  rw [show (nI (100 * q) + nI ((100 - q) * r)) = nI (100 * q + (100 - q) * r) from nI_add _ _]
  refine z_istore (i := 5) (fun y => [(5, .int y), (4, .int (nI (100 * q))), (0, .ref 66), (1, .int (nI q)), (2, .int (nI r)), (3, .int 0)]) dX10_unheard_47 rfl (fun _ => rfl) (fun x9 e9 => ?_)
  subst e9
  refine z_iload dX10_unheard_49 rfl ?_
  refine z_if_ne 57 dX10_unheard_51 (by decide) (fun h51 => ?_) (fun h51 => absurd h51 (nI_ne0 hB (by omega)))
  refine z_iload dX10_unheard_57 rfl ?_
  refine z_istore (i := 6) (fun y => [(6, .int y), (5, .int (nI (100 * q + (100 - q) * r))), (4, .int (nI (100 * q))), (0, .ref 66), (1, .int (nI q)), (2, .int (nI r)), (3, .int 0)]) dX10_unheard_59 rfl (fun _ => rfl) (fun x9 e9 => ?_)
  subst e9
  refine z_iload dX10_unheard_61 rfl ?_
  refine z_istore (i := 7) (fun y => [(7, .int y), (6, .int (nI (100 * q))), (5, .int (nI (100 * q + (100 - q) * r))), (4, .int (nI (100 * q))), (0, .ref 66), (1, .int (nI q)), (2, .int (nI r)), (3, .int 0)]) dX10_unheard_63 rfl (fun _ => rfl) (fun x9 e9 => ?_)
  subst e9
  exact hE _ _ (by omega) (by omega) (Nat.gcd_comm _ _)
set_option maxRecDepth 100000 in
set_option maxHeartbeats 400000 in
theorem d_unheard_n1 {l : Launch} {G : zG} {μ : Mem} {ν : Lng} {q r : Nat} (hq : q ≤ 100) (hr : r ≤ 100) (h0 : (100 * q + (100 - q) * r) = 0)  : Cm l G mX10_unheard [.ref 66, .int (nI q), .int (nI r), .int 1] μ ν (fun a9 b9 c9 => (-1000000003) = a9 ∧ μ = b9 ∧ ν = c9) := by
  have hM : (100 - q) * r ≤ 10000 := Nat.mul_le_mul (show 100 - q ≤ 100 by omega) hr
  refine Con.of (by decide) (Nat.le_of_ble_eq_true rfl) ?_
  show Am l G mX10_unheard 0 [(0, .ref 66), (1, .int (nI q)), (2, .int (nI r)), (3, .int 1)] [] μ ν _
  refine z_iload_n dX10_unheard_0 rfl ?_
  refine z_iconst (v := 0) dX10_unheard_1 rfl ?_
  refine z_bipush (v := 100) dX10_unheard_2 rfl ?_
  refine m_callS (As := [.int _, .int _, .int _]) dX10_unheard_4 kX10_108 ⟨rfl, rfl⟩ rfl ⟨rfl, rfl⟩ rfl rfl rfl (c_inT (v := q) (lo := 0) (hi := 100) (Nat.zero_le q) hq (by decide)) (fun r4 μ4 ν4 hk4 => ?_)
  obtain ⟨rfl, rfl, rfl⟩ := hk4
  refine z_if_eq 29 dX10_unheard_7 (by decide) (fun h7 => absurd h7 (by decide)) (fun h7 => ?_)
  refine z_iload_n dX10_unheard_10 rfl ?_
  refine z_iconst (v := 0) dX10_unheard_11 rfl ?_
  refine z_bipush (v := 100) dX10_unheard_12 rfl ?_
  refine m_callS (As := [.int _, .int _, .int _]) dX10_unheard_14 kX10_108 ⟨rfl, rfl⟩ rfl ⟨rfl, rfl⟩ rfl rfl rfl (c_inT (v := r) (lo := 0) (hi := 100) (Nat.zero_le r) hr (by decide)) (fun r14 μ14 ν14 hk14 => ?_)
  obtain ⟨rfl, rfl, rfl⟩ := hk14
  refine z_if_eq 29 dX10_unheard_17 (by decide) (fun h17 => absurd h17 (by decide)) (fun h17 => ?_)
  refine z_iload_n dX10_unheard_20 rfl ?_
  refine z_iconst (v := 0) dX10_unheard_21 rfl ?_
  refine z_iconst (v := 1) dX10_unheard_22 rfl ?_
  refine m_callS (As := [.int _, .int _, .int _]) dX10_unheard_23 kX10_108 ⟨rfl, rfl⟩ rfl ⟨rfl, rfl⟩ rfl rfl rfl (c_inT (v := 1) (lo := 0) (hi := 1) (by decide) (by decide) (by decide)) (fun r23 μ23 ν23 hk23 => ?_)
  obtain ⟨rfl, rfl, rfl⟩ := hk23
  refine z_if_ne 32 dX10_unheard_26 (by decide) (fun h26 => ?_) (fun h26 => absurd h26 (by decide))
  refine z_bipush (v := 100) dX10_unheard_32 rfl ?_
  refine z_iload_n dX10_unheard_34 rfl ?_
  refine z_imul dX10_unheard_35 ?_
  rw [show (100 * nI q) = nI (100 * q) from (by rw [show (100 : Int32) = nI 100 from rfl, pk_mul])]
  refine z_istore (i := 4) (fun y => [(4, .int y), (0, .ref 66), (1, .int (nI q)), (2, .int (nI r)), (3, .int 1)]) dX10_unheard_36 rfl (fun _ => rfl) (fun x9 e9 => ?_)
  subst e9
  refine z_iload dX10_unheard_38 rfl ?_
  refine z_bipush (v := 100) dX10_unheard_40 rfl ?_
  refine z_iload_n dX10_unheard_42 rfl ?_
  refine z_isub dX10_unheard_43 ?_
  rw [show (100 - nI q) = nI (100 - q) from (by rw [show (100 : Int32) = nI 100 from rfl, pk_sub (by omega)])]
  refine z_iload_n dX10_unheard_44 rfl ?_
  refine z_imul dX10_unheard_45 ?_
  rw [show (nI (100 - q) * nI r) = nI ((100 - q) * r) from pk_mul _ _]
  refine z_iadd dX10_unheard_46 ?_
  rw [show (nI (100 * q) + nI ((100 - q) * r)) = nI (100 * q + (100 - q) * r) from nI_add _ _]
  refine z_istore (i := 5) (fun y => [(5, .int y), (4, .int (nI (100 * q))), (0, .ref 66), (1, .int (nI q)), (2, .int (nI r)), (3, .int 1)]) dX10_unheard_47 rfl (fun _ => rfl) (fun x9 e9 => ?_)
  subst e9
  refine z_iload dX10_unheard_49 rfl ?_
  refine z_if_ne 57 dX10_unheard_51 (by decide) (fun h51 => absurd (by rw [h0]; rfl) h51) (fun h51 => ?_)
  refine z_ldc dX10_unheard_54 cX10_241 ?_
  refine m_iret dX10_unheard_56 rfl rfl ?_
  exact ⟨rfl, rfl, rfl⟩
set_option maxRecDepth 100000 in
set_option maxHeartbeats 400000 in
theorem d_unheard_1 {l : Launch} {G : zG} {μ : Mem} {ν : Lng} {q r : Nat} (hq : q ≤ 100) (hr : r ≤ 100) (hB : 0 < (100 * q + (100 - q) * r)) (h0 : 0 < Nat.gcd (100 * q) (100 * q + (100 - q) * r)) (hg : Nat.gcd (100 * q) (100 * q + (100 - q) * r) ≤ 20000)  : Cm l G mX10_unheard [.ref 66, .int (nI q), .int (nI r), .int 1] μ ν (fun a9 b9 c9 => nI ((100 * q + (100 - q) * r) / Nat.gcd (100 * q) (100 * q + (100 - q) * r)) = a9 ∧ μ = b9 ∧ ν = c9) := by
  have hM : (100 - q) * r ≤ 10000 := Nat.mul_le_mul (show 100 - q ≤ 100 by omega) hr
  refine Con.of (by decide) (Nat.le_of_ble_eq_true rfl) ?_
  show Am l G mX10_unheard 0 [(0, .ref 66), (1, .int (nI q)), (2, .int (nI r)), (3, .int 1)] [] μ ν _
  have hX : Am l G mX10_unheard 88 [(6, .int (nI (Nat.gcd (100 * q) (100 * q + (100 - q) * r)))), (5, .int (nI (100 * q + (100 - q) * r))), (4, .int (nI (100 * q))), (0, .ref 66), (1, .int (nI q)), (2, .int (nI r)), (3, .int 1)] [] μ ν (fun a9 b9 c9 => nI ((100 * q + (100 - q) * r) / Nat.gcd (100 * q) (100 * q + (100 - q) * r)) = a9 ∧ μ = b9 ∧ ν = c9) := by
    refine z_iload_n dX10_unheard_88 rfl ?_
    refine z_if_ne 97 dX10_unheard_89 (by decide) (fun h89 => ?_) (fun h89 => absurd h89 (by decide))
    refine z_iload dX10_unheard_97 rfl ?_
    refine z_iload dX10_unheard_99 rfl ?_
    refine z_idiv dX10_unheard_101 (nI_ne0 h0 (by omega)) ?_
    rw [show (nI (100 * q + (100 - q) * r) / nI (Nat.gcd (100 * q) (100 * q + (100 - q) * r))) = nI ((100 * q + (100 - q) * r) / Nat.gcd (100 * q) (100 * q + (100 - q) * r)) from pk_div (by omega) h0 (by omega)]
    refine m_iret dX10_unheard_102 rfl rfl ?_
    exact ⟨rfl, rfl, rfl⟩
  have hE : ∀ b a : Nat, a ≤ 20000 → b ≤ 20000 → Nat.gcd b a = Nat.gcd (100 * q) (100 * q + (100 - q) * r) → Am l G mX10_unheard 65 [(7, .int (nI b)), (6, .int (nI a)), (5, .int (nI (100 * q + (100 - q) * r))), (4, .int (nI (100 * q))), (0, .ref 66), (1, .int (nI q)), (2, .int (nI r)), (3, .int 1)] [] μ ν (fun a9 b9 c9 => nI ((100 * q + (100 - q) * r) / Nat.gcd (100 * q) (100 * q + (100 - q) * r)) = a9 ∧ μ = b9 ∧ ν = c9) := by
    intro b
    induction b using Nat.strongRecOn with
    | ind b ih =>
      intro a ha hb e
      have ih : ∀ m, m < b → ∀ a, a ≤ 20000 → Nat.gcd m a = Nat.gcd (100 * q) (100 * q + (100 - q) * r) → Am l G mX10_unheard 65 [(7, .int (nI m)), (6, .int (nI a)), (5, .int (nI (100 * q + (100 - q) * r))), (4, .int (nI (100 * q))), (0, .ref 66), (1, .int (nI q)), (2, .int (nI r)), (3, .int 1)] [] μ ν (fun a9 b9 c9 => nI ((100 * q + (100 - q) * r) / Nat.gcd (100 * q) (100 * q + (100 - q) * r)) = a9 ∧ μ = b9 ∧ ν = c9) := fun m hm a ha e => ih m hm a ha (by omega) e
      rcases (show b = 0 ∨ 0 < b by omega) with rfl | hp
      · skip
        refine z_iload dX10_unheard_65 rfl ?_
        refine z_if_le 88 dX10_unheard_67 (by decide) (fun h67 => ?_) (fun h67 => absurd (show nI 0 ≤ 0 by decide) h67)
        refine z_lv [1, 2, 3, 4, 5, 6, 7] rfl ?_
        rw [Nat.gcd_zero_left] at e
        rw [e]
        exact hX
      · skip
        refine z_iload dX10_unheard_65 rfl ?_
        refine z_if_le 88 dX10_unheard_67 (by decide) (fun h67 => absurd h67 (nI_nle hp (by omega))) (fun h67 => ?_)
        refine z_iload dX10_unheard_70 rfl ?_
        refine z_iload dX10_unheard_72 rfl ?_
        refine z_irem dX10_unheard_74 (nI_ne0 hp (by omega)) ?_
        rw [show (nI a - nI a / nI b * nI b) = nI (a % b) from pk_rem (by omega) hp (by omega)]
        refine z_istore (i := 8) (fun y => [(8, .int y), (7, .int (nI b)), (6, .int (nI a)), (5, .int (nI (100 * q + (100 - q) * r))), (4, .int (nI (100 * q))), (0, .ref 66), (1, .int (nI q)), (2, .int (nI r)), (3, .int 1)]) dX10_unheard_75 rfl (fun _ => rfl) (fun x9 e9 => ?_)
        subst e9
        refine z_iload dX10_unheard_77 rfl ?_
        refine z_istore (i := 6) (fun y => [(6, .int y), (8, .int (nI (a % b))), (7, .int (nI b)), (5, .int (nI (100 * q + (100 - q) * r))), (4, .int (nI (100 * q))), (0, .ref 66), (1, .int (nI q)), (2, .int (nI r)), (3, .int 1)]) dX10_unheard_79 rfl (fun _ => rfl) (fun x9 e9 => ?_)
        subst e9
        refine z_iload dX10_unheard_81 rfl ?_
        refine z_istore (i := 7) (fun y => [(7, .int y), (6, .int (nI b)), (8, .int (nI (a % b))), (5, .int (nI (100 * q + (100 - q) * r))), (4, .int (nI (100 * q))), (0, .ref 66), (1, .int (nI q)), (2, .int (nI r)), (3, .int 1)]) dX10_unheard_83 rfl (fun _ => rfl) (fun x9 e9 => ?_)
        subst e9
        refine z_goto 65 dX10_unheard_85 (by decide) ?_
        refine z_lv [0, 1, 3, 4, 5, 6, 7, 8] rfl ?_
        exact ih (a % b) (Nat.mod_lt _ hp) b hb (by rw [← e]; exact (Nat.gcd_rec b a).symm)
  refine z_iload_n dX10_unheard_0 rfl ?_
  refine z_iconst (v := 0) dX10_unheard_1 rfl ?_
  refine z_bipush (v := 100) dX10_unheard_2 rfl ?_
  refine m_callS (As := [.int _, .int _, .int _]) dX10_unheard_4 kX10_108 ⟨rfl, rfl⟩ rfl ⟨rfl, rfl⟩ rfl rfl rfl (c_inT (v := q) (lo := 0) (hi := 100) (Nat.zero_le q) hq (by decide)) (fun r4 μ4 ν4 hk4 => ?_)
  obtain ⟨rfl, rfl, rfl⟩ := hk4
  refine z_if_eq 29 dX10_unheard_7 (by decide) (fun h7 => absurd h7 (by decide)) (fun h7 => ?_)
  refine z_iload_n dX10_unheard_10 rfl ?_
  refine z_iconst (v := 0) dX10_unheard_11 rfl ?_
  refine z_bipush (v := 100) dX10_unheard_12 rfl ?_
  refine m_callS (As := [.int _, .int _, .int _]) dX10_unheard_14 kX10_108 ⟨rfl, rfl⟩ rfl ⟨rfl, rfl⟩ rfl rfl rfl (c_inT (v := r) (lo := 0) (hi := 100) (Nat.zero_le r) hr (by decide)) (fun r14 μ14 ν14 hk14 => ?_)
  obtain ⟨rfl, rfl, rfl⟩ := hk14
  refine z_if_eq 29 dX10_unheard_17 (by decide) (fun h17 => absurd h17 (by decide)) (fun h17 => ?_)
  refine z_iload_n dX10_unheard_20 rfl ?_
  refine z_iconst (v := 0) dX10_unheard_21 rfl ?_
  refine z_iconst (v := 1) dX10_unheard_22 rfl ?_
  refine m_callS (As := [.int _, .int _, .int _]) dX10_unheard_23 kX10_108 ⟨rfl, rfl⟩ rfl ⟨rfl, rfl⟩ rfl rfl rfl (c_inT (v := 1) (lo := 0) (hi := 1) (by decide) (by decide) (by decide)) (fun r23 μ23 ν23 hk23 => ?_)
  obtain ⟨rfl, rfl, rfl⟩ := hk23
  refine z_if_ne 32 dX10_unheard_26 (by decide) (fun h26 => ?_) (fun h26 => absurd h26 (by decide))
  refine z_bipush (v := 100) dX10_unheard_32 rfl ?_
  refine z_iload_n dX10_unheard_34 rfl ?_
  refine z_imul dX10_unheard_35 ?_
  rw [show (100 * nI q) = nI (100 * q) from (by rw [show (100 : Int32) = nI 100 from rfl, pk_mul])]
  refine z_istore (i := 4) (fun y => [(4, .int y), (0, .ref 66), (1, .int (nI q)), (2, .int (nI r)), (3, .int 1)]) dX10_unheard_36 rfl (fun _ => rfl) (fun x9 e9 => ?_)
  subst e9
  refine z_iload dX10_unheard_38 rfl ?_
  refine z_bipush (v := 100) dX10_unheard_40 rfl ?_
  refine z_iload_n dX10_unheard_42 rfl ?_
  refine z_isub dX10_unheard_43 ?_
  rw [show (100 - nI q) = nI (100 - q) from (by rw [show (100 : Int32) = nI 100 from rfl, pk_sub (by omega)])]
  refine z_iload_n dX10_unheard_44 rfl ?_
  refine z_imul dX10_unheard_45 ?_
  rw [show (nI (100 - q) * nI r) = nI ((100 - q) * r) from pk_mul _ _]
  refine z_iadd dX10_unheard_46 ?_
  rw [show (nI (100 * q) + nI ((100 - q) * r)) = nI (100 * q + (100 - q) * r) from nI_add _ _]
  refine z_istore (i := 5) (fun y => [(5, .int y), (4, .int (nI (100 * q))), (0, .ref 66), (1, .int (nI q)), (2, .int (nI r)), (3, .int 1)]) dX10_unheard_47 rfl (fun _ => rfl) (fun x9 e9 => ?_)
  subst e9
  refine z_iload dX10_unheard_49 rfl ?_
  refine z_if_ne 57 dX10_unheard_51 (by decide) (fun h51 => ?_) (fun h51 => absurd h51 (nI_ne0 hB (by omega)))
  refine z_iload dX10_unheard_57 rfl ?_
  refine z_istore (i := 6) (fun y => [(6, .int y), (5, .int (nI (100 * q + (100 - q) * r))), (4, .int (nI (100 * q))), (0, .ref 66), (1, .int (nI q)), (2, .int (nI r)), (3, .int 1)]) dX10_unheard_59 rfl (fun _ => rfl) (fun x9 e9 => ?_)
  subst e9
  refine z_iload dX10_unheard_61 rfl ?_
  refine z_istore (i := 7) (fun y => [(7, .int y), (6, .int (nI (100 * q))), (5, .int (nI (100 * q + (100 - q) * r))), (4, .int (nI (100 * q))), (0, .ref 66), (1, .int (nI q)), (2, .int (nI r)), (3, .int 1)]) dX10_unheard_63 rfl (fun _ => rfl) (fun x9 e9 => ?_)
  subst e9
  exact hE _ _ (by omega) (by omega) (Nat.gcd_comm _ _)
theorem op_unheard (u v x : Int32) : zOp mX9_unheard [.ref 0, .int u, .int v, .int x] mX10_unheard [.ref 66, .int u, .int v, .int x] := by
  intro l G μ ν n h
  have h6 := h.1
  have hn := h.2.1
  have hm := h.2.2.1
  rcases zrng u 0 100 (by decide) (by decide) with hu | ⟨q, -, hq, rfl⟩
  · exact zOp.same h (c_unheard_a hu) (d_unheard_a hu) rfl
  rcases zrng v 0 100 (by decide) (by decide) with hu | ⟨r, -, hr, rfl⟩
  · exact zOp.same h (c_unheard_b hq hu) (d_unheard_b hq hu) rfl
  rcases zrng x 0 1 (by decide) (by decide) with hu | ⟨y, -, hy, rfl⟩
  · exact zOp.same h (c_unheard_c hq hr hu) (d_unheard_c hq hr hu) rfl
  have hM : (100 - q) * r ≤ 10000 := Nat.mul_le_mul (show 100 - q ≤ 100 by omega) hr
  rcases (show (100 * q + (100 - q) * r) = 0 ∨ 0 < (100 * q + (100 - q) * r) by omega) with hz | hp
  · have h0 : Nat.gcd (100 * q) (100 * q + (100 - q) * r) = 0 := by
      rw [hz, Nat.gcd_zero_right]
      omega
    rcases (show y = 0 ∨ y = 1 by omega) with rfl | rfl
    · exact zOp.same h (c_unheard_n0 hq hr h0) (d_unheard_n0 hq hr hz) rfl
    · exact zOp.same h (c_unheard_n1 hq hr h0) (d_unheard_n1 hq hr hz) rfl
  · have h0 : 0 < Nat.gcd (100 * q) (100 * q + (100 - q) * r) := Nat.gcd_pos_of_pos_right _ hp
    have hg : Nat.gcd (100 * q) (100 * q + (100 - q) * r) ≤ 20000 := Nat.le_trans (Nat.le_of_dvd hp (Nat.gcd_dvd_right _ _)) (by omega)
    rcases (show y = 0 ∨ y = 1 by omega) with rfl | rfl
    · exact zOp.same h (c_unheard_0 hq hr h0 hg) (d_unheard_0 hq hr hp h0 hg) rfl
    · exact zOp.same h (c_unheard_1 hq hr h0 hg) (d_unheard_1 hq hr hp h0 hg) rfl
