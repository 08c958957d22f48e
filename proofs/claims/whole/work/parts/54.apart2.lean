set_option maxRecDepth 100000 in
set_option maxHeartbeats 400000 in
theorem c_apart_a {l : Launch} {G : zG} {μ : Mem} {ν : Lng} {v : Int32} (hv : v < 0 ∨ 1 < v) {x : Int32}  : Cm l G mX9_apart [.ref 0, .int v, .int x] μ ν (fun a9 b9 c9 => (-1000000002) = a9 ∧ μ = b9 ∧ ν = c9) := by
  refine Con.of (by decide) (Nat.le_of_ble_eq_true rfl) ?_
  show Am l G mX9_apart 0 [(0, .ref 0), (1, .int v), (2, .int x)] [] μ ν _
  refine z_iload_n dX9_apart_0 rfl ?_
  refine m_callS (As := [.int _]) dX9_apart_1 kX9_249 ⟨rfl, rfl⟩ rfl ⟨rfl, rfl⟩ rfl rfl rfl (c_noSide1 hv) (fun r1 μ1 ν1 hk1 => ?_)
  obtain ⟨rfl, rfl, rfl⟩ := hk1
  refine z_if_ne 17 dX9_apart_4 (by decide) (fun h4 => ?_) (fun h4 => absurd h4 (by decide))
  refine z_ldc dX9_apart_17 cX9_73 ?_
  refine m_iret dX9_apart_19 rfl rfl ?_
  exact ⟨rfl, rfl, rfl⟩
set_option maxRecDepth 100000 in
set_option maxHeartbeats 400000 in
theorem c_apart_b {l : Launch} {G : zG} {μ : Mem} {ν : Lng} {a : Nat} (ha : a ≤ 1) {v : Int32} (hv : v < 0 ∨ 50 < v)  : Cm l G mX9_apart [.ref 0, .int (nI a), .int v] μ ν (fun a9 b9 c9 => (-1000000002) = a9 ∧ μ = b9 ∧ ν = c9) := by
  refine Con.of (by decide) (Nat.le_of_ble_eq_true rfl) ?_
  show Am l G mX9_apart 0 [(0, .ref 0), (1, .int (nI a)), (2, .int v)] [] μ ν _
  refine z_iload_n dX9_apart_0 rfl ?_
  refine m_callS (As := [.int _]) dX9_apart_1 kX9_249 ⟨rfl, rfl⟩ rfl ⟨rfl, rfl⟩ rfl rfl rfl (c_noSide0 ha) (fun r1 μ1 ν1 hk1 => ?_)
  obtain ⟨rfl, rfl, rfl⟩ := hk1
  refine z_if_ne 17 dX9_apart_4 (by decide) (fun h4 => absurd (by decide) h4) (fun h4 => ?_)
  refine z_iload_n dX9_apart_7 rfl ?_
  refine z_if_lt 17 dX9_apart_8 (by decide) (fun h8 => ?_) (fun h8 => ?_)
  · skip
    refine z_ldc dX9_apart_17 cX9_73 ?_
    refine m_iret dX9_apart_19 rfl rfl ?_
    exact ⟨rfl, rfl, rfl⟩
  · skip
    refine z_iload_n dX9_apart_11 rfl ?_
    refine z_bipush (v := 50) dX9_apart_12 rfl ?_
    refine z_icmp_le 20 dX9_apart_14 (by decide) (fun h14 => (zbad hv h8 h14).elim) (fun h14 => ?_)
    refine z_ldc dX9_apart_17 cX9_73 ?_
    refine m_iret dX9_apart_19 rfl rfl ?_
    exact ⟨rfl, rfl, rfl⟩
set_option maxRecDepth 100000 in
set_option maxHeartbeats 400000 in
theorem c_apart {l : Launch} {G : zG} {μ : Mem} {ν : Lng} {n : Nat} (hn : μ 15 6 = nI n) (hz6 : n ≤ 6) (hsd : zSides μ n) {a b : Nat} (ha : a ≤ 1) (hb : b ≤ 50)  : Cm l G mX9_apart [.ref 0, .int (nI a), .int (nI b)] μ ν (fun a9 b9 c9 => fCost (gRun (va_up (va_up (va_up (mGa (fPlanCp μ 45 22) (zGa (μ 18) (μ 23) (nI a) (μ 50) (μ 52) n).1 (zGa (μ 18) (μ 23) (nI a) (μ 50) (μ 52) n).2.1 (zGa (μ 18) (μ 23) (nI a) (μ 50) (μ 52) n).2.2) 51 (zSb (zGa (μ 18) (μ 23) (nI a) (μ 50) (μ 52) n).1 0 (va_cpy (zGa (μ 18) (μ 23) (nI a) (μ 50) (μ 52) n).2.2 (μ 51) 0 0 (zGa (μ 18) (μ 23) (nI a) (μ 50) (μ 52) n).1) (zGa (μ 18) (μ 23) (nI a) (μ 50) (μ 52) n).1).2) 50 (zAp (zGa (μ 18) (μ 23) (nI a) (μ 50) (μ 52) n).2.1 (nI b) ((zGa (μ 18) (μ 23) (nI a) (μ 50) (μ 52) n).1 - 1))) 46 (zGt ((fPlanCp μ 45 22) 46) (zSb (zGa (μ 18) (μ 23) (nI a) (μ 50) (μ 52) n).1 0 (va_cpy (zGa (μ 18) (μ 23) (nI a) (μ 50) (μ 52) n).2.2 (μ 51) 0 0 (zGa (μ 18) (μ 23) (nI a) (μ 50) (μ 52) n).1) (zGa (μ 18) (μ 23) (nI a) (μ 50) (μ 52) n).1).2 (zAp (zGa (μ 18) (μ 23) (nI a) (μ 50) (μ 52) n).2.1 (nI b) ((zGa (μ 18) (μ 23) (nI a) (μ 50) (μ 52) n).1 - 1)) (zGa (μ 18) (μ 23) (nI a) (μ 50) (μ 52) n).1)) 45 n) n = a9 ∧ gRun (va_up (va_up (va_up (mGa (fPlanCp μ 45 22) (zGa (μ 18) (μ 23) (nI a) (μ 50) (μ 52) n).1 (zGa (μ 18) (μ 23) (nI a) (μ 50) (μ 52) n).2.1 (zGa (μ 18) (μ 23) (nI a) (μ 50) (μ 52) n).2.2) 51 (zSb (zGa (μ 18) (μ 23) (nI a) (μ 50) (μ 52) n).1 0 (va_cpy (zGa (μ 18) (μ 23) (nI a) (μ 50) (μ 52) n).2.2 (μ 51) 0 0 (zGa (μ 18) (μ 23) (nI a) (μ 50) (μ 52) n).1) (zGa (μ 18) (μ 23) (nI a) (μ 50) (μ 52) n).1).2) 50 (zAp (zGa (μ 18) (μ 23) (nI a) (μ 50) (μ 52) n).2.1 (nI b) ((zGa (μ 18) (μ 23) (nI a) (μ 50) (μ 52) n).1 - 1))) 46 (zGt ((fPlanCp μ 45 22) 46) (zSb (zGa (μ 18) (μ 23) (nI a) (μ 50) (μ 52) n).1 0 (va_cpy (zGa (μ 18) (μ 23) (nI a) (μ 50) (μ 52) n).2.2 (μ 51) 0 0 (zGa (μ 18) (μ 23) (nI a) (μ 50) (μ 52) n).1) (zGa (μ 18) (μ 23) (nI a) (μ 50) (μ 52) n).1).2 (zAp (zGa (μ 18) (μ 23) (nI a) (μ 50) (μ 52) n).2.1 (nI b) ((zGa (μ 18) (μ 23) (nI a) (μ 50) (μ 52) n).1 - 1)) (zGa (μ 18) (μ 23) (nI a) (μ 50) (μ 52) n).1)) 45 n = b9 ∧ ν = c9) := by
  refine Con.of (by decide) (Nat.le_of_ble_eq_true rfl) ?_
  show Am l G mX9_apart 0 [(0, .ref 0), (1, .int (nI a)), (2, .int (nI b))] [] μ ν _
  refine z_iload_n dX9_apart_0 rfl ?_
  refine m_callS (As := [.int _]) dX9_apart_1 kX9_249 ⟨rfl, rfl⟩ rfl ⟨rfl, rfl⟩ rfl rfl rfl (c_noSide0 ha) (fun r1 μ1 ν1 hk1 => ?_)
  obtain ⟨rfl, rfl, rfl⟩ := hk1
  refine z_if_ne 17 dX9_apart_4 (by decide) (fun h4 => absurd (by decide) h4) (fun h4 => ?_)
  refine z_iload_n dX9_apart_7 rfl ?_
  refine z_if_lt 17 dX9_apart_8 (by decide) (fun h8 => absurd h8 (nI_nlt (a := b) (b := 0) (by omega) (by omega))) (fun h8 => ?_)
  refine z_iload_n dX9_apart_11 rfl ?_
  refine z_bipush (v := 50) dX9_apart_12 rfl ?_
  refine z_icmp_le 20 dX9_apart_14 (by decide) (fun h14 => ?_) (fun h14 => absurd (nI_le (a := b) (b := 50) (by omega) (by omega)) h14)
  refine z_aload_n dX9_apart_20 rfl ?_
  refine m_getr dX9_apart_21 fX9_44 sh0 rfl ?_
  refine z_iload_n dX9_apart_24 rfl ?_
  refine z_iload_n dX9_apart_25 rfl ?_
  refine m_callV (As := [.int _, .int _]) dX9_apart_26 kX9_252 ⟨rfl, rfl⟩ rfl ⟨rfl, rfl⟩ rfl rfl sh44 rfl rfl (c_spread hn hz6 hsd) (fun r26 μ26 ν26 hk26 => ?_)
  obtain ⟨rfl, rfl, rfl⟩ := hk26
  refine m_iret dX9_apart_29 rfl rfl ?_
  exact ⟨rfl, rfl, rfl⟩

def zMn (sd co : Nat → Int32) (s : Int32) : Nat → Int32
  | 0 => -1
  | i + 1 => if sd i = s then (if zMn sd co s i = -1 then co i else if zMn sd co s i ≤ co i then zMn sd co s i else co i) else zMn sd co s i
def zAr (sd : Nat → Int32) (s x g : Int32) (f : Nat → Int32) : Nat → Nat × (Nat → Int32)
  | 0 => (0, f)
  | i + 1 => if sd i = s then ((zAr sd s x g f i).1 + 1, zu (zAr sd s x g f i).2 i (x + g * nI (zAr sd s x g f i).1)) else zAr sd s x g f i
set_option maxRecDepth 100000 in
set_option maxHeartbeats 400000 in
theorem d_apart_a {l : Launch} {G : zG} {μ : Mem} {ν : Lng} {v : Int32} (hv : v < 0 ∨ 1 < v) {x : Int32}  : Cm l G mX10_apart [.ref 66, .int v, .int x] μ ν (fun a9 b9 c9 => (-1000000002) = a9 ∧ μ = b9 ∧ ν = c9) := by
  refine Con.of (by decide) (Nat.le_of_ble_eq_true rfl) ?_
  show Am l G mX10_apart 0 [(0, .ref 66), (1, .int v), (2, .int x)] [] μ ν _
  refine z_iload_n dX10_apart_0 rfl ?_
  refine z_iconst (v := 0) dX10_apart_1 rfl ?_
  refine z_iconst (v := 1) dX10_apart_2 rfl ?_
  refine m_callS (As := [.int _, .int _, .int _]) dX10_apart_3 kX10_108 ⟨rfl, rfl⟩ rfl ⟨rfl, rfl⟩ rfl rfl rfl (c_inF hv) (fun r3 μ3 ν3 hk3 => ?_)
  obtain ⟨rfl, rfl, rfl⟩ := hk3
  refine z_if_eq 19 dX10_apart_6 (by decide) (fun h6 => ?_) (fun h6 => absurd (by decide) h6)
  refine z_ldc dX10_apart_19 cX10_112 ?_
  refine m_iret dX10_apart_21 rfl rfl ?_
  exact ⟨rfl, rfl, rfl⟩
set_option maxRecDepth 100000 in
set_option maxHeartbeats 400000 in
theorem d_apart_b {l : Launch} {G : zG} {μ : Mem} {ν : Lng} {a : Nat} (ha : a ≤ 1) {v : Int32} (hv : v < 0 ∨ 50 < v)  : Cm l G mX10_apart [.ref 66, .int (nI a), .int v] μ ν (fun a9 b9 c9 => (-1000000002) = a9 ∧ μ = b9 ∧ ν = c9) := by
  refine Con.of (by decide) (Nat.le_of_ble_eq_true rfl) ?_
  show Am l G mX10_apart 0 [(0, .ref 66), (1, .int (nI a)), (2, .int v)] [] μ ν _
  refine z_iload_n dX10_apart_0 rfl ?_
  refine z_iconst (v := 0) dX10_apart_1 rfl ?_
  refine z_iconst (v := 1) dX10_apart_2 rfl ?_
  refine m_callS (As := [.int _, .int _, .int _]) dX10_apart_3 kX10_108 ⟨rfl, rfl⟩ rfl ⟨rfl, rfl⟩ rfl rfl rfl (c_inT (v := a) (lo := 0) (hi := 1) (Nat.zero_le a) ha (by decide)) (fun r3 μ3 ν3 hk3 => ?_)
  obtain ⟨rfl, rfl, rfl⟩ := hk3
  refine z_if_eq 19 dX10_apart_6 (by decide) (fun h6 => absurd h6 (by decide)) (fun h6 => ?_)
  refine z_iload_n dX10_apart_9 rfl ?_
  refine z_iconst (v := 0) dX10_apart_10 rfl ?_
  refine z_bipush (v := 50) dX10_apart_11 rfl ?_
  refine m_callS (As := [.int _, .int _, .int _]) dX10_apart_13 kX10_108 ⟨rfl, rfl⟩ rfl ⟨rfl, rfl⟩ rfl rfl rfl (c_inF hv) (fun r13 μ13 ν13 hk13 => ?_)
  obtain ⟨rfl, rfl, rfl⟩ := hk13
  refine z_if_ne 22 dX10_apart_16 (by decide) (fun h16 => absurd (by decide) h16) (fun h16 => ?_)
  refine z_ldc dX10_apart_19 cX10_112 ?_
  refine m_iret dX10_apart_21 rfl rfl ?_
  exact ⟨rfl, rfl, rfl⟩
set_option maxRecDepth 100000 in
set_option maxHeartbeats 400000 in
theorem d_apart {l : Launch} {G : zG} {μ : Mem} {ν : Lng} {n : Nat} (hn : μ 66 17 = nI n) (hz6 : n ≤ 6) (hsd : zSidesM μ n) {a b : Nat} (ha : a ≤ 1) (hb : b ≤ 50)  : Cm l G mX10_apart [.ref 66, .int (nI a), .int (nI b)] μ ν (fun a9 b9 c9 => rCost (rNow (va_up (rCp μ 91 75 0 0 21) 75 (zAr (μ 71) (nI a) (zMn (μ 71) (μ 75) (nI a) n) (nI b) (μ 75) n).2) n) = a9 ∧ rCp (rNow (va_up (rCp μ 91 75 0 0 21) 75 (zAr (μ 71) (nI a) (zMn (μ 71) (μ 75) (nI a) n) (nI b) (μ 75) n).2) n) 75 91 0 0 21 = b9 ∧ ν = c9) := by
  refine Con.of (by decide) (Nat.le_of_ble_eq_true rfl) ?_
  show Am l G mX10_apart 0 [(0, .ref 66), (1, .int (nI a)), (2, .int (nI b))] [] μ ν _
  have hH : ∀ q, q ≠ 91 → (rCp μ 91 75 0 0 21) q = μ q := fun q hq => hold_n hq
  have gH : (rCp μ 91 75 0 0 21) 66 17 = nI n := zFr.holdN hn
  have gM : ∀ i, (va_up (rCp μ 91 75 0 0 21) 75 (zAr (μ 71) (nI a) (zMn (μ 71) (μ 75) (nI a) n) (nI b) (μ 75) i).2) 66 17 = nI n := fun i => by rw [va_up_ne _ _ (by decide)]; exact gH
  have gS : zSidesM (va_up (rCp μ 91 75 0 0 21) 75 (zAr (μ 71) (nI a) (zMn (μ 71) (μ 75) (nI a) n) (nI b) (μ 75) n).2) n := fun w hw => by rw [va_up_ne _ _ (by decide)]; exact zFr.holdS hsd w hw
  have hL2 := m_for (l := l) (G := G) (M := mX10_apart) (pc := 91) (ν := ν) (K := (fun a9 b9 c9 => rCost (rNow (va_up (rCp μ 91 75 0 0 21) 75 (zAr (μ 71) (nI a) (zMn (μ 71) (μ 75) (nI a) n) (nI b) (μ 75) n).2) n) = a9 ∧ rCp (rNow (va_up (rCp μ 91 75 0 0 21) 75 (zAr (μ 71) (nI a) (zMn (μ 71) (μ 75) (nI a) n) (nI b) (μ 75) n).2) n) 75 91 0 0 21 = b9 ∧ ν = c9)) (N := n) (fun i => [(5, .int (nI i)), (4, .int (nI (zAr (μ 71) (nI a) (zMn (μ 71) (μ 75) (nI a) n) (nI b) (μ 75) i).1)), (3, .int (zMn (μ 71) (μ 75) (nI a) n)), (0, .ref 66), (1, .int (nI a)), (2, .int (nI b))]) (fun i => (va_up (rCp μ 91 75 0 0 21) 75 (zAr (μ 71) (nI a) (zMn (μ 71) (μ 75) (nI a) n) (nI b) (μ 75) i).2)) (fun i hi H => by
    refine z_iload dX10_apart_91 rfl ?_
    refine z_aload_n dX10_apart_93 rfl ?_
    refine m_geti dX10_apart_94 fX10_105 sh66 rfl ?_
    refine z_icmp_ge 133 dX10_apart_97 (by decide) (fun h97 => absurd (gM i ▸ h97) (nI_ge hi (by omega))) (fun h97 => ?_)
    refine z_aload_n dX10_apart_100 rfl ?_
    refine m_getr dX10_apart_101 fX10_26 sh66 rfl ?_
    refine z_iload dX10_apart_104 rfl ?_
    refine m_ialdN (j := i) dX10_apart_106 sh71 rfl (by omega) rfl ?_
    rw [va_up_ne _ _ (show 71 ≠ 75 by decide), hH 71 (by decide)]
    refine z_iload_n dX10_apart_107 rfl ?_
    refine z_icmp_ne 127 dX10_apart_108 (by decide) (fun h108 => ?_) (fun h108 => ?_)
    · skip
      refine z_iinc (fun y => [(5, .int y), (4, .int (nI (zAr (μ 71) (nI a) (zMn (μ 71) (μ 75) (nI a) n) (nI b) (μ 75) i).1)), (3, .int (zMn (μ 71) (μ 75) (nI a) n)), (0, .ref 66), (1, .int (nI a)), (2, .int (nI b))]) dX10_apart_127 rfl rfl (fun _ => rfl) (fun x5_127 ex5_127 => ?_)
      obtain rfl : x5_127 = nI (i + 1) := by rw [ex5_127]; exact nI_1 i
      refine z_goto 91 dX10_apart_130 (by decide) ?_
      first | (rw [show zAr (μ 71) (nI a) (zMn (μ 71) (μ 75) (nI a) n) (nI b) (μ 75) (i + 1) = zAr (μ 71) (nI a) (zMn (μ 71) (μ 75) (nI a) n) (nI b) (μ 75) i from if_neg h108] at H; exact H) | (rw [up2_va]; rw [show zAr (μ 71) (nI a) (zMn (μ 71) (μ 75) (nI a) n) (nI b) (μ 75) (i + 1) = ((zAr (μ 71) (nI a) (zMn (μ 71) (μ 75) (nI a) n) (nI b) (μ 75) i).1 + 1, zu (zAr (μ 71) (nI a) (zMn (μ 71) (μ 75) (nI a) n) (nI b) (μ 75) i).2 i ((zMn (μ 71) (μ 75) (nI a) n) + nI b * nI (zAr (μ 71) (nI a) (zMn (μ 71) (μ 75) (nI a) n) (nI b) (μ 75) i).1)) from if_pos h108] at H; exact H)
    · skip
      refine z_aload_n dX10_apart_111 rfl ?_
      refine m_getr dX10_apart_112 fX10_38 sh66 rfl ?_
      refine z_iload dX10_apart_115 rfl ?_
      refine z_iload_n dX10_apart_117 rfl ?_
      refine z_iload_n dX10_apart_118 rfl ?_
      refine z_iload dX10_apart_119 rfl ?_
      refine z_imul dX10_apart_121 ?_
      refine z_iadd dX10_apart_122 ?_
      refine m_iastN (j := i) dX10_apart_123 sh75 rfl (by omega) rfl ?_
      refine z_iinc (fun y => [(4, .int y), (5, .int (nI i)), (3, .int (zMn (μ 71) (μ 75) (nI a) n)), (0, .ref 66), (1, .int (nI a)), (2, .int (nI b))]) dX10_apart_124 rfl rfl (fun _ => rfl) (fun x4_124 ex4_124 => ?_)
      obtain rfl : x4_124 = nI ((zAr (μ 71) (nI a) (zMn (μ 71) (μ 75) (nI a) n) (nI b) (μ 75) i).1 + 1) := by rw [ex4_124]; exact nI_1 (zAr (μ 71) (nI a) (zMn (μ 71) (μ 75) (nI a) n) (nI b) (μ 75) i).1
      refine z_iinc (fun y => [(5, .int y), (4, .int (nI ((zAr (μ 71) (nI a) (zMn (μ 71) (μ 75) (nI a) n) (nI b) (μ 75) i).1 + 1))), (3, .int (zMn (μ 71) (μ 75) (nI a) n)), (0, .ref 66), (1, .int (nI a)), (2, .int (nI b))]) dX10_apart_127 rfl rfl (fun _ => rfl) (fun x5_127 ex5_127 => ?_)
      obtain rfl : x5_127 = nI (i + 1) := by rw [ex5_127]; exact nI_1 i
      refine z_goto 91 dX10_apart_130 (by decide) ?_
      first | (rw [show zAr (μ 71) (nI a) (zMn (μ 71) (μ 75) (nI a) n) (nI b) (μ 75) (i + 1) = zAr (μ 71) (nI a) (zMn (μ 71) (μ 75) (nI a) n) (nI b) (μ 75) i from if_neg h108] at H; exact H) | (rw [up2_va]; rw [show zAr (μ 71) (nI a) (zMn (μ 71) (μ 75) (nI a) n) (nI b) (μ 75) (i + 1) = ((zAr (μ 71) (nI a) (zMn (μ 71) (μ 75) (nI a) n) (nI b) (μ 75) i).1 + 1, zu (zAr (μ 71) (nI a) (zMn (μ 71) (μ 75) (nI a) n) (nI b) (μ 75) i).2 i ((zMn (μ 71) (μ 75) (nI a) n) + nI b * nI (zAr (μ 71) (nI a) (zMn (μ 71) (μ 75) (nI a) n) (nI b) (μ 75) i).1)) from if_pos h108] at H; exact H)) (by
    refine z_iload dX10_apart_91 rfl ?_
    refine z_aload_n dX10_apart_93 rfl ?_
    refine m_geti dX10_apart_94 fX10_105 sh66 rfl ?_
    refine z_icmp_ge 133 dX10_apart_97 (by decide) (fun h97 => ?_) (fun h97 => absurd (by rw [gM n]; exact nI_le (Nat.le_refl n) (by omega)) h97)
    refine z_aload_n dX10_apart_133 rfl ?_
    refine m_callV (As := []) dX10_apart_134 kX10_223 ⟨rfl, rfl⟩ rfl ⟨rfl, rfl⟩ rfl rfl sh66 rfl rfl (d_cost (gM n) hz6 gS) (fun r134 μ134 ν134 hk134 => ?_)
    obtain ⟨rfl, rfl, rfl⟩ := hk134
    refine z_istore (i := 5) (fun y => [(5, .int y), (4, .int (nI (zAr (μ 71) (nI a) (zMn (μ 71) (μ 75) (nI a) n) (nI b) (μ 75) n).1)), (3, .int (zMn (μ 71) (μ 75) (nI a) n)), (0, .ref 66), (1, .int (nI a)), (2, .int (nI b))]) dX10_apart_137 rfl (fun _ => rfl) (fun x9 e9 => ?_)
    subst e9
    refine z_aload_n dX10_apart_139 rfl ?_
    refine m_callVv (As := []) dX10_apart_140 kX10_248 ⟨rfl, rfl⟩ rfl ⟨rfl, rfl⟩ rfl rfl sh66 rfl rfl d_release (fun μ140 ν140 hk140 => ?_)
    obtain ⟨rfl, rfl⟩ := hk140
    refine z_iload dX10_apart_143 rfl ?_
    refine m_iret dX10_apart_145 rfl rfl ?_
    exact ⟨rfl, rfl, rfl⟩)
  have hL1 := m_for (l := l) (G := G) (M := mX10_apart) (pc := 31) (ν := ν) (K := (fun a9 b9 c9 => rCost (rNow (va_up (rCp μ 91 75 0 0 21) 75 (zAr (μ 71) (nI a) (zMn (μ 71) (μ 75) (nI a) n) (nI b) (μ 75) n).2) n) = a9 ∧ rCp (rNow (va_up (rCp μ 91 75 0 0 21) 75 (zAr (μ 71) (nI a) (zMn (μ 71) (μ 75) (nI a) n) (nI b) (μ 75) n).2) n) 75 91 0 0 21 = b9 ∧ ν = c9)) (N := n) (fun i => [(4, .int (nI i)), (3, .int (zMn (μ 71) (μ 75) (nI a) i)), (0, .ref 66), (1, .int (nI a)), (2, .int (nI b))]) (fun i => rCp μ 91 75 0 0 21) (fun i hi H => by
    refine z_iload dX10_apart_31 rfl ?_
    refine z_aload_n dX10_apart_33 rfl ?_
    refine m_geti dX10_apart_34 fX10_105 sh66 rfl ?_
    refine z_icmp_ge 85 dX10_apart_37 (by decide) (fun h37 => absurd (gH ▸ h37) (nI_ge hi (by omega))) (fun h37 => ?_)
    refine z_aload_n dX10_apart_40 rfl ?_
    refine m_getr dX10_apart_41 fX10_26 sh66 rfl ?_
    refine z_iload dX10_apart_44 rfl ?_
    refine m_ialdN (j := i) dX10_apart_46 sh71 rfl (by omega) rfl ?_
    rw [hH 71 (by decide)]
    refine z_iload_n dX10_apart_47 rfl ?_
    refine z_icmp_ne 77 dX10_apart_48 (by decide) (fun h48 => ?_) (fun h48 => ?_)
    · skip
      refine z_iload_n dX10_apart_77 rfl ?_
      refine z_istore_n (i := 3) (fun y => [(3, .int y), (4, .int (nI i)), (0, .ref 66), (1, .int (nI a)), (2, .int (nI b))]) dX10_apart_78 rfl rfl (fun _ => rfl) (fun x3_78 ex3_78 => ?_)
      refine z_iinc (fun y => [(4, .int y), (3, .int x3_78), (0, .ref 66), (1, .int (nI a)), (2, .int (nI b))]) dX10_apart_79 rfl rfl (fun _ => rfl) (fun x4_79 ex4_79 => ?_)
      obtain rfl : x4_79 = nI (i + 1) := by rw [ex4_79]; exact nI_1 i
      refine z_goto 31 dX10_apart_82 (by decide) ?_
      simp only [zMn, if_neg h48] at H
      subst ex3_78
      exact H
    · skip
      refine z_iload_n dX10_apart_51 rfl ?_
      refine z_iconst (v := -1) dX10_apart_52 rfl ?_
      refine z_icmp_eq 67 dX10_apart_53 (by decide) (fun h53 => ?_) (fun h53 => ?_)
      · skip
        refine z_aload_n dX10_apart_67 rfl ?_
        refine m_getr dX10_apart_68 fX10_38 sh66 rfl ?_
        refine z_iload dX10_apart_71 rfl ?_
        refine m_ialdN (j := i) dX10_apart_73 sh75 rfl (by omega) rfl ?_
        rw [hH 75 (by decide)]
        refine z_goto 78 dX10_apart_74 (by decide) ?_
        refine z_istore_n (i := 3) (fun y => [(3, .int y), (4, .int (nI i)), (0, .ref 66), (1, .int (nI a)), (2, .int (nI b))]) dX10_apart_78 rfl rfl (fun _ => rfl) (fun x3_78 ex3_78 => ?_)
        refine z_iinc (fun y => [(4, .int y), (3, .int x3_78), (0, .ref 66), (1, .int (nI a)), (2, .int (nI b))]) dX10_apart_79 rfl rfl (fun _ => rfl) (fun x4_79 ex4_79 => ?_)
        obtain rfl : x4_79 = nI (i + 1) := by rw [ex4_79]; exact nI_1 i
        refine z_goto 31 dX10_apart_82 (by decide) ?_
        simp only [zMn, if_pos h48, if_pos h53] at H
        subst ex3_78
        exact H
      · skip
        refine z_aload_n dX10_apart_56 rfl ?_
        refine m_getr dX10_apart_57 fX10_38 sh66 rfl ?_
        refine z_iload dX10_apart_60 rfl ?_
        refine m_ialdN (j := i) dX10_apart_62 sh75 rfl (by omega) rfl ?_
        rw [hH 75 (by decide)]
        refine z_iload_n dX10_apart_63 rfl ?_
        refine z_icmp_ge 77 dX10_apart_64 (by decide) (fun h64 => ?_) (fun h64 => ?_)
        · skip
          refine z_iload_n dX10_apart_77 rfl ?_
          refine z_istore_n (i := 3) (fun y => [(3, .int y), (4, .int (nI i)), (0, .ref 66), (1, .int (nI a)), (2, .int (nI b))]) dX10_apart_78 rfl rfl (fun _ => rfl) (fun x3_78 ex3_78 => ?_)
          refine z_iinc (fun y => [(4, .int y), (3, .int x3_78), (0, .ref 66), (1, .int (nI a)), (2, .int (nI b))]) dX10_apart_79 rfl rfl (fun _ => rfl) (fun x4_79 ex4_79 => ?_)
          obtain rfl : x4_79 = nI (i + 1) := by rw [ex4_79]; exact nI_1 i
          refine z_goto 31 dX10_apart_82 (by decide) ?_
          simp only [zMn, if_pos h48, if_neg h53, if_pos h64] at H
          subst ex3_78
          exact H
        · skip
          refine z_aload_n dX10_apart_67 rfl ?_
          refine m_getr dX10_apart_68 fX10_38 sh66 rfl ?_
          refine z_iload dX10_apart_71 rfl ?_
          refine m_ialdN (j := i) dX10_apart_73 sh75 rfl (by omega) rfl ?_
          rw [hH 75 (by decide)]
          refine z_goto 78 dX10_apart_74 (by decide) ?_
          refine z_istore_n (i := 3) (fun y => [(3, .int y), (4, .int (nI i)), (0, .ref 66), (1, .int (nI a)), (2, .int (nI b))]) dX10_apart_78 rfl rfl (fun _ => rfl) (fun x3_78 ex3_78 => ?_)
          refine z_iinc (fun y => [(4, .int y), (3, .int x3_78), (0, .ref 66), (1, .int (nI a)), (2, .int (nI b))]) dX10_apart_79 rfl rfl (fun _ => rfl) (fun x4_79 ex4_79 => ?_)
          obtain rfl : x4_79 = nI (i + 1) := by rw [ex4_79]; exact nI_1 i
          refine z_goto 31 dX10_apart_82 (by decide) ?_
          simp only [zMn, if_pos h48, if_neg h53, if_neg h64] at H
          subst ex3_78
          exact H) (by
    refine z_iload dX10_apart_31 rfl ?_
    refine z_aload_n dX10_apart_33 rfl ?_
    refine m_geti dX10_apart_34 fX10_105 sh66 rfl ?_
    refine z_icmp_ge 85 dX10_apart_37 (by decide) (fun h37 => ?_) (fun h37 => absurd (by rw [gH]; exact nI_le (Nat.le_refl n) (by omega)) h37)
    refine z_iconst (v := 0) dX10_apart_85 rfl ?_
    refine z_istore (i := 4) (fun y => [(4, .int y), (3, .int (zMn (μ 71) (μ 75) (nI a) n)), (0, .ref 66), (1, .int (nI a)), (2, .int (nI b))]) dX10_apart_86 rfl (fun _ => rfl) (fun x9 e9 => ?_)
    subst e9
    refine z_iconst (v := 0) dX10_apart_88 rfl ?_
    refine z_istore (i := 5) (fun y => [(5, .int y), (4, .int 0), (3, .int (zMn (μ 71) (μ 75) (nI a) n)), (0, .ref 66), (1, .int (nI a)), (2, .int (nI b))]) dX10_apart_89 rfl (fun _ => rfl) (fun x9 e9 => ?_)
    subst e9
    have e0 := hL2 0 (Nat.zero_le _)
    rw [show zAr (μ 71) (nI a) (zMn (μ 71) (μ 75) (nI a) n) (nI b) (μ 75) 0 = (0, μ 75) from rfl, show va_up (rCp μ 91 75 0 0 21) 75 (0, μ 75).2 = rCp μ 91 75 0 0 21 from va_same (hH 75 (by decide))] at e0
    exact e0)
  refine z_iload_n dX10_apart_0 rfl ?_
  refine z_iconst (v := 0) dX10_apart_1 rfl ?_
  refine z_iconst (v := 1) dX10_apart_2 rfl ?_
  refine m_callS (As := [.int _, .int _, .int _]) dX10_apart_3 kX10_108 ⟨rfl, rfl⟩ rfl ⟨rfl, rfl⟩ rfl rfl rfl (c_inT (v := a) (lo := 0) (hi := 1) (Nat.zero_le a) ha (by decide)) (fun r3 μ3 ν3 hk3 => ?_)
  obtain ⟨rfl, rfl, rfl⟩ := hk3
  refine z_if_eq 19 dX10_apart_6 (by decide) (fun h6 => absurd h6 (by decide)) (fun h6 => ?_)
  refine z_iload_n dX10_apart_9 rfl ?_
  refine z_iconst (v := 0) dX10_apart_10 rfl ?_
  refine z_bipush (v := 50) dX10_apart_11 rfl ?_
  refine m_callS (As := [.int _, .int _, .int _]) dX10_apart_13 kX10_108 ⟨rfl, rfl⟩ rfl ⟨rfl, rfl⟩ rfl rfl rfl (c_inT (v := b) (lo := 0) (hi := 50) (Nat.zero_le b) hb (by decide)) (fun r13 μ13 ν13 hk13 => ?_)
  obtain ⟨rfl, rfl, rfl⟩ := hk13
  refine z_if_ne 22 dX10_apart_16 (by decide) (fun h16 => ?_) (fun h16 => absurd h16 (by decide))
  refine z_aload_n dX10_apart_22 rfl ?_
  refine m_callVv (As := []) dX10_apart_23 kX10_245 ⟨rfl, rfl⟩ rfl ⟨rfl, rfl⟩ rfl rfl sh66 rfl rfl d_hold (fun μ23 ν23 hk23 => ?_)
  obtain ⟨rfl, rfl⟩ := hk23
  refine z_iconst (v := -1) dX10_apart_26 rfl ?_
  refine z_istore_n (i := 3) (fun y => [(3, .int y), (0, .ref 66), (1, .int (nI a)), (2, .int (nI b))]) dX10_apart_27 rfl rfl (fun _ => rfl) (fun x9 e9 => ?_)
  subst e9
  refine z_iconst (v := 0) dX10_apart_28 rfl ?_
  refine z_istore (i := 4) (fun y => [(4, .int y), (3, .int (-1)), (0, .ref 66), (1, .int (nI a)), (2, .int (nI b))]) dX10_apart_29 rfl (fun _ => rfl) (fun x9 e9 => ?_)
  subst e9
  exact hL1 0 (Nat.zero_le _)
