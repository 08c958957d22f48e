
theorem rDi_fr {μ : Mem} {s : Nat} : ∀ i, i ≤ 6 → zFr μ (rDi μ s i)
  | 0, _ => zFr.rf
  | i + 1, h => ((rDi_fr i (by omega)).tr (zFr.up (by decide))).tr (zFr.up (by omega))
theorem rDg_fr {μ : Mem} {s n : Nat} (h6 : n ≤ 6) : zFr μ (rDg μ s n) := ((rDi_fr n h6).tr (zFr.up (by decide))).tr (zFr.up (by decide))
theorem rDo_fr {μ : Mem} {s n : Nat} (h6 : n ≤ 6) : ∀ k, zFr μ (rDo μ s n k)
  | 0 => zFr.rf
  | k + 1 => ((rDo_fr h6 k).tr (rDg_fr h6)).tr zFr.now
theorem rDg_20 {μ : Mem} {s n : Nat} : rDg μ s n 75 20 = nI (zDs s (n + 1)) := by
  unfold rDg
  rw [up2_row, if_neg (by decide), up2_same]
theorem rDo_20 {μ : Mem} {s n : Nat} (h : μ 75 20 = nI s) : ∀ k, rDo μ s n k 75 20 = nI (zDk s n k)
  | 0 => h
  | k + 1 => by
    rw [rDo, rNow_eq.1 75 (by unfold zMe; omega), rDg_20]
    rfl
theorem rDi_75 {μ : Mem} {s : Nat} : ∀ i k, i ≤ 6 → k < 20 → rDi μ s i 75 k = if k < i then zDv (zDs s (k + 1)) 200 else μ 75 k
  | 0, k, _, _ => by rw [rDi, if_neg (by omega)]
  | i + 1, k, hi, hk => by
    rw [rDi, up2_row, up2_row, if_neg (show ¬ k = 20 by omega), rDi_75 i k (by omega) hk]
    by_cases e : k = i
    · rw [if_pos e, if_pos (by omega), e]
    · rw [if_neg e]
      by_cases e2 : k < i
      · rw [if_pos e2, if_pos (by omega)]
      · rw [if_neg e2, if_neg (by omega)]
theorem rDg_75 {μ : Mem} {s n k : Nat} (h6 : n ≤ 6) (hk : k < 20) (h18 : k ≠ 18) : rDg μ s n 75 k = if k < n then zDv (zDs s (k + 1)) 200 else μ 75 k := by
  unfold rDg
  rw [up2_row, if_neg h18, up2_row, if_neg (show ¬ k = 20 by omega), rDi_75 n k h6 hk]
theorem rDg_18 {μ : Mem} {s n : Nat} (h6 : n ≤ 6) : rDg μ s n 75 18 = if zDv (zDs s (n + 1)) 4 = 0 then 1 - μ 75 18 else μ 75 18 := by
  unfold rDg
  have e : up2 (rDi μ s n) 75 20 (nI (zDs s (n + 1))) 75 18 = μ 75 18 := by rw [up2_row, if_neg (show ¬ 18 = 20 by decide), rDi_75 n 18 h6 (by decide), if_neg (show ¬ 18 < n by omega)]
  rw [up2_same, e]
theorem fDi_23 {μ : Mem} {s : Nat} : ∀ i w, w < i → fDi μ s i 23 w = zDv (zDs s (w + 1)) 200
  | 0, w, h => absurd h (Nat.not_lt_zero w)
  | i + 1, w, h => by
    rw [fDi, up2_row]
    by_cases e : w = i
    · rw [if_pos e, e]
    · rw [if_neg e, fDi_23 i w (by omega)]
theorem fDg_23 {μ : Mem} {s n w : Nat} (hw : w < n) : fDg μ s n 23 w = zDv (zDs s (w + 1)) 200 := by
  unfold fDg
  split
  · rw [up2_ne (by decide), fDi_23 n w hw]
  · exact fDi_23 n w hw
theorem fDg_3 {μ : Mem} {s n : Nat} : fDg μ s n 22 3 = if zDv (zDs s (n + 1)) 4 = 0 then 1 - μ 22 3 else μ 22 3 := by
  unfold fDg
  split
  · rw [up2_same, fDi_ne (by decide)]
  · rw [fDi_ne (by decide)]
theorem fDg_4 {μ : Mem} {s n : Nat} : fDg μ s n 22 4 = μ 22 4 := by
  unfold fDg
  split
  · rw [up2_row, if_neg (by decide), fDi_ne (by decide)]
  · rw [fDi_ne (by decide)]
theorem zDv_N {s m b : Nat} (hm : 0 < m) (hb : m ≤ b + 1) : zN (zDv s m) b := ⟨s / 65536 % m, by have := Nat.mod_lt (s / 65536) hm; omega, rfl⟩
/-- one round's drawing -/
theorem zDrift {σ τ : Mem} {ν : Lng} {n s : Nat} (h : zRel σ ν τ n) (hb : s < 2 ^ 31) : zRel (fDg σ s n) (va_up ν 0 (lN (zDs s (n + 1)))) (rDg τ s n) n := by
  obtain ⟨p1, p2, p3⟩ := h.2.2.2.2.1
  obtain ⟨k1, k2, k3⟩ := h.2.2.2.2.2.1
  have h6 := h.1
  have fr := rDg_fr (μ := τ) (s := s) h6
  refine h.plan (fun q a b => fDg_ne (by omega) (by omega)) (by rw [fDg_ne (by decide) (by decide)]) (fun q a b => rDg_ne b) (by rw [rDg_ne (by decide)]) (by rw [rDg_ne (by decide)]) (by rw [rDg_ne (by decide)]) (by rw [rDg_ne (by decide)]) ⟨fun w hw => ⟨?_, ?_, ?_⟩, ?_, ?_⟩ ⟨fun w hw => ⟨?_, ?_, ?_⟩, ?_, ?_⟩ ?_ (fun q hq => va_up_ne _ _ (by omega))
  · rw [rDg_75 h6 (by omega) (by omega), if_pos hw]; exact fDg_23 hw
  · rw [rDg_75 h6 (by omega) (by omega), if_neg (by omega), fDg_ne (by decide) (by decide)]; exact (p1 w hw).2.1
  · rw [rDg_75 h6 (by omega) (by omega), if_neg (by omega), fDg_ne (by decide) (by decide)]; exact (p1 w hw).2.2
  · rw [fDg_3, rDg_18 h6, p2]
  · rw [fDg_4, rDg_75 h6 (by decide) (by decide), if_neg (by omega)]; exact p3
  · rw [rDg_75 h6 (by omega) (by omega), if_pos hw]; exact zDv_N (by decide) (by decide)
  · rw [rDg_75 h6 (by omega) (by omega), if_neg (by omega)]; exact (k1 w hw).2.1
  · rw [rDg_75 h6 (by omega) (by omega), if_neg (by omega)]; exact (k1 w hw).2.2
  · rw [rDg_18 h6]
    split
    · obtain ⟨c, c1, c2⟩ := k2
      rw [c2]
      rcases (show c = 0 ∨ c = 1 by omega) with rfl | rfl
      · exact ⟨1, by decide, rfl⟩
      · exact ⟨0, by decide, rfl⟩
    · exact k2
  · rw [rDg_75 h6 (by decide) (by decide), if_neg (by omega)]; exact k3
  · exact ⟨zDs s (n + 1), zDs_lt hb _, va_up_self _ _ _, rDg_20⟩
theorem zDrifts {σ τ : Mem} {ν : Lng} {n s : Nat} (h : zRel σ ν τ n) (hb : s < 2 ^ 31) (hs : ν 0 = lN s) : ∀ k, zRel (fDo σ s n k) (va_up ν 0 (lN (zDk s n k))) (rDo τ s n k) n ∧ rDc τ s n k = fDc σ s n k
  | 0 => ⟨by rw [show va_up ν 0 (lN (zDk s n 0)) = ν from va_same hs]; exact h, rfl⟩
  | k + 1 => by
    obtain ⟨e1, e2⟩ := zDrifts h hb hs k
    have e3 := zDrift e1 (zDk_lt (n := n) hb k)
    rw [va_up2] at e3
    refine ⟨e3.eve, ?_⟩
    obtain ⟨Q, hQ, -, -, -, -, c, -⟩ := zEve (pl := 22) (by omega) h.1 e3.hp
    rw [rDc, fDc, e2, c]
    unfold rNow
    rw [rRun_Q h.1 (zQ_ord h.1) hQ]
set_option maxRecDepth 100000 in
set_option maxHeartbeats 400000 in
theorem d_drift_o {l : Launch} {G : zG} {μ : Mem} {ν : Lng} {v : Int32} (hv : v < 1 ∨ 99 < v)  : Cm l G mX10_drift [.ref 66, .int v] μ ν (fun a9 b9 c9 => (-1000000002) = a9 ∧ μ = b9 ∧ ν = c9) := by
  refine Con.of (by decide) (Nat.le_of_ble_eq_true rfl) ?_
  show Am l G mX10_drift 0 [(0, .ref 66), (1, .int v)] [] μ ν _
  refine z_iload_n dX10_drift_0 rfl ?_
  refine z_iconst (v := 1) dX10_drift_1 rfl ?_
  refine z_bipush (v := 99) dX10_drift_2 rfl ?_
  refine m_callS (As := [.int _, .int _, .int _]) dX10_drift_4 kX10_108 ⟨rfl, rfl⟩ rfl ⟨rfl, rfl⟩ rfl rfl rfl (c_inF hv) (fun r4 μ4 ν4 hk4 => ?_)
  obtain ⟨rfl, rfl, rfl⟩ := hk4
  refine z_if_ne 13 dX10_drift_7 (by decide) (fun h7 => absurd (by decide) h7) (fun h7 => ?_)
  refine z_ldc dX10_drift_10 cX10_112 ?_
  refine m_iret dX10_drift_12 rfl rfl ?_
  exact ⟨rfl, rfl, rfl⟩
set_option maxRecDepth 100000 in
set_option maxHeartbeats 400000 in
theorem d_drift_n {l : Launch} {G : zG} {μ : Mem} {ν : Lng} (h0 : μ 66 17 = 0) {v : Nat} (hv1 : 1 ≤ v) (hv2 : v ≤ 99)  : Cm l G mX10_drift [.ref 66, .int (nI v)] μ ν (fun a9 b9 c9 => (-1000000003) = a9 ∧ μ = b9 ∧ ν = c9) := by
  refine Con.of (by decide) (Nat.le_of_ble_eq_true rfl) ?_
  show Am l G mX10_drift 0 [(0, .ref 66), (1, .int (nI v))] [] μ ν _
  refine z_iload_n dX10_drift_0 rfl ?_
  refine z_iconst (v := 1) dX10_drift_1 rfl ?_
  refine z_bipush (v := 99) dX10_drift_2 rfl ?_
  refine m_callS (As := [.int _, .int _, .int _]) dX10_drift_4 kX10_108 ⟨rfl, rfl⟩ rfl ⟨rfl, rfl⟩ rfl rfl rfl (c_inT (v := v) (lo := 1) (hi := 99) hv1 hv2 (by decide)) (fun r4 μ4 ν4 hk4 => ?_)
  obtain ⟨rfl, rfl, rfl⟩ := hk4
  refine z_if_ne 13 dX10_drift_7 (by decide) (fun h7 => ?_) (fun h7 => absurd h7 (by decide))
  refine z_aload_n dX10_drift_13 rfl ?_
  refine m_geti dX10_drift_14 fX10_105 sh66 rfl ?_
  refine z_if_ne 23 dX10_drift_17 (by decide) (fun h17 => absurd h0 h17) (fun h17 => ?_)
  refine z_ldc dX10_drift_20 cX10_241 ?_
  refine m_iret dX10_drift_22 rfl rfl ?_
  exact ⟨rfl, rfl, rfl⟩
set_option maxRecDepth 100000 in
set_option maxHeartbeats 400000 in
theorem d_drift {l : Launch} {G : zG} {μ : Mem} {ν : Lng} {n : Nat} (hn : μ 66 17 = nI n) (hz6 : n ≤ 6) (hsd : zSidesM μ n) {s : Nat} (hs : μ 75 20 = nI s) (hb : s < 2 ^ 31) (h0 : 0 < n) {v : Nat} (hv1 : 1 ≤ v) (hv2 : v ≤ 99)  : Cm l G mX10_drift [.ref 66, .int (nI v)] μ ν (fun a9 b9 c9 => rDc μ s n v = a9 ∧ rDo μ s n v = b9 ∧ ν = c9) := by
  refine Con.of (by decide) (Nat.le_of_ble_eq_true rfl) ?_
  show Am l G mX10_drift 0 [(0, .ref 66), (1, .int (nI v))] [] μ ν _
  have g1 : ∀ k, rDo μ s n k 66 17 = nI n := fun k => (rDo_fr hz6 k).n hn
  have hL := m_for (l := l) (G := G) (M := mX10_drift) (pc := 27) (ν := ν) (K := (fun a9 b9 c9 => rDc μ s n v = a9 ∧ rDo μ s n v = b9 ∧ ν = c9)) (N := v) (fun k => [(3, .int (nI k)), (2, .int (rDc μ s n k)), (0, .ref 66), (1, .int (nI v))]) (fun k => rDo μ s n k) (fun k hk H0 => by
    have g3 : ∀ i, i ≤ n → rDi (rDo μ s n k) (zDk s n k) i 66 17 = nI n := fun i hi => (rDi_fr i (by omega)).n (g1 k)
    have hI := m_for (l := l) (G := G) (M := mX10_drift) (pc := 35) (ν := ν) (K := (fun a9 b9 c9 => rDc μ s n v = a9 ∧ rDo μ s n v = b9 ∧ ν = c9)) (N := n) (fun i => [(4, .int (nI i)), (3, .int (nI k)), (2, .int (rDc μ s n k)), (0, .ref 66), (1, .int (nI v))]) (fun i => rDi (rDo μ s n k) (zDk s n k) i) (fun i hi H => by
      refine z_iload dX10_drift_35 rfl ?_
      refine z_aload_n dX10_drift_37 rfl ?_
      refine m_geti dX10_drift_38 fX10_105 sh66 rfl ?_
      refine z_icmp_ge 64 dX10_drift_41 (by decide) (fun h41 => absurd (g3 i (by omega) ▸ h41) (nI_ge hi (by omega))) (fun h41 => ?_)
      refine z_aload_n dX10_drift_44 rfl ?_
      refine m_getr dX10_drift_45 fX10_38 sh66 rfl ?_
      refine z_iload dX10_drift_48 rfl ?_
      refine z_aload_n dX10_drift_50 rfl ?_
      refine z_sipush (v := 200) dX10_drift_51 rfl ?_
      refine m_callV (As := [.int _]) dX10_drift_54 kX10_242 ⟨rfl, rfl⟩ rfl ⟨rfl, rfl⟩ rfl rfl sh66 rfl rfl (d_draw200 (s := zDs (zDk s n k) i) (rDi_20 (rDo_20 hs k) i (by omega)) (zDs_lt (zDk_lt hb k) i)) (fun r54 μ54 ν54 hk54 => ?_)
      obtain ⟨rfl, rfl, rfl⟩ := hk54
      refine m_iastN (j := i) dX10_drift_57 sh75 rfl (by omega) rfl ?_
      refine z_iinc (fun y => [(4, .int y), (3, .int (nI k)), (2, .int (rDc μ s n k)), (0, .ref 66), (1, .int (nI v))]) dX10_drift_58 rfl rfl (fun _ => rfl) (fun x4_58 ex4_58 => ?_)
      obtain rfl : x4_58 = nI (i + 1) := by rw [ex4_58]; exact nI_1 i
      refine z_goto 35 dX10_drift_61 (by decide) ?_
      exact H) (by
      refine z_iload dX10_drift_35 rfl ?_
      refine z_aload_n dX10_drift_37 rfl ?_
      refine m_geti dX10_drift_38 fX10_105 sh66 rfl ?_
      refine z_icmp_ge 64 dX10_drift_41 (by decide) (fun h41 => ?_) (fun h41 => absurd (g3 n (Nat.le_refl n) ▸ nI_le (Nat.le_refl n) (by omega)) h41)
      refine z_aload_n dX10_drift_64 rfl ?_
      refine m_getr dX10_drift_65 fX10_38 sh66 rfl ?_
      refine z_bipush (v := 18) dX10_drift_68 rfl ?_
      refine z_aload_n dX10_drift_70 rfl ?_
      refine z_iconst (v := 4) dX10_drift_71 rfl ?_
      refine m_callV (As := [.int _]) dX10_drift_72 kX10_242 ⟨rfl, rfl⟩ rfl ⟨rfl, rfl⟩ rfl rfl sh66 rfl rfl (d_draw4 (s := zDs (zDk s n k) n) (rDi_20 (rDo_20 hs k) n hz6) (zDs_lt (zDk_lt hb k) n)) (fun r72 μ72 ν72 hk72 => ?_)
      obtain ⟨rfl, rfl, rfl⟩ := hk72
      refine z_if_ne 90 dX10_drift_75 (by decide) (fun h75 => ?_) (fun h75 => ?_)
      · skip
        refine z_aload_n dX10_drift_90 rfl ?_
        refine m_getr dX10_drift_91 fX10_38 sh66 rfl ?_
        refine z_bipush (v := 18) dX10_drift_94 rfl ?_
        refine m_ialdN (j := 18) dX10_drift_96 sh75 (by decide) (by decide) rfl ?_
        refine m_iastN (j := 18) dX10_drift_97 sh75 (by decide) (by decide) rfl ?_
        have eg : rDg (rDo μ s n k) (zDk s n k) n = _ := congrArg (up2 _ 75 18) (if_neg h75)
        rw [show zDs (zDk s n k) (n + 1) = zD (zDs (zDk s n k) n) from rfl] at eg
        rw [← eg]
        have g4 : zFr μ (rDg (rDo μ s n k) (zDk s n k) n) := (rDo_fr hz6 k).tr (rDg_fr hz6)
        refine z_iload_n dX10_drift_98 rfl ?_
        refine z_aload_n dX10_drift_99 rfl ?_
        refine m_callV (As := []) dX10_drift_100 kX10_223 ⟨rfl, rfl⟩ rfl ⟨rfl, rfl⟩ rfl rfl sh66 rfl rfl (d_cost (g4.n hn) hz6 (g4.sd hsd)) (fun r100 μ100 ν100 hk100 => ?_)
        obtain ⟨rfl, rfl, rfl⟩ := hk100
        refine z_iadd dX10_drift_103 ?_
        refine z_istore_n (i := 2) (fun y => [(2, .int y), (4, .int (nI n)), (3, .int (nI k)), (0, .ref 66), (1, .int (nI v))]) dX10_drift_104 rfl rfl (fun _ => rfl) (fun x9 e9 => ?_)
        subst e9
        refine z_iinc (fun y => [(3, .int y), (2, .int (rDc μ s n k + (rCost (rNow (rDg (rDo μ s n k) (zDk s n k) n) n)))), (4, .int (nI n)), (0, .ref 66), (1, .int (nI v))]) dX10_drift_105 rfl rfl (fun _ => rfl) (fun x3_105 ex3_105 => ?_)
        obtain rfl : x3_105 = nI (k + 1) := by rw [ex3_105]; exact nI_1 k
        refine z_goto 27 dX10_drift_108 (by decide) ?_
        refine z_lv [0, 1, 3, 4] rfl ?_
        exact H0
      · skip
        refine z_iconst (v := 1) dX10_drift_78 rfl ?_
        refine z_aload_n dX10_drift_79 rfl ?_
        refine m_getr dX10_drift_80 fX10_38 sh66 rfl ?_
        refine z_bipush (v := 18) dX10_drift_83 rfl ?_
        refine m_ialdN (j := 18) dX10_drift_85 sh75 (by decide) (by decide) rfl ?_
        refine z_isub dX10_drift_86 ?_
        refine z_goto 97 dX10_drift_87 (by decide) ?_
        refine m_iastN (j := 18) dX10_drift_97 sh75 (by decide) (by decide) rfl ?_
        have eg : rDg (rDo μ s n k) (zDk s n k) n = _ := congrArg (up2 _ 75 18) (if_pos h75)
        rw [show zDs (zDk s n k) (n + 1) = zD (zDs (zDk s n k) n) from rfl] at eg
        rw [← eg]
        have g4 : zFr μ (rDg (rDo μ s n k) (zDk s n k) n) := (rDo_fr hz6 k).tr (rDg_fr hz6)
        refine z_iload_n dX10_drift_98 rfl ?_
        refine z_aload_n dX10_drift_99 rfl ?_
        refine m_callV (As := []) dX10_drift_100 kX10_223 ⟨rfl, rfl⟩ rfl ⟨rfl, rfl⟩ rfl rfl sh66 rfl rfl (d_cost (g4.n hn) hz6 (g4.sd hsd)) (fun r100 μ100 ν100 hk100 => ?_)
        obtain ⟨rfl, rfl, rfl⟩ := hk100
        refine z_iadd dX10_drift_103 ?_
        refine z_istore_n (i := 2) (fun y => [(2, .int y), (4, .int (nI n)), (3, .int (nI k)), (0, .ref 66), (1, .int (nI v))]) dX10_drift_104 rfl rfl (fun _ => rfl) (fun x9 e9 => ?_)
        subst e9
        refine z_iinc (fun y => [(3, .int y), (2, .int (rDc μ s n k + (rCost (rNow (rDg (rDo μ s n k) (zDk s n k) n) n)))), (4, .int (nI n)), (0, .ref 66), (1, .int (nI v))]) dX10_drift_105 rfl rfl (fun _ => rfl) (fun x3_105 ex3_105 => ?_)
        obtain rfl : x3_105 = nI (k + 1) := by rw [ex3_105]; exact nI_1 k
        refine z_goto 27 dX10_drift_108 (by decide) ?_
        refine z_lv [0, 1, 3, 4] rfl ?_
        exact H0)
    refine z_iload_n dX10_drift_27 rfl ?_
    refine z_iload_n dX10_drift_28 rfl ?_
    refine z_icmp_ge 111 dX10_drift_29 (by decide) (fun h29 => absurd h29 (nI_ge (a := k) (b := v) hk (by omega))) (fun h29 => ?_)
    refine z_iconst (v := 0) dX10_drift_32 rfl ?_
    refine z_istore (i := 4) (fun y => [(4, .int y), (3, .int (nI k)), (2, .int (rDc μ s n k)), (0, .ref 66), (1, .int (nI v))]) dX10_drift_33 rfl (fun _ => rfl) (fun x9 e9 => ?_)
    subst e9
    exact hI 0 (Nat.zero_le n)) (by
    refine z_iload_n dX10_drift_27 rfl ?_
    refine z_iload_n dX10_drift_28 rfl ?_
    refine z_icmp_ge 111 dX10_drift_29 (by decide) (fun h29 => ?_) (fun h29 => absurd (nI_le (Nat.le_refl v) (by omega)) h29)
    refine z_iload_n dX10_drift_111 rfl ?_
    refine m_iret dX10_drift_112 rfl rfl ?_
    exact ⟨rfl, rfl, rfl⟩)
  refine z_iload_n dX10_drift_0 rfl ?_
  refine z_iconst (v := 1) dX10_drift_1 rfl ?_
  refine z_bipush (v := 99) dX10_drift_2 rfl ?_
  refine m_callS (As := [.int _, .int _, .int _]) dX10_drift_4 kX10_108 ⟨rfl, rfl⟩ rfl ⟨rfl, rfl⟩ rfl rfl rfl (c_inT (v := v) (lo := 1) (hi := 99) hv1 hv2 (by decide)) (fun r4 μ4 ν4 hk4 => ?_)
  obtain ⟨rfl, rfl, rfl⟩ := hk4
  refine z_if_ne 13 dX10_drift_7 (by decide) (fun h7 => ?_) (fun h7 => absurd h7 (by decide))
  refine z_aload_n dX10_drift_13 rfl ?_
  refine m_geti dX10_drift_14 fX10_105 sh66 rfl ?_
  refine z_if_ne 23 dX10_drift_17 (by decide) (fun h17 => ?_) (fun h17 => absurd (hn ▸ h17) (nI_ne0 h0 (by omega)))
  refine z_iconst (v := 0) dX10_drift_23 rfl ?_
  refine z_istore_n (i := 2) (fun y => [(2, .int y), (0, .ref 66), (1, .int (nI v))]) dX10_drift_24 rfl rfl (fun _ => rfl) (fun x9 e9 => ?_)
  subst e9
  refine z_iconst (v := 0) dX10_drift_25 rfl ?_
  refine z_istore_n (i := 3) (fun y => [(3, .int y), (2, .int 0), (0, .ref 66), (1, .int (nI v))]) dX10_drift_26 rfl rfl (fun _ => rfl) (fun x9 e9 => ?_)
  subst e9
  exact hL 0 (Nat.zero_le v)
theorem op_drift (v : Int32) : zOp mX9_drift [.ref 0, .int v] mX10_drift [.ref 66, .int v] := by
  intro l G μ ν n h
  have h6 := h.1
  have hn := h.2.1
  have hm := h.2.2.1
  rcases zrng v 1 99 (by decide) (by decide) with hu | ⟨j, hj1, hj, rfl⟩
  · exact zOp.same h (c_drift_o hu) (d_drift_o hu) rfl
  rcases (show n = 0 ∨ 0 < n by omega) with rfl | h0
  · exact zOp.same h (c_drift_n hn hj1 hj) (d_drift_n hm hj1 hj) rfl
  obtain ⟨s, s1, s2, s3⟩ := h.2.2.2.2.2.2.2.2.2.1
  have hs := h.hp.sides
  have hh : zRel μ ν (fDo μ s n j) n := h.congr zKeepC.rf (zKeepT.hi (fun q hq => (fDo_ne h6 hs (by omega) j).1))
  obtain ⟨e1, e2⟩ := zDrifts hh s1 s2 j
  exact zOp.both (c_drift hn h6 hs s2 s1 h0 hj1 hj) (d_drift hh.2.2.1 h6 hh.hp.sidesM (by rw [(fDo_ne h6 hs (by omega) j).1]; exact s3) s1 h0 hj1 hj) e2 e1 (fun q hq => (rDo_fr h6 j).1 q (by omega) (by omega) (by omega))
