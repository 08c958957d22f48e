
/-- the first of the least, the class's way -/
def zSel (c id : Nat → Int32) (f0 k0 : Int32) : Nat → Int32 × Int32
  | 0 => (f0, k0)
  | i + 1 => if (zSel c id f0 k0 i).2 ≤ c i then zSel c id f0 k0 i else (id i, c i)
/-- the reference's way -/
def zSr (c id : Nat → Int32) (b0 l0 : Int32) : Nat → Int32 × Int32
  | 0 => (b0, l0)
  | i + 1 => if (zSr c id b0 l0 i).1 = b0 then (id i, c i) else if (zSr c id b0 l0 i).2 ≤ c i then zSr c id b0 l0 i else (id i, c i)
theorem zSel_le {c id : Nat → Int32} {f0 k0 : Int32} {i : Nat} : (zSel c id f0 k0 (i + 1)).2 ≤ c i := by
  unfold zSel
  split
  · assumption
  · exact Int32.le_refl _
theorem zSr_eq {c id : Nat → Int32} {f0 b0 l0 : Int32} : ∀ i, (∀ j, j < i + 1 → zN (c j) 17940 ∧ ¬ id j = b0) → zSr c id b0 l0 (i + 1) = zSel c id f0 1000000000 (i + 1) ∧ ¬ (zSel c id f0 1000000000 (i + 1)).1 = b0
  | 0, h => by
    obtain ⟨⟨k, h1, h2⟩, h3⟩ := h 0 (by omega)
    have e : ¬ (1000000000 : Int32) ≤ c 0 := by
      rw [h2]
      exact nI_ge (a := k) (b := 1000000000) (by omega) (by omega)
    have e2 : zSel c id f0 1000000000 (0 + 1) = (id 0, c 0) := by
      rw [zSel, zSel]
      exact if_neg e
    rw [e2]
    exact ⟨by rw [zSr, zSr]; exact if_pos rfl, h3⟩
  | i + 1, h => by
    obtain ⟨h1, h2⟩ := zSr_eq (f0 := f0) (l0 := l0) i (fun j hj => h j (by omega))
    have h3 := (h (i + 1) (by omega)).2
    rw [zSr, zSel, h1, if_neg h2]
    refine ⟨rfl, ?_⟩
    split
    · exact h2
    · exact h3
/-- a search of the class -/
def gSe (F : Nat → Mem → Mem) (g : Nat → Bool) (id : Nat → Int32) (n : Nat) (μ : Mem) : Nat → Mem
  | 0 => μ
  | i + 1 => if gSe F g id n μ i 44 6 ≤ 0 then gSe F g id n μ i else if g i = true then gWeigh (F i (gSe F g id n μ i)) n (id i) else gSe F g id n μ i
theorem gSe_stop {F : Nat → Mem → Mem} {g : Nat → Bool} {id : Nat → Int32} {n : Nat} {μ : Mem} {i : Nat} (h : gSe F g id n μ i 44 6 ≤ 0) : ∀ d, gSe F g id n μ (i + d) = gSe F g id n μ i
  | 0 => rfl
  | d + 1 => by
    have e := gSe_stop h d
    rw [← Nat.add_assoc, gSe, e, if_pos h]
theorem gSe_end {F : Nat → Mem → Mem} {g : Nat → Bool} {id : Nat → Int32} {n : Nat} {μ : Mem} {i N : Nat} (hi : i ≤ N) (h : gSe F g id n μ i 44 6 ≤ 0) : gSe F g id n μ N = gSe F g id n μ i := by
  obtain ⟨d, rfl⟩ : ∃ d, N = i + d := ⟨N - i, by omega⟩
  exact gSe_stop h d
theorem gWeigh_fc {μ : Mem} {n : Nat} {c : Int32} (h6 : n ≤ 6) (hs : zSides μ n) : zFc μ (gWeigh μ n c) := by
  unfold gWeigh
  split
  · exact zFc.run h6 hs
  · exact ((zFc.run h6 hs).tr (zFc.up (by decide))).tr (zFc.up (by decide))
theorem gSe_fc {F : Nat → Mem → Mem} {g : Nat → Bool} {id : Nat → Int32} {n : Nat} {μ : Mem} (h6 : n ≤ 6) (hs : zSides μ n) (hF : ∀ i M, zFc M (F i M)) : ∀ i, zFc μ (gSe F g id n μ i)
  | 0 => zFc.rf
  | i + 1 => by
    have e := gSe_fc (g := g) (id := id) h6 hs hF i
    rw [gSe]
    split
    · exact e
    · split
      · exact (e.tr (hF i _)).tr (gWeigh_fc h6 ((e.tr (hF i _)).sd hs))
      · exact e
/-- what a weighing leaves of the trial's plan -/
theorem gWeigh_ne {μ : Mem} {n q : Nat} {c : Int32} (h6 : n ≤ 6) (hs : zSides μ n) (hq : 44 < q) : gWeigh μ n c q = μ q := by
  unfold gWeigh
  split
  · exact gRun_ne h6 hs (by omega)
  · rw [up2_ne (by omega), up2_ne (by omega), gRun_ne h6 hs (by omega)]
theorem gSe_sel {F : Nat → Mem → Mem} {g : Nat → Bool} {id c : Nat → Int32} {n N : Nat} {μ : Mem} (h6 : n ≤ 6) (hs : zSides μ n) (hF : ∀ i M, zFc M (F i M)) (hF4 : ∀ i M, F i M 44 = M 44)
    (hc : ∀ i, i < N → g i = true → fCost (gRun (F i (gSe F g id n μ i)) 45 n) n = c i) (hp : ∀ i, i < N → zN (c i) 17940) (hg : ∀ i, i < N → g i = false → ∃ j, i = j + 1 ∧ c i = c j) :
    ∀ i, i ≤ N → (gSe F g id n μ i 44 5, gSe F g id n μ i 44 6) = zSel c id (μ 44 5) (μ 44 6) i
  | 0, _ => rfl
  | i + 1, hi => by
    have ih := gSe_sel h6 hs hF hF4 hc hp hg i (by omega)
    have i1 : gSe F g id n μ i 44 5 = (zSel c id (μ 44 5) (μ 44 6) i).1 := congrArg Prod.fst ih
    have i2 : gSe F g id n μ i 44 6 = (zSel c id (μ 44 5) (μ 44 6) i).2 := congrArg Prod.snd ih
    rw [gSe, zSel]
    by_cases h0 : gSe F g id n μ i 44 6 ≤ 0
    · rw [if_pos h0, if_pos, ih]
      rw [← i2]
      obtain ⟨k, k1, k2⟩ := hp i (by omega)
      rw [k2]
      exact Int32.le_trans h0 (nI_pos' (by omega))
    · rw [if_neg h0]
      cases e : g i with
      | false =>
        rw [if_neg (by decide), if_pos, ih]
        obtain ⟨j, rfl, ej⟩ := hg i (by omega) e
        rw [ej]
        exact zSel_le
      | true =>
        rw [if_pos rfl]
        have e1 := hc i (by omega) e
        have hfs : zSides (F i (gSe F g id n μ i)) n := ((gSe_fc h6 hs hF i).tr (hF i _)).sd hs
        have e2 : gRun (F i (gSe F g id n μ i)) 45 n 44 = gSe F g id n μ i 44 := by rw [gRun_ne h6 hfs (by omega), hF4]
        unfold gWeigh
        rw [e1, e2, i2]
        by_cases h1 : (zSel c id (μ 44 5) (μ 44 6) i).2 ≤ c i
        · rw [if_pos h1, if_pos h1, e2, ih]
        · rw [if_neg h1, if_neg h1, up2_same, up2_row, if_neg (by decide), up2_same]
set_option maxRecDepth 100000 in
set_option maxHeartbeats 400000 in
theorem c_findKick {l : Launch} {G : zG} {μ : Mem} {ν : Lng} {n : Nat} (hn : μ 15 6 = nI n) (hz6 : n ≤ 6) (hsd : zSides μ n) {j : Nat} (hj : j < n)  : Cm l G mX8_findKick [.ref 44, .int (nI j)] μ ν (fun _ b9 c9 => gSe (fun i M => up2 M 47 j (nI (i + 1))) (fun _ => true) (fun i => nI (i + 1)) n (gSt μ) 9 = b9 ∧ ν = c9) := by
  refine Con.of (by decide) (Nat.le_of_ble_eq_true rfl) ?_
  show Am l G mX8_findKick 0 [(0, .ref 44), (1, .int (nI j))] [] μ ν _
  have f0 : zFc μ (gSt μ) := gSt_fc
  have f1 : ∀ i, zFc μ (gSe (fun i M => up2 M 47 j (nI (i + 1))) (fun _ => true) (fun i => nI (i + 1)) n (gSt μ) i) := fun i => f0.tr (gSe_fc hz6 (f0.sd hsd) (fun i M => zFc.up (by decide)) i)
  have f2 : ∀ i, zFc μ (up2 (gSe (fun i M => up2 M 47 j (nI (i + 1))) (fun _ => true) (fun i => nI (i + 1)) n (gSt μ) i) 47 j (nI (i + 1))) := fun i => (f1 i).tr (zFc.up (by decide))
  have hL := m_for (l := l) (G := G) (M := mX8_findKick) (pc := 6) (ν := ν) (K := (fun _ b9 c9 => gSe (fun i M => up2 M 47 j (nI (i + 1))) (fun _ => true) (fun i => nI (i + 1)) n (gSt μ) 9 = b9 ∧ ν = c9)) (N := 9) (fun i => [(2, .int (nI (i + 1))), (0, .ref 44), (1, .int (nI j))]) (fun i => gSe (fun i M => up2 M 47 j (nI (i + 1))) (fun _ => true) (fun i => nI (i + 1)) n (gSt μ) i) (fun i hi H => by
    refine z_iload_n dX8_findKick_6 rfl ?_
    refine z_bipush (v := 9) dX8_findKick_7 rfl ?_
    refine z_icmp_gt 40 dX8_findKick_9 (by decide) (fun h9 => absurd h9 (nI_nlt (a := 9) (b := i + 1) (by omega) (by omega))) (fun h9 => ?_)
    refine z_aload_n dX8_findKick_12 rfl ?_
    refine m_geti dX8_findKick_13 fX8_29 sh44 rfl ?_
    refine z_if_le 40 dX8_findKick_16 (by decide) (fun h16 => ?_) (fun h16 => ?_)
    · skip
      refine m_ret dX8_findKick_40 rfl ?_
      exact ⟨gSe_end (by omega) h16, rfl⟩
    · skip
      refine z_aload_n dX8_findKick_19 rfl ?_
      refine m_getr dX8_findKick_20 fX8_12 sh44 rfl ?_
      refine m_getr dX8_findKick_23 fX8_85 sh45 rfl ?_
      refine z_iload_n dX8_findKick_26 rfl ?_
      refine z_iload_n dX8_findKick_27 rfl ?_
      refine m_iastN (j := j) dX8_findKick_28 sh47 rfl (by omega) rfl ?_
      refine z_aload_n dX8_findKick_29 rfl ?_
      refine z_iload_n dX8_findKick_30 rfl ?_
      refine m_callVv (As := [.int _]) dX8_findKick_31 kX8_82 ⟨rfl, rfl⟩ rfl ⟨rfl, rfl⟩ rfl rfl sh44 rfl rfl (c_weigh ((f2 i).n hn) hz6 ((f2 i).sd hsd)) (fun μ31 ν31 hk31 => ?_)
      obtain ⟨rfl, rfl⟩ := hk31
      refine z_iinc (fun y => [(2, .int y), (0, .ref 44), (1, .int (nI j))]) dX8_findKick_34 rfl rfl (fun _ => rfl) (fun x2_34 ex2_34 => ?_)
      obtain rfl : x2_34 = nI (i + 1 + 1) := by rw [ex2_34]; exact nI_1 (i + 1)
      refine z_goto 6 dX8_findKick_37 (by decide) ?_
      rw [gSe, if_neg h16, if_pos rfl] at H
      exact H) (by
    refine z_iload_n dX8_findKick_6 rfl ?_
    refine z_bipush (v := 9) dX8_findKick_7 rfl ?_
    refine z_icmp_gt 40 dX8_findKick_9 (by decide) (fun h9 => ?_) (fun h9 => absurd (nI_lt (a := 9) (b := 10) (by decide) (by decide)) h9)
    refine m_ret dX8_findKick_40 rfl ?_
    exact ⟨rfl, rfl⟩)
  refine z_aload_n dX8_findKick_0 rfl ?_
  refine m_callVv (As := []) dX8_findKick_1 kX8_70 ⟨rfl, rfl⟩ rfl ⟨rfl, rfl⟩ rfl rfl sh44 rfl rfl c_startSearch (fun μ1 ν1 hk1 => ?_)
  obtain ⟨rfl, rfl⟩ := hk1
  refine z_iconst (v := 1) dX8_findKick_4 rfl ?_
  refine z_istore_n (i := 2) (fun y => [(2, .int y), (0, .ref 44), (1, .int (nI j))]) dX8_findKick_5 rfl rfl (fun _ => rfl) (fun x9 e9 => ?_)
  subst e9
  exact hL 0 (by decide)
set_option maxRecDepth 100000 in
set_option maxHeartbeats 400000 in
theorem c_bestKick_w {l : Launch} {G : zG} {μ : Mem} {ν : Lng} {n : Nat} (hn : μ 15 6 = nI n) (hz6 : n ≤ 6) {w : Int32} (hw : w < 0 ∨ nI n ≤ w) {v : Int32}  : Cm l G mX9_bestKick [.ref 0, .int w, .int v] μ ν (fun a9 b9 c9 => (-1000000001) = a9 ∧ μ = b9 ∧ ν = c9) := by
  refine Con.of (by decide) (Nat.le_of_ble_eq_true rfl) ?_
  show Am l G mX9_bestKick 0 [(0, .ref 0), (1, .int w), (2, .int v)] [] μ ν _
  refine z_aload_n dX9_bestKick_0 rfl ?_
  refine z_iload_n dX9_bestKick_1 rfl ?_
  refine m_callV (As := [.int _]) dX9_bestKick_2 kX9_155 ⟨rfl, rfl⟩ rfl ⟨rfl, rfl⟩ rfl rfl sh0 rfl rfl (c_noW1 hn hz6 hw) (fun r2 μ2 ν2 hk2 => ?_)
  obtain ⟨rfl, rfl, rfl⟩ := hk2
  refine z_if_eq 11 dX9_bestKick_5 (by decide) (fun h5 => absurd h5 (by decide)) (fun h5 => ?_)
  refine z_ldc dX9_bestKick_8 cX9_136 ?_
  refine m_iret dX9_bestKick_10 rfl rfl ?_
  exact ⟨rfl, rfl, rfl⟩
set_option maxRecDepth 100000 in
set_option maxHeartbeats 400000 in
theorem c_bestKick_o {l : Launch} {G : zG} {μ : Mem} {ν : Lng} {n : Nat} (hn : μ 15 6 = nI n) (hz6 : n ≤ 6) {j : Nat} (hj : j < n) {v : Int32} (hv : v < 0 ∨ 1 < v)  : Cm l G mX9_bestKick [.ref 0, .int (nI j), .int v] μ ν (fun a9 b9 c9 => (-1000000002) = a9 ∧ μ = b9 ∧ ν = c9) := by
  refine Con.of (by decide) (Nat.le_of_ble_eq_true rfl) ?_
  show Am l G mX9_bestKick 0 [(0, .ref 0), (1, .int (nI j)), (2, .int v)] [] μ ν _
  refine z_aload_n dX9_bestKick_0 rfl ?_
  refine z_iload_n dX9_bestKick_1 rfl ?_
  refine m_callV (As := [.int _]) dX9_bestKick_2 kX9_155 ⟨rfl, rfl⟩ rfl ⟨rfl, rfl⟩ rfl rfl sh0 rfl rfl (c_noW0 hn hz6 hj) (fun r2 μ2 ν2 hk2 => ?_)
  obtain ⟨rfl, rfl, rfl⟩ := hk2
  refine z_if_eq 11 dX9_bestKick_5 (by decide) (fun h5 => ?_) (fun h5 => absurd (by decide) h5)
  refine z_iload_n dX9_bestKick_11 rfl ?_
  refine z_if_lt 20 dX9_bestKick_12 (by decide) (fun h12 => ?_) (fun h12 => ?_)
  · skip
    refine z_ldc dX9_bestKick_20 cX9_73 ?_
    refine m_iret dX9_bestKick_22 rfl rfl ?_
    exact ⟨rfl, rfl, rfl⟩
  · skip
    refine z_iload_n dX9_bestKick_15 rfl ?_
    refine z_iconst (v := 1) dX9_bestKick_16 rfl ?_
    refine z_icmp_le 23 dX9_bestKick_17 (by decide) (fun h17 => (zbad hv h12 h17).elim) (fun h17 => ?_)
    refine z_ldc dX9_bestKick_20 cX9_73 ?_
    refine m_iret dX9_bestKick_22 rfl rfl ?_
    exact ⟨rfl, rfl, rfl⟩
set_option maxRecDepth 100000 in
set_option maxHeartbeats 400000 in
theorem c_bestKick_0 {l : Launch} {G : zG} {μ : Mem} {ν : Lng} {n : Nat} (hn : μ 15 6 = nI n) (hz6 : n ≤ 6) (hsd : zSides μ n) {j : Nat} (hj : j < n)  : Cm l G mX9_bestKick [.ref 0, .int (nI j), .int 0] μ ν (fun a9 b9 c9 => gSe (fun i M => up2 M 47 j (nI (i + 1))) (fun _ => true) (fun i => nI (i + 1)) n (gSt μ) 9 44 5 = a9 ∧ gSe (fun i M => up2 M 47 j (nI (i + 1))) (fun _ => true) (fun i => nI (i + 1)) n (gSt μ) 9 = b9 ∧ ν = c9) := by
  refine Con.of (by decide) (Nat.le_of_ble_eq_true rfl) ?_
  show Am l G mX9_bestKick 0 [(0, .ref 0), (1, .int (nI j)), (2, .int 0)] [] μ ν _
  refine z_aload_n dX9_bestKick_0 rfl ?_
  refine z_iload_n dX9_bestKick_1 rfl ?_
  refine m_callV (As := [.int _]) dX9_bestKick_2 kX9_155 ⟨rfl, rfl⟩ rfl ⟨rfl, rfl⟩ rfl rfl sh0 rfl rfl (c_noW0 hn hz6 hj) (fun r2 μ2 ν2 hk2 => ?_)
  obtain ⟨rfl, rfl, rfl⟩ := hk2
  refine z_if_eq 11 dX9_bestKick_5 (by decide) (fun h5 => ?_) (fun h5 => absurd (by decide) h5)
  refine z_iload_n dX9_bestKick_11 rfl ?_
  refine z_if_lt 20 dX9_bestKick_12 (by decide) (fun h12 => absurd h12 (by decide)) (fun h12 => ?_)
  refine z_iload_n dX9_bestKick_15 rfl ?_
  refine z_iconst (v := 1) dX9_bestKick_16 rfl ?_
  refine z_icmp_le 23 dX9_bestKick_17 (by decide) (fun h17 => ?_) (fun h17 => absurd (by decide) h17)
  refine z_aload_n dX9_bestKick_23 rfl ?_
  refine m_getr dX9_bestKick_24 fX9_44 sh0 rfl ?_
  refine z_iload_n dX9_bestKick_27 rfl ?_
  refine m_callVv (As := [.int _]) dX9_bestKick_28 kX9_229 ⟨rfl, rfl⟩ rfl ⟨rfl, rfl⟩ rfl rfl sh44 rfl rfl (c_findKick hn hz6 hsd hj) (fun μ28 ν28 hk28 => ?_)
  obtain ⟨rfl, rfl⟩ := hk28
  refine z_iload_n dX9_bestKick_31 rfl ?_
  refine z_if_ne 45 dX9_bestKick_32 (by decide) (fun h32 => absurd (by decide) h32) (fun h32 => ?_)
  refine z_aload_n dX9_bestKick_35 rfl ?_
  refine m_getr dX9_bestKick_36 fX9_44 sh0 rfl ?_
  refine m_geti dX9_bestKick_39 fX9_233 sh44 rfl ?_
  refine z_goto 52 dX9_bestKick_42 (by decide) ?_
  refine m_iret dX9_bestKick_52 rfl rfl ?_
  exact ⟨rfl, rfl, rfl⟩
set_option maxRecDepth 100000 in
set_option maxHeartbeats 400000 in
theorem c_bestKick_1 {l : Launch} {G : zG} {μ : Mem} {ν : Lng} {n : Nat} (hn : μ 15 6 = nI n) (hz6 : n ≤ 6) (hsd : zSides μ n) {j : Nat} (hj : j < n)  : Cm l G mX9_bestKick [.ref 0, .int (nI j), .int 1] μ ν (fun a9 b9 c9 => gSe (fun i M => up2 M 47 j (nI (i + 1))) (fun _ => true) (fun i => nI (i + 1)) n (gSt μ) 9 44 6 = a9 ∧ gSe (fun i M => up2 M 47 j (nI (i + 1))) (fun _ => true) (fun i => nI (i + 1)) n (gSt μ) 9 = b9 ∧ ν = c9) := by
  refine Con.of (by decide) (Nat.le_of_ble_eq_true rfl) ?_
  show Am l G mX9_bestKick 0 [(0, .ref 0), (1, .int (nI j)), (2, .int 1)] [] μ ν _
  refine z_aload_n dX9_bestKick_0 rfl ?_
  refine z_iload_n dX9_bestKick_1 rfl ?_
  refine m_callV (As := [.int _]) dX9_bestKick_2 kX9_155 ⟨rfl, rfl⟩ rfl ⟨rfl, rfl⟩ rfl rfl sh0 rfl rfl (c_noW0 hn hz6 hj) (fun r2 μ2 ν2 hk2 => ?_)
  obtain ⟨rfl, rfl, rfl⟩ := hk2
  refine z_if_eq 11 dX9_bestKick_5 (by decide) (fun h5 => ?_) (fun h5 => absurd (by decide) h5)
  refine z_iload_n dX9_bestKick_11 rfl ?_
  refine z_if_lt 20 dX9_bestKick_12 (by decide) (fun h12 => absurd h12 (by decide)) (fun h12 => ?_)
  refine z_iload_n dX9_bestKick_15 rfl ?_
  refine z_iconst (v := 1) dX9_bestKick_16 rfl ?_
  refine z_icmp_le 23 dX9_bestKick_17 (by decide) (fun h17 => ?_) (fun h17 => absurd (by decide) h17)
  refine z_aload_n dX9_bestKick_23 rfl ?_
  refine m_getr dX9_bestKick_24 fX9_44 sh0 rfl ?_
  refine z_iload_n dX9_bestKick_27 rfl ?_
  refine m_callVv (As := [.int _]) dX9_bestKick_28 kX9_229 ⟨rfl, rfl⟩ rfl ⟨rfl, rfl⟩ rfl rfl sh44 rfl rfl (c_findKick hn hz6 hsd hj) (fun μ28 ν28 hk28 => ?_)
  obtain ⟨rfl, rfl⟩ := hk28
  refine z_iload_n dX9_bestKick_31 rfl ?_
  refine z_if_ne 45 dX9_bestKick_32 (by decide) (fun h32 => ?_) (fun h32 => absurd h32 (by decide))
  refine z_aload_n dX9_bestKick_45 rfl ?_
  refine m_getr dX9_bestKick_46 fX9_44 sh0 rfl ?_
  refine m_geti dX9_bestKick_49 fX9_236 sh44 rfl ?_
  refine m_iret dX9_bestKick_52 rfl rfl ?_
  exact ⟨rfl, rfl, rfl⟩

/-- a search of the reference: the memory -/
def rSe (S : Nat → Mem → Mem) (n : Nat) (μ : Mem) : Nat → Mem
  | 0 => μ
  | i + 1 => rNow (S i (rSe S n μ i)) n
theorem rSe_fr {S : Nat → Mem → Mem} {n : Nat} {μ : Mem} (hS : ∀ i M, zFr M (S i M)) : ∀ i, zFr μ (rSe S n μ i)
  | 0 => zFr.rf
  | i + 1 => ((rSe_fr hS i).tr (hS i _)).tr zFr.now
def rSc (S : Nat → Mem → Mem) (n : Nat) (μ : Mem) (i : Nat) : Int32 := rCost (rNow (S i (rSe S n μ i)) n)
set_option maxRecDepth 100000 in
set_option maxHeartbeats 400000 in
theorem d_bestKick_w {l : Launch} {G : zG} {μ : Mem} {ν : Lng} {n : Nat} (hn : μ 66 17 = nI n) (hz6 : n ≤ 6) {w : Int32} (hw : w < 0 ∨ nI n ≤ w) {v : Int32}  : Cm l G mX10_bestKick [.ref 66, .int w, .int v] μ ν (fun a9 b9 c9 => (-1000000001) = a9 ∧ μ = b9 ∧ ν = c9) := by
  refine Con.of (by decide) (Nat.le_of_ble_eq_true rfl) ?_
  show Am l G mX10_bestKick 0 [(0, .ref 66), (1, .int w), (2, .int v)] [] μ ν _
  refine z_aload_n dX10_bestKick_0 rfl ?_
  refine z_iload_n dX10_bestKick_1 rfl ?_
  refine m_callV (As := [.int _]) dX10_bestKick_2 kX10_228 ⟨rfl, rfl⟩ rfl ⟨rfl, rfl⟩ rfl rfl sh66 rfl rfl (c_isOneF hn hz6 hw) (fun r2 μ2 ν2 hk2 => ?_)
  obtain ⟨rfl, rfl, rfl⟩ := hk2
  refine z_if_ne 11 dX10_bestKick_5 (by decide) (fun h5 => absurd (by decide) h5) (fun h5 => ?_)
  refine z_ldc dX10_bestKick_8 cX10_227 ?_
  refine m_iret dX10_bestKick_10 rfl rfl ?_
  exact ⟨rfl, rfl, rfl⟩
set_option maxRecDepth 100000 in
set_option maxHeartbeats 400000 in
theorem d_bestKick_o {l : Launch} {G : zG} {μ : Mem} {ν : Lng} {n : Nat} (hn : μ 66 17 = nI n) (hz6 : n ≤ 6) {j : Nat} (hj : j < n) {v : Int32} (hv : v < 0 ∨ 1 < v)  : Cm l G mX10_bestKick [.ref 66, .int (nI j), .int v] μ ν (fun a9 b9 c9 => (-1000000002) = a9 ∧ μ = b9 ∧ ν = c9) := by
  refine Con.of (by decide) (Nat.le_of_ble_eq_true rfl) ?_
  show Am l G mX10_bestKick 0 [(0, .ref 66), (1, .int (nI j)), (2, .int v)] [] μ ν _
  refine z_aload_n dX10_bestKick_0 rfl ?_
  refine z_iload_n dX10_bestKick_1 rfl ?_
  refine m_callV (As := [.int _]) dX10_bestKick_2 kX10_228 ⟨rfl, rfl⟩ rfl ⟨rfl, rfl⟩ rfl rfl sh66 rfl rfl (c_isOneT hn hz6 hj) (fun r2 μ2 ν2 hk2 => ?_)
  obtain ⟨rfl, rfl, rfl⟩ := hk2
  refine z_if_ne 11 dX10_bestKick_5 (by decide) (fun h5 => ?_) (fun h5 => absurd h5 (by decide))
  refine z_iload_n dX10_bestKick_11 rfl ?_
  refine z_iconst (v := 0) dX10_bestKick_12 rfl ?_
  refine z_iconst (v := 1) dX10_bestKick_13 rfl ?_
  refine m_callS (As := [.int _, .int _, .int _]) dX10_bestKick_14 kX10_108 ⟨rfl, rfl⟩ rfl ⟨rfl, rfl⟩ rfl rfl rfl (c_inF hv) (fun r14 μ14 ν14 hk14 => ?_)
  obtain ⟨rfl, rfl, rfl⟩ := hk14
  refine z_if_ne 23 dX10_bestKick_17 (by decide) (fun h17 => absurd (by decide) h17) (fun h17 => ?_)
  refine z_ldc dX10_bestKick_20 cX10_112 ?_
  refine m_iret dX10_bestKick_22 rfl rfl ?_
  exact ⟨rfl, rfl, rfl⟩
set_option maxRecDepth 100000 in
set_option maxHeartbeats 400000 in
theorem d_bestKick_0 {l : Launch} {G : zG} {μ : Mem} {ν : Lng} {n : Nat} (hn : μ 66 17 = nI n) (hz6 : n ≤ 6) (hsd : zSidesM μ n) {j : Nat} (hj : j < n)  : Cm l G mX10_bestKick [.ref 66, .int (nI j), .int 0] μ ν (fun a9 b9 c9 => (zSr (rSc (fun i M => up2 M 75 (12 + j) (nI (i + 1))) n (rCp μ 91 75 0 0 21)) (fun i => nI (i + 1)) 0 0 9).1 = a9 ∧ rCp (rSe (fun i M => up2 M 75 (12 + j) (nI (i + 1))) n (rCp μ 91 75 0 0 21) 9) 75 91 0 0 21 = b9 ∧ ν = c9) := by
  refine Con.of (by decide) (Nat.le_of_ble_eq_true rfl) ?_
  show Am l G mX10_bestKick 0 [(0, .ref 66), (1, .int (nI j)), (2, .int 0)] [] μ ν _
  have g1 : ∀ i, zFr (rCp μ 91 75 0 0 21) (rSe (fun i M => up2 M 75 (12 + j) (nI (i + 1))) n (rCp μ 91 75 0 0 21) i) := fun i => rSe_fr (fun i M => zFr.up (by omega)) i
  have g2 : ∀ i, zFr (rCp μ 91 75 0 0 21) (up2 (rSe (fun i M => up2 M 75 (12 + j) (nI (i + 1))) n (rCp μ 91 75 0 0 21) i) 75 (12 + j) (nI (i + 1))) := fun i => (g1 i).tr (zFr.up (by omega))
  have hL := m_for (l := l) (G := G) (M := mX10_bestKick) (pc := 35) (ν := ν) (K := (fun a9 b9 c9 => (zSr (rSc (fun i M => up2 M 75 (12 + j) (nI (i + 1))) n (rCp μ 91 75 0 0 21)) (fun i => nI (i + 1)) 0 0 9).1 = a9 ∧ rCp (rSe (fun i M => up2 M 75 (12 + j) (nI (i + 1))) n (rCp μ 91 75 0 0 21) 9) 75 91 0 0 21 = b9 ∧ ν = c9)) (N := 9) (fun i => [(5, .int (nI (i + 1))), (4, .int ((zSr (rSc (fun i M => up2 M 75 (12 + j) (nI (i + 1))) n (rCp μ 91 75 0 0 21)) (fun i => nI (i + 1)) 0 0 i).2)), (3, .int ((zSr (rSc (fun i M => up2 M 75 (12 + j) (nI (i + 1))) n (rCp μ 91 75 0 0 21)) (fun i => nI (i + 1)) 0 0 i).1)), (0, .ref 66), (1, .int (nI j)), (2, .int 0)]) (fun i => rSe (fun i M => up2 M 75 (12 + j) (nI (i + 1))) n (rCp μ 91 75 0 0 21) i) (fun i hi H => by
    refine z_iload dX10_bestKick_35 rfl ?_
    refine z_bipush (v := 10) dX10_bestKick_37 rfl ?_
    refine z_icmp_ge 109 dX10_bestKick_39 (by decide) (fun h39 => absurd h39 (nI_ge (a := i + 1) (b := 10) (by omega) (by decide))) (fun h39 => ?_)
    refine z_aload_n dX10_bestKick_42 rfl ?_
    refine m_getr dX10_bestKick_43 fX10_38 sh66 rfl ?_
    refine z_bipush (v := 12) dX10_bestKick_46 rfl ?_
    refine z_iload_n dX10_bestKick_48 rfl ?_
    refine z_iadd dX10_bestKick_49 ?_
    rw [show (12 + nI j) = nI (12 + j) from z6a 12 j]
    refine z_iload dX10_bestKick_50 rfl ?_
    refine m_iastN (j := (12 + j)) dX10_bestKick_52 sh75 rfl (by omega) rfl ?_
    refine z_aload_n dX10_bestKick_53 rfl ?_
    refine m_callV (As := []) dX10_bestKick_54 kX10_223 ⟨rfl, rfl⟩ rfl ⟨rfl, rfl⟩ rfl rfl sh66 rfl rfl (d_cost ((g2 i).n (zFr.holdN hn)) hz6 ((g2 i).sd (zFr.holdS hsd))) (fun r54 μ54 ν54 hk54 => ?_)
    obtain ⟨rfl, rfl, rfl⟩ := hk54
    refine z_istore (i := 6) (fun y => [(6, .int y), (5, .int (nI (i + 1))), (4, .int ((zSr (rSc (fun i M => up2 M 75 (12 + j) (nI (i + 1))) n (rCp μ 91 75 0 0 21)) (fun i => nI (i + 1)) 0 0 i).2)), (3, .int ((zSr (rSc (fun i M => up2 M 75 (12 + j) (nI (i + 1))) n (rCp μ 91 75 0 0 21)) (fun i => nI (i + 1)) 0 0 i).1)), (0, .ref 66), (1, .int (nI j)), (2, .int 0)]) dX10_bestKick_57 rfl (fun _ => rfl) (fun x9 e9 => ?_)
    subst e9
    refine z_iload_n dX10_bestKick_59 rfl ?_
    refine z_if_eq 70 dX10_bestKick_60 (by decide) (fun h60 => ?_) (fun h60 => ?_)
    · skip
      refine z_iconst (v := 1) dX10_bestKick_70 rfl ?_
      refine z_goto 75 dX10_bestKick_71 (by decide) ?_
      refine z_istore (i := 7) (fun y => [(7, .int y), (6, .int (rCost (rNow (up2 (rSe (fun i M => up2 M 75 (12 + j) (nI (i + 1))) n (rCp μ 91 75 0 0 21) i) 75 (12 + j) (nI (i + 1))) n))), (5, .int (nI (i + 1))), (4, .int ((zSr (rSc (fun i M => up2 M 75 (12 + j) (nI (i + 1))) n (rCp μ 91 75 0 0 21)) (fun i => nI (i + 1)) 0 0 i).2)), (3, .int ((zSr (rSc (fun i M => up2 M 75 (12 + j) (nI (i + 1))) n (rCp μ 91 75 0 0 21)) (fun i => nI (i + 1)) 0 0 i).1)), (0, .ref 66), (1, .int (nI j)), (2, .int 0)]) dX10_bestKick_75 rfl (fun _ => rfl) (fun x9 e9 => ?_)
      subst e9
      refine z_iload dX10_bestKick_77 rfl ?_
      refine z_if_eq 87 dX10_bestKick_79 (by decide) (fun h79 => absurd h79 (by decide)) (fun h79 => ?_)
      refine z_iload dX10_bestKick_82 rfl ?_
      refine z_goto 88 dX10_bestKick_84 (by decide) ?_
      refine z_istore_n (i := 3) (fun y => [(3, .int y), (7, .int 1), (6, .int (rCost (rNow (up2 (rSe (fun i M => up2 M 75 (12 + j) (nI (i + 1))) n (rCp μ 91 75 0 0 21) i) 75 (12 + j) (nI (i + 1))) n))), (5, .int (nI (i + 1))), (4, .int ((zSr (rSc (fun i M => up2 M 75 (12 + j) (nI (i + 1))) n (rCp μ 91 75 0 0 21)) (fun i => nI (i + 1)) 0 0 i).2)), (0, .ref 66), (1, .int (nI j)), (2, .int 0)]) dX10_bestKick_88 rfl rfl (fun _ => rfl) (fun x9 e9 => ?_)
      subst e9
      refine z_iload dX10_bestKick_89 rfl ?_
      refine z_if_eq 99 dX10_bestKick_91 (by decide) (fun h91 => absurd h91 (by decide)) (fun h91 => ?_)
      refine z_iload dX10_bestKick_94 rfl ?_
      refine z_goto 101 dX10_bestKick_96 (by decide) ?_
      refine z_istore (i := 4) (fun y => [(4, .int y), (3, .int (nI (i + 1))), (7, .int 1), (6, .int (rCost (rNow (up2 (rSe (fun i M => up2 M 75 (12 + j) (nI (i + 1))) n (rCp μ 91 75 0 0 21) i) 75 (12 + j) (nI (i + 1))) n))), (5, .int (nI (i + 1))), (0, .ref 66), (1, .int (nI j)), (2, .int 0)]) dX10_bestKick_101 rfl (fun _ => rfl) (fun x9 e9 => ?_)
      subst e9
      refine z_iinc (fun y => [(5, .int y), (4, .int (rCost (rNow (up2 (rSe (fun i M => up2 M 75 (12 + j) (nI (i + 1))) n (rCp μ 91 75 0 0 21) i) 75 (12 + j) (nI (i + 1))) n))), (3, .int (nI (i + 1))), (7, .int 1), (6, .int (rCost (rNow (up2 (rSe (fun i M => up2 M 75 (12 + j) (nI (i + 1))) n (rCp μ 91 75 0 0 21) i) 75 (12 + j) (nI (i + 1))) n))), (0, .ref 66), (1, .int (nI j)), (2, .int 0)]) dX10_bestKick_103 rfl rfl (fun _ => rfl) (fun x5_103 ex5_103 => ?_)
      obtain rfl : x5_103 = nI (i + 1 + 1) := by rw [ex5_103]; exact nI_1 (i + 1)
      refine z_goto 35 dX10_bestKick_106 (by decide) ?_
      refine z_lv [0, 1, 2, 5, 6, 7] rfl ?_
      have es : zSr (rSc (fun i M => up2 M 75 (12 + j) (nI (i + 1))) n (rCp μ 91 75 0 0 21)) (fun i => nI (i + 1)) 0 0 (i + 1) = (nI (i + 1), (rSc (fun i M => up2 M 75 (12 + j) (nI (i + 1))) n (rCp μ 91 75 0 0 21)) i) := by
        rw [zSr]
        first | exact if_pos h60 | exact (if_neg h60).trans (if_pos h67) | exact (if_neg h60).trans (if_neg h67)
      rw [es] at H
      exact H
    · skip
      refine z_iload dX10_bestKick_63 rfl ?_
      refine z_iload dX10_bestKick_65 rfl ?_
      refine z_icmp_ge 74 dX10_bestKick_67 (by decide) (fun h67 => ?_) (fun h67 => ?_)
      · skip
        refine z_iconst (v := 0) dX10_bestKick_74 rfl ?_
        refine z_istore (i := 7) (fun y => [(7, .int y), (6, .int (rCost (rNow (up2 (rSe (fun i M => up2 M 75 (12 + j) (nI (i + 1))) n (rCp μ 91 75 0 0 21) i) 75 (12 + j) (nI (i + 1))) n))), (5, .int (nI (i + 1))), (4, .int ((zSr (rSc (fun i M => up2 M 75 (12 + j) (nI (i + 1))) n (rCp μ 91 75 0 0 21)) (fun i => nI (i + 1)) 0 0 i).2)), (3, .int ((zSr (rSc (fun i M => up2 M 75 (12 + j) (nI (i + 1))) n (rCp μ 91 75 0 0 21)) (fun i => nI (i + 1)) 0 0 i).1)), (0, .ref 66), (1, .int (nI j)), (2, .int 0)]) dX10_bestKick_75 rfl (fun _ => rfl) (fun x9 e9 => ?_)
        subst e9
        refine z_iload dX10_bestKick_77 rfl ?_
        refine z_if_eq 87 dX10_bestKick_79 (by decide) (fun h79 => ?_) (fun h79 => absurd (by decide) h79)
        refine z_iload_n dX10_bestKick_87 rfl ?_
        refine z_istore_n (i := 3) (fun y => [(3, .int y), (7, .int 0), (6, .int (rCost (rNow (up2 (rSe (fun i M => up2 M 75 (12 + j) (nI (i + 1))) n (rCp μ 91 75 0 0 21) i) 75 (12 + j) (nI (i + 1))) n))), (5, .int (nI (i + 1))), (4, .int ((zSr (rSc (fun i M => up2 M 75 (12 + j) (nI (i + 1))) n (rCp μ 91 75 0 0 21)) (fun i => nI (i + 1)) 0 0 i).2)), (0, .ref 66), (1, .int (nI j)), (2, .int 0)]) dX10_bestKick_88 rfl rfl (fun _ => rfl) (fun x9 e9 => ?_)
        subst e9
        refine z_iload dX10_bestKick_89 rfl ?_
        refine z_if_eq 99 dX10_bestKick_91 (by decide) (fun h91 => ?_) (fun h91 => absurd (by decide) h91)
        refine z_iload dX10_bestKick_99 rfl ?_
        refine z_istore (i := 4) (fun y => [(4, .int y), (3, .int ((zSr (rSc (fun i M => up2 M 75 (12 + j) (nI (i + 1))) n (rCp μ 91 75 0 0 21)) (fun i => nI (i + 1)) 0 0 i).1)), (7, .int 0), (6, .int (rCost (rNow (up2 (rSe (fun i M => up2 M 75 (12 + j) (nI (i + 1))) n (rCp μ 91 75 0 0 21) i) 75 (12 + j) (nI (i + 1))) n))), (5, .int (nI (i + 1))), (0, .ref 66), (1, .int (nI j)), (2, .int 0)]) dX10_bestKick_101 rfl (fun _ => rfl) (fun x9 e9 => ?_)
        subst e9
        refine z_iinc (fun y => [(5, .int y), (4, .int ((zSr (rSc (fun i M => up2 M 75 (12 + j) (nI (i + 1))) n (rCp μ 91 75 0 0 21)) (fun i => nI (i + 1)) 0 0 i).2)), (3, .int ((zSr (rSc (fun i M => up2 M 75 (12 + j) (nI (i + 1))) n (rCp μ 91 75 0 0 21)) (fun i => nI (i + 1)) 0 0 i).1)), (7, .int 0), (6, .int (rCost (rNow (up2 (rSe (fun i M => up2 M 75 (12 + j) (nI (i + 1))) n (rCp μ 91 75 0 0 21) i) 75 (12 + j) (nI (i + 1))) n))), (0, .ref 66), (1, .int (nI j)), (2, .int 0)]) dX10_bestKick_103 rfl rfl (fun _ => rfl) (fun x5_103 ex5_103 => ?_)
        obtain rfl : x5_103 = nI (i + 1 + 1) := by rw [ex5_103]; exact nI_1 (i + 1)
        refine z_goto 35 dX10_bestKick_106 (by decide) ?_
        refine z_lv [0, 1, 2, 5, 6, 7] rfl ?_
        have es : zSr (rSc (fun i M => up2 M 75 (12 + j) (nI (i + 1))) n (rCp μ 91 75 0 0 21)) (fun i => nI (i + 1)) 0 0 (i + 1) = zSr (rSc (fun i M => up2 M 75 (12 + j) (nI (i + 1))) n (rCp μ 91 75 0 0 21)) (fun i => nI (i + 1)) 0 0 i := by
          rw [zSr]
          first | exact if_pos h60 | exact (if_neg h60).trans (if_pos h67) | exact (if_neg h60).trans (if_neg h67)
        rw [es] at H
        exact H
      · skip
        refine z_iconst (v := 1) dX10_bestKick_70 rfl ?_
        refine z_goto 75 dX10_bestKick_71 (by decide) ?_
        refine z_istore (i := 7) (fun y => [(7, .int y), (6, .int (rCost (rNow (up2 (rSe (fun i M => up2 M 75 (12 + j) (nI (i + 1))) n (rCp μ 91 75 0 0 21) i) 75 (12 + j) (nI (i + 1))) n))), (5, .int (nI (i + 1))), (4, .int ((zSr (rSc (fun i M => up2 M 75 (12 + j) (nI (i + 1))) n (rCp μ 91 75 0 0 21)) (fun i => nI (i + 1)) 0 0 i).2)), (3, .int ((zSr (rSc (fun i M => up2 M 75 (12 + j) (nI (i + 1))) n (rCp μ 91 75 0 0 21)) (fun i => nI (i + 1)) 0 0 i).1)), (0, .ref 66), (1, .int (nI j)), (2, .int 0)]) dX10_bestKick_75 rfl (fun _ => rfl) (fun x9 e9 => ?_)
        subst e9
        refine z_iload dX10_bestKick_77 rfl ?_
        refine z_if_eq 87 dX10_bestKick_79 (by decide) (fun h79 => absurd h79 (by decide)) (fun h79 => ?_)
        refine z_iload dX10_bestKick_82 rfl ?_
        refine z_goto 88 dX10_bestKick_84 (by decide) ?_
        refine z_istore_n (i := 3) (fun y => [(3, .int y), (7, .int 1), (6, .int (rCost (rNow (up2 (rSe (fun i M => up2 M 75 (12 + j) (nI (i + 1))) n (rCp μ 91 75 0 0 21) i) 75 (12 + j) (nI (i + 1))) n))), (5, .int (nI (i + 1))), (4, .int ((zSr (rSc (fun i M => up2 M 75 (12 + j) (nI (i + 1))) n (rCp μ 91 75 0 0 21)) (fun i => nI (i + 1)) 0 0 i).2)), (0, .ref 66), (1, .int (nI j)), (2, .int 0)]) dX10_bestKick_88 rfl rfl (fun _ => rfl) (fun x9 e9 => ?_)
        subst e9
        refine z_iload dX10_bestKick_89 rfl ?_
        refine z_if_eq 99 dX10_bestKick_91 (by decide) (fun h91 => absurd h91 (by decide)) (fun h91 => ?_)
        refine z_iload dX10_bestKick_94 rfl ?_
        refine z_goto 101 dX10_bestKick_96 (by decide) ?_
        refine z_istore (i := 4) (fun y => [(4, .int y), (3, .int (nI (i + 1))), (7, .int 1), (6, .int (rCost (rNow (up2 (rSe (fun i M => up2 M 75 (12 + j) (nI (i + 1))) n (rCp μ 91 75 0 0 21) i) 75 (12 + j) (nI (i + 1))) n))), (5, .int (nI (i + 1))), (0, .ref 66), (1, .int (nI j)), (2, .int 0)]) dX10_bestKick_101 rfl (fun _ => rfl) (fun x9 e9 => ?_)
        subst e9
        refine z_iinc (fun y => [(5, .int y), (4, .int (rCost (rNow (up2 (rSe (fun i M => up2 M 75 (12 + j) (nI (i + 1))) n (rCp μ 91 75 0 0 21) i) 75 (12 + j) (nI (i + 1))) n))), (3, .int (nI (i + 1))), (7, .int 1), (6, .int (rCost (rNow (up2 (rSe (fun i M => up2 M 75 (12 + j) (nI (i + 1))) n (rCp μ 91 75 0 0 21) i) 75 (12 + j) (nI (i + 1))) n))), (0, .ref 66), (1, .int (nI j)), (2, .int 0)]) dX10_bestKick_103 rfl rfl (fun _ => rfl) (fun x5_103 ex5_103 => ?_)
        obtain rfl : x5_103 = nI (i + 1 + 1) := by rw [ex5_103]; exact nI_1 (i + 1)
        refine z_goto 35 dX10_bestKick_106 (by decide) ?_
        refine z_lv [0, 1, 2, 5, 6, 7] rfl ?_
        have es : zSr (rSc (fun i M => up2 M 75 (12 + j) (nI (i + 1))) n (rCp μ 91 75 0 0 21)) (fun i => nI (i + 1)) 0 0 (i + 1) = (nI (i + 1), (rSc (fun i M => up2 M 75 (12 + j) (nI (i + 1))) n (rCp μ 91 75 0 0 21)) i) := by
          rw [zSr]
          first | exact if_pos h60 | exact (if_neg h60).trans (if_pos h67) | exact (if_neg h60).trans (if_neg h67)
        rw [es] at H
        exact H) (by
    refine z_iload dX10_bestKick_35 rfl ?_
    refine z_bipush (v := 10) dX10_bestKick_37 rfl ?_
    refine z_icmp_ge 109 dX10_bestKick_39 (by decide) (fun h39 => ?_) (fun h39 => absurd (nI_le (a := 10) (b := 10) (by decide) (by decide)) h39)
    refine z_aload_n dX10_bestKick_109 rfl ?_
    refine m_callVv (As := []) dX10_bestKick_110 kX10_248 ⟨rfl, rfl⟩ rfl ⟨rfl, rfl⟩ rfl rfl sh66 rfl rfl d_release (fun μ110 ν110 hk110 => ?_)
    obtain ⟨rfl, rfl⟩ := hk110
    refine z_iload_n dX10_bestKick_113 rfl ?_
    refine z_if_ne 121 dX10_bestKick_114 (by decide) (fun h114 => absurd (by decide) h114) (fun h114 => ?_)
    refine z_iload_n dX10_bestKick_117 rfl ?_
    refine z_goto 123 dX10_bestKick_118 (by decide) ?_
    refine m_iret dX10_bestKick_123 rfl rfl ?_
    exact ⟨rfl, rfl, rfl⟩)
  refine z_aload_n dX10_bestKick_0 rfl ?_
  refine z_iload_n dX10_bestKick_1 rfl ?_
  refine m_callV (As := [.int _]) dX10_bestKick_2 kX10_228 ⟨rfl, rfl⟩ rfl ⟨rfl, rfl⟩ rfl rfl sh66 rfl rfl (c_isOneT hn hz6 hj) (fun r2 μ2 ν2 hk2 => ?_)
  obtain ⟨rfl, rfl, rfl⟩ := hk2
  refine z_if_ne 11 dX10_bestKick_5 (by decide) (fun h5 => ?_) (fun h5 => absurd h5 (by decide))
  refine z_iload_n dX10_bestKick_11 rfl ?_
  refine z_iconst (v := 0) dX10_bestKick_12 rfl ?_
  refine z_iconst (v := 1) dX10_bestKick_13 rfl ?_
  refine m_callS (As := [.int _, .int _, .int _]) dX10_bestKick_14 kX10_108 ⟨rfl, rfl⟩ rfl ⟨rfl, rfl⟩ rfl rfl rfl (c_inT (v := 0) (lo := 0) (hi := 1) (by decide) (by decide) (by decide)) (fun r14 μ14 ν14 hk14 => ?_)
  obtain ⟨rfl, rfl, rfl⟩ := hk14
  refine z_if_ne 23 dX10_bestKick_17 (by decide) (fun h17 => ?_) (fun h17 => absurd h17 (by decide))
  refine z_aload_n dX10_bestKick_23 rfl ?_
  refine m_callVv (As := []) dX10_bestKick_24 kX10_245 ⟨rfl, rfl⟩ rfl ⟨rfl, rfl⟩ rfl rfl sh66 rfl rfl d_hold (fun μ24 ν24 hk24 => ?_)
  obtain ⟨rfl, rfl⟩ := hk24
  refine z_iconst (v := 0) dX10_bestKick_27 rfl ?_
  refine z_istore_n (i := 3) (fun y => [(3, .int y), (0, .ref 66), (1, .int (nI j)), (2, .int 0)]) dX10_bestKick_28 rfl rfl (fun _ => rfl) (fun x9 e9 => ?_)
  subst e9
  refine z_iconst (v := 0) dX10_bestKick_29 rfl ?_
  refine z_istore (i := 4) (fun y => [(4, .int y), (3, .int 0), (0, .ref 66), (1, .int (nI j)), (2, .int 0)]) dX10_bestKick_30 rfl (fun _ => rfl) (fun x9 e9 => ?_)
  subst e9
  refine z_iconst (v := 1) dX10_bestKick_32 rfl ?_
  refine z_istore (i := 5) (fun y => [(5, .int y), (4, .int 0), (3, .int 0), (0, .ref 66), (1, .int (nI j)), (2, .int 0)]) dX10_bestKick_33 rfl (fun _ => rfl) (fun x9 e9 => ?_)
  subst e9
  exact hL 0 (by decide)
set_option maxRecDepth 100000 in
set_option maxHeartbeats 400000 in
theorem d_bestKick_1 {l : Launch} {G : zG} {μ : Mem} {ν : Lng} {n : Nat} (hn : μ 66 17 = nI n) (hz6 : n ≤ 6) (hsd : zSidesM μ n) {j : Nat} (hj : j < n)  : Cm l G mX10_bestKick [.ref 66, .int (nI j), .int 1] μ ν (fun a9 b9 c9 => (zSr (rSc (fun i M => up2 M 75 (12 + j) (nI (i + 1))) n (rCp μ 91 75 0 0 21)) (fun i => nI (i + 1)) 0 0 9).2 = a9 ∧ rCp (rSe (fun i M => up2 M 75 (12 + j) (nI (i + 1))) n (rCp μ 91 75 0 0 21) 9) 75 91 0 0 21 = b9 ∧ ν = c9) := by
  refine Con.of (by decide) (Nat.le_of_ble_eq_true rfl) ?_
  show Am l G mX10_bestKick 0 [(0, .ref 66), (1, .int (nI j)), (2, .int 1)] [] μ ν _
  have g1 : ∀ i, zFr (rCp μ 91 75 0 0 21) (rSe (fun i M => up2 M 75 (12 + j) (nI (i + 1))) n (rCp μ 91 75 0 0 21) i) := fun i => rSe_fr (fun i M => zFr.up (by omega)) i
  have g2 : ∀ i, zFr (rCp μ 91 75 0 0 21) (up2 (rSe (fun i M => up2 M 75 (12 + j) (nI (i + 1))) n (rCp μ 91 75 0 0 21) i) 75 (12 + j) (nI (i + 1))) := fun i => (g1 i).tr (zFr.up (by omega))
  have hL := m_for (l := l) (G := G) (M := mX10_bestKick) (pc := 35) (ν := ν) (K := (fun a9 b9 c9 => (zSr (rSc (fun i M => up2 M 75 (12 + j) (nI (i + 1))) n (rCp μ 91 75 0 0 21)) (fun i => nI (i + 1)) 0 0 9).2 = a9 ∧ rCp (rSe (fun i M => up2 M 75 (12 + j) (nI (i + 1))) n (rCp μ 91 75 0 0 21) 9) 75 91 0 0 21 = b9 ∧ ν = c9)) (N := 9) (fun i => [(5, .int (nI (i + 1))), (4, .int ((zSr (rSc (fun i M => up2 M 75 (12 + j) (nI (i + 1))) n (rCp μ 91 75 0 0 21)) (fun i => nI (i + 1)) 0 0 i).2)), (3, .int ((zSr (rSc (fun i M => up2 M 75 (12 + j) (nI (i + 1))) n (rCp μ 91 75 0 0 21)) (fun i => nI (i + 1)) 0 0 i).1)), (0, .ref 66), (1, .int (nI j)), (2, .int 1)]) (fun i => rSe (fun i M => up2 M 75 (12 + j) (nI (i + 1))) n (rCp μ 91 75 0 0 21) i) (fun i hi H => by
    refine z_iload dX10_bestKick_35 rfl ?_
    refine z_bipush (v := 10) dX10_bestKick_37 rfl ?_
    refine z_icmp_ge 109 dX10_bestKick_39 (by decide) (fun h39 => absurd h39 (nI_ge (a := i + 1) (b := 10) (by omega) (by decide))) (fun h39 => ?_)
    refine z_aload_n dX10_bestKick_42 rfl ?_
    refine m_getr dX10_bestKick_43 fX10_38 sh66 rfl ?_
    refine z_bipush (v := 12) dX10_bestKick_46 rfl ?_
    refine z_iload_n dX10_bestKick_48 rfl ?_
    refine z_iadd dX10_bestKick_49 ?_
    rw [show (12 + nI j) = nI (12 + j) from z6a 12 j]
    refine z_iload dX10_bestKick_50 rfl ?_
    refine m_iastN (j := (12 + j)) dX10_bestKick_52 sh75 rfl (by omega) rfl ?_
    refine z_aload_n dX10_bestKick_53 rfl ?_
    refine m_callV (As := []) dX10_bestKick_54 kX10_223 ⟨rfl, rfl⟩ rfl ⟨rfl, rfl⟩ rfl rfl sh66 rfl rfl (d_cost ((g2 i).n (zFr.holdN hn)) hz6 ((g2 i).sd (zFr.holdS hsd))) (fun r54 μ54 ν54 hk54 => ?_)
    obtain ⟨rfl, rfl, rfl⟩ := hk54
    refine z_istore (i := 6) (fun y => [(6, .int y), (5, .int (nI (i + 1))), (4, .int ((zSr (rSc (fun i M => up2 M 75 (12 + j) (nI (i + 1))) n (rCp μ 91 75 0 0 21)) (fun i => nI (i + 1)) 0 0 i).2)), (3, .int ((zSr (rSc (fun i M => up2 M 75 (12 + j) (nI (i + 1))) n (rCp μ 91 75 0 0 21)) (fun i => nI (i + 1)) 0 0 i).1)), (0, .ref 66), (1, .int (nI j)), (2, .int 1)]) dX10_bestKick_57 rfl (fun _ => rfl) (fun x9 e9 => ?_)
    subst e9
    refine z_iload_n dX10_bestKick_59 rfl ?_
    refine z_if_eq 70 dX10_bestKick_60 (by decide) (fun h60 => ?_) (fun h60 => ?_)
    · skip
      refine z_iconst (v := 1) dX10_bestKick_70 rfl ?_
      refine z_goto 75 dX10_bestKick_71 (by decide) ?_
      refine z_istore (i := 7) (fun y => [(7, .int y), (6, .int (rCost (rNow (up2 (rSe (fun i M => up2 M 75 (12 + j) (nI (i + 1))) n (rCp μ 91 75 0 0 21) i) 75 (12 + j) (nI (i + 1))) n))), (5, .int (nI (i + 1))), (4, .int ((zSr (rSc (fun i M => up2 M 75 (12 + j) (nI (i + 1))) n (rCp μ 91 75 0 0 21)) (fun i => nI (i + 1)) 0 0 i).2)), (3, .int ((zSr (rSc (fun i M => up2 M 75 (12 + j) (nI (i + 1))) n (rCp μ 91 75 0 0 21)) (fun i => nI (i + 1)) 0 0 i).1)), (0, .ref 66), (1, .int (nI j)), (2, .int 1)]) dX10_bestKick_75 rfl (fun _ => rfl) (fun x9 e9 => ?_)
      subst e9
      refine z_iload dX10_bestKick_77 rfl ?_
      refine z_if_eq 87 dX10_bestKick_79 (by decide) (fun h79 => absurd h79 (by decide)) (fun h79 => ?_)
      refine z_iload dX10_bestKick_82 rfl ?_
      refine z_goto 88 dX10_bestKick_84 (by decide) ?_
      refine z_istore_n (i := 3) (fun y => [(3, .int y), (7, .int 1), (6, .int (rCost (rNow (up2 (rSe (fun i M => up2 M 75 (12 + j) (nI (i + 1))) n (rCp μ 91 75 0 0 21) i) 75 (12 + j) (nI (i + 1))) n))), (5, .int (nI (i + 1))), (4, .int ((zSr (rSc (fun i M => up2 M 75 (12 + j) (nI (i + 1))) n (rCp μ 91 75 0 0 21)) (fun i => nI (i + 1)) 0 0 i).2)), (0, .ref 66), (1, .int (nI j)), (2, .int 1)]) dX10_bestKick_88 rfl rfl (fun _ => rfl) (fun x9 e9 => ?_)
      subst e9
      refine z_iload dX10_bestKick_89 rfl ?_
      refine z_if_eq 99 dX10_bestKick_91 (by decide) (fun h91 => absurd h91 (by decide)) (fun h91 => ?_)
      refine z_iload dX10_bestKick_94 rfl ?_
      refine z_goto 101 dX10_bestKick_96 (by decide) ?_
      refine z_istore (i := 4) (fun y => [(4, .int y), (3, .int (nI (i + 1))), (7, .int 1), (6, .int (rCost (rNow (up2 (rSe (fun i M => up2 M 75 (12 + j) (nI (i + 1))) n (rCp μ 91 75 0 0 21) i) 75 (12 + j) (nI (i + 1))) n))), (5, .int (nI (i + 1))), (0, .ref 66), (1, .int (nI j)), (2, .int 1)]) dX10_bestKick_101 rfl (fun _ => rfl) (fun x9 e9 => ?_)
      subst e9
      refine z_iinc (fun y => [(5, .int y), (4, .int (rCost (rNow (up2 (rSe (fun i M => up2 M 75 (12 + j) (nI (i + 1))) n (rCp μ 91 75 0 0 21) i) 75 (12 + j) (nI (i + 1))) n))), (3, .int (nI (i + 1))), (7, .int 1), (6, .int (rCost (rNow (up2 (rSe (fun i M => up2 M 75 (12 + j) (nI (i + 1))) n (rCp μ 91 75 0 0 21) i) 75 (12 + j) (nI (i + 1))) n))), (0, .ref 66), (1, .int (nI j)), (2, .int 1)]) dX10_bestKick_103 rfl rfl (fun _ => rfl) (fun x5_103 ex5_103 => ?_)
      obtain rfl : x5_103 = nI (i + 1 + 1) := by rw [ex5_103]; exact nI_1 (i + 1)
      refine z_goto 35 dX10_bestKick_106 (by decide) ?_
      refine z_lv [0, 1, 2, 5, 6, 7] rfl ?_
      have es : zSr (rSc (fun i M => up2 M 75 (12 + j) (nI (i + 1))) n (rCp μ 91 75 0 0 21)) (fun i => nI (i + 1)) 0 0 (i + 1) = (nI (i + 1), (rSc (fun i M => up2 M 75 (12 + j) (nI (i + 1))) n (rCp μ 91 75 0 0 21)) i) := by
        rw [zSr]
        first | exact if_pos h60 | exact (if_neg h60).trans (if_pos h67) | exact (if_neg h60).trans (if_neg h67)
      rw [es] at H
      exact H
    · skip
      refine z_iload dX10_bestKick_63 rfl ?_
      refine z_iload dX10_bestKick_65 rfl ?_
      refine z_icmp_ge 74 dX10_bestKick_67 (by decide) (fun h67 => ?_) (fun h67 => ?_)
      · skip
        refine z_iconst (v := 0) dX10_bestKick_74 rfl ?_
        refine z_istore (i := 7) (fun y => [(7, .int y), (6, .int (rCost (rNow (up2 (rSe (fun i M => up2 M 75 (12 + j) (nI (i + 1))) n (rCp μ 91 75 0 0 21) i) 75 (12 + j) (nI (i + 1))) n))), (5, .int (nI (i + 1))), (4, .int ((zSr (rSc (fun i M => up2 M 75 (12 + j) (nI (i + 1))) n (rCp μ 91 75 0 0 21)) (fun i => nI (i + 1)) 0 0 i).2)), (3, .int ((zSr (rSc (fun i M => up2 M 75 (12 + j) (nI (i + 1))) n (rCp μ 91 75 0 0 21)) (fun i => nI (i + 1)) 0 0 i).1)), (0, .ref 66), (1, .int (nI j)), (2, .int 1)]) dX10_bestKick_75 rfl (fun _ => rfl) (fun x9 e9 => ?_)
        subst e9
        refine z_iload dX10_bestKick_77 rfl ?_
        refine z_if_eq 87 dX10_bestKick_79 (by decide) (fun h79 => ?_) (fun h79 => absurd (by decide) h79)
        refine z_iload_n dX10_bestKick_87 rfl ?_
        refine z_istore_n (i := 3) (fun y => [(3, .int y), (7, .int 0), (6, .int (rCost (rNow (up2 (rSe (fun i M => up2 M 75 (12 + j) (nI (i + 1))) n (rCp μ 91 75 0 0 21) i) 75 (12 + j) (nI (i + 1))) n))), (5, .int (nI (i + 1))), (4, .int ((zSr (rSc (fun i M => up2 M 75 (12 + j) (nI (i + 1))) n (rCp μ 91 75 0 0 21)) (fun i => nI (i + 1)) 0 0 i).2)), (0, .ref 66), (1, .int (nI j)), (2, .int 1)]) dX10_bestKick_88 rfl rfl (fun _ => rfl) (fun x9 e9 => ?_)
        subst e9
        refine z_iload dX10_bestKick_89 rfl ?_
        refine z_if_eq 99 dX10_bestKick_91 (by decide) (fun h91 => ?_) (fun h91 => absurd (by decide) h91)
        refine z_iload dX10_bestKick_99 rfl ?_
        refine z_istore (i := 4) (fun y => [(4, .int y), (3, .int ((zSr (rSc (fun i M => up2 M 75 (12 + j) (nI (i + 1))) n (rCp μ 91 75 0 0 21)) (fun i => nI (i + 1)) 0 0 i).1)), (7, .int 0), (6, .int (rCost (rNow (up2 (rSe (fun i M => up2 M 75 (12 + j) (nI (i + 1))) n (rCp μ 91 75 0 0 21) i) 75 (12 + j) (nI (i + 1))) n))), (5, .int (nI (i + 1))), (0, .ref 66), (1, .int (nI j)), (2, .int 1)]) dX10_bestKick_101 rfl (fun _ => rfl) (fun x9 e9 => ?_)
        subst e9
        refine z_iinc (fun y => [(5, .int y), (4, .int ((zSr (rSc (fun i M => up2 M 75 (12 + j) (nI (i + 1))) n (rCp μ 91 75 0 0 21)) (fun i => nI (i + 1)) 0 0 i).2)), (3, .int ((zSr (rSc (fun i M => up2 M 75 (12 + j) (nI (i + 1))) n (rCp μ 91 75 0 0 21)) (fun i => nI (i + 1)) 0 0 i).1)), (7, .int 0), (6, .int (rCost (rNow (up2 (rSe (fun i M => up2 M 75 (12 + j) (nI (i + 1))) n (rCp μ 91 75 0 0 21) i) 75 (12 + j) (nI (i + 1))) n))), (0, .ref 66), (1, .int (nI j)), (2, .int 1)]) dX10_bestKick_103 rfl rfl (fun _ => rfl) (fun x5_103 ex5_103 => ?_)
        obtain rfl : x5_103 = nI (i + 1 + 1) := by rw [ex5_103]; exact nI_1 (i + 1)
        refine z_goto 35 dX10_bestKick_106 (by decide) ?_
        refine z_lv [0, 1, 2, 5, 6, 7] rfl ?_
        have es : zSr (rSc (fun i M => up2 M 75 (12 + j) (nI (i + 1))) n (rCp μ 91 75 0 0 21)) (fun i => nI (i + 1)) 0 0 (i + 1) = zSr (rSc (fun i M => up2 M 75 (12 + j) (nI (i + 1))) n (rCp μ 91 75 0 0 21)) (fun i => nI (i + 1)) 0 0 i := by
          rw [zSr]
          first | exact if_pos h60 | exact (if_neg h60).trans (if_pos h67) | exact (if_neg h60).trans (if_neg h67)
        rw [es] at H
        exact H
      · skip
        refine z_iconst (v := 1) dX10_bestKick_70 rfl ?_
        refine z_goto 75 dX10_bestKick_71 (by decide) ?_
        refine z_istore (i := 7) (fun y => [(7, .int y), (6, .int (rCost (rNow (up2 (rSe (fun i M => up2 M 75 (12 + j) (nI (i + 1))) n (rCp μ 91 75 0 0 21) i) 75 (12 + j) (nI (i + 1))) n))), (5, .int (nI (i + 1))), (4, .int ((zSr (rSc (fun i M => up2 M 75 (12 + j) (nI (i + 1))) n (rCp μ 91 75 0 0 21)) (fun i => nI (i + 1)) 0 0 i).2)), (3, .int ((zSr (rSc (fun i M => up2 M 75 (12 + j) (nI (i + 1))) n (rCp μ 91 75 0 0 21)) (fun i => nI (i + 1)) 0 0 i).1)), (0, .ref 66), (1, .int (nI j)), (2, .int 1)]) dX10_bestKick_75 rfl (fun _ => rfl) (fun x9 e9 => ?_)
        subst e9
        refine z_iload dX10_bestKick_77 rfl ?_
        refine z_if_eq 87 dX10_bestKick_79 (by decide) (fun h79 => absurd h79 (by decide)) (fun h79 => ?_)
        refine z_iload dX10_bestKick_82 rfl ?_
        refine z_goto 88 dX10_bestKick_84 (by decide) ?_
        refine z_istore_n (i := 3) (fun y => [(3, .int y), (7, .int 1), (6, .int (rCost (rNow (up2 (rSe (fun i M => up2 M 75 (12 + j) (nI (i + 1))) n (rCp μ 91 75 0 0 21) i) 75 (12 + j) (nI (i + 1))) n))), (5, .int (nI (i + 1))), (4, .int ((zSr (rSc (fun i M => up2 M 75 (12 + j) (nI (i + 1))) n (rCp μ 91 75 0 0 21)) (fun i => nI (i + 1)) 0 0 i).2)), (0, .ref 66), (1, .int (nI j)), (2, .int 1)]) dX10_bestKick_88 rfl rfl (fun _ => rfl) (fun x9 e9 => ?_)
        subst e9
        refine z_iload dX10_bestKick_89 rfl ?_
        refine z_if_eq 99 dX10_bestKick_91 (by decide) (fun h91 => absurd h91 (by decide)) (fun h91 => ?_)
        refine z_iload dX10_bestKick_94 rfl ?_
        refine z_goto 101 dX10_bestKick_96 (by decide) ?_
        refine z_istore (i := 4) (fun y => [(4, .int y), (3, .int (nI (i + 1))), (7, .int 1), (6, .int (rCost (rNow (up2 (rSe (fun i M => up2 M 75 (12 + j) (nI (i + 1))) n (rCp μ 91 75 0 0 21) i) 75 (12 + j) (nI (i + 1))) n))), (5, .int (nI (i + 1))), (0, .ref 66), (1, .int (nI j)), (2, .int 1)]) dX10_bestKick_101 rfl (fun _ => rfl) (fun x9 e9 => ?_)
        subst e9
        refine z_iinc (fun y => [(5, .int y), (4, .int (rCost (rNow (up2 (rSe (fun i M => up2 M 75 (12 + j) (nI (i + 1))) n (rCp μ 91 75 0 0 21) i) 75 (12 + j) (nI (i + 1))) n))), (3, .int (nI (i + 1))), (7, .int 1), (6, .int (rCost (rNow (up2 (rSe (fun i M => up2 M 75 (12 + j) (nI (i + 1))) n (rCp μ 91 75 0 0 21) i) 75 (12 + j) (nI (i + 1))) n))), (0, .ref 66), (1, .int (nI j)), (2, .int 1)]) dX10_bestKick_103 rfl rfl (fun _ => rfl) (fun x5_103 ex5_103 => ?_)
        obtain rfl : x5_103 = nI (i + 1 + 1) := by rw [ex5_103]; exact nI_1 (i + 1)
        refine z_goto 35 dX10_bestKick_106 (by decide) ?_
        refine z_lv [0, 1, 2, 5, 6, 7] rfl ?_
        have es : zSr (rSc (fun i M => up2 M 75 (12 + j) (nI (i + 1))) n (rCp μ 91 75 0 0 21)) (fun i => nI (i + 1)) 0 0 (i + 1) = (nI (i + 1), (rSc (fun i M => up2 M 75 (12 + j) (nI (i + 1))) n (rCp μ 91 75 0 0 21)) i) := by
          rw [zSr]
          first | exact if_pos h60 | exact (if_neg h60).trans (if_pos h67) | exact (if_neg h60).trans (if_neg h67)
        rw [es] at H
        exact H) (by
    refine z_iload dX10_bestKick_35 rfl ?_
    refine z_bipush (v := 10) dX10_bestKick_37 rfl ?_
    refine z_icmp_ge 109 dX10_bestKick_39 (by decide) (fun h39 => ?_) (fun h39 => absurd (nI_le (a := 10) (b := 10) (by decide) (by decide)) h39)
    refine z_aload_n dX10_bestKick_109 rfl ?_
    refine m_callVv (As := []) dX10_bestKick_110 kX10_248 ⟨rfl, rfl⟩ rfl ⟨rfl, rfl⟩ rfl rfl sh66 rfl rfl d_release (fun μ110 ν110 hk110 => ?_)
    obtain ⟨rfl, rfl⟩ := hk110
    refine z_iload_n dX10_bestKick_113 rfl ?_
    refine z_if_ne 121 dX10_bestKick_114 (by decide) (fun h114 => ?_) (fun h114 => absurd h114 (by decide))
    refine z_iload dX10_bestKick_121 rfl ?_
    refine m_iret dX10_bestKick_123 rfl rfl ?_
    exact ⟨rfl, rfl, rfl⟩)
  refine z_aload_n dX10_bestKick_0 rfl ?_
  refine z_iload_n dX10_bestKick_1 rfl ?_
  refine m_callV (As := [.int _]) dX10_bestKick_2 kX10_228 ⟨rfl, rfl⟩ rfl ⟨rfl, rfl⟩ rfl rfl sh66 rfl rfl (c_isOneT hn hz6 hj) (fun r2 μ2 ν2 hk2 => ?_)
  obtain ⟨rfl, rfl, rfl⟩ := hk2
  refine z_if_ne 11 dX10_bestKick_5 (by decide) (fun h5 => ?_) (fun h5 => absurd h5 (by decide))
  refine z_iload_n dX10_bestKick_11 rfl ?_
  refine z_iconst (v := 0) dX10_bestKick_12 rfl ?_
  refine z_iconst (v := 1) dX10_bestKick_13 rfl ?_
  refine m_callS (As := [.int _, .int _, .int _]) dX10_bestKick_14 kX10_108 ⟨rfl, rfl⟩ rfl ⟨rfl, rfl⟩ rfl rfl rfl (c_inT (v := 1) (lo := 0) (hi := 1) (by decide) (by decide) (by decide)) (fun r14 μ14 ν14 hk14 => ?_)
  obtain ⟨rfl, rfl, rfl⟩ := hk14
  refine z_if_ne 23 dX10_bestKick_17 (by decide) (fun h17 => ?_) (fun h17 => absurd h17 (by decide))
  refine z_aload_n dX10_bestKick_23 rfl ?_
  refine m_callVv (As := []) dX10_bestKick_24 kX10_245 ⟨rfl, rfl⟩ rfl ⟨rfl, rfl⟩ rfl rfl sh66 rfl rfl d_hold (fun μ24 ν24 hk24 => ?_)
  obtain ⟨rfl, rfl⟩ := hk24
  refine z_iconst (v := 0) dX10_bestKick_27 rfl ?_
  refine z_istore_n (i := 3) (fun y => [(3, .int y), (0, .ref 66), (1, .int (nI j)), (2, .int 1)]) dX10_bestKick_28 rfl rfl (fun _ => rfl) (fun x9 e9 => ?_)
  subst e9
  refine z_iconst (v := 0) dX10_bestKick_29 rfl ?_
  refine z_istore (i := 4) (fun y => [(4, .int y), (3, .int 0), (0, .ref 66), (1, .int (nI j)), (2, .int 1)]) dX10_bestKick_30 rfl (fun _ => rfl) (fun x9 e9 => ?_)
  subst e9
  refine z_iconst (v := 1) dX10_bestKick_32 rfl ?_
  refine z_istore (i := 5) (fun y => [(5, .int y), (4, .int 0), (3, .int 0), (0, .ref 66), (1, .int (nI j)), (2, .int 1)]) dX10_bestKick_33 rfl (fun _ => rfl) (fun x9 e9 => ?_)
  subst e9
  exact hL 0 (by decide)

theorem zSr_congr {c c' id : Nat → Int32} {b0 l0 : Int32} : ∀ i, (∀ j, j < i → c j = c' j) → zSr c id b0 l0 i = zSr c' id b0 l0 i
  | 0, _ => rfl
  | i + 1, h => by rw [zSr, zSr, zSr_congr i (fun j hj => h j (by omega)), h i (by omega)]
theorem op_bestKick (w v : Int32) : zOp mX9_bestKick [.ref 0, .int w, .int v] mX10_bestKick [.ref 66, .int w, .int v] := by
  intro l G μ ν n h
  have h6 := h.1
  have hn := h.2.1
  have hm := h.2.2.1
  rcases zwho w n (by omega) with hw | ⟨j, hj, rfl⟩
  · exact zOp.same h (c_bestKick_w hn h6 hw) (d_bestKick_w hm h6 hw) rfl
  · rcases zrng v 0 1 (by decide) (by decide) with hb | ⟨a, -, ha, rfl⟩
    · exact zOp.same h (c_bestKick_o hn h6 hj hb) (d_bestKick_o hm h6 hj hb) rfl
    · have hs := h.hp.sides
      have f0 : zFc μ (gSt μ) := gSt_fc
      have hF : ∀ (i : Nat) (M : Mem), zFc M ((fun i M => up2 M 47 j (nI (i + 1))) i M) := fun i M => zFc.up (by decide)
      have f1 : ∀ i, zFc μ (gSe (fun i M => up2 M 47 j (nI (i + 1))) (fun _ => true) (fun i => nI (i + 1)) n (gSt μ) i) := fun i => f0.tr (gSe_fc h6 (f0.sd hs) hF i)
      have h2 := h.congr zKeepC.rf (f1 9).hi
      have hS : ∀ (i : Nat) (M : Mem), zFr M ((fun i M => up2 M 75 (12 + j) (nI (i + 1))) i M) := fun i M => zFr.up (by omega)
      have pk : ∀ i, i < 9 → zPk (zu (μ 75) (12 + j) (nI (i + 1))) n 1300 := fun i hi => h.k13.k (by omega) (by omega) (by omega) h6
      have zc : ∀ i, i < 9 → zN (zCo μ (zu (μ 75) (12 + j) (nI (i + 1))) n) 17940 := fun i hi => zC_N h.2.2.2.1 (pk i hi) h6
      have pl : ∀ i x, zPl (up2 (gSe (fun i M => up2 M 47 j (nI (i + 1))) (fun _ => true) (fun i => nI (i + 1)) n (gSt μ) i) 47 j x) 45 (zu (μ 75) (12 + j) x) n := by
        intro i
        induction i with
        | zero =>
          intro x
          refine zPl.k ?_ (by omega) h6
          show zPl (gSt μ) 45 (μ 75) n
          exact h.trial.congr (gSt_ne (by decide)) (gSt_ne (by decide)) (gSt_ne (by decide)) (gSt_ne (by decide))
        | succ i ih =>
          intro x
          have fs := (((f1 i).tr (hF i _)).sd hs)
          have e2 : ∀ q, 44 < q → q ≠ 47 → (gSe (fun i M => up2 M 47 j (nI (i + 1))) (fun _ => true) (fun i => nI (i + 1)) n (gSt μ) (i + 1)) q = (gSe (fun i M => up2 M 47 j (nI (i + 1))) (fun _ => true) (fun i => nI (i + 1)) n (gSt μ) i) q := fun q h1 h2 => by
            rw [gSe]
            split
            · rfl
            · rw [if_pos rfl, gWeigh_ne h6 fs h1]
              exact up2_ne h2
          have e3 : ∀ w, w ≠ j → (gSe (fun i M => up2 M 47 j (nI (i + 1))) (fun _ => true) (fun i => nI (i + 1)) n (gSt μ) (i + 1)) 47 w = (gSe (fun i M => up2 M 47 j (nI (i + 1))) (fun _ => true) (fun i => nI (i + 1)) n (gSt μ) i) 47 w := fun w h1 => by
            rw [gSe]
            split
            · rfl
            · rw [if_pos rfl, gWeigh_ne h6 fs (by decide)]
              exact (up2_row _ _ _ _ _).trans (if_neg h1)
          refine (ih x).congr ?_ ?_ ?_ ?_
          · rw [up2_ne (by decide), up2_ne (by decide), e2 _ (by decide) (by decide)]
          · rw [up2_ne (by decide), up2_ne (by decide), e2 _ (by decide) (by decide)]
          · funext w
            rw [up2_row, up2_row]
            by_cases e : w = j
            · rw [if_pos e, if_pos e]
            · rw [if_neg e, if_neg e, e3 w e]
          · rw [up2_ne (by decide), up2_ne (by decide), e2 _ (by decide) (by decide)]
      have hsel := gSe_sel (c := fun i => zCo μ (zu (μ 75) (12 + j) (nI (i + 1))) n) (g := fun _ => true) (id := fun i => nI (i + 1)) (N := 9) h6 (f0.sd hs) hF (fun i M => up2_ne (by decide)) (fun i hi _ => h.clsCost ((f1 i).tr (hF i _)) (pl i _) (pk i hi)) zc (fun i hi e => absurd e (by decide)) 9 (Nat.le_refl 9)
      rw [show gSt μ 44 6 = 1000000000 from up2_same _ _ _ _] at hsel
      have hr : ∀ M : Mem, zFc μ M → ∀ i, i < 9 → rSc (fun i M => up2 M 75 (12 + j) (nI (i + 1))) n (rCp M 91 75 0 0 21) i = zCo μ (zu (μ 75) (12 + j) (nI (i + 1))) n := fun M hM i hi => by
        have r75 : ∀ i k, k ≠ 12 + j → rSe (fun i M => up2 M 75 (12 + j) (nI (i + 1))) n (rCp M 91 75 0 0 21) i 75 k = μ 75 k := by
          intro i
          induction i with
          | zero => intro k _; rw [rSe, h.held hM]
          | succ i ih => intro k hk; rw [rSe, rNow_eq.1 75 (by unfold zMe; omega)]; exact ((up2_row _ _ _ _ _).trans (if_neg hk)).trans (ih k hk)
        refine h.refCost hM ((rSe_fr hS i).tr (hS i _)) ?_ (pk i hi)
        refine zPq.of h6 (fun k hk => ?_)
        refine (up2_row _ _ _ _ _).trans ?_
        by_cases e : k = 12 + j
        · rw [if_pos e, e, zu_at]
        · rw [if_neg e, zu_ne e, r75 i k e]
      have hrc : ∀ M : Mem, zFc μ M → zSr (rSc (fun i M => up2 M 75 (12 + j) (nI (i + 1))) n (rCp M 91 75 0 0 21)) (fun i => nI (i + 1)) 0 0 9 = zSel (fun i => zCo μ (zu (μ 75) (12 + j) (nI (i + 1))) n) (fun i => nI (i + 1)) (gSt μ 44 5) 1000000000 9 := fun M hM => by
        rw [← (zSr_eq (l0 := 0) (b0 := 0) (f0 := gSt μ 44 5) 8 (fun i hi => ⟨zc i (by omega), nI_ne0 (by omega) (by omega)⟩)).1]
        exact zSr_congr 9 (fun i hi => hr M hM i hi)
      rcases (show a = 0 ∨ a = 1 by omega) with rfl | rfl
      · refine zOp.tried h (c_bestKick_0 hn h6 hs hj) (d_bestKick_0 h2.2.2.1 h6 h2.hp.sidesM hj) ?_ (f1 9) (rSe_fr hS 9)
        rw [hrc _ (f1 9), ← hsel]
      · refine zOp.tried h (c_bestKick_1 hn h6 hs hj) (d_bestKick_1 h2.2.2.1 h6 h2.hp.sidesM hj) ?_ (f1 9) (rSe_fr hS 9)
        rw [hrc _ (f1 9), ← hsel]
