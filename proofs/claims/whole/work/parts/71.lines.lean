
theorem zNu_k {T : Nat → Int32} {L lo up : Nat} {s : zCu} (hs : s.1 = 0) (h : (zNu T L s lo up).1.1 = 0) : (zBk T L s.2.2.1 < L ∧ zDi (T (zBk T L s.2.2.1)) = true) ∧ zNk T L (zBk T L s.2.2.1) lo up = true := by
  by_cases h1 : zBk T L s.2.2.1 < L ∧ zDi (T (zBk T L s.2.2.1)) = true
  · by_cases h2 : zNk T L (zBk T L s.2.2.1) lo up = true
    · exact ⟨h1, h2⟩
    · rw [(zNu_2 hs h1 h2).1] at h
      exact absurd h (by decide)
  · rw [(zNu_3 hs h1).1] at h
    exact absurd h (by decide)
theorem d_numk {l : Launch} {G : zG} {M : Mem} {ν : Lng} {s : zCu} {t k n p f : Int32} {T : Nat → Int32} {L lo up : Nat} (hT : ∀ i, i < L → M 67 i = T i) (hL : M 66 0 = nI L) (hL2 : L ≤ 250) (ha : s.2.2.1 ≤ L) (hs : s.1 = 0) (hup : up ≤ 999) (hlo : lo ≤ 999) (hk : (zNu T L s lo up).1.1 = 0) : Cm l G mX10_isNumber [.ref 66, .int (nI lo), .int (nI up)] (mR M s.2.2.1 t k n p f) ν (fun a9 b9 c9 => (1 : Int32) = a9 ∧ mR M (zNu T L s lo up).1.2.2.1 (zNu T L s lo up).1.2.2.2 (-1) (nI (zNu T L s lo up).2) p f = b9 ∧ ν = c9) := d_num1 hT hL hL2 ha hup hlo (zNu_k hs hk).1 (zNu_k hs hk).2
/-- a fault told, all else as it was -/
def zBd (M : Mem) (p f : Int32) (N : Mem) : Prop := (∀ q, q ≠ 66 → q ≠ 68 → q ≠ 69 → N q = M q) ∧ (∀ j, j < 2 ∨ 15 < j → N 66 j = M 66 j) ∧ N 66 6 = p ∧ N 66 7 = f
theorem zBd.mk {M X : Mem} {a : Nat} {t k n p f : Int32} (h1 : ∀ q, q ≠ 66 → q ≠ 68 → q ≠ 69 → X q = M q) (h2 : ∀ j, j < 2 ∨ 15 < j → X 66 j = M 66 j) : zBd M p f (mR X a t k n p f) := ⟨fun q a1 a2 a3 => by rw [mR_ne a1]; exact h1 q a1 a2 a3, fun j hj => by rw [mR_row (by omega)]; exact h2 j hj, rfl, rfl⟩
set_option maxRecDepth 100000 in
set_option maxHeartbeats 400000 in
theorem d_glass1 {l : Launch} {G : zG} {M R : Mem} {ν : Lng} {s : zCu} {t k n p f : Int32} {T : Nat → Int32} {L : Nat} (hT : ∀ i, i < L → R 67 i = T i) (hL : R 66 0 = nI L) (hL2 : L ≤ 250) (ha : s.2.2.1 < L) (h255 : ∀ i, i < L → zN (T i) 255) (hs : s.1 = 0) (hfl : R 66 14 = M 1 9) (hk : (zG2 T L s (M 1 9) 1).1.1 = 0)  : Cm l G mX10_isGlassLine [.ref 66] (mR R (s.2.2.1 + 1) (nI s.2.2.1) k n p f) ν (fun a9 b9 c9 => (1 : Int32) = a9 ∧ mR (up2 (up2 R 66 14 1) 66 12 (nI (zG2 T L s (M 1 9) 1).2)) (zG2 T L s (M 1 9) 1).1.2.2.1 (zG2 T L s (M 1 9) 1).1.2.2.2 (-1) (nI (zG2 T L s (M 1 9) 1).2) p f = b9 ∧ ν = c9) := by
  refine Con.of (by decide) (Nat.le_of_ble_eq_true rfl) ?_
  show Am l G mX10_isGlassLine 0 [(0, .ref 66)] [] (mR R (s.2.2.1 + 1) (nI s.2.2.1) k n p f) ν _
  have hx : M 1 9 = 0 := Classical.byContradiction (fun q => by
    have e : zG1 s (M 1 9) = zFl s 3 (nI s.2.2.1) := if_neg q
    have := zNu_st (T := T) (L := L) (lo := 0) (hi := 1) (s := ((zG1 s (M 1 9)).1, (zG1 s (M 1 9)).2.1, s.2.2.1 + 1, (zG1 s (M 1 9)).2.2.2)) (by show ¬ (zG1 s (M 1 9)).1 = 0; rw [e]; exact zFl_f (by decide))
    have h9 : (zG2 T L s (M 1 9) 1).1.1 = (zG1 s (M 1 9)).1 := this.1
    rw [hk, e] at h9
    exact zFl_f (by decide) h9.symm)
  have e1 : zG1 s (M 1 9) = s := if_pos hx
  have e2 : (zG2 T L s (M 1 9) 1) = zNu T L (s.1, s.2.1, s.2.2.1 + 1, s.2.2.2) 0 1 := by unfold zG2; rw [e1]
  rw [e2] at hk ⊢
  refine z_aload_n dX10_isGlassLine_0 rfl ?_
  refine m_geti dX10_isGlassLine_1 fX10_149 sh66 rfl ?_
  rw [mR_row (by decide), hfl]
  refine z_if_eq 13 dX10_isGlassLine_4 (by decide) (fun h4 => ?_) (fun h4 => absurd hx h4)
  refine z_aload_n dX10_isGlassLine_13 rfl ?_
  refine z_iconst (v := 1) dX10_isGlassLine_14 rfl ?_
  refine m_puti dX10_isGlassLine_15 fX10_149 (fun q h => by cases h; rfl) rfl rfl sh66 rfl ?_
  rw [mR_u1 (by decide)]
  refine z_aload_n dX10_isGlassLine_18 rfl ?_
  refine z_iconst (v := 0) dX10_isGlassLine_19 rfl ?_
  refine z_iconst (v := 1) dX10_isGlassLine_20 rfl ?_
  refine m_callV (As := [.int _, .int _]) dX10_isGlassLine_21 kX10_139 ⟨rfl, rfl⟩ rfl ⟨rfl, rfl⟩ rfl rfl sh66 rfl rfl (d_numk (T := T) (L := L) (s := (s.1, s.2.1, s.2.2.1 + 1, s.2.2.2)) (lo := 0) (up := 1) (fun i hi => by (repeat rw [up2_ne (by decide)]); exact hT i hi) (by (repeat first | rw [up2_ne (by decide)] | rw [up2_row, if_neg (by decide)]); exact hL) hL2 (by exact ha) (by exact hs) (by decide) (by decide) hk) (fun r21 μ21 ν21 hk21 => ?_)
  obtain ⟨rfl, rfl, rfl⟩ := hk21
  refine z_if_ne 29 dX10_isGlassLine_24 (by decide) (fun h24 => ?_) (fun h24 => absurd h24 (by decide))
  refine z_aload_n dX10_isGlassLine_29 rfl ?_
  refine z_aload_n dX10_isGlassLine_30 rfl ?_
  refine m_geti dX10_isGlassLine_31 fX10_123 sh66 rfl ?_
  rw [mR_5]
  refine m_puti dX10_isGlassLine_34 fX10_153 (fun q h => by cases h; rfl) rfl rfl sh66 rfl ?_
  refine z_iconst (v := 1) dX10_isGlassLine_37 rfl ?_
  refine m_iret dX10_isGlassLine_38 rfl rfl ?_
  rw [mR_u1 (by decide)]
  exact ⟨rfl, rfl, rfl⟩
set_option maxRecDepth 100000 in
set_option maxHeartbeats 400000 in
theorem d_glass0 {l : Launch} {G : zG} {M R : Mem} {ν : Lng} {s : zCu} {t k n p f : Int32} {T : Nat → Int32} {L : Nat} (hT : ∀ i, i < L → R 67 i = T i) (hL : R 66 0 = nI L) (hL2 : L ≤ 250) (ha : s.2.2.1 < L) (h255 : ∀ i, i < L → zN (T i) 255) (hs : s.1 = 0) (hfl : R 66 14 = M 1 9) (hk : ¬ (zG2 T L s (M 1 9) 1).1.1 = 0)  : Cm l G mX10_isGlassLine [.ref 66] (mR R (s.2.2.1 + 1) (nI s.2.2.1) k n p f) ν (fun a9 b9 c9 => (0 : Int32) = a9 ∧ zBd R (zG2 T L s (M 1 9) 1).1.2.1 (zG2 T L s (M 1 9) 1).1.1 b9 ∧ ν = c9) := by
  refine Con.of (by decide) (Nat.le_of_ble_eq_true rfl) ?_
  show Am l G mX10_isGlassLine 0 [(0, .ref 66)] [] (mR R (s.2.2.1 + 1) (nI s.2.2.1) k n p f) ν _
  by_cases hx : M 1 9 = 0
  · have e1 : zG1 s (M 1 9) = s := if_pos hx
    have e2 : (zG2 T L s (M 1 9) 1) = zNu T L (s.1, s.2.1, s.2.2.1 + 1, s.2.2.2) 0 1 := by unfold zG2; rw [e1]
    rw [e2] at hk ⊢
    refine z_aload_n dX10_isGlassLine_0 rfl ?_
    refine m_geti dX10_isGlassLine_1 fX10_149 sh66 rfl ?_
    rw [mR_row (by decide), hfl]
    refine z_if_eq 13 dX10_isGlassLine_4 (by decide) (fun h4 => ?_) (fun h4 => absurd hx h4)
    refine z_aload_n dX10_isGlassLine_13 rfl ?_
    refine z_iconst (v := 1) dX10_isGlassLine_14 rfl ?_
    refine m_puti dX10_isGlassLine_15 fX10_149 (fun q h => by cases h; rfl) rfl rfl sh66 rfl ?_
    rw [mR_u1 (by decide)]
    refine z_aload_n dX10_isGlassLine_18 rfl ?_
    refine z_iconst (v := 0) dX10_isGlassLine_19 rfl ?_
    refine z_iconst (v := 1) dX10_isGlassLine_20 rfl ?_
    refine m_callV (As := [.int _, .int _]) dX10_isGlassLine_21 kX10_139 ⟨rfl, rfl⟩ rfl ⟨rfl, rfl⟩ rfl rfl sh66 rfl rfl (d_num0 (T := T) (L := L) (s := (s.1, s.2.1, s.2.2.1 + 1, s.2.2.2)) (lo := 0) (up := 1) (fun i hi => by (repeat rw [up2_ne (by decide)]); exact hT i hi) (by (repeat first | rw [up2_ne (by decide)] | rw [up2_row, if_neg (by decide)]); exact hL) hL2 (by exact ha) h255 (by exact hs) (by decide) (by decide) hk) (fun r21 μ21 ν21 hk21 => ?_)
    obtain ⟨rfl, ⟨a1, t1, k1, n1, rfl⟩, rfl⟩ := hk21
    refine z_if_ne 29 dX10_isGlassLine_24 (by decide) (fun h24 => absurd (by decide) h24) (fun h24 => ?_)
    refine z_iconst (v := 0) dX10_isGlassLine_27 rfl ?_
    refine m_iret dX10_isGlassLine_28 rfl rfl ?_
    exact ⟨rfl, zBd.mk (fun q a1 a2 a3 => up2_ne a1) (fun j hj => by rw [up2_row, if_neg (by omega)]), rfl⟩
  · have e1 : zG1 s (M 1 9) = zFl s 3 (nI s.2.2.1) := if_neg hx
    have e3 := zNu_st (T := T) (L := L) (lo := 0) (hi := 1) (s := ((zG1 s (M 1 9)).1, (zG1 s (M 1 9)).2.1, s.2.2.1 + 1, (zG1 s (M 1 9)).2.2.2)) (by show ¬ (zG1 s (M 1 9)).1 = 0; rw [e1]; exact zFl_f (by decide))
    have e4 : (zG2 T L s (M 1 9) 1).1.1 = (zG1 s (M 1 9)).1 := e3.1
    have e5 : (zG2 T L s (M 1 9) 1).1.2.1 = (zG1 s (M 1 9)).2.1 := e3.2
    rw [e4, e5, e1, zFl_0 hs]
    refine z_aload_n dX10_isGlassLine_0 rfl ?_
    refine m_geti dX10_isGlassLine_1 fX10_149 sh66 rfl ?_
    rw [mR_row (by decide), hfl]
    refine z_if_eq 13 dX10_isGlassLine_4 (by decide) (fun h4 => absurd h4 hx) (fun h4 => ?_)
    refine z_aload_n dX10_isGlassLine_7 rfl ?_
    refine z_iconst (v := 3) dX10_isGlassLine_8 rfl ?_
    refine m_callV (As := [.int _]) dX10_isGlassLine_9 kX10_135 ⟨rfl, rfl⟩ rfl ⟨rfl, rfl⟩ rfl rfl sh66 rfl rfl d_fails (fun r9 μ9 ν9 hk9 => ?_)
    obtain ⟨rfl, rfl, rfl⟩ := hk9
    refine m_iret dX10_isGlassLine_12 rfl rfl ?_
    exact ⟨rfl, zBd.mk (fun q a1 a2 a3 => rfl) (fun j hj => rfl), rfl⟩
set_option maxRecDepth 100000 in
set_option maxHeartbeats 400000 in
theorem d_noise1 {l : Launch} {G : zG} {M R : Mem} {ν : Lng} {s : zCu} {t k n p f : Int32} {T : Nat → Int32} {L : Nat} (hT : ∀ i, i < L → R 67 i = T i) (hL : R 66 0 = nI L) (hL2 : L ≤ 250) (ha : s.2.2.1 < L) (h255 : ∀ i, i < L → zN (T i) 255) (hs : s.1 = 0) (hfl : R 66 15 = M 1 10) (hk : (zG2 T L s (M 1 10) 9).1.1 = 0)  : Cm l G mX10_isNoiseLine [.ref 66] (mR R (s.2.2.1 + 1) (nI s.2.2.1) k n p f) ν (fun a9 b9 c9 => (1 : Int32) = a9 ∧ mR (up2 (up2 R 66 15 1) 66 13 (nI (zG2 T L s (M 1 10) 9).2)) (zG2 T L s (M 1 10) 9).1.2.2.1 (zG2 T L s (M 1 10) 9).1.2.2.2 (-1) (nI (zG2 T L s (M 1 10) 9).2) p f = b9 ∧ ν = c9) := by
  refine Con.of (by decide) (Nat.le_of_ble_eq_true rfl) ?_
  show Am l G mX10_isNoiseLine 0 [(0, .ref 66)] [] (mR R (s.2.2.1 + 1) (nI s.2.2.1) k n p f) ν _
  have hx : M 1 10 = 0 := Classical.byContradiction (fun q => by
    have e : zG1 s (M 1 10) = zFl s 3 (nI s.2.2.1) := if_neg q
    have := zNu_st (T := T) (L := L) (lo := 0) (hi := 9) (s := ((zG1 s (M 1 10)).1, (zG1 s (M 1 10)).2.1, s.2.2.1 + 1, (zG1 s (M 1 10)).2.2.2)) (by show ¬ (zG1 s (M 1 10)).1 = 0; rw [e]; exact zFl_f (by decide))
    have h9 : (zG2 T L s (M 1 10) 9).1.1 = (zG1 s (M 1 10)).1 := this.1
    rw [hk, e] at h9
    exact zFl_f (by decide) h9.symm)
  have e1 : zG1 s (M 1 10) = s := if_pos hx
  have e2 : (zG2 T L s (M 1 10) 9) = zNu T L (s.1, s.2.1, s.2.2.1 + 1, s.2.2.2) 0 9 := by unfold zG2; rw [e1]
  rw [e2] at hk ⊢
  refine z_aload_n dX10_isNoiseLine_0 rfl ?_
  refine m_geti dX10_isNoiseLine_1 fX10_156 sh66 rfl ?_
  rw [mR_row (by decide), hfl]
  refine z_if_eq 13 dX10_isNoiseLine_4 (by decide) (fun h4 => ?_) (fun h4 => absurd hx h4)
  refine z_aload_n dX10_isNoiseLine_13 rfl ?_
  refine z_iconst (v := 1) dX10_isNoiseLine_14 rfl ?_
  refine m_puti dX10_isNoiseLine_15 fX10_156 (fun q h => by cases h; rfl) rfl rfl sh66 rfl ?_
  rw [mR_u1 (by decide)]
  refine z_aload_n dX10_isNoiseLine_18 rfl ?_
  refine z_iconst (v := 0) dX10_isNoiseLine_19 rfl ?_
  refine z_bipush (v := 9) dX10_isNoiseLine_20 rfl ?_
  refine m_callV (As := [.int _, .int _]) dX10_isNoiseLine_22 kX10_139 ⟨rfl, rfl⟩ rfl ⟨rfl, rfl⟩ rfl rfl sh66 rfl rfl (d_numk (T := T) (L := L) (s := (s.1, s.2.1, s.2.2.1 + 1, s.2.2.2)) (lo := 0) (up := 9) (fun i hi => by (repeat rw [up2_ne (by decide)]); exact hT i hi) (by (repeat first | rw [up2_ne (by decide)] | rw [up2_row, if_neg (by decide)]); exact hL) hL2 (by exact ha) (by exact hs) (by decide) (by decide) hk) (fun r22 μ22 ν22 hk22 => ?_)
  obtain ⟨rfl, rfl, rfl⟩ := hk22
  refine z_if_ne 30 dX10_isNoiseLine_25 (by decide) (fun h25 => ?_) (fun h25 => absurd h25 (by decide))
  refine z_aload_n dX10_isNoiseLine_30 rfl ?_
  refine z_aload_n dX10_isNoiseLine_31 rfl ?_
  refine m_geti dX10_isNoiseLine_32 fX10_123 sh66 rfl ?_
  rw [mR_5]
  refine m_puti dX10_isNoiseLine_35 fX10_159 (fun q h => by cases h; rfl) rfl rfl sh66 rfl ?_
  refine z_iconst (v := 1) dX10_isNoiseLine_38 rfl ?_
  refine m_iret dX10_isNoiseLine_39 rfl rfl ?_
  rw [mR_u1 (by decide)]
  exact ⟨rfl, rfl, rfl⟩
set_option maxRecDepth 100000 in
set_option maxHeartbeats 400000 in
theorem d_noise0 {l : Launch} {G : zG} {M R : Mem} {ν : Lng} {s : zCu} {t k n p f : Int32} {T : Nat → Int32} {L : Nat} (hT : ∀ i, i < L → R 67 i = T i) (hL : R 66 0 = nI L) (hL2 : L ≤ 250) (ha : s.2.2.1 < L) (h255 : ∀ i, i < L → zN (T i) 255) (hs : s.1 = 0) (hfl : R 66 15 = M 1 10) (hk : ¬ (zG2 T L s (M 1 10) 9).1.1 = 0)  : Cm l G mX10_isNoiseLine [.ref 66] (mR R (s.2.2.1 + 1) (nI s.2.2.1) k n p f) ν (fun a9 b9 c9 => (0 : Int32) = a9 ∧ zBd R (zG2 T L s (M 1 10) 9).1.2.1 (zG2 T L s (M 1 10) 9).1.1 b9 ∧ ν = c9) := by
  refine Con.of (by decide) (Nat.le_of_ble_eq_true rfl) ?_
  show Am l G mX10_isNoiseLine 0 [(0, .ref 66)] [] (mR R (s.2.2.1 + 1) (nI s.2.2.1) k n p f) ν _
  by_cases hx : M 1 10 = 0
  · have e1 : zG1 s (M 1 10) = s := if_pos hx
    have e2 : (zG2 T L s (M 1 10) 9) = zNu T L (s.1, s.2.1, s.2.2.1 + 1, s.2.2.2) 0 9 := by unfold zG2; rw [e1]
    rw [e2] at hk ⊢
    refine z_aload_n dX10_isNoiseLine_0 rfl ?_
    refine m_geti dX10_isNoiseLine_1 fX10_156 sh66 rfl ?_
    rw [mR_row (by decide), hfl]
    refine z_if_eq 13 dX10_isNoiseLine_4 (by decide) (fun h4 => ?_) (fun h4 => absurd hx h4)
    refine z_aload_n dX10_isNoiseLine_13 rfl ?_
    refine z_iconst (v := 1) dX10_isNoiseLine_14 rfl ?_
    refine m_puti dX10_isNoiseLine_15 fX10_156 (fun q h => by cases h; rfl) rfl rfl sh66 rfl ?_
    rw [mR_u1 (by decide)]
    refine z_aload_n dX10_isNoiseLine_18 rfl ?_
    refine z_iconst (v := 0) dX10_isNoiseLine_19 rfl ?_
    refine z_bipush (v := 9) dX10_isNoiseLine_20 rfl ?_
    refine m_callV (As := [.int _, .int _]) dX10_isNoiseLine_22 kX10_139 ⟨rfl, rfl⟩ rfl ⟨rfl, rfl⟩ rfl rfl sh66 rfl rfl (d_num0 (T := T) (L := L) (s := (s.1, s.2.1, s.2.2.1 + 1, s.2.2.2)) (lo := 0) (up := 9) (fun i hi => by (repeat rw [up2_ne (by decide)]); exact hT i hi) (by (repeat first | rw [up2_ne (by decide)] | rw [up2_row, if_neg (by decide)]); exact hL) hL2 (by exact ha) h255 (by exact hs) (by decide) (by decide) hk) (fun r22 μ22 ν22 hk22 => ?_)
    obtain ⟨rfl, ⟨a1, t1, k1, n1, rfl⟩, rfl⟩ := hk22
    refine z_if_ne 30 dX10_isNoiseLine_25 (by decide) (fun h25 => absurd (by decide) h25) (fun h25 => ?_)
    refine z_iconst (v := 0) dX10_isNoiseLine_28 rfl ?_
    refine m_iret dX10_isNoiseLine_29 rfl rfl ?_
    exact ⟨rfl, zBd.mk (fun q a1 a2 a3 => up2_ne a1) (fun j hj => by rw [up2_row, if_neg (by omega)]), rfl⟩
  · have e1 : zG1 s (M 1 10) = zFl s 3 (nI s.2.2.1) := if_neg hx
    have e3 := zNu_st (T := T) (L := L) (lo := 0) (hi := 9) (s := ((zG1 s (M 1 10)).1, (zG1 s (M 1 10)).2.1, s.2.2.1 + 1, (zG1 s (M 1 10)).2.2.2)) (by show ¬ (zG1 s (M 1 10)).1 = 0; rw [e1]; exact zFl_f (by decide))
    have e4 : (zG2 T L s (M 1 10) 9).1.1 = (zG1 s (M 1 10)).1 := e3.1
    have e5 : (zG2 T L s (M 1 10) 9).1.2.1 = (zG1 s (M 1 10)).2.1 := e3.2
    rw [e4, e5, e1, zFl_0 hs]
    refine z_aload_n dX10_isNoiseLine_0 rfl ?_
    refine m_geti dX10_isNoiseLine_1 fX10_156 sh66 rfl ?_
    rw [mR_row (by decide), hfl]
    refine z_if_eq 13 dX10_isNoiseLine_4 (by decide) (fun h4 => absurd h4 hx) (fun h4 => ?_)
    refine z_aload_n dX10_isNoiseLine_7 rfl ?_
    refine z_iconst (v := 3) dX10_isNoiseLine_8 rfl ?_
    refine m_callV (As := [.int _]) dX10_isNoiseLine_9 kX10_135 ⟨rfl, rfl⟩ rfl ⟨rfl, rfl⟩ rfl rfl sh66 rfl rfl d_fails (fun r9 μ9 ν9 hk9 => ?_)
    obtain ⟨rfl, rfl, rfl⟩ := hk9
    refine m_iret dX10_isNoiseLine_12 rfl rfl ?_
    exact ⟨rfl, zBd.mk (fun q a1 a2 a3 => rfl) (fun j hj => rfl), rfl⟩

theorem zL_14 {T : Nat → Int32} {L : Nat} {s : zCu} {M : Mem} : (¬ (zL1 T L s).1.1 = 0 → (zL4 T L s M).1.1 = (zL1 T L s).1.1 ∧ (zL4 T L s M).1.2.1 = (zL1 T L s).1.2.1) ∧ (¬ (zL2 T L s M).1 = 0 → (zL4 T L s M).1.1 = (zL2 T L s M).1 ∧ (zL4 T L s M).1.2.1 = (zL2 T L s M).2.1) ∧ (¬ (zL3 T L s M).1.1 = 0 → (zL4 T L s M).1.1 = (zL3 T L s M).1.1 ∧ (zL4 T L s M).1.2.1 = (zL3 T L s M).1.2.1) := by
  have h3 : ¬ (zL3 T L s M).1.1 = 0 → (zL4 T L s M).1.1 = (zL3 T L s M).1.1 ∧ (zL4 T L s M).1.2.1 = (zL3 T L s M).1.2.1 := fun h => zNu_st h
  have h2 : ¬ (zL2 T L s M).1 = 0 → (zL4 T L s M).1.1 = (zL2 T L s M).1 ∧ (zL4 T L s M).1.2.1 = (zL2 T L s M).2.1 := fun h => by
    have e : (zL3 T L s M).1.1 = (zL2 T L s M).1 ∧ (zL3 T L s M).1.2.1 = (zL2 T L s M).2.1 := zNu_st h
    obtain ⟨a1, a2⟩ := h3 (by rw [e.1]; exact h)
    exact ⟨a1.trans e.1, a2.trans e.2⟩
  refine ⟨fun h => ?_, h2, h3⟩
  have e : zL2 T L s M = (zL1 T L s).1 := by
    unfold zL2
    split
    · exact zFl_st h
    · rfl
  rw [e] at h2
  exact h2 h
theorem zv1 {v : Nat} (h : v ≤ 1) : nI 2 * nI v = nI (2 * v) := pk_mul 2 v
theorem d_l1k {l : Launch} {G : zG} {N : Mem} {ν : Lng} {s : zCu} {t k n p f : Int32} {T : Nat → Int32} {L : Nat} (hT : ∀ i, i < L → N 67 i = T i) (hL : N 66 0 = nI L) (hL2 : L ≤ 250) (ha : s.2.2.1 < L) (hs : s.1 = 0) (hk : (zL1 T L s).1.1 = 0) : Cm l G mX10_isNumber [.ref 66, .int 0, .int 1] (mR N (s.2.2.1 + 1) t k n p f) ν (fun a9 b9 c9 => (1 : Int32) = a9 ∧ mR N (zL1 T L s).1.2.2.1 (zL1 T L s).1.2.2.2 (-1) (nI (zL1 T L s).2) p f = b9 ∧ ν = c9) := d_numk (s := (s.1, s.2.1, s.2.2.1 + 1, s.2.2.2)) (lo := 0) (up := 1) hT hL hL2 (by exact ha) hs (by decide) (by decide) hk
theorem d_l1b {l : Launch} {G : zG} {N : Mem} {ν : Lng} {s : zCu} {t k n p f : Int32} {T : Nat → Int32} {L : Nat} (hT : ∀ i, i < L → N 67 i = T i) (hL : N 66 0 = nI L) (hL2 : L ≤ 250) (ha : s.2.2.1 < L) (h255 : ∀ i, i < L → zN (T i) 255) (hs : s.1 = 0) (hk : ¬ (zL1 T L s).1.1 = 0) : Cm l G mX10_isNumber [.ref 66, .int 0, .int 1] (mR N (s.2.2.1 + 1) t k n p f) ν (fun a9 b9 c9 => (0 : Int32) = a9 ∧ (∃ (a1 : Nat) (t1 k1 n1 : Int32), mR N a1 t1 k1 n1 (zL1 T L s).1.2.1 (zL1 T L s).1.1 = b9) ∧ ν = c9) := d_num0 (s := (s.1, s.2.1, s.2.2.1 + 1, s.2.2.2)) (lo := 0) (up := 1) hT hL hL2 (by exact ha) h255 hs (by decide) (by decide) hk
theorem d_l3k {l : Launch} {G : zG} {M N : Mem} {ν : Lng} {s : zCu} {t k n p f : Int32} {T : Nat → Int32} {L : Nat} (hT : ∀ i, i < L → N 67 i = T i) (hL : N 66 0 = nI L) (hL2 : L ≤ 250) (ha : s.2.2.1 < L) (hs : (zL2 T L s M).1 = 0) (hk : (zL3 T L s M).1.1 = 0) : Cm l G mX10_isNumber [.ref 66, .int 1, .int 9] (mR N (zL2 T L s M).2.2.1 t k n p f) ν (fun a9 b9 c9 => (1 : Int32) = a9 ∧ mR N (zL3 T L s M).1.2.2.1 (zL3 T L s M).1.2.2.2 (-1) (nI (zL3 T L s M).2) p f = b9 ∧ ν = c9) := d_numk (s := zL2 T L s M) (lo := 1) (up := 9) hT hL hL2 (by rw [zL2_a]; exact (zL1_a ha).2) hs (by decide) (by decide) hk
theorem d_l3b {l : Launch} {G : zG} {M N : Mem} {ν : Lng} {s : zCu} {t k n p f : Int32} {T : Nat → Int32} {L : Nat} (hT : ∀ i, i < L → N 67 i = T i) (hL : N 66 0 = nI L) (hL2 : L ≤ 250) (ha : s.2.2.1 < L) (h255 : ∀ i, i < L → zN (T i) 255) (hs : (zL2 T L s M).1 = 0) (hk : ¬ (zL3 T L s M).1.1 = 0) : Cm l G mX10_isNumber [.ref 66, .int 1, .int 9] (mR N (zL2 T L s M).2.2.1 t k n p f) ν (fun a9 b9 c9 => (0 : Int32) = a9 ∧ (∃ (a1 : Nat) (t1 k1 n1 : Int32), mR N a1 t1 k1 n1 (zL3 T L s M).1.2.1 (zL3 T L s M).1.1 = b9) ∧ ν = c9) := d_num0 (s := zL2 T L s M) (lo := 1) (up := 9) hT hL hL2 (by rw [zL2_a]; exact (zL1_a ha).2) h255 hs (by decide) (by decide) hk
theorem d_l4k {l : Launch} {G : zG} {M N : Mem} {ν : Lng} {s : zCu} {t k n p f : Int32} {T : Nat → Int32} {L : Nat} (hT : ∀ i, i < L → N 67 i = T i) (hL : N 66 0 = nI L) (hL2 : L ≤ 250) (ha : s.2.2.1 < L) (hs : (zL3 T L s M).1.1 = 0) (hk : (zL4 T L s M).1.1 = 0) : Cm l G mX10_isNumber [.ref 66, .int 0, .int 9] (mR N (zL3 T L s M).1.2.2.1 t k n p f) ν (fun a9 b9 c9 => (1 : Int32) = a9 ∧ mR N (zL4 T L s M).1.2.2.1 (zL4 T L s M).1.2.2.2 (-1) (nI (zL4 T L s M).2) p f = b9 ∧ ν = c9) := d_numk (s := (zL3 T L s M).1) (lo := 0) (up := 9) hT hL hL2 (zL3_a ha).2 hs (by decide) (by decide) hk
theorem d_l4b {l : Launch} {G : zG} {M N : Mem} {ν : Lng} {s : zCu} {t k n p f : Int32} {T : Nat → Int32} {L : Nat} (hT : ∀ i, i < L → N 67 i = T i) (hL : N 66 0 = nI L) (hL2 : L ≤ 250) (ha : s.2.2.1 < L) (h255 : ∀ i, i < L → zN (T i) 255) (hs : (zL3 T L s M).1.1 = 0) (hk : ¬ (zL4 T L s M).1.1 = 0) : Cm l G mX10_isNumber [.ref 66, .int 0, .int 9] (mR N (zL3 T L s M).1.2.2.1 t k n p f) ν (fun a9 b9 c9 => (0 : Int32) = a9 ∧ (∃ (a1 : Nat) (t1 k1 n1 : Int32), mR N a1 t1 k1 n1 (zL4 T L s M).1.2.1 (zL4 T L s M).1.1 = b9) ∧ ν = c9) := d_num0 (s := (zL3 T L s M).1) (lo := 0) (up := 9) hT hL hL2 (zL3_a ha).2 h255 hs (by decide) (by decide) hk
set_option maxRecDepth 100000 in
set_option maxHeartbeats 400000 in
theorem d_leaf1 {l : Launch} {G : zG} {M R : Mem} {ν : Lng} {s : zCu} {t k n p f : Int32} {T : Nat → Int32} {L : Nat} (hT : ∀ i, i < L → R 67 i = T i) (hL : R 66 0 = nI L) (hL2 : L ≤ 250) (ha : s.2.2.1 < L) (h255 : ∀ i, i < L → zN (T i) 255) (hs : s.1 = 0) {x : Nat} (hx4 : x < 4) (hx : R 66 11 = nI x) (hxm : M 14 (zL1 T L s).2 = 1 ↔ (x >>> (zL1 T L s).2) % 2 = 1) (k4 : (zL4 T L s M).1.1 = 0)  : Cm l G mX10_isLeafLine [.ref 66] (mR R (s.2.2.1 + 1) t k n p f) ν (fun a9 b9 c9 => (1 : Int32) = a9 ∧ mR (up2 (up2 (up2 R 66 11 (nI (x ||| 1 <<< (zL1 T L s).2))) 69 (2 * (zL1 T L s).2) (nI (zL3 T L s M).2)) 69 (2 * (zL1 T L s).2 + 1) (nI (zL4 T L s M).2)) (zL4 T L s M).1.2.2.1 (zL4 T L s M).1.2.2.2 (-1) (nI (zL4 T L s M).2) p f = b9 ∧ ν = c9) := by
  refine Con.of (by decide) (Nat.le_of_ble_eq_true rfl) ?_
  show Am l G mX10_isLeafLine 0 [(0, .ref 66)] [] (mR R (s.2.2.1 + 1) t k n p f) ν _
  have hv : (zL1 T L s).2 ≤ 1 := (zNu_v (by decide)).2
  have k3 : (zL3 T L s M).1.1 = 0 := Classical.byContradiction (fun q => q ((zL_14.2.2 q).1.symm.trans k4))
  have k2 : (zL2 T L s M).1 = 0 := Classical.byContradiction (fun q => q ((zL_14.2.1 q).1.symm.trans k4))
  have k1 : (zL1 T L s).1.1 = 0 := Classical.byContradiction (fun q => q ((zL_14 (M := M)).1 q |>.1.symm.trans k4))
  have nt : ¬ M 14 (zL1 T L s).2 = 1 := fun q => by
    have e : zL2 T L s M = zFl (zL1 T L s).1 4 (zL1 T L s).1.2.2.2 := if_pos q
    rw [e] at k2
    exact zFl_f (by decide) k2
  have nb1 : ¬ (x >>> (zL1 T L s).2) % 2 = 1 := fun q => nt (hxm.mpr q)
  have e2 : zL2 T L s M = (zL1 T L s).1 := if_neg nt
  refine z_aload_n dX10_isLeafLine_0 rfl ?_
  refine z_iconst (v := 0) dX10_isLeafLine_1 rfl ?_
  refine z_iconst (v := 1) dX10_isLeafLine_2 rfl ?_
  refine m_callV (As := [.int _, .int _]) dX10_isLeafLine_3 kX10_139 ⟨rfl, rfl⟩ rfl ⟨rfl, rfl⟩ rfl rfl sh66 rfl rfl (d_l1k (T := T) (L := L) (s := s) (fun i hi => by (repeat rw [up2_ne (by decide)]); exact hT i hi) (by (repeat first | rw [up2_ne (by decide)] | rw [up2_row, if_neg (by decide)]); exact hL) hL2 ha hs k1) (fun r3 μ3 ν3 hk3 => ?_)
  obtain ⟨rfl, rfl, rfl⟩ := hk3
  refine z_if_ne 11 dX10_isLeafLine_6 (by decide) (fun h6 => ?_) (fun h6 => absurd h6 (by decide))
  refine z_aload_n dX10_isLeafLine_11 rfl ?_
  refine m_geti dX10_isLeafLine_12 fX10_123 sh66 rfl ?_
  rw [mR_5]
  refine z_istore_n (i := 1) (fun y => [(1, .int y), (0, .ref 66)]) dX10_isLeafLine_15 rfl rfl (fun _ => rfl) (fun x9 e9 => ?_)
  subst e9
  refine z_aload_n dX10_isLeafLine_16 rfl ?_
  refine m_geti dX10_isLeafLine_17 fX10_143 sh66 rfl ?_
  rw [mR_row (by decide), hx]
  refine z_iload_n dX10_isLeafLine_20 rfl ?_
  refine z_ishr dX10_isLeafLine_21 ?_
  refine z_iconst (v := 1) dX10_isLeafLine_22 rfl ?_
  refine z_iand dX10_isLeafLine_23 ?_
  rw [show ((nI x >>> (nI (zL1 T L s).2 &&& 31)) &&& 1) = nI ((x >>> (zL1 T L s).2) % 2) from zbit (by omega) (by omega)]
  refine z_iconst (v := 1) dX10_isLeafLine_24 rfl ?_
  refine z_icmp_ne 34 dX10_isLeafLine_25 (by decide) (fun h25 => ?_) (fun h25 => absurd (zb1 h25) nb1)
  refine z_aload_n dX10_isLeafLine_34 rfl ?_
  refine z_aload_n dX10_isLeafLine_35 rfl ?_
  refine m_geti dX10_isLeafLine_36 fX10_143 sh66 rfl ?_
  rw [mR_row (by decide), hx]
  refine z_iconst (v := 1) dX10_isLeafLine_39 rfl ?_
  refine z_iload_n dX10_isLeafLine_40 rfl ?_
  refine z_ishl dX10_isLeafLine_41 ?_
  refine z_ior dX10_isLeafLine_42 ?_
  rw [show (nI x ||| (1 <<< (nI (zL1 T L s).2 &&& 31))) = nI (x ||| 1 <<< (zL1 T L s).2) from zbor (by omega) (by omega)]
  refine m_puti dX10_isLeafLine_43 fX10_143 (fun q h => by cases h; rfl) rfl rfl sh66 rfl ?_
  rw [mR_u1 (by decide)]
  rw [show mR (up2 R 66 11 (nI (x ||| 1 <<< (zL1 T L s).2))) (zL1 T L s).1.2.2.1 = mR (up2 R 66 11 (nI (x ||| 1 <<< (zL1 T L s).2))) (zL2 T L s M).2.2.1 by rw [e2]]
  refine z_aload_n dX10_isLeafLine_46 rfl ?_
  refine z_iconst (v := 1) dX10_isLeafLine_47 rfl ?_
  refine z_bipush (v := 9) dX10_isLeafLine_48 rfl ?_
  refine m_callV (As := [.int _, .int _]) dX10_isLeafLine_50 kX10_139 ⟨rfl, rfl⟩ rfl ⟨rfl, rfl⟩ rfl rfl sh66 rfl rfl (d_l3k (T := T) (L := L) (s := s) (M := M) (fun i hi => by (repeat rw [up2_ne (by decide)]); exact hT i hi) (by (repeat first | rw [up2_ne (by decide)] | rw [up2_row, if_neg (by decide)]); exact hL) hL2 ha k2 k3) (fun r50 μ50 ν50 hk50 => ?_)
  obtain ⟨rfl, rfl, rfl⟩ := hk50
  refine z_if_ne 58 dX10_isLeafLine_53 (by decide) (fun h53 => ?_) (fun h53 => absurd h53 (by decide))
  refine z_aload_n dX10_isLeafLine_58 rfl ?_
  refine m_getr dX10_isLeafLine_59 fX10_20 sh66 rfl ?_
  refine z_iconst (v := 2) dX10_isLeafLine_62 rfl ?_
  refine z_iload_n dX10_isLeafLine_63 rfl ?_
  refine z_imul dX10_isLeafLine_64 ?_
  rw [show (2 * nI (zL1 T L s).2) = nI (2 * (zL1 T L s).2) from zv1 hv]
  refine z_aload_n dX10_isLeafLine_65 rfl ?_
  refine m_geti dX10_isLeafLine_66 fX10_123 sh66 rfl ?_
  rw [mR_5]
  refine m_iastN (j := 2 * (zL1 T L s).2) dX10_isLeafLine_69 sh69 rfl (by omega) rfl ?_
  rw [mR_up (by decide)]
  refine z_aload_n dX10_isLeafLine_70 rfl ?_
  refine z_iconst (v := 0) dX10_isLeafLine_71 rfl ?_
  refine z_bipush (v := 9) dX10_isLeafLine_72 rfl ?_
  refine m_callV (As := [.int _, .int _]) dX10_isLeafLine_74 kX10_139 ⟨rfl, rfl⟩ rfl ⟨rfl, rfl⟩ rfl rfl sh66 rfl rfl (d_l4k (T := T) (L := L) (s := s) (M := M) (fun i hi => by (repeat rw [up2_ne (by decide)]); exact hT i hi) (by (repeat first | rw [up2_ne (by decide)] | rw [up2_row, if_neg (by decide)]); exact hL) hL2 ha k3 k4) (fun r74 μ74 ν74 hk74 => ?_)
  obtain ⟨rfl, rfl, rfl⟩ := hk74
  refine z_if_ne 82 dX10_isLeafLine_77 (by decide) (fun h77 => ?_) (fun h77 => absurd h77 (by decide))
  refine z_aload_n dX10_isLeafLine_82 rfl ?_
  refine m_getr dX10_isLeafLine_83 fX10_20 sh66 rfl ?_
  refine z_iconst (v := 2) dX10_isLeafLine_86 rfl ?_
  refine z_iload_n dX10_isLeafLine_87 rfl ?_
  refine z_imul dX10_isLeafLine_88 ?_
  rw [show (2 * nI (zL1 T L s).2) = nI (2 * (zL1 T L s).2) from zv1 hv]
  refine z_iconst (v := 1) dX10_isLeafLine_89 rfl ?_
  refine z_iadd dX10_isLeafLine_90 ?_
  rw [show (nI (2 * (zL1 T L s).2) + 1) = nI (2 * (zL1 T L s).2 + 1) from nI_1 _]
  refine z_aload_n dX10_isLeafLine_91 rfl ?_
  refine m_geti dX10_isLeafLine_92 fX10_123 sh66 rfl ?_
  rw [mR_5]
  refine m_iastN (j := 2 * (zL1 T L s).2 + 1) dX10_isLeafLine_95 sh69 rfl (by omega) rfl ?_
  refine z_iconst (v := 1) dX10_isLeafLine_96 rfl ?_
  refine m_iret dX10_isLeafLine_97 rfl rfl ?_
  rw [mR_up (by decide)]
  exact ⟨rfl, rfl, rfl⟩
set_option maxRecDepth 100000 in
set_option maxHeartbeats 400000 in
theorem d_leaf0 {l : Launch} {G : zG} {M R : Mem} {ν : Lng} {s : zCu} {t k n p f : Int32} {T : Nat → Int32} {L : Nat} (hT : ∀ i, i < L → R 67 i = T i) (hL : R 66 0 = nI L) (hL2 : L ≤ 250) (ha : s.2.2.1 < L) (h255 : ∀ i, i < L → zN (T i) 255) (hs : s.1 = 0) {x : Nat} (hx4 : x < 4) (hx : R 66 11 = nI x) (hxm : M 14 (zL1 T L s).2 = 1 ↔ (x >>> (zL1 T L s).2) % 2 = 1) (k4 : ¬ (zL4 T L s M).1.1 = 0)  : Cm l G mX10_isLeafLine [.ref 66] (mR R (s.2.2.1 + 1) t k n p f) ν (fun a9 b9 c9 => (0 : Int32) = a9 ∧ zBd R (zL4 T L s M).1.2.1 (zL4 T L s M).1.1 b9 ∧ ν = c9) := by
  refine Con.of (by decide) (Nat.le_of_ble_eq_true rfl) ?_
  show Am l G mX10_isLeafLine 0 [(0, .ref 66)] [] (mR R (s.2.2.1 + 1) t k n p f) ν _
  have hv : (zL1 T L s).2 ≤ 1 := (zNu_v (by decide)).2
  by_cases k1 : (zL1 T L s).1.1 = 0
  · by_cases nt : M 14 (zL1 T L s).2 = 1
    · have e : zL2 T L s M = zFl (zL1 T L s).1 4 (zL1 T L s).1.2.2.2 := if_pos nt
      have e3 := (zL_14 (T := T) (L := L) (s := s) (M := M)).2.1 (by rw [e]; exact zFl_f (by decide))
      rw [e3.1, e3.2, e, zFl_0 k1]
      refine z_aload_n dX10_isLeafLine_0 rfl ?_
      refine z_iconst (v := 0) dX10_isLeafLine_1 rfl ?_
      refine z_iconst (v := 1) dX10_isLeafLine_2 rfl ?_
      refine m_callV (As := [.int _, .int _]) dX10_isLeafLine_3 kX10_139 ⟨rfl, rfl⟩ rfl ⟨rfl, rfl⟩ rfl rfl sh66 rfl rfl (d_l1k (T := T) (L := L) (s := s) (fun i hi => by (repeat rw [up2_ne (by decide)]); exact hT i hi) (by (repeat first | rw [up2_ne (by decide)] | rw [up2_row, if_neg (by decide)]); exact hL) hL2 ha hs k1) (fun r3 μ3 ν3 hk3 => ?_)
      obtain ⟨rfl, rfl, rfl⟩ := hk3
      refine z_if_ne 11 dX10_isLeafLine_6 (by decide) (fun h6 => ?_) (fun h6 => absurd h6 (by decide))
      refine z_aload_n dX10_isLeafLine_11 rfl ?_
      refine m_geti dX10_isLeafLine_12 fX10_123 sh66 rfl ?_
      rw [mR_5]
      refine z_istore_n (i := 1) (fun y => [(1, .int y), (0, .ref 66)]) dX10_isLeafLine_15 rfl rfl (fun _ => rfl) (fun x9 e9 => ?_)
      subst e9
      refine z_aload_n dX10_isLeafLine_16 rfl ?_
      refine m_geti dX10_isLeafLine_17 fX10_143 sh66 rfl ?_
      rw [mR_row (by decide), hx]
      refine z_iload_n dX10_isLeafLine_20 rfl ?_
      refine z_ishr dX10_isLeafLine_21 ?_
      refine z_iconst (v := 1) dX10_isLeafLine_22 rfl ?_
      refine z_iand dX10_isLeafLine_23 ?_
      rw [show ((nI x >>> (nI (zL1 T L s).2 &&& 31)) &&& 1) = nI ((x >>> (zL1 T L s).2) % 2) from zbit (by omega) (by omega)]
      refine z_iconst (v := 1) dX10_isLeafLine_24 rfl ?_
      refine z_icmp_ne 34 dX10_isLeafLine_25 (by decide) (fun h25 => absurd (show nI ((x >>> (zL1 T L s).2) % 2) = 1 by rw [hxm.mp nt]; rfl) h25) (fun h25 => ?_)
      refine z_aload_n dX10_isLeafLine_28 rfl ?_
      refine z_iconst (v := 4) dX10_isLeafLine_29 rfl ?_
      refine m_callV (As := [.int _]) dX10_isLeafLine_30 kX10_135 ⟨rfl, rfl⟩ rfl ⟨rfl, rfl⟩ rfl rfl sh66 rfl rfl d_fails (fun r30 μ30 ν30 hk30 => ?_)
      obtain ⟨rfl, rfl, rfl⟩ := hk30
      refine m_iret dX10_isLeafLine_33 rfl rfl ?_
      exact ⟨rfl, zBd.mk (fun q a1 a2 a3 => rfl) (fun j hj => rfl), rfl⟩
    · have nb1 : ¬ (x >>> (zL1 T L s).2) % 2 = 1 := fun q => nt (hxm.mpr q)
      have e2 : zL2 T L s M = (zL1 T L s).1 := if_neg nt
      have k2 : (zL2 T L s M).1 = 0 := by rw [e2]; exact k1
      by_cases k3 : (zL3 T L s M).1.1 = 0
      · skip
        refine z_aload_n dX10_isLeafLine_0 rfl ?_
        refine z_iconst (v := 0) dX10_isLeafLine_1 rfl ?_
        refine z_iconst (v := 1) dX10_isLeafLine_2 rfl ?_
        refine m_callV (As := [.int _, .int _]) dX10_isLeafLine_3 kX10_139 ⟨rfl, rfl⟩ rfl ⟨rfl, rfl⟩ rfl rfl sh66 rfl rfl (d_l1k (T := T) (L := L) (s := s) (fun i hi => by (repeat rw [up2_ne (by decide)]); exact hT i hi) (by (repeat first | rw [up2_ne (by decide)] | rw [up2_row, if_neg (by decide)]); exact hL) hL2 ha hs k1) (fun r3 μ3 ν3 hk3 => ?_)
        obtain ⟨rfl, rfl, rfl⟩ := hk3
        refine z_if_ne 11 dX10_isLeafLine_6 (by decide) (fun h6 => ?_) (fun h6 => absurd h6 (by decide))
        refine z_aload_n dX10_isLeafLine_11 rfl ?_
        refine m_geti dX10_isLeafLine_12 fX10_123 sh66 rfl ?_
        rw [mR_5]
        refine z_istore_n (i := 1) (fun y => [(1, .int y), (0, .ref 66)]) dX10_isLeafLine_15 rfl rfl (fun _ => rfl) (fun x9 e9 => ?_)
        subst e9
        refine z_aload_n dX10_isLeafLine_16 rfl ?_
        refine m_geti dX10_isLeafLine_17 fX10_143 sh66 rfl ?_
        rw [mR_row (by decide), hx]
        refine z_iload_n dX10_isLeafLine_20 rfl ?_
        refine z_ishr dX10_isLeafLine_21 ?_
        refine z_iconst (v := 1) dX10_isLeafLine_22 rfl ?_
        refine z_iand dX10_isLeafLine_23 ?_
        rw [show ((nI x >>> (nI (zL1 T L s).2 &&& 31)) &&& 1) = nI ((x >>> (zL1 T L s).2) % 2) from zbit (by omega) (by omega)]
        refine z_iconst (v := 1) dX10_isLeafLine_24 rfl ?_
        refine z_icmp_ne 34 dX10_isLeafLine_25 (by decide) (fun h25 => ?_) (fun h25 => absurd (zb1 h25) nb1)
        refine z_aload_n dX10_isLeafLine_34 rfl ?_
        refine z_aload_n dX10_isLeafLine_35 rfl ?_
        refine m_geti dX10_isLeafLine_36 fX10_143 sh66 rfl ?_
        rw [mR_row (by decide), hx]
        refine z_iconst (v := 1) dX10_isLeafLine_39 rfl ?_
        refine z_iload_n dX10_isLeafLine_40 rfl ?_
        refine z_ishl dX10_isLeafLine_41 ?_
        refine z_ior dX10_isLeafLine_42 ?_
        rw [show (nI x ||| (1 <<< (nI (zL1 T L s).2 &&& 31))) = nI (x ||| 1 <<< (zL1 T L s).2) from zbor (by omega) (by omega)]
        refine m_puti dX10_isLeafLine_43 fX10_143 (fun q h => by cases h; rfl) rfl rfl sh66 rfl ?_
        rw [mR_u1 (by decide)]
        rw [show mR (up2 R 66 11 (nI (x ||| 1 <<< (zL1 T L s).2))) (zL1 T L s).1.2.2.1 = mR (up2 R 66 11 (nI (x ||| 1 <<< (zL1 T L s).2))) (zL2 T L s M).2.2.1 by rw [e2]]
        refine z_aload_n dX10_isLeafLine_46 rfl ?_
        refine z_iconst (v := 1) dX10_isLeafLine_47 rfl ?_
        refine z_bipush (v := 9) dX10_isLeafLine_48 rfl ?_
        refine m_callV (As := [.int _, .int _]) dX10_isLeafLine_50 kX10_139 ⟨rfl, rfl⟩ rfl ⟨rfl, rfl⟩ rfl rfl sh66 rfl rfl (d_l3k (T := T) (L := L) (s := s) (M := M) (fun i hi => by (repeat rw [up2_ne (by decide)]); exact hT i hi) (by (repeat first | rw [up2_ne (by decide)] | rw [up2_row, if_neg (by decide)]); exact hL) hL2 ha k2 k3) (fun r50 μ50 ν50 hk50 => ?_)
        obtain ⟨rfl, rfl, rfl⟩ := hk50
        refine z_if_ne 58 dX10_isLeafLine_53 (by decide) (fun h53 => ?_) (fun h53 => absurd h53 (by decide))
        refine z_aload_n dX10_isLeafLine_58 rfl ?_
        refine m_getr dX10_isLeafLine_59 fX10_20 sh66 rfl ?_
        refine z_iconst (v := 2) dX10_isLeafLine_62 rfl ?_
        refine z_iload_n dX10_isLeafLine_63 rfl ?_
        refine z_imul dX10_isLeafLine_64 ?_
        rw [show (2 * nI (zL1 T L s).2) = nI (2 * (zL1 T L s).2) from zv1 hv]
        refine z_aload_n dX10_isLeafLine_65 rfl ?_
        refine m_geti dX10_isLeafLine_66 fX10_123 sh66 rfl ?_
        rw [mR_5]
        refine m_iastN (j := 2 * (zL1 T L s).2) dX10_isLeafLine_69 sh69 rfl (by omega) rfl ?_
        rw [mR_up (by decide)]
        refine z_aload_n dX10_isLeafLine_70 rfl ?_
        refine z_iconst (v := 0) dX10_isLeafLine_71 rfl ?_
        refine z_bipush (v := 9) dX10_isLeafLine_72 rfl ?_
        refine m_callV (As := [.int _, .int _]) dX10_isLeafLine_74 kX10_139 ⟨rfl, rfl⟩ rfl ⟨rfl, rfl⟩ rfl rfl sh66 rfl rfl (d_l4b (T := T) (L := L) (s := s) (M := M) (fun i hi => by (repeat rw [up2_ne (by decide)]); exact hT i hi) (by (repeat first | rw [up2_ne (by decide)] | rw [up2_row, if_neg (by decide)]); exact hL) hL2 ha h255 k3 k4) (fun r74 μ74 ν74 hk74 => ?_)
        obtain ⟨rfl, ⟨a1, t1, k1, n1, rfl⟩, rfl⟩ := hk74
        refine z_if_ne 82 dX10_isLeafLine_77 (by decide) (fun h77 => absurd (by decide) h77) (fun h77 => ?_)
        refine z_iconst (v := 0) dX10_isLeafLine_80 rfl ?_
        refine m_iret dX10_isLeafLine_81 rfl rfl ?_
        exact ⟨rfl, zBd.mk (fun q a1 a2 a3 => by rw [up2_ne a3, up2_ne a1]) (fun j hj => by rw [up2_ne (by decide), up2_row, if_neg (by omega)]), rfl⟩
      · have e3 := (zL_14 (T := T) (L := L) (s := s) (M := M)).2.2 k3
        rw [e3.1, e3.2]
        refine z_aload_n dX10_isLeafLine_0 rfl ?_
        refine z_iconst (v := 0) dX10_isLeafLine_1 rfl ?_
        refine z_iconst (v := 1) dX10_isLeafLine_2 rfl ?_
        refine m_callV (As := [.int _, .int _]) dX10_isLeafLine_3 kX10_139 ⟨rfl, rfl⟩ rfl ⟨rfl, rfl⟩ rfl rfl sh66 rfl rfl (d_l1k (T := T) (L := L) (s := s) (fun i hi => by (repeat rw [up2_ne (by decide)]); exact hT i hi) (by (repeat first | rw [up2_ne (by decide)] | rw [up2_row, if_neg (by decide)]); exact hL) hL2 ha hs k1) (fun r3 μ3 ν3 hk3 => ?_)
        obtain ⟨rfl, rfl, rfl⟩ := hk3
        refine z_if_ne 11 dX10_isLeafLine_6 (by decide) (fun h6 => ?_) (fun h6 => absurd h6 (by decide))
        refine z_aload_n dX10_isLeafLine_11 rfl ?_
        refine m_geti dX10_isLeafLine_12 fX10_123 sh66 rfl ?_
        rw [mR_5]
        refine z_istore_n (i := 1) (fun y => [(1, .int y), (0, .ref 66)]) dX10_isLeafLine_15 rfl rfl (fun _ => rfl) (fun x9 e9 => ?_)
        subst e9
        refine z_aload_n dX10_isLeafLine_16 rfl ?_
        refine m_geti dX10_isLeafLine_17 fX10_143 sh66 rfl ?_
        rw [mR_row (by decide), hx]
        refine z_iload_n dX10_isLeafLine_20 rfl ?_
        refine z_ishr dX10_isLeafLine_21 ?_
        refine z_iconst (v := 1) dX10_isLeafLine_22 rfl ?_
        refine z_iand dX10_isLeafLine_23 ?_
        rw [show ((nI x >>> (nI (zL1 T L s).2 &&& 31)) &&& 1) = nI ((x >>> (zL1 T L s).2) % 2) from zbit (by omega) (by omega)]
        refine z_iconst (v := 1) dX10_isLeafLine_24 rfl ?_
        refine z_icmp_ne 34 dX10_isLeafLine_25 (by decide) (fun h25 => ?_) (fun h25 => absurd (zb1 h25) nb1)
        refine z_aload_n dX10_isLeafLine_34 rfl ?_
        refine z_aload_n dX10_isLeafLine_35 rfl ?_
        refine m_geti dX10_isLeafLine_36 fX10_143 sh66 rfl ?_
        rw [mR_row (by decide), hx]
        refine z_iconst (v := 1) dX10_isLeafLine_39 rfl ?_
        refine z_iload_n dX10_isLeafLine_40 rfl ?_
        refine z_ishl dX10_isLeafLine_41 ?_
        refine z_ior dX10_isLeafLine_42 ?_
        rw [show (nI x ||| (1 <<< (nI (zL1 T L s).2 &&& 31))) = nI (x ||| 1 <<< (zL1 T L s).2) from zbor (by omega) (by omega)]
        refine m_puti dX10_isLeafLine_43 fX10_143 (fun q h => by cases h; rfl) rfl rfl sh66 rfl ?_
        rw [mR_u1 (by decide)]
        rw [show mR (up2 R 66 11 (nI (x ||| 1 <<< (zL1 T L s).2))) (zL1 T L s).1.2.2.1 = mR (up2 R 66 11 (nI (x ||| 1 <<< (zL1 T L s).2))) (zL2 T L s M).2.2.1 by rw [e2]]
        refine z_aload_n dX10_isLeafLine_46 rfl ?_
        refine z_iconst (v := 1) dX10_isLeafLine_47 rfl ?_
        refine z_bipush (v := 9) dX10_isLeafLine_48 rfl ?_
        refine m_callV (As := [.int _, .int _]) dX10_isLeafLine_50 kX10_139 ⟨rfl, rfl⟩ rfl ⟨rfl, rfl⟩ rfl rfl sh66 rfl rfl (d_l3b (T := T) (L := L) (s := s) (M := M) (fun i hi => by (repeat rw [up2_ne (by decide)]); exact hT i hi) (by (repeat first | rw [up2_ne (by decide)] | rw [up2_row, if_neg (by decide)]); exact hL) hL2 ha h255 k2 k3) (fun r50 μ50 ν50 hk50 => ?_)
        obtain ⟨rfl, ⟨a1, t1, k1, n1, rfl⟩, rfl⟩ := hk50
        refine z_if_ne 58 dX10_isLeafLine_53 (by decide) (fun h53 => absurd (by decide) h53) (fun h53 => ?_)
        refine z_iconst (v := 0) dX10_isLeafLine_56 rfl ?_
        refine m_iret dX10_isLeafLine_57 rfl rfl ?_
        exact ⟨rfl, zBd.mk (fun q a1 a2 a3 => up2_ne a1) (fun j hj => by rw [up2_row, if_neg (by omega)]), rfl⟩
  · have e3 := (zL_14 (T := T) (L := L) (s := s) (M := M)).1 k1
    rw [e3.1, e3.2]
    refine z_aload_n dX10_isLeafLine_0 rfl ?_
    refine z_iconst (v := 0) dX10_isLeafLine_1 rfl ?_
    refine z_iconst (v := 1) dX10_isLeafLine_2 rfl ?_
    refine m_callV (As := [.int _, .int _]) dX10_isLeafLine_3 kX10_139 ⟨rfl, rfl⟩ rfl ⟨rfl, rfl⟩ rfl rfl sh66 rfl rfl (d_l1b (T := T) (L := L) (s := s) (fun i hi => by (repeat rw [up2_ne (by decide)]); exact hT i hi) (by (repeat first | rw [up2_ne (by decide)] | rw [up2_row, if_neg (by decide)]); exact hL) hL2 ha h255 hs k1) (fun r3 μ3 ν3 hk3 => ?_)
    obtain ⟨rfl, ⟨a1, t1, k1, n1, rfl⟩, rfl⟩ := hk3
    refine z_if_ne 11 dX10_isLeafLine_6 (by decide) (fun h6 => absurd (by decide) h6) (fun h6 => ?_)
    refine z_iconst (v := 0) dX10_isLeafLine_9 rfl ?_
    refine m_iret dX10_isLeafLine_10 rfl rfl ?_
    exact ⟨rfl, zBd.mk (fun q a1 a2 a3 => rfl) (fun j hj => rfl), rfl⟩
