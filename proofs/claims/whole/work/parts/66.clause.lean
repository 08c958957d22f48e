
def gCl (T : Nat → Int32) (L : Nat) (M : Mem) (s : zCu) : Mem × zCu :=
  if T s.2.2.1 = 108 then (gLe T L s M, zEn T L (zL4 T L s M).1)
  else if T s.2.2.1 = 119 then (if M 2 6 = nI 6 then (M, zFl s 3 (nI s.2.2.1)) else (gWt T L (s.1, s.2.1, s.2.2.1 + 1, s.2.2.2) M (M 2 6).toNatClampNeg, zEn T L (zWn T L (s.1, s.2.1, s.2.2.1 + 1, s.2.2.2) 7)))
  else if T s.2.2.1 = 103 then (gGl T L s M 9 3 1, zEn T L (zG2 T L s (M 1 9) 1).1)
  else if T s.2.2.1 = 110 then (gGl T L s M 10 4 9, zEn T L (zG2 T L s (M 1 10) 9).1)
  else (M, zFl s 1 (nI s.2.2.1))
def gNx (T : Nat → Int32) (L : Nat) (X : Mem × zCu) : Mem × zCu :=
  if X.2.1 = 0 then (if zBk T L X.2.2.2.1 < L then gCl T L X.1 (X.2.1, X.2.2.1, zBk T L X.2.2.2.1, X.2.2.2.2) else (X.1, (X.2.1, X.2.2.1, zBk T L X.2.2.2.1, X.2.2.2.2))) else X
def gIt (T : Nat → Int32) (L : Nat) (X : Mem × zCu) : Nat → Mem × zCu
  | 0 => X
  | i + 1 => gNx T L (gIt T L X i)
theorem gIt_stop {T : Nat → Int32} {L : Nat} {X : Mem × zCu} {i : Nat} (h : gNx T L (gIt T L X i) = gIt T L X i) : ∀ d, gIt T L X (i + d) = gIt T L X i
  | 0 => rfl
  | d + 1 => by
    have e := gIt_stop h d
    rw [← Nat.add_assoc, gIt, e, h]
theorem gIt_end {T : Nat → Int32} {L : Nat} {X : Mem × zCu} {i N : Nat} (hi : i ≤ N) (h : gNx T L (gIt T L X i) = gIt T L X i) : gIt T L X N = gIt T L X i := by
  obtain ⟨d, rfl⟩ : ∃ d, N = i + d := ⟨N - i, by omega⟩
  exact gIt_stop h d
/-- what a reader may rely on -/
def zRdi (T : Nat → Int32) (L : Nat) (X : Mem × zCu) : Prop := X.1 13 = T ∧ X.1 1 4 = nI L ∧ (∃ w : Nat, w ≤ 6 ∧ X.1 2 6 = nI w) ∧ X.2.2.2.1 ≤ L
theorem gCl_ri {T : Nat → Int32} {L : Nat} {M : Mem} {s : zCu} (h : zRdi T L (M, s)) (ha : s.2.2.1 < L) : zRdi T L (gCl T L M s) ∧ (s.2.2.1 < (gCl T L M s).2.2.2.1 ∨ ¬ (gCl T L M s).2.1 = 0) := by
  obtain ⟨h1, h2, ⟨w, h3, h4⟩, -⟩ := h
  have h1 : M 13 = T := h1
  have h2 : M 1 4 = nI L := h2
  have h4 : M 2 6 = nI w := h4
  unfold gCl
  by_cases e1 : T s.2.2.1 = 108
  · rw [if_pos e1]
    have q := zL4_a (T := T) (M := M) ha
    have q2 := zEn_a (T := T) q.2
    refine ⟨⟨?_, ?_, ⟨w, h3, ?_⟩, q2.2⟩, Or.inl (Nat.lt_of_lt_of_le q.1 q2.1)⟩
    · show gLe T L s M 13 = T
      unfold gLe
      rw [up2_ne (by decide), up2_ne (by decide), up2_ne (by decide)]; exact h1
    · show gLe T L s M 1 4 = nI L
      unfold gLe
      rw [up2_ne (by decide), up2_ne (by decide), up2_ne (by decide)]; exact h2
    · show gLe T L s M 2 6 = nI w
      unfold gLe
      rw [up2_ne (by decide), up2_ne (by decide), up2_ne (by decide)]; exact h4
  rw [if_neg e1]
  by_cases e2 : T s.2.2.1 = 119
  · rw [if_pos e2]
    by_cases e3 : M 2 6 = nI 6
    · rw [if_pos e3]
      refine ⟨⟨h1, h2, ⟨w, h3, h4⟩, ?_⟩, Or.inr (zFl_f (by decide))⟩
      show (zFl s 3 (nI s.2.2.1)).2.2.1 ≤ L
      rw [zFl_a]; omega
    · rw [if_neg e3]
      have hw : w < 6 := by
        rcases (show w = 6 ∨ w < 6 by omega) with rfl | q
        · exact absurd h4 e3
        · exact q
      have q := zWn_a (T := T) (L := L) (s := (s.1, s.2.1, s.2.2.1 + 1, s.2.2.2)) (by exact ha) 7
      have q2 := zEn_a (T := T) q.2
      refine ⟨⟨?_, ?_, ⟨w + 1, by omega, ?_⟩, q2.2⟩, Or.inl (Nat.lt_of_lt_of_le (show s.2.2.1 < s.2.2.1 + 1 by omega) (Nat.le_trans q.1 q2.1))⟩
      · show gWt T L (s.1, s.2.1, s.2.2.1 + 1, s.2.2.2) M (M 2 6).toNatClampNeg 13 = T
        unfold gWt
        (repeat rw [up2_ne (by decide)])
        exact h1
      · show gWt T L (s.1, s.2.1, s.2.2.1 + 1, s.2.2.2) M (M 2 6).toNatClampNeg 1 4 = nI L
        unfold gWt
        (repeat rw [up2_ne (by decide)])
        exact h2
      · show gWt T L (s.1, s.2.1, s.2.2.1 + 1, s.2.2.2) M (M 2 6).toNatClampNeg 2 6 = nI (w + 1)
        unfold gWt
        rw [up2_same, h4, nI_clamp (show w < 2 ^ 31 by omega)]
  rw [if_neg e2]
  by_cases e3 : T s.2.2.1 = 103
  · rw [if_pos e3]
    have q := zG2_a (T := T) (up := 1) (x := M 1 9) ha
    have q2 := zEn_a (T := T) q.2
    refine ⟨⟨?_, ?_, ⟨w, h3, ?_⟩, q2.2⟩, Or.inl (Nat.lt_of_lt_of_le q.1 q2.1)⟩
    · show gGl T L s M 9 3 1 13 = T
      unfold gGl
      rw [up2_ne (by decide), up2_ne (by decide)]; exact h1
    · show gGl T L s M 9 3 1 1 4 = nI L
      unfold gGl
      rw [up2_ne (by decide), up2_row, if_neg (by decide)]; exact h2
    · show gGl T L s M 9 3 1 2 6 = nI w
      unfold gGl
      rw [up2_ne (by decide), up2_ne (by decide)]; exact h4
  rw [if_neg e3]
  by_cases e4 : T s.2.2.1 = 110
  · rw [if_pos e4]
    have q := zG2_a (T := T) (up := 9) (x := M 1 10) ha
    have q2 := zEn_a (T := T) q.2
    refine ⟨⟨?_, ?_, ⟨w, h3, ?_⟩, q2.2⟩, Or.inl (Nat.lt_of_lt_of_le q.1 q2.1)⟩
    · show gGl T L s M 10 4 9 13 = T
      unfold gGl
      rw [up2_ne (by decide), up2_ne (by decide)]; exact h1
    · show gGl T L s M 10 4 9 1 4 = nI L
      unfold gGl
      rw [up2_ne (by decide), up2_row, if_neg (by decide)]; exact h2
    · show gGl T L s M 10 4 9 2 6 = nI w
      unfold gGl
      rw [up2_ne (by decide), up2_ne (by decide)]; exact h4
  rw [if_neg e4]
  refine ⟨⟨h1, h2, ⟨w, h3, h4⟩, ?_⟩, Or.inr (zFl_f (by decide))⟩
  show (zFl s 1 (nI s.2.2.1)).2.2.1 ≤ L
  rw [zFl_a]; omega
theorem gNx_ri {T : Nat → Int32} {L : Nat} {X : Mem × zCu} (h : zRdi T L X) : zRdi T L (gNx T L X) ∧ (X.2.2.2.1 < (gNx T L X).2.2.2.1 ∨ ¬ (gNx T L X).2.1 = 0 ∨ (gNx T L X).2.2.2.1 = L) := by
  obtain ⟨b1, b2, -, -⟩ := zBk_sp (T := T) h.2.2.2
  unfold gNx
  by_cases e : X.2.1 = 0
  · rw [if_pos e]
    by_cases e2 : zBk T L X.2.2.2.1 < L
    · rw [if_pos e2]
      obtain ⟨q1, q2⟩ := gCl_ri (T := T) (L := L) (M := X.1) (s := (X.2.1, X.2.2.1, zBk T L X.2.2.2.1, X.2.2.2.2)) ⟨h.1, h.2.1, h.2.2.1, b2⟩ e2
      refine ⟨q1, ?_⟩
      rcases q2 with q2 | q2
      · exact Or.inl (Nat.lt_of_le_of_lt b1 q2)
      · exact Or.inr (Or.inl q2)
    · rw [if_neg e2]
      exact ⟨⟨h.1, h.2.1, h.2.2.1, b2⟩, Or.inr (Or.inr (show zBk T L X.2.2.2.1 = L by omega))⟩
  · rw [if_neg e]
    exact ⟨h, Or.inr (Or.inl e)⟩
theorem gIt_ri {T : Nat → Int32} {L : Nat} {X : Mem × zCu} (h : zRdi T L X) : ∀ i, zRdi T L (gIt T L X i)
  | 0 => h
  | i + 1 => (gNx_ri (gIt_ri h i)).1
theorem zlkC {x : Int32} (h1 : ¬ x = 103) (h2 : ¬ x = 108) (h3 : ¬ x = 110) (h4 : ¬ x = 119) : Op.lookupswitch.offset [(103, 57), (108, 43), (110, 64), (119, 50)] 71 x.toInt = 71 := by
  have n : ∀ k : Int32, ¬ x = k → ¬ k.toInt = x.toInt := fun k hk e => hk (Int32.toInt_inj.mp e.symm)
  show (if (103 : Int32).toInt = x.toInt then (57 : Int) else if (108 : Int32).toInt = x.toInt then 43 else if (110 : Int32).toInt = x.toInt then 64 else if (119 : Int32).toInt = x.toInt then 50 else 71) = 71
  rw [if_neg (n 103 h1), if_neg (n 108 h2), if_neg (n 110 h3), if_neg (n 119 h4)]
set_option maxRecDepth 100000 in
set_option maxHeartbeats 400000 in
theorem c_clause_l {l : Launch} {G : zG} {M : Mem} {ν : Lng} {s : zCu} {T : Nat → Int32} {L : Nat} (hT : M 13 = T) (hL : M 1 4 = nI L) (hL2 : L ≤ 250) (ha : s.2.2.1 < L)  : Cm l G mX5_readClause [.ref 1, .int 108] (mC M s) ν (fun _ b9 c9 => mC (gLe T L s M) (zEn T L (zL4 T L s M).1) = b9 ∧ ν = c9) := by
  refine Con.of (by decide) (Nat.le_of_ble_eq_true rfl) ?_
  show Am l G mX5_readClause 0 [(0, .ref 1), (1, .int 108)] [] (mC M s) ν _
  refine z_iload_n dX5_readClause_0 rfl ?_
  refine z_lookup 44 dX5_readClause_1 rfl rfl (by decide) ?_
  refine z_aload_n dX5_readClause_44 rfl ?_
  refine m_callVv (As := []) dX5_readClause_45 kX5_72 ⟨rfl, rfl⟩ rfl ⟨rfl, rfl⟩ rfl rfl sh1 rfl rfl (c_readLeaf hT hL hL2 ha) (fun μ45 ν45 hk45 => ?_)
  obtain ⟨rfl, rfl⟩ := hk45
  refine z_goto 81 dX5_readClause_48 (by decide) ?_
  refine m_ret dX5_readClause_81 rfl ?_
  exact ⟨rfl, rfl⟩
set_option maxRecDepth 100000 in
set_option maxHeartbeats 400000 in
theorem c_clause_w6 {l : Launch} {G : zG} {M : Mem} {ν : Lng} {s : zCu} {T : Nat → Int32} {L : Nat} (hT : M 13 = T) (hL : M 1 4 = nI L) (hL2 : L ≤ 250) (ha : s.2.2.1 < L) (hw : M 2 6 = nI 6)  : Cm l G mX5_readClause [.ref 1, .int 119] (mC M s) ν (fun _ b9 c9 => mC M (zFl s 3 (nI s.2.2.1)) = b9 ∧ ν = c9) := by
  refine Con.of (by decide) (Nat.le_of_ble_eq_true rfl) ?_
  show Am l G mX5_readClause 0 [(0, .ref 1), (1, .int 119)] [] (mC M s) ν _
  refine z_iload_n dX5_readClause_0 rfl ?_
  refine z_lookup 51 dX5_readClause_1 rfl rfl (by decide) ?_
  refine z_aload_n dX5_readClause_51 rfl ?_
  refine m_callVv (As := []) dX5_readClause_52 kX5_75 ⟨rfl, rfl⟩ rfl ⟨rfl, rfl⟩ rfl rfl sh1 rfl rfl (c_readWaiter6 hT hL hL2 ha hw) (fun μ52 ν52 hk52 => ?_)
  obtain ⟨rfl, rfl⟩ := hk52
  refine z_goto 81 dX5_readClause_55 (by decide) ?_
  refine m_ret dX5_readClause_81 rfl ?_
  exact ⟨rfl, rfl⟩
set_option maxRecDepth 100000 in
set_option maxHeartbeats 400000 in
theorem c_clause_w {l : Launch} {G : zG} {M : Mem} {ν : Lng} {s : zCu} {T : Nat → Int32} {L : Nat} (hT : M 13 = T) (hL : M 1 4 = nI L) (hL2 : L ≤ 250) (ha : s.2.2.1 < L) {w : Nat} (hw : M 2 6 = nI w) (hw6 : w < 6)  : Cm l G mX5_readClause [.ref 1, .int 119] (mC M s) ν (fun _ b9 c9 => mC (gWt T L (s.1, s.2.1, s.2.2.1 + 1, s.2.2.2) M w) (zEn T L (zWn T L (s.1, s.2.1, s.2.2.1 + 1, s.2.2.2) 7)) = b9 ∧ ν = c9) := by
  refine Con.of (by decide) (Nat.le_of_ble_eq_true rfl) ?_
  show Am l G mX5_readClause 0 [(0, .ref 1), (1, .int 119)] [] (mC M s) ν _
  refine z_iload_n dX5_readClause_0 rfl ?_
  refine z_lookup 51 dX5_readClause_1 rfl rfl (by decide) ?_
  refine z_aload_n dX5_readClause_51 rfl ?_
  refine m_callVv (As := []) dX5_readClause_52 kX5_75 ⟨rfl, rfl⟩ rfl ⟨rfl, rfl⟩ rfl rfl sh1 rfl rfl (c_readWaiter hT hL hL2 ha hw hw6) (fun μ52 ν52 hk52 => ?_)
  obtain ⟨rfl, rfl⟩ := hk52
  refine z_goto 81 dX5_readClause_55 (by decide) ?_
  refine m_ret dX5_readClause_81 rfl ?_
  exact ⟨rfl, rfl⟩
set_option maxRecDepth 100000 in
set_option maxHeartbeats 400000 in
theorem c_clause_g {l : Launch} {G : zG} {M : Mem} {ν : Lng} {s : zCu} {T : Nat → Int32} {L : Nat} (hT : M 13 = T) (hL : M 1 4 = nI L) (hL2 : L ≤ 250) (ha : s.2.2.1 < L)  : Cm l G mX5_readClause [.ref 1, .int 103] (mC M s) ν (fun _ b9 c9 => mC (gGl T L s M 9 3 1) (zEn T L (zG2 T L s (M 1 9) 1).1) = b9 ∧ ν = c9) := by
  refine Con.of (by decide) (Nat.le_of_ble_eq_true rfl) ?_
  show Am l G mX5_readClause 0 [(0, .ref 1), (1, .int 103)] [] (mC M s) ν _
  refine z_iload_n dX5_readClause_0 rfl ?_
  refine z_lookup 58 dX5_readClause_1 rfl rfl (by decide) ?_
  refine z_aload_n dX5_readClause_58 rfl ?_
  refine m_callVv (As := []) dX5_readClause_59 kX5_78 ⟨rfl, rfl⟩ rfl ⟨rfl, rfl⟩ rfl rfl sh1 rfl rfl (c_readWindow hT hL hL2 ha) (fun μ59 ν59 hk59 => ?_)
  obtain ⟨rfl, rfl⟩ := hk59
  refine z_goto 81 dX5_readClause_62 (by decide) ?_
  refine m_ret dX5_readClause_81 rfl ?_
  exact ⟨rfl, rfl⟩
set_option maxRecDepth 100000 in
set_option maxHeartbeats 400000 in
theorem c_clause_n {l : Launch} {G : zG} {M : Mem} {ν : Lng} {s : zCu} {T : Nat → Int32} {L : Nat} (hT : M 13 = T) (hL : M 1 4 = nI L) (hL2 : L ≤ 250) (ha : s.2.2.1 < L)  : Cm l G mX5_readClause [.ref 1, .int 110] (mC M s) ν (fun _ b9 c9 => mC (gGl T L s M 10 4 9) (zEn T L (zG2 T L s (M 1 10) 9).1) = b9 ∧ ν = c9) := by
  refine Con.of (by decide) (Nat.le_of_ble_eq_true rfl) ?_
  show Am l G mX5_readClause 0 [(0, .ref 1), (1, .int 110)] [] (mC M s) ν _
  refine z_iload_n dX5_readClause_0 rfl ?_
  refine z_lookup 65 dX5_readClause_1 rfl rfl (by decide) ?_
  refine z_aload_n dX5_readClause_65 rfl ?_
  refine m_callVv (As := []) dX5_readClause_66 kX5_81 ⟨rfl, rfl⟩ rfl ⟨rfl, rfl⟩ rfl rfl sh1 rfl rfl (c_readNoise hT hL hL2 ha) (fun μ66 ν66 hk66 => ?_)
  obtain ⟨rfl, rfl⟩ := hk66
  refine z_goto 81 dX5_readClause_69 (by decide) ?_
  refine m_ret dX5_readClause_81 rfl ?_
  exact ⟨rfl, rfl⟩
set_option maxRecDepth 100000 in
set_option maxHeartbeats 400000 in
theorem c_clause_d {l : Launch} {G : zG} {M : Mem} {ν : Lng} {s : zCu} {T : Nat → Int32} {L : Nat} (hT : M 13 = T) (hL : M 1 4 = nI L) (hL2 : L ≤ 250) (ha : s.2.2.1 < L) {x : Int32} (n1 : ¬ x = 103) (n2 : ¬ x = 108) (n3 : ¬ x = 110) (n4 : ¬ x = 119)  : Cm l G mX5_readClause [.ref 1, .int x] (mC M s) ν (fun _ b9 c9 => mC M (zFl s 1 (nI s.2.2.1)) = b9 ∧ ν = c9) := by
  refine Con.of (by decide) (Nat.le_of_ble_eq_true rfl) ?_
  show Am l G mX5_readClause 0 [(0, .ref 1), (1, .int x)] [] (mC M s) ν _
  refine z_iload_n dX5_readClause_0 rfl ?_
  refine z_lookup 72 dX5_readClause_1 rfl (zlkC n1 n2 n3 n4) (by decide) ?_
  refine z_aload_n dX5_readClause_72 rfl ?_
  refine z_iconst (v := 1) dX5_readClause_73 rfl ?_
  refine z_aload_n dX5_readClause_74 rfl ?_
  refine m_geti dX5_readClause_75 fX5_42 sh1 rfl ?_
  rw [show mC M s 1 7 = nI s.2.2.1 from rfl]
  refine m_callVv (As := [.int _, .int _]) dX5_readClause_78 kX5_84 ⟨rfl, rfl⟩ rfl ⟨rfl, rfl⟩ rfl rfl sh1 rfl rfl c_fail (fun μ78 ν78 hk78 => ?_)
  obtain ⟨rfl, rfl⟩ := hk78
  refine m_ret dX5_readClause_81 rfl ?_
  exact ⟨rfl, rfl⟩
theorem c_clause {l : Launch} {G : zG} {M : Mem} {ν : Lng} {s : zCu} {T : Nat → Int32} {L : Nat} (hT : M 13 = T) (hL : M 1 4 = nI L) (hL2 : L ≤ 250) (ha : s.2.2.1 < L) (hw0 : ∃ w : Nat, w ≤ 6 ∧ M 2 6 = nI w) : Cm l G mX5_readClause [.ref 1, .int (T s.2.2.1)] (mC M s) ν (fun _ b9 c9 => mC (gCl T L M s).1 (gCl T L M s).2 = b9 ∧ ν = c9) := by
  unfold gCl
  by_cases e1 : T s.2.2.1 = 108
  · rw [if_pos e1, e1]; exact c_clause_l hT hL hL2 ha
  rw [if_neg e1]
  by_cases e2 : T s.2.2.1 = 119
  · rw [if_pos e2, e2]
    obtain ⟨w, w6, ew⟩ := hw0
    by_cases e3 : M 2 6 = nI 6
    · rw [if_pos e3]; exact c_clause_w6 hT hL hL2 ha e3
    · rw [if_neg e3, ew, nI_clamp (show w < 2 ^ 31 by omega)]
      refine c_clause_w hT hL hL2 ha ew ?_
      rcases (show w = 6 ∨ w < 6 by omega) with rfl | q
      · exact absurd ew e3
      · exact q
  rw [if_neg e2]
  by_cases e3 : T s.2.2.1 = 103
  · rw [if_pos e3, e3]; exact c_clause_g hT hL hL2 ha
  rw [if_neg e3]
  by_cases e4 : T s.2.2.1 = 110
  · rw [if_pos e4, e4]; exact c_clause_n hT hL hL2 ha
  rw [if_neg e4]
  exact c_clause_d hT hL hL2 ha e3 e1 e4 e2
