
/-- one call on each side; the reference's cells as they come -/
def zOpE (Mx : zM) (ax : List Value) (Mm : zM) (am : List Value) : Prop :=
  ∀ (l : Launch) (G : zG) (μ : Mem) (ν : Lng) (n : Nat), zRel μ ν μ n → ∃ (r : Int32) (μ1 : Mem) (ν1 : Lng),
    Cm l G Mx ax μ ν (fun a9 b9 c9 => r = a9 ∧ μ1 = b9 ∧ ν1 = c9) ∧ Cm l G Mm am μ1 ν1 (fun a9 b9 c9 => r = a9 ∧ (∃ n2, zRel b9 ν1 b9 n2) ∧ ν1 = c9)
theorem gCl_ne {T : Nat → Int32} {L : Nat} {M : Mem} {s : zCu} {q : Nat} (h : q = 0 ∨ q = 13 ∨ 15 ≤ q) : (gCl T L M s).1 q = M q := by
  unfold gCl
  split
  · show gLe T L s M q = M q
    unfold gLe
    rw [up2_ne (by omega), up2_ne (by omega), up2_ne (by omega)]
  · split
    · split
      · rfl
      · show gWt T L (s.1, s.2.1, s.2.2.1 + 1, s.2.2.2) M (M 2 6).toNatClampNeg q = M q
        unfold gWt
        rw [up2_ne (by omega), up2_ne (by omega), up2_ne (by omega), up2_ne (by omega), up2_ne (by omega), up2_ne (by omega), up2_ne (by omega), up2_ne (by omega)]
    · split
      · show gGl T L s M 9 3 1 q = M q
        unfold gGl
        rw [up2_ne (by omega), up2_ne (by omega)]
      · split
        · show gGl T L s M 10 4 9 q = M q
          unfold gGl
          rw [up2_ne (by omega), up2_ne (by omega)]
        · rfl
theorem gIt_ne {T : Nat → Int32} {L : Nat} {X : Mem × zCu} {q : Nat} (h : q = 0 ∨ q = 13 ∨ 15 ≤ q) : ∀ i, (gIt T L X i).1 q = X.1 q
  | 0 => rfl
  | i + 1 => by
    refine Eq.trans (show (gNx T L (gIt T L X i)).1 q = (gIt T L X i).1 q from ?_) (gIt_ne h i)
    unfold gNx
    split
    · split
      · exact gCl_ne h
      · rfl
    · rfl
theorem zrw_0 : zrw 0 = 5 := rfl
theorem zrw_1 : zrw 1 = 10 := rfl
theorem zrw_2 : zrw 2 = 6 := rfl
theorem zrw_3 : zrw 3 = 7 := rfl
theorem zrw_4 : zrw 4 = 11 := rfl
theorem zrw_5 : zrw 5 = 12 := rfl
theorem zrw_6 : zrw 6 = 8 := rfl
/-- a told house on both sides -/
theorem zHsd {B R : Mem} {m : Nat} {g z : Int32} (hd : zDr B R m) {S τ : Mem} (h69 : τ 69 = R 69) (hg : R 66 12 = g) (hz : R 66 13 = z)
    (s16 : ∀ a, a < 2 → S 16 a = B 3 a ∧ S 17 a = B 4 a) (s18 : ∀ w, w < 6 → S 18 w = B 5 w ∧ S 19 w = B 6 w ∧ S 20 w = B 7 w ∧ S 21 w = B 8 w) (s22 : ∀ w, w < 6 → S 23 w = B 10 w ∧ S 24 w = B 11 w ∧ S 25 w = B 12 w) (s3 : S 22 3 = B 9 3 ∧ S 22 4 = B 9 4) :
    zHo S (rHs τ (R 68) m g z) m ∧ zPl S 22 (rHs τ (R 68) m g z 75) m ∧ zPk (rHs τ (R 68) m g z 75) m 999 := by
  obtain ⟨dm, d2, d8, dw, dl, dx, ⟨vg, vg1, vg2, vg3⟩, ⟨vz, vz1, vz2, vz3⟩, d14, d15⟩ := hd
  have q : ∀ c, c ≠ 66 → c ≠ 75 → c ≠ 77 → rHs τ (R 68) m g z c = rWs (up2 (rCp τ 70 69 0 0 4) 66 17 (nI m)) (R 68) m c := fun c c1 c2 c3 => by
    unfold rHs
    rw [up2_ne c3, up2_ne c3, up2_ne c1, up2_ne c2, up2_ne c2]
  have q75 : ∀ j, rHs τ (R 68) m g z 75 j = if j = 19 then z else if j = 18 then g else rWs (up2 (rCp τ 70 69 0 0 4) 66 17 (nI m)) (R 68) m 75 j := fun j => by
    unfold rHs
    rw [up2_ne (by decide), up2_ne (by decide), up2_ne (by decide), up2_row, up2_row]
  have q70 : ∀ j, j < 4 → rHs τ (R 68) m g z 70 j = R 69 j := fun j hj => by
    rw [q 70 (by decide) (by decide) (by decide), rWs_ne (by decide), up2_ne (by decide), rCp_at (by decide), if_pos (by omega), h69]
    congr 1
    omega
  have w71 : ∀ w, w < m → rHs τ (R 68) m g z 71 w = R 68 (7 * w) := fun w hw => by rw [q 71 (by decide) (by decide) (by decide), rWs_71, if_pos hw]
  have w72 : ∀ w, w < m → rHs τ (R 68) m g z 72 w = R 68 (7 * w + 2) := fun w hw => by rw [q 72 (by decide) (by decide) (by decide), rWs_72, if_pos hw]
  have w73 : ∀ w, w < m → rHs τ (R 68) m g z 73 w = R 68 (7 * w + 3) := fun w hw => by rw [q 73 (by decide) (by decide) (by decide), rWs_73, if_pos hw]
  have w74 : ∀ w, w < m → rHs τ (R 68) m g z 74 w = R 68 (7 * w + 6) := fun w hw => by rw [q 74 (by decide) (by decide) (by decide), rWs_74, if_pos hw]
  have c0 : ∀ w, w < m → rHs τ (R 68) m g z 75 w = R 68 (7 * w + 1) := fun w hw => by rw [q75, if_neg (by omega), if_neg (by omega), rWs_75 m dm, if_pos hw]
  have c6 : ∀ w, w < m → rHs τ (R 68) m g z 75 (6 + w) = R 68 (7 * w + 5) := fun w hw => by rw [q75, if_neg (by omega), if_neg (by omega), rWs_75 m dm, if_neg (by omega), if_pos (by omega), show 6 + w - 6 = w by omega]
  have c12 : ∀ w, w < m → rHs τ (R 68) m g z 75 (12 + w) = R 68 (7 * w + 4) := fun w hw => by rw [q75, if_neg (by omega), if_neg (by omega), rWs_75 m dm, if_neg (by omega), if_neg (by omega), if_pos (by omega), show 12 + w - 12 = w by omega]
  have c18 : rHs τ (R 68) m g z 75 18 = g := by rw [q75, if_neg (by decide), if_pos rfl]
  have c19 : rHs τ (R 68) m g z 75 19 = z := by rw [q75, if_pos rfl]
  have k0 := fun w hw => dw w hw 0 (by decide)
  have k1 := fun w hw => dw w hw 1 (by decide)
  have k2 := fun w hw => dw w hw 2 (by decide)
  have k3 := fun w hw => dw w hw 3 (by decide)
  have k4 := fun w hw => dw w hw 4 (by decide)
  have k5 := fun w hw => dw w hw 5 (by decide)
  have k6 := fun w hw => dw w hw 6 (by decide)
  rw [zrw_0] at k0
  rw [zrw_1] at k1
  rw [zrw_2] at k2
  rw [zrw_3] at k3
  rw [zrw_4] at k4
  rw [zrw_5] at k5
  rw [zrw_6] at k6
  refine ⟨⟨fun w hw => ?_, fun w hw => ?_, fun a ha => ?_⟩, ⟨fun w hw => ?_, ?_, ?_⟩, ⟨fun w hw => ⟨?_, ?_, ?_⟩, ?_, ?_⟩⟩
  · obtain ⟨a1, a2, a3, a4⟩ := s18 w (by omega)
    obtain ⟨v0, -, -, p0, r0⟩ := k0 w hw
    obtain ⟨v2, -, -, p2, r2⟩ := k2 w hw
    obtain ⟨v3, -, -, p3, r3⟩ := k3 w hw
    obtain ⟨v6, -, -, p6, r6⟩ := k6 w hw
    rw [a1, a2, a3, a4, w71 w hw, w72 w hw, w73 w hw, w74 w hw]
    exact ⟨p0.trans r0.symm, p2.trans r2.symm, p3.trans r3.symm, p6.trans r6.symm⟩
  · obtain ⟨v0, -, u0, p0, r0⟩ := k0 w hw
    obtain ⟨v2, -, u2, p2, r2⟩ := k2 w hw
    obtain ⟨v3, -, u3, p3, r3⟩ := k3 w hw
    obtain ⟨v6, -, u6, p6, r6⟩ := k6 w hw
    rw [w71 w hw, w72 w hw, w73 w hw, w74 w hw]
    exact ⟨⟨v0, u0, r0⟩, ⟨v2, u2, r2⟩, ⟨v3, u3, r3⟩, ⟨v6, u6, r6⟩⟩
  · obtain ⟨u, v, u1, u2, v1, f1, f2, f3, f4⟩ := dl a ha
    rw [(s16 a ha).1, (s16 a ha).2, q70 _ (by omega), q70 _ (by omega)]
    exact ⟨f1.trans f2.symm, f3.trans f4.symm, ⟨u, u1, u2, f2⟩, ⟨v, v1, f4⟩⟩
  · obtain ⟨a1, a2, a3⟩ := s22 w (by omega)
    obtain ⟨v1, -, -, p1, r1⟩ := k1 w hw
    obtain ⟨v4, -, -, p4, r4⟩ := k4 w hw
    obtain ⟨v5, -, -, p5, r5⟩ := k5 w hw
    rw [c0 w hw, c12 w hw, c6 w hw]
    exact ⟨a1.trans (p1.trans r1.symm), a2.trans (p4.trans r4.symm), a3.trans (p5.trans r5.symm)⟩
  · rw [c18, ← hg, vg3]; exact s3.1.trans vg2
  · rw [c19, ← hz, vz3]; exact s3.2.trans vz2
  · obtain ⟨v1, -, u1, p1, r1⟩ := k1 w hw
    rw [c0 w hw]; exact ⟨v1, u1, r1⟩
  · obtain ⟨v4, o4, u4, p4, r4⟩ := k4 w hw
    rw [c12 w hw]; exact ⟨v4, o4, u4, r4⟩
  · obtain ⟨v5, -, u5, p5, r5⟩ := k5 w hw
    rw [c6 w hw]; exact ⟨v5, u5, r5⟩
  · rw [c18, ← hg]; exact ⟨vg, vg1, vg3⟩
  · rw [c19, ← hz]; exact ⟨vz, vz1, vz3⟩
