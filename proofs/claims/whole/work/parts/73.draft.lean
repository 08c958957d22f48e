
def zrw (k : Nat) : Nat := if k = 0 then 5 else if k = 1 then 10 else if k = 2 then 6 else if k = 3 then 7 else if k = 4 then 11 else if k = 5 then 12 else 8
/-- what both have read -/
def zDr (M R : Mem) (m : Nat) : Prop :=
  m ≤ 6 ∧ M 2 6 = nI m ∧ R 66 8 = nI m ∧
  (∀ w, w < m → ∀ k, k < 7 → ∃ v : Nat, zlo k ≤ v ∧ v ≤ zhi k ∧ M (zrw k) w = nI v ∧ R 68 (7 * w + k) = nI v) ∧
  (∀ a, a < 2 → ∃ u v : Nat, 1 ≤ u ∧ u ≤ 9 ∧ v ≤ 9 ∧ M 3 a = nI u ∧ R 69 (2 * a) = nI u ∧ M 4 a = nI v ∧ R 69 (2 * a + 1) = nI v) ∧
  (∃ x : Nat, x < 4 ∧ R 66 11 = nI x ∧ ∀ a, a < 2 → (M 14 a = 1 ↔ (x >>> a) % 2 = 1)) ∧
  (∃ v : Nat, v ≤ 1 ∧ M 9 3 = nI v ∧ R 66 12 = nI v) ∧ (∃ v : Nat, v ≤ 9 ∧ M 9 4 = nI v ∧ R 66 13 = nI v) ∧ R 66 14 = M 1 9 ∧ R 66 15 = M 1 10
theorem zrw_in {k : Nat} (h : k < 7) : zrw k = 5 ∨ zrw k = 6 ∨ zrw k = 7 ∨ zrw k = 8 ∨ zrw k = 10 ∨ zrw k = 11 ∨ zrw k = 12 := by
  rcases (show k = 0 ∨ k = 1 ∨ k = 2 ∨ k = 3 ∨ k = 4 ∨ k = 5 ∨ k = 6 by omega) with rfl | rfl | rfl | rfl | rfl | rfl | rfl <;> decide
theorem zDr.mk {M R M' R' : Mem} {m : Nat} (h : zDr M R m) (h2 : M' 2 6 = M 2 6) (h8 : R' 66 8 = R 66 8) (hw : ∀ q, 5 ≤ q → q ≤ 12 → q ≠ 9 → M' q = M q) (h68 : R' 68 = R 68)
    (hl : ∀ a, a < 2 → ∃ u v : Nat, 1 ≤ u ∧ u ≤ 9 ∧ v ≤ 9 ∧ M' 3 a = nI u ∧ R' 69 (2 * a) = nI u ∧ M' 4 a = nI v ∧ R' 69 (2 * a + 1) = nI v)
    (hx : ∃ x : Nat, x < 4 ∧ R' 66 11 = nI x ∧ ∀ a, a < 2 → (M' 14 a = 1 ↔ (x >>> a) % 2 = 1))
    (hg : ∃ v : Nat, v ≤ 1 ∧ M' 9 3 = nI v ∧ R' 66 12 = nI v) (hn : ∃ v : Nat, v ≤ 9 ∧ M' 9 4 = nI v ∧ R' 66 13 = nI v) (h14 : R' 66 14 = M' 1 9) (h15 : R' 66 15 = M' 1 10) : zDr M' R' m := by
  obtain ⟨a1, a2, a3, a4, -⟩ := h
  refine ⟨a1, h2.trans a2, h8.trans a3, fun w hw2 k hk => ?_, hl, hx, hg, hn, h14, h15⟩
  obtain ⟨v, v1, v2, v3, v4⟩ := a4 w hw2 k hk
  refine ⟨v, v1, v2, ?_, by rw [h68]; exact v4⟩
  rw [hw _ (by have := zrw_in hk; omega) (by have := zrw_in hk; omega) (by have := zrw_in hk; omega)]
  exact v3
theorem zxor {x v a : Nat} (hx : x < 4) (hv : v ≤ 1) (ha : a < 2) : (x ||| 1 <<< v) < 4 ∧ (((x ||| 1 <<< v) >>> a) % 2 = 1 ↔ (a = v ∨ (x >>> a) % 2 = 1)) := by
  have e : ∀ x, x < 4 → ∀ v, v < 2 → ∀ a, a < 2 → (x ||| 1 <<< v) < 4 ∧ (((x ||| 1 <<< v) >>> a) % 2 = 1 ↔ (a = v ∨ (x >>> a) % 2 = 1)) := by decide
  exact e x hx v (by omega) a ha
theorem zDr.leaf {T : Nat → Int32} {L : Nat} {s : zCu} {M R : Mem} {m x : Nat} (h : zDr M R m) (hx4 : x < 4) (hx : R 66 11 = nI x) (hxm : ∀ a, a < 2 → (M 14 a = 1 ↔ (x >>> a) % 2 = 1)) :
    zDr (gLe T L s M) (up2 (up2 (up2 R 66 11 (nI (x ||| 1 <<< (zL1 T L s).2))) 69 (2 * (zL1 T L s).2) (nI (zL3 T L s M).2)) 69 (2 * (zL1 T L s).2 + 1) (nI (zL4 T L s M).2)) m := by
  have hv : (zL1 T L s).2 ≤ 1 := (zNu_v (by decide)).2
  have h3 : 1 ≤ (zL3 T L s M).2 ∧ (zL3 T L s M).2 ≤ 9 := zNu_v (by decide)
  have h4 : 0 ≤ (zL4 T L s M).2 ∧ (zL4 T L s M).2 ≤ 9 := zNu_v (by decide)
  obtain ⟨-, -, -, -, hl, -, hg, hn, h14, h15⟩ := id h
  unfold gLe
  refine h.mk ?_ ?_ (fun q q1 q2 q3 => ?_) ?_ (fun a ha => ?_) ⟨x ||| 1 <<< (zL1 T L s).2, (zxor hx4 hv (show 0 < 2 by decide)).1, ?_, fun a ha => ?_⟩ ?_ ?_ ?_ ?_
  · rw [up2_ne (by decide), up2_ne (by decide), up2_ne (by decide)]
  · rw [up2_ne (by decide), up2_ne (by decide), up2_row, if_neg (by decide)]
  · rw [up2_ne (by omega), up2_ne (by omega), up2_ne (by omega)]
  · rw [up2_ne (by decide), up2_ne (by decide), up2_ne (by decide)]
  · obtain ⟨u, v, u1, u2, v1, e1, e2, e3, e4⟩ := hl a ha
    by_cases e : a = (zL1 T L s).2
    · refine ⟨(zL3 T L s M).2, (zL4 T L s M).2, h3.1, h3.2, h4.2, ?_, ?_, ?_, ?_⟩
      · rw [up2_ne (by decide), up2_row, if_pos e]
      · rw [up2_row, if_neg (by omega), up2_row, if_pos (by omega)]
      · rw [up2_row, if_pos e]
      · rw [up2_row, if_pos (by omega)]
    · refine ⟨u, v, u1, u2, v1, ?_, ?_, ?_, ?_⟩
      · rw [up2_ne (by decide), up2_row, if_neg e, up2_ne (by decide)]; exact e1
      · rw [up2_row, if_neg (by omega), up2_row, if_neg (by omega), up2_ne (by decide)]; exact e2
      · rw [up2_row, if_neg e, up2_ne (by decide), up2_ne (by decide)]; exact e3
      · rw [up2_row, if_neg (by omega), up2_row, if_neg (by omega), up2_ne (by decide)]; exact e4
  · rw [up2_ne (by decide), up2_ne (by decide), up2_same]
  · rw [up2_ne (by decide), up2_ne (by decide), up2_row, (zxor hx4 hv ha).2]
    by_cases e : a = (zL1 T L s).2
    · rw [if_pos e]
      exact ⟨fun _ => Or.inl e, fun _ => rfl⟩
    · rw [if_neg e, hxm a ha]
      exact ⟨fun q => Or.inr q, fun q => q.elim (fun q => absurd q e) id⟩
  · obtain ⟨v, v1, v2, v3⟩ := hg
    exact ⟨v, v1, by rw [up2_ne (by decide), up2_ne (by decide), up2_ne (by decide)]; exact v2, by rw [up2_ne (by decide), up2_ne (by decide), up2_row, if_neg (by decide)]; exact v3⟩
  · obtain ⟨v, v1, v2, v3⟩ := hn
    exact ⟨v, v1, by rw [up2_ne (by decide), up2_ne (by decide), up2_ne (by decide)]; exact v2, by rw [up2_ne (by decide), up2_ne (by decide), up2_row, if_neg (by decide)]; exact v3⟩
  · rw [up2_ne (by decide), up2_ne (by decide), up2_row, if_neg (by decide), up2_ne (by decide), up2_ne (by decide), up2_ne (by decide)]; exact h14
  · rw [up2_ne (by decide), up2_ne (by decide), up2_row, if_neg (by decide), up2_ne (by decide), up2_ne (by decide), up2_ne (by decide)]; exact h15
theorem zDr.glass {T : Nat → Int32} {L : Nat} {s : zCu} {M R : Mem} {m : Nat} (h : zDr M R m) : zDr (gGl T L s M 9 3 1) (up2 (up2 R 66 14 1) 66 12 (nI (zG2 T L s (M 1 9) 1).2)) m := by
  have h3 : 0 ≤ (zG2 T L s (M 1 9) 1).2 ∧ (zG2 T L s (M 1 9) 1).2 ≤ 1 := zNu_v (by decide)
  obtain ⟨-, -, -, -, hl, hx, hg, hn, h14, h15⟩ := id h
  unfold gGl
  refine h.mk ?_ ?_ (fun q q1 q2 q3 => ?_) ?_ (fun a ha => ?_) ?_ ?_ ?_ ?_ ?_
  · rw [up2_ne (by decide), up2_ne (by decide)]
  · rw [up2_row, if_neg (by decide), up2_row, if_neg (by decide)]
  · rw [up2_ne (by omega), up2_ne (by omega)]
  · rw [up2_ne (by decide), up2_ne (by decide)]
  · rw [up2_ne (by decide), up2_ne (by decide), up2_ne (by decide), up2_ne (by decide), up2_ne (by decide), up2_ne (by decide)]; exact hl a ha
  · rw [up2_row, if_neg (by decide), up2_row, if_neg (by decide), up2_ne (by decide), up2_ne (by decide)]; exact hx
  · exact ⟨_, h3.2, up2_same _ _ _ _, up2_same _ _ _ _⟩
  · obtain ⟨v, v1, v2, v3⟩ := hn
    exact ⟨v, v1, by rw [up2_row, if_neg (by decide), up2_ne (by decide)]; exact v2, by rw [up2_row, if_neg (by decide), up2_row, if_neg (by decide)]; exact v3⟩
  · rw [up2_row, if_neg (by decide), up2_same, up2_ne (by decide), up2_same]
  · rw [up2_row, if_neg (by decide), up2_row, if_neg (by decide), up2_ne (by decide), up2_row, if_neg (by decide)]; exact h15
theorem zDr.noise {T : Nat → Int32} {L : Nat} {s : zCu} {M R : Mem} {m : Nat} (h : zDr M R m) : zDr (gGl T L s M 10 4 9) (up2 (up2 R 66 15 1) 66 13 (nI (zG2 T L s (M 1 10) 9).2)) m := by
  have h3 : 0 ≤ (zG2 T L s (M 1 10) 9).2 ∧ (zG2 T L s (M 1 10) 9).2 ≤ 9 := zNu_v (by decide)
  obtain ⟨-, -, -, -, hl, hx, hg, hn, h14, h15⟩ := id h
  unfold gGl
  refine h.mk ?_ ?_ (fun q q1 q2 q3 => ?_) ?_ (fun a ha => ?_) ?_ ?_ ?_ ?_ ?_
  · rw [up2_ne (by decide), up2_ne (by decide)]
  · rw [up2_row, if_neg (by decide), up2_row, if_neg (by decide)]
  · rw [up2_ne (by omega), up2_ne (by omega)]
  · rw [up2_ne (by decide), up2_ne (by decide)]
  · rw [up2_ne (by decide), up2_ne (by decide), up2_ne (by decide), up2_ne (by decide), up2_ne (by decide), up2_ne (by decide)]; exact hl a ha
  · rw [up2_row, if_neg (by decide), up2_row, if_neg (by decide), up2_ne (by decide), up2_ne (by decide)]; exact hx
  · obtain ⟨v, v1, v2, v3⟩ := hg
    exact ⟨v, v1, by rw [up2_row, if_neg (by decide), up2_ne (by decide)]; exact v2, by rw [up2_row, if_neg (by decide), up2_row, if_neg (by decide)]; exact v3⟩
  · exact ⟨_, h3.2, up2_same _ _ _ _, up2_same _ _ _ _⟩
  · rw [up2_row, if_neg (by decide), up2_row, if_neg (by decide), up2_ne (by decide), up2_row, if_neg (by decide)]; exact h14
  · rw [up2_row, if_neg (by decide), up2_same, up2_ne (by decide), up2_same]
theorem gWt_row {T : Nat → Int32} {L : Nat} {s : zCu} {M : Mem} {w k j : Nat} (hk : k < 7) : gWt T L s M w (zrw k) j = if j = w then nI (zWv T L s k) else M (zrw k) j := by
  unfold gWt
  rcases (show k = 0 ∨ k = 1 ∨ k = 2 ∨ k = 3 ∨ k = 4 ∨ k = 5 ∨ k = 6 by omega) with rfl | rfl | rfl | rfl | rfl | rfl | rfl
  · rw [show zrw 0 = 5 from rfl]; (repeat rw [up2_ne (by decide)]); rw [up2_row]
  · rw [show zrw 1 = 10 from rfl]; (repeat rw [up2_ne (by decide)]); rw [up2_row]; (repeat rw [up2_ne (by decide)])
  · rw [show zrw 2 = 6 from rfl]; (repeat rw [up2_ne (by decide)]); rw [up2_row]; (repeat rw [up2_ne (by decide)])
  · rw [show zrw 3 = 7 from rfl]; (repeat rw [up2_ne (by decide)]); rw [up2_row]; (repeat rw [up2_ne (by decide)])
  · rw [show zrw 4 = 11 from rfl]; (repeat rw [up2_ne (by decide)]); rw [up2_row]; (repeat rw [up2_ne (by decide)])
  · rw [show zrw 5 = 12 from rfl]; (repeat rw [up2_ne (by decide)]); rw [up2_row]; (repeat rw [up2_ne (by decide)])
  · rw [show zrw 6 = 8 from rfl]; (repeat rw [up2_ne (by decide)]); rw [up2_row]; (repeat rw [up2_ne (by decide)])
theorem gWt_ne {T : Nat → Int32} {L : Nat} {s : zCu} {M : Mem} {w q : Nat} (h : q = 1 ∨ q = 3 ∨ q = 4 ∨ q = 9 ∨ 13 ≤ q) : gWt T L s M w q = M q := by
  unfold gWt
  rw [up2_ne (by omega), up2_ne (by omega), up2_ne (by omega), up2_ne (by omega), up2_ne (by omega), up2_ne (by omega), up2_ne (by omega), up2_ne (by omega)]
theorem zDr.wait {T : Nat → Int32} {L : Nat} {s : zCu} {M R : Mem} {m : Nat} (h : zDr M R m) (hm : m < 6) : zDr (gWt T L s M m) (rWt T L s R m 7) (m + 1) := by
  obtain ⟨h1, h2, h3, h4, hl, hx, hg, hn, h14, h15⟩ := h
  refine ⟨by omega, up2_same _ _ _ _, by rw [rWt_66, if_pos rfl], fun w hw k hk => ?_, fun a ha => ?_, ?_, ?_, ?_, ?_, ?_⟩
  · rw [gWt_row hk, rWt_68]
    by_cases e : w = m
    · rw [if_pos e, if_pos (by omega), show 7 * w + k - 7 * m = k by omega]
      exact ⟨zWv T L s k, (zWv_v k).1, (zWv_v k).2, rfl, rfl⟩
    · rw [if_neg e, if_neg (by omega)]
      exact h4 w (by omega) k hk
  · rw [gWt_ne (by omega), gWt_ne (by omega), rWt_ne (by decide) (by decide)]; exact hl a ha
  · rw [gWt_ne (by omega), rWt_66, if_neg (by decide)]; exact hx
  · rw [gWt_ne (by omega), rWt_66, if_neg (by decide)]; exact hg
  · rw [gWt_ne (by omega), rWt_66, if_neg (by decide)]; exact hn
  · rw [gWt_ne (by omega), rWt_66, if_neg (by decide)]; exact h14
  · rw [gWt_ne (by omega), rWt_66, if_neg (by decide)]; exact h15
/-- the reference's reading leaves all else -/
def zFm (R0 R : Mem) : Prop := (∀ q, q ≠ 66 → q ≠ 68 → q ≠ 69 → R q = R0 q) ∧ (∀ j, j < 2 ∨ 15 < j → R 66 j = R0 66 j)
theorem zFm.u6 {R0 R : Mem} {j : Nat} {v : Int32} (h : zFm R0 R) (hj : 2 ≤ j ∧ j ≤ 15) : zFm R0 (up2 R 66 j v) := ⟨fun q a1 a2 a3 => by rw [up2_ne a1]; exact h.1 q a1 a2 a3, fun i hi => by rw [up2_row, if_neg (by omega)]; exact h.2 i hi⟩
theorem zFm.u9 {R0 R : Mem} {j : Nat} {v : Int32} (h : zFm R0 R) : zFm R0 (up2 R 69 j v) := ⟨fun q a1 a2 a3 => by rw [up2_ne a3]; exact h.1 q a1 a2 a3, fun i hi => by rw [up2_ne (by decide)]; exact h.2 i hi⟩
theorem zFm.wt {R0 R : Mem} {T : Nat → Int32} {L m i : Nat} {s : zCu} (h : zFm R0 R) : zFm R0 (rWt T L s R m i) := ⟨fun q a1 a2 a3 => by rw [rWt_ne a1 a2]; exact h.1 q a1 a2 a3, fun j hj => by rw [rWt_66, if_neg (by omega)]; exact h.2 j hj⟩
theorem zBd.tr {R0 R N : Mem} {p f : Int32} (h : zFm R0 R) (hb : zBd R p f N) : zBd R0 p f N := ⟨fun q a1 a2 a3 => (hb.1 q a1 a2 a3).trans (h.1 q a1 a2 a3), fun j hj => (hb.2.1 j hj).trans (h.2 j hj), hb.2.2⟩
/-- the place of a fault -/
def zPo (s : zCu) : Prop := ¬ s.1 = 0 → ∃ x : Nat, x ≤ 250 ∧ s.2.1 = nI x
theorem zPo.fl {s : zCu} {c : Int32} {x : Nat} (h : zPo s) (hx : x ≤ 250) : zPo (zFl s c (nI x)) := by
  unfold zFl
  split
  · exact fun _ => ⟨x, hx, rfl⟩
  · exact h
theorem zPo.nu {T : Nat → Int32} {L lo up : Nat} {s : zCu} (h : zPo s) (hL2 : L ≤ 250) (ha : s.2.2.1 ≤ L) : zPo (zNu T L s lo up).1 := by
  have b := (zBk_sp (T := T) ha).2.1
  unfold zNu
  split
  · split
    · exact h
    · exact zPo.fl (s := (s.1, s.2.1, zEg T L (zBk T L s.2.2.1), nI (zBk T L s.2.2.1))) h (by omega)
  · exact zPo.fl (s := (s.1, s.2.1, zBk T L s.2.2.1, s.2.2.2)) h (by omega)
theorem zPo.en {T : Nat → Int32} {L : Nat} {s : zCu} (h : zPo s) (hL2 : L ≤ 250) (ha : s.2.2.1 ≤ L) : zPo (zEn T L s) := by
  have b := (zBk_sp (T := T) ha).2.1
  unfold zEn
  split
  · exact h
  · exact zPo.fl (s := (s.1, s.2.1, zBk T L s.2.2.1, s.2.2.2)) h (by omega)
theorem zPo.wn {T : Nat → Int32} {L : Nat} {s : zCu} (h : zPo s) (hL2 : L ≤ 250) (ha : s.2.2.1 ≤ L) : ∀ k, zPo (zWn T L s k)
  | 0 => h
  | k + 1 => (zPo.wn h hL2 ha k).nu hL2 (zWn_a ha k).2
theorem gCl_po {T : Nat → Int32} {L : Nat} {M : Mem} {s : zCu} (hs : s.1 = 0) (hL2 : L ≤ 250) (ha : s.2.2.1 < L) : zPo (gCl T L M s).2 := by
  have h0 : zPo s := fun q => absurd hs q
  have h1 : zPo (s.1, s.2.1, s.2.2.1 + 1, s.2.2.2) := fun q => absurd hs q
  unfold gCl
  by_cases e1 : T s.2.2.1 = 108
  · rw [if_pos e1]
    have hL1 : zPo (zL1 T L s).1 := h1.nu hL2 (by exact ha)
    have hL2' : zPo (zL2 T L s M) := by
      unfold zL2
      split
      · by_cases k1 : (zL1 T L s).1.1 = 0
        · have hk := zNu_k (T := T) (L := L) (lo := 0) (up := 1) (s := (s.1, s.2.1, s.2.2.1 + 1, s.2.2.2)) (by exact hs) k1
          have e : (zL1 T L s).1.2.2.2 = nI (zBk T L (s.2.2.1 + 1)) := by
            show (zNu T L (s.1, s.2.1, s.2.2.1 + 1, s.2.2.2) 0 1).1.2.2.2 = _
            rw [zNu_1 hk.1 hk.2]
          rw [e]
          have b := (zBk_sp (T := T) (show s.2.2.1 + 1 ≤ L by omega)).2.1
          exact hL1.fl (by omega)
        · rw [zFl_st k1]; exact hL1
      · exact hL1
    have hL3 : zPo (zL3 T L s M).1 := hL2'.nu hL2 (by rw [zL2_a]; exact (zL1_a ha).2)
    have hL4 : zPo (zL4 T L s M).1 := hL3.nu hL2 (zL3_a ha).2
    exact hL4.en hL2 (zL4_a ha).2
  rw [if_neg e1]
  have hg : ∀ x up, zPo (zEn T L (zG2 T L s x up).1) := fun x up => by
    have q1 : zPo (zG1 s x) := by
      unfold zG1
      split
      · exact h0
      · exact h0.fl (by omega)
    have q2 : zPo (zG2 T L s x up).1 := zPo.nu (s := ((zG1 s x).1, (zG1 s x).2.1, s.2.2.1 + 1, (zG1 s x).2.2.2)) q1 hL2 (by exact ha)
    exact q2.en hL2 (zG2_a ha).2
  by_cases e2 : T s.2.2.1 = 119
  · rw [if_pos e2]
    by_cases e3 : M 2 6 = nI 6
    · rw [if_pos e3]; exact h0.fl (by omega)
    · rw [if_neg e3]
      exact (h1.wn hL2 (by exact ha) 7).en hL2 (zWn_a (s := (s.1, s.2.1, s.2.2.1 + 1, s.2.2.2)) (by exact ha) 7).2
  rw [if_neg e2]
  by_cases e3 : T s.2.2.1 = 103
  · rw [if_pos e3]; exact hg _ _
  rw [if_neg e3]
  by_cases e4 : T s.2.2.1 = 110
  · rw [if_pos e4]; exact hg _ _
  rw [if_neg e4]
  exact h0.fl (by omega)
