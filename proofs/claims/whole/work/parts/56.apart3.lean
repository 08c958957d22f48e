
theorem zGa_step {sd co : Nat → Int32} {s : Int32} {f0 g0 : Nat → Int32} (i : Nat) : (zGa sd co s f0 g0 i).1 ≤ (zGa sd co s f0 g0 (i + 1)).1 ∧ ∀ p, p < (zGa sd co s f0 g0 i).1 → (zGa sd co s f0 g0 (i + 1)).2.2 p = (zGa sd co s f0 g0 i).2.2 p := by
  rw [zGa]
  split
  · exact ⟨Nat.le_succ _, fun p hp => zu_ne (by omega)⟩
  · exact ⟨Nat.le_refl _, fun p hp => rfl⟩
theorem zGa_mono {sd co : Nat → Int32} {s : Int32} {f0 g0 : Nat → Int32} {i : Nat} : ∀ d, (zGa sd co s f0 g0 i).1 ≤ (zGa sd co s f0 g0 (i + d)).1 ∧ ∀ p, p < (zGa sd co s f0 g0 i).1 → (zGa sd co s f0 g0 (i + d)).2.2 p = (zGa sd co s f0 g0 i).2.2 p
  | 0 => ⟨Nat.le_refl _, fun _ _ => rfl⟩
  | d + 1 => by
    obtain ⟨h1, h2⟩ := zGa_mono (sd := sd) (co := co) (s := s) (f0 := f0) (g0 := g0) (i := i) d
    obtain ⟨h3, h4⟩ := zGa_step (sd := sd) (co := co) (s := s) (f0 := f0) (g0 := g0) (i + d)
    exact ⟨Nat.le_trans h1 h3, fun p hp => (h4 p (by omega)).trans (h2 p hp)⟩
theorem zMn_congr {sd co sd' co' : Nat → Int32} {s : Int32} : ∀ n, (∀ w, w < n → sd w = sd' w ∧ co w = co' w) → zMn sd co s n = zMn sd' co' s n
  | 0, _ => rfl
  | n + 1, h => by rw [zMn, zMn, zMn_congr n (fun w hw => h w (by omega)), (h n (by omega)).1, (h n (by omega)).2]
/-- tenths apart: both ways alike -/
theorem zApart {sd co sd' : Nat → Int32} {s g x : Int32} {f0 g0 h h' : Nat → Int32} {n : Nat} (h6 : n ≤ 6) (hsd : ∀ w, w < n → sd w = sd' w) (hh : ∀ w, w < n → h w = h' w) (hx : 0 < (zGa sd co s f0 g0 n).1 → x = (zGa sd co s f0 g0 n).2.1 0) : ∀ i, i ≤ n → (zAr sd' s x g h' i).1 = (zGa sd co s f0 g0 i).1 ∧ ∀ w, w < n → zGt h (zGa sd co s f0 g0 n).2.2 (zAp (zGa sd co s f0 g0 n).2.1 g ((zGa sd co s f0 g0 n).1 - 1)) (zGa sd co s f0 g0 i).1 w = (zAr sd' s x g h' i).2 w
  | 0, _ => ⟨rfl, fun w hw => hh w hw⟩
  | i + 1, hi => by
    obtain ⟨h1, h2⟩ := zApart (co := co) (g := g) (x := x) (f0 := f0) (g0 := g0) h6 hsd hh hx i (by omega)
    by_cases e : sd i = s
    · have e' : sd' i = s := by rw [← hsd i (by omega)]; exact e
      have eA : zAr sd' s x g h' (i + 1) = ((zAr sd' s x g h' i).1 + 1, zu (zAr sd' s x g h' i).2 i (x + g * nI (zAr sd' s x g h' i).1)) := if_pos e'
      have eG : zGa sd co s f0 g0 (i + 1) = ((zGa sd co s f0 g0 i).1 + 1, zIt (co i) (zGa sd co s f0 g0 i).1 (zGa sd co s f0 g0 i).2.1, zu (zGa sd co s f0 g0 i).2.2 (zGa sd co s f0 g0 i).1 (nI i)) := if_pos e
      obtain ⟨d, rfl⟩ : ∃ d, n = i + 1 + d := ⟨n - (i + 1), by omega⟩
      obtain ⟨m1, m2⟩ := zGa_mono (sd := sd) (co := co) (s := s) (f0 := f0) (g0 := g0) (i := i + 1) d
      have c1 : (zGa sd co s f0 g0 (i + 1)).1 = (zGa sd co s f0 g0 i).1 + 1 := by rw [eG]
      have gm : (zGa sd co s f0 g0 (i + 1 + d)).2.2 (zGa sd co s f0 g0 i).1 = nI i := by
        rw [m2 _ (by omega), eG]
        exact zu_at
      have hx' := hx (by omega)
      rw [c1, eA]
      refine ⟨by rw [h1], fun w hw => ?_⟩
      show zu (zGt h _ _ (zGa sd co s f0 g0 i).1) ((zGa sd co s f0 g0 (i + 1 + d)).2.2 (zGa sd co s f0 g0 i).1).toNatClampNeg (zAp (zGa sd co s f0 g0 (i + 1 + d)).2.1 g ((zGa sd co s f0 g0 (i + 1 + d)).1 - 1) (zGa sd co s f0 g0 i).1) w = zu (zAr sd' s x g h' i).2 i (x + g * nI (zAr sd' s x g h' i).1) w
      rw [gm, nI_clamp (show i < 2 ^ 31 by omega), h1]
      have eT : zAp (zGa sd co s f0 g0 (i + 1 + d)).2.1 g ((zGa sd co s f0 g0 (i + 1 + d)).1 - 1) (zGa sd co s f0 g0 i).1 = x + g * nI (zGa sd co s f0 g0 i).1 := by
        rw [zAp_at]
        by_cases q : (zGa sd co s f0 g0 i).1 = 0
        · rw [if_neg (by omega), q, ← hx']
          show x = x + g * 0
          rw [Int32.mul_zero, Int32.add_zero]
        · rw [if_pos (by omega), ← hx', Int32.mul_comm]
      rw [eT]
      by_cases q : w = i
      · rw [q, zu_at, zu_at]
      · rw [zu_ne q, zu_ne q]
        exact h2 w hw
    · have e' : ¬ sd' i = s := by rw [← hsd i (by omega)]; exact e
      rw [show zAr sd' s x g h' (i + 1) = zAr sd' s x g h' i from if_neg e', show zGa sd co s f0 g0 (i + 1) = zGa sd co s f0 g0 i from if_neg e]
      exact ⟨h1, h2⟩
