
theorem zu_id {f : Nat → Int32} {i : Nat} : zu f i (f i) = f := by
  funext k
  unfold zu
  split
  · rename_i h; rw [h]
  · rfl
theorem zSb_0 {c : Nat} {f : Nat → Int32} : ∀ i, zSb c 0 f i = (0, f)
  | 0 => rfl
  | i + 1 => by
    rw [zSb, zSb_0 i]
    show (0 % zFa (c - 1 - i), zBf f i (0 / zFa (c - 1 - i))) = (0, f)
    rw [Nat.zero_mod, Nat.zero_div]
    unfold zBf
    rw [zSh, Nat.add_zero, zu_id]
theorem zAp_at {f : Nat → Int32} {g : Int32} : ∀ i p, zAp f g i p = if 1 ≤ p ∧ p ≤ i then f 0 + nI p * g else f p
  | 0, p => by rw [zAp, if_neg (by omega)]
  | i + 1, p => by
    have e0 : zAp f g i 0 = f 0 := by rw [zAp_at i 0, if_neg (by omega)]
    rw [zAp, e0]
    by_cases e : p = i + 1
    · rw [e, zu_at, if_pos (by omega)]
    · rw [zu_ne e, zAp_at i p]
      by_cases q : 1 ≤ p ∧ p ≤ i
      · rw [if_pos q, if_pos (by omega)]
      · rw [if_neg q, if_neg (by omega)]
/-- the first of a row that has the least in front -/
theorem zIt_0 {t : Int32} : ∀ (p : Nat) (f : Nat → Int32), (∀ q, q < p → f 0 ≤ f q) → 0 < p → zIt t p f 0 = if f 0 ≤ t then f 0 else t
  | 0, f, _, h => absurd h (Nat.not_lt_zero 0)
  | p + 1, f, hl, _ => by
    rw [zIt]
    by_cases e : f p ≤ t
    · rw [if_pos e, zu_ne (by omega), if_pos (Int32.le_trans (hl p (by omega)) e)]
    · rw [if_neg e]
      rcases (show p = 0 ∨ 0 < p by omega) with rfl | hp
      · rw [zIt, zu_at, if_neg e]
      · rw [zIt_0 p _ (fun q hq => by rw [zu_ne (by omega), zu_ne (by omega)]; exact hl q (by omega)) hp, zu_ne (by omega)]
theorem zIt_ge {t x : Int32} (hx : x ≤ t) : ∀ (p : Nat) (f : Nat → Int32), (∀ q, q < p → x ≤ f q) → ∀ q, q < p + 1 → x ≤ zIt t p f q
  | 0, f, _, q, hq => by
    rw [zIt, show q = 0 by omega, zu_at]
    exact hx
  | p + 1, f, hl, q, hq => by
    rw [zIt]
    by_cases e : f p ≤ t
    · rw [if_pos e]
      by_cases e2 : q = p + 1
      · rw [e2, zu_at]; exact hx
      · rw [zu_ne e2]; exact hl q (by omega)
    · rw [if_neg e]
      by_cases e2 : q = p + 1
      · have ek : ∀ (p' : Nat) (f' : Nat → Int32) (k : Nat), p' < k → zIt t p' f' k = f' k := by
          intro p'
          induction p' with
          | zero => intro f' k hk; rw [zIt, zu_ne (by omega)]
          | succ p' ih =>
            intro f' k hk
            rw [zIt]
            split
            · rw [zu_ne (by omega)]
            · rw [ih _ k (by omega), zu_ne (by omega)]
        rw [e2, ek p _ (p + 1) (by omega), zu_at]
        exact hl p (by omega)
      · refine zIt_ge hx p _ (fun q2 hq2 => ?_) q (by omega)
        rw [zu_ne (by omega)]
        exact hl q2 (by omega)
theorem zGa_min {sd co : Nat → Int32} {s : Int32} {f0 g0 : Nat → Int32} {n : Nat} (hco : ∀ w, w < n → ∃ k : Nat, k ≤ 999 ∧ co w = nI k) : ∀ i, i ≤ n → ((zGa sd co s f0 g0 i).1 = 0 ∧ zMn sd co s i = -1) ∨ (0 < (zGa sd co s f0 g0 i).1 ∧ zMn sd co s i = (zGa sd co s f0 g0 i).2.1 0 ∧ (∃ k : Nat, k ≤ 999 ∧ zMn sd co s i = nI k) ∧ ∀ q, q < (zGa sd co s f0 g0 i).1 → (zGa sd co s f0 g0 i).2.1 0 ≤ (zGa sd co s f0 g0 i).2.1 q)
  | 0, _ => Or.inl ⟨rfl, rfl⟩
  | i + 1, hi => by
    have ih := zGa_min (sd := sd) (s := s) (f0 := f0) (g0 := g0) hco i (by omega)
    obtain ⟨x, x1, x2⟩ := hco i (by omega)
    rw [zGa, zMn]
    by_cases e : sd i = s
    · rw [if_pos e, if_pos e]
      refine Or.inr ?_
      show 0 < (zGa sd co s f0 g0 i).1 + 1 ∧ (if zMn sd co s i = -1 then co i else if zMn sd co s i ≤ co i then zMn sd co s i else co i) = zIt (co i) (zGa sd co s f0 g0 i).1 (zGa sd co s f0 g0 i).2.1 0 ∧ (∃ k : Nat, k ≤ 999 ∧ (if zMn sd co s i = -1 then co i else if zMn sd co s i ≤ co i then zMn sd co s i else co i) = nI k) ∧ ∀ q, q < (zGa sd co s f0 g0 i).1 + 1 → zIt (co i) (zGa sd co s f0 g0 i).1 (zGa sd co s f0 g0 i).2.1 0 ≤ zIt (co i) (zGa sd co s f0 g0 i).1 (zGa sd co s f0 g0 i).2.1 q
      rcases ih with ⟨h1, h2⟩ | ⟨h1, h2, ⟨k, k1, k2⟩, h4⟩
      · rw [h1, h2, if_pos rfl]
        refine ⟨by omega, by rw [zIt, zu_at], ⟨x, x1, x2⟩, fun q hq => ?_⟩
        rw [show q = 0 by omega]
        exact Int32.le_refl _
      · have hne : ¬ zMn sd co s i = -1 := by rw [k2]; exact nI_ne_m1 (by omega)
        rw [if_neg hne, zIt_0 _ _ h4 h1, h2]
        refine ⟨by omega, rfl, ?_, fun q hq => ?_⟩
        · split
          · exact ⟨k, k1, h2 ▸ k2⟩
          · exact ⟨x, x1, x2⟩
        · by_cases e2 : (zGa sd co s f0 g0 i).2.1 0 ≤ co i
          · rw [if_pos e2]
            exact zIt_ge e2 _ _ h4 q hq
          · rw [if_neg e2]
            have e3 : co i ≤ (zGa sd co s f0 g0 i).2.1 0 := Int32.le_of_lt (Int32.not_le.mp e2)
            exact zIt_ge (Int32.le_refl _) _ _ (fun r hr => Int32.le_trans e3 (h4 r hr)) q hq
    · rw [if_neg e, if_neg e]
      exact ih
