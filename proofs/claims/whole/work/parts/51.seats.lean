
theorem zSh_in {P : Int32 → Prop} {b c : Nat} : ∀ (d : Nat) (f : Nat → Int32), (∀ p, p < c → P (f p)) → b + d < c → ∀ p, p < c → P (zSh b d f p)
  | 0, _, h, _, p, hp => h p hp
  | d + 1, f, h, hd, p, hp => by
    rw [zSh]
    refine zSh_in d _ (fun q hq => ?_) (by omega) p hp
    by_cases e : q = b + d + 1
    · rw [e, zu_at]; exact h _ (by omega)
    · rw [zu_ne e]; exact h q hq
theorem zBf_in {P : Int32 → Prop} {f : Nat → Int32} {b d c : Nat} (h : ∀ p, p < c → P (f p)) (hd : b + d < c) : ∀ p, p < c → P (zBf f b d p) := fun p hp => by
  unfold zBf
  by_cases e : p = b
  · rw [e, zu_at]; exact h _ hd
  · rw [zu_ne e]; exact zSh_in d f h hd p hp
theorem zSb_in {P : Int32 → Prop} {c m : Nat} {f : Nat → Int32} (hm : m < zFa c) (h : ∀ p, p < c → P (f p)) : ∀ i, i ≤ c → ∀ p, p < c → P ((zSb c m f i).2 p)
  | 0, _, p, hp => h p hp
  | i + 1, hi, p, hp => by
    have hdv := zSb_div (f := f) hm (show i < c by omega)
    exact zBf_in (zSb_in hm h i (by omega)) (by omega) p hp
theorem zGa_in {sd co : Nat → Int32} {s : Int32} {f0 g0 : Nat → Int32} : ∀ i p, p < (zGa sd co s f0 g0 i).1 → ∃ v : Nat, v < i ∧ (zGa sd co s f0 g0 i).2.2 p = nI v
  | 0, p, h => absurd h (Nat.not_lt_zero p)
  | i + 1, p, h => by
    rw [zGa] at h ⊢
    by_cases e : sd i = s
    · rw [if_pos e] at h ⊢
      have h : p < (zGa sd co s f0 g0 i).1 + 1 := h
      show ∃ v : Nat, v < i + 1 ∧ zu (zGa sd co s f0 g0 i).2.2 (zGa sd co s f0 g0 i).1 (nI i) p = nI v
      by_cases q : p = (zGa sd co s f0 g0 i).1
      · rw [q, zu_at]; exact ⟨i, by omega, rfl⟩
      · rw [zu_ne q]
        obtain ⟨v, v1, v2⟩ := zGa_in (sd := sd) (co := co) (s := s) (f0 := f0) (g0 := g0) i p (by omega)
        exact ⟨v, by omega, v2⟩
    · rw [if_neg e] at h ⊢
      obtain ⟨v, v1, v2⟩ := zGa_in i p h
      exact ⟨v, by omega, v2⟩
