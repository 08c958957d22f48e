
theorem zIt_congr {t : Int32} : ∀ (p : Nat) (f f' : Nat → Int32), (∀ q, q < p → f q = f' q) → ∀ q, q < p + 1 → zIt t p f q = zIt t p f' q
  | 0, f, f', _, q, hq => by rw [zIt, zIt, show q = 0 by omega, zu_at, zu_at]
  | p + 1, f, f', h, q, hq => by
    have ek : ∀ (p' : Nat) (f' : Nat → Int32) (k : Nat), p' < k → zIt t p' f' k = f' k := by
      intro p'
      induction p' with
      | zero => intro f' k hk; rw [zIt, zu_ne (by omega)]
      | succ p' ih =>
        intro f' k hk
        rw [zIt]
        split
        · rw [zu_ne (by omega)]
        · rw [ih _ k (by omega), zu_ne (by omega)]
    rw [zIt, zIt, h p (by omega)]
    by_cases e : f' p ≤ t
    · rw [if_pos e, if_pos e]
      by_cases e2 : q = p + 1
      · rw [e2, zu_at, zu_at]
      · rw [zu_ne e2, zu_ne e2]; exact h q (by omega)
    · rw [if_neg e, if_neg e]
      by_cases e2 : q = p + 1
      · rw [e2, ek p _ (p + 1) (by omega), ek p _ (p + 1) (by omega), zu_at, zu_at]
      · exact zIt_congr p _ _ (fun q2 hq2 => by rw [zu_ne (by omega), zu_ne (by omega)]; exact h q2 (by omega)) q (by omega)
theorem zIt_in {P : Int32 → Prop} {t : Int32} (ht : P t) : ∀ (p : Nat) (f : Nat → Int32), (∀ q, q < p → P (f q)) → ∀ q, q < p + 1 → P (zIt t p f q)
  | 0, f, _, q, hq => by rw [zIt, show q = 0 by omega, zu_at]; exact ht
  | p + 1, f, h, q, hq => by
    have ek : ∀ (p' : Nat) (f' : Nat → Int32) (k : Nat), p' < k → zIt t p' f' k = f' k := by
      intro p'
      induction p' with
      | zero => intro f' k hk; rw [zIt, zu_ne (by omega)]
      | succ p' ih =>
        intro f' k hk
        rw [zIt]
        split
        · rw [zu_ne (by omega)]
        · rw [ih _ k (by omega), zu_ne (by omega)]
    rw [zIt]
    by_cases e : f p ≤ t
    · rw [if_pos e]
      by_cases e2 : q = p + 1
      · rw [e2, zu_at]; exact ht
      · rw [zu_ne e2]; exact h q (by omega)
    · rw [if_neg e]
      by_cases e2 : q = p + 1
      · rw [e2, ek p _ (p + 1) (by omega), zu_at]; exact h p (by omega)
      · exact zIt_in ht p _ (fun q2 hq2 => by rw [zu_ne (by omega)]; exact h q2 (by omega)) q (by omega)
theorem zGa_congr {sd co sd' co' : Nat → Int32} {s : Int32} {f0 g0 f1 g1 : Nat → Int32} : ∀ i, (∀ w, w < i → sd w = sd' w ∧ co w = co' w) → (zGa sd co s f0 g0 i).1 = (zGa sd' co' s f1 g1 i).1 ∧ ∀ p, p < (zGa sd co s f0 g0 i).1 → (zGa sd co s f0 g0 i).2.1 p = (zGa sd' co' s f1 g1 i).2.1 p ∧ (zGa sd co s f0 g0 i).2.2 p = (zGa sd' co' s f1 g1 i).2.2 p
  | 0, _ => ⟨rfl, fun p hp => absurd hp (Nat.not_lt_zero p)⟩
  | i + 1, h => by
    obtain ⟨h1, h2⟩ := zGa_congr (sd := sd) (co := co) (sd' := sd') (co' := co') (s := s) (f0 := f0) (g0 := g0) (f1 := f1) (g1 := g1) i (fun w hw => h w (by omega))
    obtain ⟨e1, e2⟩ := h i (by omega)
    by_cases e : sd i = s
    · rw [show zGa sd co s f0 g0 (i + 1) = ((zGa sd co s f0 g0 i).1 + 1, zIt (co i) (zGa sd co s f0 g0 i).1 (zGa sd co s f0 g0 i).2.1, zu (zGa sd co s f0 g0 i).2.2 (zGa sd co s f0 g0 i).1 (nI i)) from if_pos e,
        show zGa sd' co' s f1 g1 (i + 1) = ((zGa sd' co' s f1 g1 i).1 + 1, zIt (co' i) (zGa sd' co' s f1 g1 i).1 (zGa sd' co' s f1 g1 i).2.1, zu (zGa sd' co' s f1 g1 i).2.2 (zGa sd' co' s f1 g1 i).1 (nI i)) from if_pos (e1 ▸ e)]
      refine ⟨congrArg (· + 1) h1, fun p hp => ?_⟩
      have hp : p < (zGa sd co s f0 g0 i).1 + 1 := hp
      show zIt (co i) (zGa sd co s f0 g0 i).1 (zGa sd co s f0 g0 i).2.1 p = zIt (co' i) (zGa sd' co' s f1 g1 i).1 (zGa sd' co' s f1 g1 i).2.1 p ∧ zu (zGa sd co s f0 g0 i).2.2 (zGa sd co s f0 g0 i).1 (nI i) p = zu (zGa sd' co' s f1 g1 i).2.2 (zGa sd' co' s f1 g1 i).1 (nI i) p
      rw [← h1, e2]
      refine ⟨zIt_congr _ _ _ (fun q hq => (h2 q hq).1) p hp, ?_⟩
      by_cases q : p = (zGa sd co s f0 g0 i).1
      · rw [q, zu_at, zu_at]
      · rw [zu_ne q, zu_ne q]; exact (h2 p (by omega)).2
    · rw [show zGa sd co s f0 g0 (i + 1) = zGa sd co s f0 g0 i from if_neg e, show zGa sd' co' s f1 g1 (i + 1) = zGa sd' co' s f1 g1 i from if_neg (e1 ▸ e)]
      exact ⟨h1, h2⟩
theorem zGa_P {P : Int32 → Prop} {sd co : Nat → Int32} {s : Int32} {f0 g0 : Nat → Int32} : ∀ i, (∀ w, w < i → P (co w)) → ∀ p, p < (zGa sd co s f0 g0 i).1 → P ((zGa sd co s f0 g0 i).2.1 p)
  | 0, _, p, hp => absurd hp (Nat.not_lt_zero p)
  | i + 1, h, p, hp => by
    have ih := zGa_P (P := P) (sd := sd) (co := co) (s := s) (f0 := f0) (g0 := g0) i (fun w hw => h w (by omega))
    by_cases e : sd i = s
    · rw [show zGa sd co s f0 g0 (i + 1) = ((zGa sd co s f0 g0 i).1 + 1, zIt (co i) (zGa sd co s f0 g0 i).1 (zGa sd co s f0 g0 i).2.1, zu (zGa sd co s f0 g0 i).2.2 (zGa sd co s f0 g0 i).1 (nI i)) from if_pos e] at hp ⊢
      exact zIt_in (h i (by omega)) _ _ ih p hp
    · rw [show zGa sd co s f0 g0 (i + 1) = zGa sd co s f0 g0 i from if_neg e] at hp ⊢
      exact ih p hp
theorem zGt_cg {h h' s s' t t' : Nat → Int32} {w : Nat} (e0 : h w = h' w) : ∀ c, (∀ p, p < c → s p = s' p ∧ t p = t' p) → zGt h s t c w = zGt h' s' t' c w
  | 0, _ => e0
  | c + 1, e => by
    rw [zGt, zGt, (e c (by omega)).1, (e c (by omega)).2]
    unfold zu
    split
    · rfl
    · exact zGt_cg e0 c (fun p hp => e p (by omega))
theorem zGt_P {P : Int32 → Prop} {h s t : Nat → Int32} {w : Nat} (e0 : P (h w)) : ∀ c, (∀ p, p < c → P (t p)) → P (zGt h s t c w)
  | 0, _ => e0
  | c + 1, e => by
    rw [zGt]
    unfold zu
    split
    · exact e c (by omega)
    · exact zGt_P e0 c (fun p hp => e p (by omega))
/-- the tenths, order by order -/
def zRw (c : Nat) (g f b : Nat → Int32) : Nat → Nat → Int32
  | 0 => b
  | i + 1 => zGt (zRw c g f b i) (fun k => g (zPx c i k)) f c
theorem zRw_P {P : Int32 → Prop} {c : Nat} {g f b : Nat → Int32} {w : Nat} (h0 : P (b w)) (hf : ∀ p, p < c → P (f p)) : ∀ i, P (zRw c g f b i w)
  | 0 => h0
  | i + 1 => zGt_P (zRw_P h0 hf i) c hf
theorem zRw_hi {c : Nat} {g f b : Nat → Int32} {k : Nat} (hc : c ≤ 6) (hg : ∀ p, p < c → ∃ v : Nat, v < 6 ∧ g p = nI v) (hk : 6 ≤ k) : ∀ i, i ≤ zFa c → zRw c g f b i k = b k
  | 0, _ => rfl
  | i + 1, hi => (zGt_hi c (fun p hp => hg _ (zNum hc (by omega) hp).2.1) hk).trans (zRw_hi hc hg hk i (by omega))
theorem rOb_75 {c n : Nat} {R : Mem} : ∀ i, (rOb c n R i).1 75 = zRw c (R 93) (R 94) (R 75) i
  | 0 => rfl
  | i + 1 => by
    have e : rNow (rOr c i (rOb c n R i).1) n 75 = zRw c (R 93) (R 94) (R 75) (i + 1) := by
      rw [rNow_eq.1 75 (by unfold zMe; omega), rOr_75, rOb_75 i, rOb_ne (by decide) (by decide) (by decide) (by unfold zMe; omega), rOb_ne (by decide) (by decide) (by decide) (by unfold zMe; omega)]
      rfl
    rw [rOb]
    split
    · exact (rCp_ne (by decide) c).trans e
    · split
      · exact e
      · exact (rCp_ne (by decide) c).trans e
theorem rOr_rw {c n : Nat} {R : Mem} (i : Nat) : rOr c i (rOb c n R i).1 75 = zRw c (R 93) (R 94) (R 75) (i + 1) := by
  rw [rOr_75, rOb_75 i, rOb_ne (by decide) (by decide) (by decide) (by unfold zMe; omega), rOb_ne (by decide) (by decide) (by decide) (by unfold zMe; omega)]
  rfl
theorem zOb {n c N : Nat} {R : Mem} {cs : Nat → Int32} {f0 : Int32} (hc : ∀ i, i < N → rCost (rNow (rOr c i (rOb c n R i).1) n) = cs i) (hp : ∀ i, i < N → zN (cs i) 17940) : ∀ i, i < N → (rOb c n R (i + 1)).2 = (zSel cs nI f0 1000000000 (i + 1)).2 ∧ zN (zSel cs nI f0 1000000000 (i + 1)).2 17940 ∧ ∃ f, f ≤ i ∧ (zSel cs nI f0 1000000000 (i + 1)).1 = nI f ∧ ∀ k, k < c → (rOb c n R (i + 1)).1 92 k = R 93 (zPx c f k) := by
  have row : ∀ i k, k < c → rCp (rNow (rOr c i (rOb c n R i).1) n) 92 95 0 0 c 92 k = R 93 (zPx c i k) := fun i k hk => by
    rw [rCp_at (by decide), if_pos (by omega), rNow_eq.1 95 (by unfold zMe; omega), show 0 + (k - 0) = k by omega]
    show va_up (va_up (rOb c n R i).1 95 _) 75 _ 95 k = _
    rw [va_up_ne _ _ (by decide), va_up_self, zTk_at, if_pos hk, rOb_ne (by decide) (by decide) (by decide) (by unfold zMe; omega)]
  intro i
  induction i with
  | zero =>
    intro hi
    have e1 : rOb c n R (0 + 1) = (rCp (rNow (rOr c 0 (rOb c n R 0).1) n) 92 95 0 0 c, cs 0) := by
      rw [← hc 0 hi]
      exact if_pos rfl
    have e2 : zSel cs nI f0 1000000000 (0 + 1) = (nI 0, cs 0) := by
      obtain ⟨k, k1, k2⟩ := hp 0 hi
      rw [zSel, zSel]
      refine if_neg ?_
      rw [k2]
      exact nI_ge (a := k) (b := 1000000000) (by omega) (by omega)
    rw [e1, e2]
    exact ⟨rfl, hp 0 hi, 0, Nat.le_refl 0, rfl, fun k hk => row 0 k hk⟩
  | succ i ih =>
    intro hi
    obtain ⟨h1, h2, f, h3, h4, h5⟩ := ih (by omega)
    obtain ⟨x, x1, x2⟩ := h2
    have hneg : ¬ (rOb c n R (i + 1)).2 = -1 := by
      rw [h1, x2]
      exact nI_ne_m1 (by omega)
    have e1 : rOb c n R (i + 1 + 1) = if (zSel cs nI f0 1000000000 (i + 1)).2 ≤ cs (i + 1) then (rNow (rOr c (i + 1) (rOb c n R (i + 1)).1) n, (zSel cs nI f0 1000000000 (i + 1)).2) else (rCp (rNow (rOr c (i + 1) (rOb c n R (i + 1)).1) n) 92 95 0 0 c, cs (i + 1)) := by
      rw [← hc (i + 1) hi, ← h1]
      exact if_neg hneg
    have e2 : zSel cs nI f0 1000000000 (i + 1 + 1) = if (zSel cs nI f0 1000000000 (i + 1)).2 ≤ cs (i + 1) then zSel cs nI f0 1000000000 (i + 1) else (nI (i + 1), cs (i + 1)) := rfl
    rw [e1, e2]
    by_cases e : (zSel cs nI f0 1000000000 (i + 1)).2 ≤ cs (i + 1)
    · rw [if_pos e, if_pos e]
      refine ⟨rfl, ⟨x, x1, x2⟩, f, by omega, h4, fun k hk => ?_⟩
      rw [← h5 k hk]
      show rNow (rOr c (i + 1) (rOb c n R (i + 1)).1) n 92 k = _
      rw [rNow_eq.1 92 (by unfold zMe; omega), rOr_ne (by decide) (by decide)]
    · rw [if_neg e, if_neg e]
      exact ⟨rfl, hp _ hi, i + 1, Nat.le_refl _, rfl, fun k hk => row (i + 1) k hk⟩
theorem gSe_sel2 {F : Nat → Mem → Mem} {id c : Nat → Int32} {n N : Nat} {μ : Mem} (h6 : n ≤ 6) (hs : zSides μ n) (hF : ∀ i M, zFc M (F i M)) (hF4 : ∀ i M, F i M 44 = M 44)
    (hc : ∀ i, i < N → ¬ gSe F (fun _ => true) id n μ i 44 6 ≤ 0 → fCost (gRun (F i (gSe F (fun _ => true) id n μ i)) 45 n) n = c i) (hp : ∀ i, i < N → zN (c i) 17940) :
    ∀ i, i ≤ N → (gSe F (fun _ => true) id n μ i 44 5, gSe F (fun _ => true) id n μ i 44 6) = zSel c id (μ 44 5) (μ 44 6) i
  | 0, _ => rfl
  | i + 1, hi => by
    have ih := gSe_sel2 h6 hs hF hF4 hc hp i (by omega)
    have i1 : gSe F (fun _ => true) id n μ i 44 5 = (zSel c id (μ 44 5) (μ 44 6) i).1 := congrArg Prod.fst ih
    have i2 : gSe F (fun _ => true) id n μ i 44 6 = (zSel c id (μ 44 5) (μ 44 6) i).2 := congrArg Prod.snd ih
    rw [gSe, zSel]
    by_cases h0 : gSe F (fun _ => true) id n μ i 44 6 ≤ 0
    · rw [if_pos h0, if_pos, ih]
      rw [← i2]
      obtain ⟨k, k1, k2⟩ := hp i (by omega)
      rw [k2]
      exact Int32.le_trans h0 (nI_pos' (by omega))
    · rw [if_neg h0, if_pos rfl]
      have e1 := hc i (by omega) h0
      have hfs : zSides (F i (gSe F (fun _ => true) id n μ i)) n := ((gSe_fc h6 hs hF i).tr (hF i _)).sd hs
      have e2 : gRun (F i (gSe F (fun _ => true) id n μ i)) 45 n 44 = gSe F (fun _ => true) id n μ i 44 := by rw [gRun_ne h6 hfs (by omega), hF4]
      unfold gWeigh
      rw [e1, e2, i2]
      by_cases h1 : (zSel c id (μ 44 5) (μ 44 6) i).2 ≤ c i
      · rw [if_pos h1, if_pos h1, e2, ih]
      · rw [if_neg h1, if_neg h1, up2_same, up2_row, if_neg (by decide), up2_same]
