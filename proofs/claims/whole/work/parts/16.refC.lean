theorem fb_holes : ∀ (m n : Nat) (f : Nat → Nat), (∀ i, i < n → f i < m) → (∀ i j, i < j → j < n → f i ≠ f j) → n ≤ m := by
  intro m
  induction m with
  | zero =>
    intro n f h1 _
    rcases Nat.eq_zero_or_pos n with h | h
    · omega
    · exact absurd (h1 0 h) (Nat.not_lt_zero _)
  | succ m ih =>
    intro n f h1 h2
    by_cases hx : ∃ i, i < n ∧ f i = m
    · obtain ⟨a, ha, hfa⟩ := hx
      have hg := ih (n - 1) (fun i => if i < a then f i else f (i + 1)) (by
        intro i hi
        by_cases q : i < a
        · simp only [if_pos q]
          have b1 := h1 i (by omega)
          have b2 := h2 i a q ha
          omega
        · simp only [if_neg q]
          have b1 := h1 (i + 1) (by omega)
          have b2 := h2 a (i + 1) (by omega) (by omega)
          omega) (by
        intro i j hij hj
        by_cases q : i < a
        · by_cases r : j < a
          · simp only [if_pos q, if_pos r]
            exact h2 i j hij (by omega)
          · simp only [if_pos q, if_neg r]
            exact h2 i (j + 1) (by omega) (by omega)
        · have r : ¬ j < a := by omega
          simp only [if_neg q, if_neg r]
          exact h2 (i + 1) (j + 1) (by omega) (by omega))
      omega
    · have hg := ih n f (fun i hi => by
        have b1 := h1 i hi
        have b2 : f i ≠ m := fun e => hx ⟨i, hi, e⟩
        omega) h2
      omega
/-- two of them in one place -/
theorem fb_twice {m n : Nat} {f : Nat → Nat} (h : ∀ i, i < n → f i < m) (hm : m < n) : ∃ i j, i < j ∧ j < n ∧ f i = f j := by
  refine Classical.byContradiction fun hx => ?_
  have := fb_holes m n f h (fun i j hij hj e => hx ⟨i, j, hij, hj, e⟩)
  omega
/-- as many as places, none twice: each place is taken -/
theorem fb_onto {n : Nat} {f : Nat → Nat} (h : ∀ i, i < n → f i < n) (h2 : ∀ i j, i < j → j < n → f i ≠ f j) {y : Nat} (hy : y < n) : ∃ i, i < n ∧ f i = y := by
  refine Classical.byContradiction fun hx => ?_
  have hne : ∀ i, i < n → f i ≠ y := fun i hi e => hx ⟨i, hi, e⟩
  have := fb_holes (n - 1) n (fun i => if f i < y then f i else f i - 1) (by
    intro i hi
    have b1 := h i hi
    have b2 := hne i hi
    by_cases q : f i < y
    · simp only [if_pos q]; omega
    · simp only [if_neg q]; omega) (by
    intro i j hij hj
    have b1 := hne i (by omega)
    have b2 := hne j hj
    have b3 := h2 i j hij hj
    by_cases q : f i < y
    · by_cases r : f j < y
      · simp only [if_pos q, if_pos r]; exact b3
      · simp only [if_pos q, if_neg r]; omega
    · by_cases r : f j < y
      · simp only [if_neg q, if_pos r]; omega
      · simp only [if_neg q, if_neg r]; omega)
  omega

def zLt (co : Nat → Int32) (a b : Nat) : Prop := co a < co b ∨ (co a = co b ∧ a < b)
def zOrd (co : Nat → Int32) (n : Nat) (Q : Nat → Nat) : Prop := (∀ i, i < n → Q i < n) ∧ ∀ i j, i < j → j < n → zLt co (Q i) (Q j)
theorem i32_irr {x : Int32} (h : x < x) : False := by
  have := Int32.lt_iff_toInt_lt.mp h
  omega
theorem i32_asym {x y : Int32} (h : x < y) (h2 : y < x) : False := by
  have := Int32.lt_iff_toInt_lt.mp h
  have := Int32.lt_iff_toInt_lt.mp h2
  omega
theorem zLt_asym {co : Nat → Int32} {a b : Nat} (h : zLt co a b) (h2 : zLt co b a) : False := by
  rcases h with h | ⟨e, h⟩ <;> rcases h2 with h2 | ⟨e2, h2⟩
  · exact i32_asym h h2
  · rw [e2] at h; exact i32_irr h
  · rw [e] at h2; exact i32_irr h2
  · omega
theorem zLt_irr {co : Nat → Int32} {a : Nat} (h : zLt co a a) : False := zLt_asym h h
theorem zOrd.inj {co : Nat → Int32} {n : Nat} {Q : Nat → Nat} (h : zOrd co n Q) {i j : Nat} (hi : i < j) (hj : j < n) : Q i ≠ Q j := fun e => by
  have := h.2 i j hi hj
  rw [e] at this
  exact zLt_irr this
theorem zOrd.onto {co : Nat → Int32} {n : Nat} {Q : Nat → Nat} (h : zOrd co n Q) {w : Nat} (hw : w < n) : ∃ i, i < n ∧ Q i = w := fb_onto h.1 (fun _ _ hi hj => h.inj hi hj) hw
def rMask (Q : Nat → Nat) : Nat → Nat
  | 0 => 0
  | i + 1 => rMask Q i ||| 2 ^ Q i
theorem rMask_bit (Q : Nat → Nat) : ∀ (i j : Nat), (rMask Q i).testBit j = true ↔ ∃ a, a < i ∧ Q a = j
  | 0, j => by simp [rMask]
  | i + 1, j => by
    rw [rMask, Nat.testBit_or, Bool.or_eq_true, rMask_bit Q i j, Nat.testBit_two_pow]
    constructor
    · rintro (⟨a, h1, h2⟩ | h)
      · exact ⟨a, by omega, h2⟩
      · exact ⟨i, by omega, by simpa using h⟩
    · rintro ⟨a, h1, h2⟩
      rcases Nat.lt_or_ge a i with q | q
      · exact Or.inl ⟨a, q, h2⟩
      · have : a = i := by omega
        subst this
        exact Or.inr (by simpa using h2)
theorem rMask_lt {Q : Nat → Nat} {n : Nat} (h6 : n ≤ 6) (hQ : ∀ i, i < n → Q i < n) : ∀ i, i ≤ n → rMask Q i < 64
  | 0, _ => (by decide : (0 : Nat) < 64)
  | i + 1, hi => by
    rw [rMask]
    have h1 := rMask_lt h6 hQ i (by omega)
    have h2 := hQ i (by omega)
    exact Nat.or_lt_two_pow (n := 6) h1 (Nat.pow_lt_pow_right (by decide) (by omega))
theorem bit_shr : ∀ k, k < 64 → ∀ c, c < 6 → ((nI k >>> (nI c &&& 31)) &&& 1 = 0 ↔ k.testBit c = false) := by decide +kernel
theorem bit_or : ∀ k, k < 64 → ∀ m, m < 6 → nI k ||| (1 <<< (nI m &&& 31)) = nI (k ||| 2 ^ m) := by decide +kernel
def rNx (now : Nat → Int32) (k : Nat) : Nat → Int32
  | 0 => -1
  | c + 1 => if (nI k >>> (nI c &&& 31)) &&& 1 = 0 then (if rNx now k c = -1 then nI c else if now (rNx now k c).toNatClampNeg ≤ now c then rNx now k c else nI c) else rNx now k c
theorem nI_ne_m1 {m : Nat} (h : m < 2 ^ 31) : ¬ nI m = -1 := by
  intro e
  have h1 := nI_toInt h
  rw [e] at h1
  have : (-1 : Int32).toInt = -1 := by decide
  omega
theorem rNx_ok {now : Nat → Int32} {k : Nat} : ∀ c, c ≤ 6 → rNx now k c = -1 ∨ ∃ m, m < c ∧ rNx now k c = nI m
  | 0, _ => Or.inl rfl
  | c + 1, hc => by
    rw [rNx]
    have ih := rNx_ok (now := now) (k := k) c (by omega)
    split
    · split
      · exact Or.inr ⟨c, by omega, rfl⟩
      · split
        · rcases ih with h | ⟨m, h1, h2⟩
          · exact Or.inl h
          · exact Or.inr ⟨m, by omega, h2⟩
        · exact Or.inr ⟨c, by omega, rfl⟩
    · rcases ih with h | ⟨m, h1, h2⟩
      · exact Or.inl h
      · exact Or.inr ⟨m, by omega, h2⟩
theorem rNx_min {now : Nat → Int32} {k : Nat} (hk : k < 64) : ∀ c, c ≤ 6 → (rNx now k c = -1 ∧ ∀ j, j < c → k.testBit j = true) ∨ ∃ m, m < c ∧ rNx now k c = nI m ∧ k.testBit m = false ∧ ∀ j, j < c → k.testBit j = false → j = m ∨ zLt now m j
  | 0, _ => Or.inl ⟨rfl, fun j h => absurd h (Nat.not_lt_zero j)⟩
  | c + 1, hc => by
    rw [rNx]
    have ih := rNx_min (now := now) hk c (by omega)
    have hb := bit_shr k hk c (by omega)
    by_cases hbit : k.testBit c = false
    · rw [if_pos (hb.mpr hbit)]
      rcases ih with ⟨h1, h2⟩ | ⟨m, h1, h2, h3, h4⟩
      · rw [if_pos h1]
        refine Or.inr ⟨c, by omega, rfl, hbit, fun j hj hn => ?_⟩
        rcases Nat.lt_or_ge j c with q | q
        · rw [h2 j q] at hn; cases hn
        · exact Or.inl (by omega)
      · rw [h2, if_neg (nI_ne_m1 (by omega)), nI_clamp (show m < 2 ^ 31 by omega)]
        by_cases hle : now m ≤ now c
        · rw [if_pos hle]
          refine Or.inr ⟨m, by omega, rfl, h3, fun j hj hn => ?_⟩
          rcases Nat.lt_or_ge j c with q | q
          · exact h4 j q hn
          · have : j = c := by omega
            subst this
            by_cases he : now m = now j
            · exact Or.inr (Or.inr ⟨he, h1⟩)
            · refine Or.inr (Or.inl ?_)
              have a1 := Int32.le_iff_toInt_le.mp hle
              refine Int32.lt_iff_toInt_lt.mpr ?_
              have a2 : (now m).toInt ≠ (now j).toInt := fun q => he (Int32.toInt_inj.mp q)
              omega
        · rw [if_neg hle]
          have hlt : now c < now m := Int32.not_le.mp hle
          refine Or.inr ⟨c, by omega, rfl, hbit, fun j hj hn => ?_⟩
          rcases Nat.lt_or_ge j c with q | q
          · refine Or.inr (Or.inl ?_)
            have a1 := Int32.lt_iff_toInt_lt.mp hlt
            refine Int32.lt_iff_toInt_lt.mpr ?_
            rcases h4 j q hn with e | e | ⟨e, -⟩
            · rw [e]; exact a1
            · have := Int32.lt_iff_toInt_lt.mp e; omega
            · rw [← e]; exact a1
          · exact Or.inl (by omega)
    · rw [if_neg (fun q => hbit (hb.mp q))]
      have hb1 : k.testBit c = true := by simpa using hbit
      rcases ih with ⟨h1, h2⟩ | ⟨m, h1, h2, h3, h4⟩
      · refine Or.inl ⟨h1, fun j hj => ?_⟩
        rcases Nat.lt_or_ge j c with q | q
        · exact h2 j q
        · have : j = c := by omega
          rw [this]; exact hb1
      · refine Or.inr ⟨m, by omega, h2, h3, fun j hj hn => ?_⟩
        rcases Nat.lt_or_ge j c with q | q
        · exact h4 j q hn
        · have : j = c := by omega
          rw [this, hb1] at hn; cases hn
theorem rNx_Q {now : Nat → Int32} {n : Nat} {Q : Nat → Nat} (h6 : n ≤ 6) (hQ : zOrd now n Q) {i : Nat} (hi : i < n) : rNx now (rMask Q i) n = nI (Q i) := by
  have hk := rMask_lt h6 hQ.1 i (by omega)
  have hfree : (rMask Q i).testBit (Q i) = false := by
    cases h : (rMask Q i).testBit (Q i) with
    | false => rfl
    | true =>
      obtain ⟨a, h1, h2⟩ := (rMask_bit Q i (Q i)).mp h
      exact absurd h2 (hQ.inj h1 hi)
  rcases rNx_min (now := now) hk n h6 with ⟨-, h2⟩ | ⟨m, h1, h2, h3, h4⟩
  · rw [h2 _ (hQ.1 i hi)] at hfree; cases hfree
  · rw [h2]
    obtain ⟨b, hb, rfl⟩ := hQ.onto h1
    rcases Nat.lt_trichotomy b i with q | q | q
    · have := (rMask_bit Q i (Q b)).mpr ⟨b, q, rfl⟩
      rw [this] at h3; cases h3
    · rw [q]
    · rcases h4 _ (hQ.1 i hi) hfree with e | e
      · rw [e]
      · exact absurd (hQ.2 i b q hb) (fun z => zLt_asym z e)
def rR4 (μ : Mem) : Nat → Mem
  | 0 => μ
  | i + 1 => up2 (up2 (up2 (rR4 μ i) 84 i 0) 85 i 0) 90 i (-1)
def rR2 (μ : Mem) : Nat → Mem
  | 0 => μ
  | i + 1 => up2 (up2 (up2 (rR2 μ i) 87 i 0) 88 i 0) 89 i 0
def rR6 (μ : Mem) : Nat → Mem
  | 0 => μ
  | i + 1 => up2 (up2 (up2 (rR6 μ i) 78 i 0) 82 i 0) 83 i 0
def rStart (μ : Mem) (n : Nat) : Mem := rR6 (up2 (up2 (rR2 (rR4 μ 4) 2) 66 38 0) 66 39 0) n
def rLooks (μ : Mem) (n : Nat) (Q : Nat → Nat) : Nat → Mem
  | 0 => μ
  | i + 1 => rLook (rLooks μ n Q i) n (Q i) (rLooks μ n Q i 71 (Q i)).toNatClampNeg
def rRun (μ : Mem) (n : Nat) (Q : Nat → Nat) : Mem := rLooks (rStart μ n) n Q n
def rCost (μ : Mem) : Int32 := 10 * μ 66 39 + μ 66 38
theorem rR4_ne {μ : Mem} {q : Nat} (h1 : q ≠ 84) (h2 : q ≠ 85) (h3 : q ≠ 90) : ∀ i, rR4 μ i q = μ q
  | 0 => rfl
  | i + 1 => by rw [rR4, up2_ne h3, up2_ne h2, up2_ne h1, rR4_ne h1 h2 h3 i]
theorem rR2_ne {μ : Mem} {q : Nat} (h1 : q ≠ 87) (h2 : q ≠ 88) (h3 : q ≠ 89) : ∀ i, rR2 μ i q = μ q
  | 0 => rfl
  | i + 1 => by rw [rR2, up2_ne h3, up2_ne h2, up2_ne h1, rR2_ne h1 h2 h3 i]
theorem rR6_ne {μ : Mem} {q : Nat} (h1 : q ≠ 78) (h2 : q ≠ 82) (h3 : q ≠ 83) : ∀ i, rR6 μ i q = μ q
  | 0 => rfl
  | i + 1 => by rw [rR6, up2_ne h3, up2_ne h2, up2_ne h1, rR6_ne h1 h2 h3 i]
/-- the rows that an evening of the reference writes -/
def zMe (q : Nat) : Prop := (78 ≤ q ∧ q ≤ 90) ∨ q = 66
theorem rStart_ne {μ : Mem} {n q : Nat} (h : ¬ zMe q) : rStart μ n q = μ q := by
  unfold zMe at h
  unfold rStart
  rw [rR6_ne (by omega) (by omega) (by omega), up2_ne (by omega), up2_ne (by omega), rR2_ne (by omega) (by omega) (by omega), rR4_ne (by omega) (by omega) (by omega)]
theorem rStart_66 {μ : Mem} {n j : Nat} (h1 : j ≠ 38) (h2 : j ≠ 39) : rStart μ n 66 j = μ 66 j := by
  unfold rStart
  rw [rR6_ne (by decide) (by decide) (by decide), up2_row, if_neg h2, up2_row, if_neg h1, rR2_ne (by decide) (by decide) (by decide), rR4_ne (by decide) (by decide) (by decide)]
theorem rWiden_ne {μ : Mem} {c q : Nat} {t u : Int32} (h1 : q ≠ 84) (h2 : q ≠ 85) : rWiden μ c t u q = μ q := by
  unfold rWiden
  split
  · rw [up2_ne h2, up2_ne h1]
  · rw [up2_ne h2, up2_ne h1]
theorem rLose_ne {μ : Mem} {w q : Nat} (h1 : q ≠ 66) (h2 : q ≠ 83) : rLose μ w q = μ q := by
  unfold rLose
  rw [up2_ne h2, up2_ne h1]
theorem rLose_66 {μ : Mem} {w j : Nat} (h : j ≠ 39) : rLose μ w 66 j = μ 66 j := by
  unfold rLose
  rw [up2_ne (by decide), up2_row, if_neg h]
/-- between two states nothing changed but what an evening writes -/
def zEq (μ μ' : Mem) : Prop := (∀ q, ¬ zMe q → μ' q = μ q) ∧ ∀ j, j ≠ 38 → j ≠ 39 → μ' 66 j = μ 66 j
theorem zEq.rf {μ : Mem} : zEq μ μ := ⟨fun _ _ => rfl, fun _ _ _ => rfl⟩
theorem zEq.tr {μ μ1 μ2 : Mem} (h : zEq μ μ1) (h2 : zEq μ1 μ2) : zEq μ μ2 := ⟨fun q hq => (h2.1 q hq).trans (h.1 q hq), fun j h3 h4 => (h2.2 j h3 h4).trans (h.2 j h3 h4)⟩
theorem zEq.up {μ : Mem} {q j : Nat} {v : Int32} (h : 78 ≤ q ∧ q ≤ 90) : zEq μ (up2 μ q j v) := by
  refine ⟨fun a ha => up2_ne (fun e => ha (e ▸ Or.inl h)), fun j _ _ => ?_⟩
  rw [up2_ne (by omega)]
theorem zEq.up66 {μ : Mem} {j : Nat} {v : Int32} (h : j = 38 ∨ j = 39) : zEq μ (up2 μ 66 j v) := by
  refine ⟨fun a ha => up2_ne (fun e => ha (e ▸ Or.inr rfl)), fun i h1 h2 => ?_⟩
  rw [up2_row, if_neg (by omega)]
theorem zEq.widen {μ : Mem} {c : Nat} {t u : Int32} : zEq μ (rWiden μ c t u) := by
  refine ⟨fun a ha => rWiden_ne (fun e => ha (e ▸ by unfold zMe; omega)) (fun e => ha (e ▸ by unfold zMe; omega)), fun j _ _ => by rw [rWiden_ne (by decide) (by decide)]⟩
theorem zEq.lose {μ : Mem} {w : Nat} : zEq μ (rLose μ w) := by
  unfold rLose
  exact (zEq.up66 (Or.inr rfl)).tr (zEq.up (by decide))
theorem zEq.pass {μ : Mem} {w lf s : Nat} {t : Int32} : zEq μ (rPass μ w lf s t) := by
  unfold rPass
  exact (zEq.widen.tr (zEq.up (by decide))).tr (zEq.up (by decide))
theorem zEq.kicked {μ : Mem} {w lf : Nat} {t : Int32} : zEq μ (rKicked μ w lf t) := by
  unfold rKicked
  exact ((zEq.up (by decide)).tr (zEq.up (by decide))).tr (zEq.up (by decide))
theorem zEq.through {μ : Mem} {w lf s : Nat} {t : Int32} : zEq μ (rThrough μ w lf s t) := by
  unfold rThrough
  split
  · split
    · exact (zEq.up (by decide)).tr zEq.pass
    · dsimp only
      split
      · exact ((((zEq.up (by decide)).tr (zEq.up (by decide))).tr zEq.lose).tr zEq.kicked).tr zEq.pass
      · exact ((zEq.up (by decide)).tr zEq.kicked).tr zEq.pass
  · exact (zEq.up (by decide)).tr zEq.pass
theorem zEq.crash {μ : Mem} {w lf s m : Nat} : zEq μ (rCrash μ w lf s m) := by
  unfold rCrash
  exact ((((((zEq.up (by decide)).tr (zEq.up (by decide))).tr zEq.lose).tr zEq.lose).tr zEq.widen).tr (zEq.up (by decide))).tr (zEq.up (by decide))
theorem zEq.wait {μ : Mem} {w lf s : Nat} {t : Int32} : zEq μ (rWait μ w lf s t) := by
  unfold rWait
  exact (((zEq.up (by decide)).tr (zEq.up (by decide))).tr (zEq.up66 (Or.inl rfl))).tr zEq.through
theorem zEq.look {μ : Mem} {n w s : Nat} : zEq μ (rLook μ n w s) := by
  unfold rLook
  refine zEq.tr (μ1 := rBegin μ w (rLeaf μ w s)) ?_ (zEq.tr ?_ (zEq.up (by decide)))
  · unfold rBegin
    exact (zEq.up (by decide)).tr (zEq.up (by decide))
  · unfold rLook2
    repeat' split
    · exact zEq.through
    · exact zEq.wait
    · exact zEq.crash
    · exact zEq.wait
    · exact zEq.crash
theorem zEq.start {μ : Mem} {n : Nat} : zEq μ (rStart μ n) := ⟨fun q hq => rStart_ne hq, fun j h1 h2 => rStart_66 h1 h2⟩
theorem zEq.looks {μ : Mem} {n : Nat} {Q : Nat → Nat} : ∀ i, zEq μ (rLooks μ n Q i)
  | 0 => zEq.rf
  | i + 1 => (zEq.looks i).tr zEq.look
theorem zEq.run {μ : Mem} {n : Nat} {Q : Nat → Nat} : zEq μ (rRun μ n Q) := zEq.start.tr (zEq.looks n)
/-- the lasts of a leaf's side are looked at where it is busy -/
theorem latM_widen {μ : Mem} {c c0 : Nat} {t u : Int32} (h : c ≠ c0) : rWiden μ c0 t u 84 c = μ 84 c ∧ rWiden μ c0 t u 85 c = μ 85 c := by
  unfold rWiden
  split
  · refine ⟨?_, ?_⟩
    · rw [up2_ne (by decide), up2_row, if_neg h]
    · rw [up2_row, if_neg h, up2_ne (by decide)]
  · refine ⟨?_, ?_⟩
    · rw [up2_ne (by decide), up2_row, if_neg h]
    · rw [up2_row, if_neg h, up2_ne (by decide)]
