
def zN (x : Int32) (b : Nat) : Prop := ∃ k : Nat, k ≤ b ∧ x = nI k
theorem zN.mono {x : Int32} {b c : Nat} (h : zN x b) (hb : b ≤ c) : zN x c := by
  obtain ⟨k, h1, h2⟩ := h
  exact ⟨k, by omega, h2⟩
theorem i32_min (t f : Int32) : (if t < f then t else f) = if t ≤ f then t else f := by
  by_cases h : t < f
  · rw [if_pos h, if_pos (by have := Int32.lt_iff_toInt_lt.mp h; exact Int32.le_iff_toInt_le.mpr (by omega))]
  · rw [if_neg h]
    by_cases h2 : t ≤ f
    · rw [if_pos h2]
      have a := Int32.le_iff_toInt_le.mp h2
      have b : ¬ t.toInt < f.toInt := fun q => h (Int32.lt_iff_toInt_lt.mpr q)
      exact Int32.toInt_inj.mp (by omega)
    · rw [if_neg h2]
theorem i32_max (x u : Int32) : (if x < u then u else x) = if x ≤ u then u else x := by
  by_cases h : x < u
  · rw [if_pos h, if_pos (by have := Int32.lt_iff_toInt_lt.mp h; exact Int32.le_iff_toInt_le.mpr (by omega))]
  · rw [if_neg h]
    by_cases h2 : x ≤ u
    · rw [if_pos h2]
      have a := Int32.le_iff_toInt_le.mp h2
      have b : ¬ x.toInt < u.toInt := fun q => h (Int32.lt_iff_toInt_lt.mpr q)
      exact Int32.toInt_inj.mp (by omega)
    · rw [if_neg h2]
/-- a leaf's new while: from, till -/
def zWf (f u t : Int32) : Int32 := if t < u then (if t ≤ f then t else f) else t
def zWt (u t e : Int32) : Int32 := if t < u then (if u ≤ e then e else u) else e
theorem fLet_1 {μ : Mem} {k s b : Nat} {w t u : Int32} : fLet μ k s w t u (k + 1) b = if b = s then zWf (μ (k + 1) s) (μ (k + 2) s) t else μ (k + 1) b := by
  unfold fLet zWf
  rw [← i32_min]
  split
  · rw [up2_ne (by omega), up2_ne (by omega), up2_row]
  · rw [up2_ne (by omega), up2_ne (by omega), up2_row]
theorem fLet_2 {μ : Mem} {k s b : Nat} {w t u : Int32} : fLet μ k s w t u (k + 2) b = if b = s then zWt (μ (k + 2) s) t u else μ (k + 2) b := by
  unfold fLet zWt
  rw [← i32_max]
  split
  · dsimp only
    rw [up2_ne (show k + 2 ≠ k + 3 by omega), up2_row, up2_ne (show k + 2 ≠ k + 1 by omega)]
  · rw [up2_ne (by omega), up2_row, up2_ne (by omega)]
theorem rWiden_84 {μ : Mem} {c d : Nat} {t u : Int32} : rWiden μ c t u 84 d = if d = c then zWf (μ 84 c) (μ 85 c) t else μ 84 d := by
  unfold rWiden zWf
  split
  · rw [up2_ne (by decide), up2_row]
  · rw [up2_ne (by decide), up2_row]
theorem rWiden_85 {μ : Mem} {c d : Nat} {t u : Int32} : rWiden μ c t u 85 d = if d = c then zWt (μ 85 c) t u else μ 85 d := by
  unfold rWiden zWt
  split
  · dsimp only
    rw [up2_row, up2_ne (show 85 ≠ 84 by decide)]
  · rw [up2_row, up2_ne (by decide)]
theorem zWf_N {f u t : Int32} {T : Nat} (hf : zN f T) (ht : zN t T) : zN (zWf f u t) T := by
  unfold zWf
  repeat' split
  all_goals assumption
theorem zWt_N {u t e : Int32} {T : Nat} (hu : zN u T) (he : zN e T) : zN (zWt u t e) T := by
  unfold zWt
  repeat' split
  all_goals assumption
def rFin (μ : Mem) (w lf s : Nat) (st sp : Int32) : Mem := up2 (up2 (rWiden μ (2 * lf + s) st (st + sp)) 79 w st) 80 w (st + sp)
theorem rPass_fin (μ : Mem) (w lf s : Nat) (t : Int32) : rPass μ w lf s t = rFin μ w lf s t (μ 72 w) := by
  unfold rPass rFin
  dsimp only
  rw [up2_ne (show 72 ≠ 79 by decide), rWiden_ne (by decide) (by decide)]
def rCr0 (μ : Mem) (w m : Nat) : Mem := rLose (rLose (up2 (up2 μ 78 w 6) 78 m 6) w) m
theorem rCrash_fin (μ : Mem) (w lf s m : Nat) : rCrash μ w lf s m = rFin (rCr0 μ w m) w lf s (μ 75 w) 20 := rfl
def rThr0 (μ : Mem) (w lf s : Nat) (t : Int32) : Mem :=
  if rBusy μ (2 * lf + s) t = 0 then
    if rSwing μ lf t = 2 then up2 μ 78 w (if μ 78 w ≤ 1 then 1 else μ 78 w)
    else
      let is : Int32 := if nI lf = nI s then 0 else 2
      let μ1 := up2 μ 78 w (if μ 78 w ≤ is then is else μ 78 w)
      if rSwing μ lf t = 3 then rKicked (rLose (up2 μ1 78 w 5) w) w lf t else rKicked μ1 w lf t
  else up2 μ 78 w (if μ 78 w ≤ 1 then 1 else μ 78 w)
theorem rThrough_eq (μ : Mem) (w lf s : Nat) (t : Int32) : rThrough μ w lf s t = rPass (rThr0 μ w lf s t) w lf s t := by
  unfold rThrough rThr0
  split
  · split
    · rfl
    · dsimp only
      split
      · rfl
      · rfl
  · rfl
def zHP (σ τ : Mem) (pl n : Nat) : Prop :=
  (∀ w, w < n → σ 18 w = τ 71 w ∧ σ 19 w = τ 72 w ∧ σ 20 w = τ 73 w ∧ σ 21 w = τ 74 w ∧ σ (pl + 1) w = τ 75 w ∧ σ (pl + 2) w = τ 75 (12 + w) ∧ σ (pl + 3) w = τ 75 (6 + w)) ∧
  (∀ w, w < n → zN (τ 71 w) 1 ∧ zN (τ 72 w) 30 ∧ zN (τ 73 w) 99 ∧ zN (τ 74 w) 1 ∧ zN (τ 75 w) 1300 ∧ (∃ k : Nat, 1 ≤ k ∧ k ≤ 9 ∧ τ 75 (12 + w) = nI k) ∧ zN (τ 75 (6 + w)) 2) ∧
  (σ pl 3 = τ 75 18 ∧ zN (τ 75 18) 1 ∧ σ pl 4 = τ 75 19 ∧ zN (τ 75 19) 9) ∧
  (∀ a, a < 2 → σ 16 a = τ 70 (2 * a) ∧ σ 17 a = τ 70 (2 * a + 1) ∧ (∃ k : Nat, 1 ≤ k ∧ k ≤ 9 ∧ τ 70 (2 * a) = nI k) ∧ zN (τ 70 (2 * a + 1)) 9)
def zKick (σ τ : Mem) (T a : Nat) : Prop :=
  (τ 87 a = 0 ∧ σ (30 + 4 * a) 3 = 0 ∧ σ (30 + 4 * a) 4 = 0 ∧ σ (30 + 4 * a) 5 = 0) ∨
  ∃ ka kb : Nat, ka ≤ T ∧ 1 ≤ kb ∧ kb ≤ 9 ∧ τ 86 a = nI ka ∧ τ 87 a = nI kb ∧ σ (30 + 4 * a) 3 = nI ka ∧ σ (30 + 4 * a) 4 = τ 86 a + τ 87 a * τ 70 (2 * a) ∧ σ (30 + 4 * a) 5 = τ 86 a + τ 87 a * τ 70 (2 * a) + τ 70 (2 * a + 1)
def zPs (σ τ : Mem) (w : Nat) : Prop := σ (38 + w) 0 = τ 78 w ∧ σ (38 + w) 1 = τ 79 w ∧ σ (38 + w) 2 = τ 80 w ∧ σ (38 + w) 3 = τ 81 w ∧ σ (38 + w) 4 = τ 82 w ∧ σ (38 + w) 5 = τ 83 w ∧ zN (τ 82 w) 2000 ∧ zN (τ 83 w) 1
/-- the leaves alike -/
def zLv (σ τ : Mem) (T : Nat) : Prop :=
  (∀ a b, a < 2 → b < 2 → σ (30 + 4 * a + 1) b = τ 84 (2 * a + b) ∧ σ (30 + 4 * a + 2) b = τ 85 (2 * a + b) ∧ σ (30 + 4 * a + 3) b = τ 90 (2 * a + b) ∧ zN (τ 84 (2 * a + b)) T ∧ zN (τ 85 (2 * a + b)) T) ∧
  ∀ a, a < 2 → zKick σ τ T a ∧ σ (30 + 4 * a) 6 = τ 88 a ∧ σ (30 + 4 * a) 7 = τ 89 a
def zSm (τ : Mem) (n : Nat) : Prop := τ 66 39 = fSum (fun w => τ 83 w * τ 73 w) n ∧ τ 66 38 = fSum (fun w => τ 82 w) n
def zLd (τ : Mem) (n : Nat) (D : Nat → Prop) : Prop := ∀ c, c < 4 → (τ 84 c = 0 ∧ τ 85 c = 0) ∨ ∃ m : Nat, m < n ∧ D m ∧ τ 90 c = nI m
def zInv (σ τ : Mem) (n T : Nat) (D : Nat → Prop) : Prop :=
  zLv σ τ T ∧ (∀ w, w < n → D w → zPs σ τ w) ∧ (∀ w, w < n → ¬ D w → τ 78 w = 0 ∧ τ 82 w = 0 ∧ τ 83 w = 0) ∧ zSm τ n ∧ zLd τ n D
/-- while w is looked at -/
def zMid (σ τ : Mem) (n T : Nat) (D : Nat → Prop) (w : Nat) : Prop :=
  zLv σ τ T ∧ (∀ v, v < n → D v → zPs σ τ v) ∧ (∀ v, v < n → ¬ D v → v ≠ w → τ 78 v = 0 ∧ τ 82 v = 0 ∧ τ 83 v = 0) ∧ zSm τ n ∧ zLd τ n D ∧
  (σ (38 + w) 0 = τ 78 w ∧ σ (38 + w) 3 = τ 81 w ∧ σ (38 + w) 5 = τ 83 w ∧ zN (τ 83 w) 1)
theorem zLv.busy {σ τ : Mem} {T a b : Nat} {t : Int32} (h : zLv σ τ T) (ha : a < 2) (hb : b < 2) : fBusy σ (30 + 4 * a) b t = rBusy τ (2 * a + b) t := by
  obtain ⟨h1, h2, -⟩ := h.1 a b ha hb
  unfold fBusy rBusy
  rw [h1, h2]
theorem fSum_congr {f g : Nat → Int32} : ∀ {n : Nat}, (∀ i, i < n → f i = g i) → fSum f n = fSum g n
  | 0, _ => rfl
  | n + 1, h => by rw [fSum, fSum, fSum_congr (fun i hi => h i (by omega)), h n (by omega)]
theorem fSum_upd {f g : Nat → Int32} {w : Nat} (hg : ∀ i, i ≠ w → g i = f i) : ∀ {n : Nat}, w < n → fSum g n = fSum f n + (g w - f w)
  | 0, h => absurd h (Nat.not_lt_zero w)
  | n + 1, h => by
    rw [fSum, fSum]
    by_cases e : w = n
    · subst e
      rw [fSum_congr (fun i hi => hg i (by omega))]
      grind
    · rw [fSum_upd hg (show w < n by omega), hg n (by omega)]
      grind
