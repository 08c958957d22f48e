
def zRot (b d p : Nat) : Nat := if p = b then b + d else if b < p ∧ p ≤ b + d then p - 1 else p
def zLfo (c m : Nat) : Nat → Nat
  | 0 => m
  | p + 1 => zLfo c m p % zFa (c - (p + 1))
def zIx (c m : Nat) : Nat → Nat → Nat
  | 0, p => p
  | i + 1, p => zIx c m i (zRot i (zLfo c m i / zFa (c - (i + 1))) p)
def zFi (met : Nat) : Nat → Nat → Nat → Nat
  | 0, _, _ => 9
  | u + 1, p, skip => if (met >>> p) % 2 = 1 then zFi met u (p + 1) skip else if 0 < skip then zFi met u (p + 1) (skip - 1) else p
def zMt (c m : Nat) : Nat → Nat
  | 0 => 0
  | k + 1 => zMt c m k ||| 1 <<< zFi (zMt c m k) 6 0 (zLfo c m k / zFa (c - (k + 1)))
def zPx (c m k : Nat) : Nat := zFi (zMt c m k) 6 0 (zLfo c m k / zFa (c - (k + 1)))
def zAll (p : Nat → Bool) : Nat → Bool
  | 0 => true
  | n + 1 => p n && zAll p n
theorem zAll_at {p : Nat → Bool} : ∀ n, zAll p n = true → ∀ i, i < n → p i = true
  | 0, _, i, h => absurd h (Nat.not_lt_zero i)
  | n + 1, e, i, h => by
    rw [zAll, Bool.and_eq_true] at e
    rcases (show i = n ∨ i < n by omega) with rfl | h2
    · exact e.1
    · exact zAll_at n e.2 i h2
def zOk (c m : Nat) : Bool := zAll (fun k => zPx c m k == zIx c m c k && Nat.blt (zPx c m k) c && Nat.blt (zMt c m k) 64) c
def zOkc (c : Nat) : Bool := zAll (fun m => zOk c m) (zFa c)
theorem zOk_all : zAll zOkc 7 = true := by decide +kernel
/-- both ways of numbering the orders are one -/
theorem zNum {c m k : Nat} (hc : c ≤ 6) (hm : m < zFa c) (hk : k < c) : zPx c m k = zIx c m c k ∧ zPx c m k < c ∧ zMt c m k < 64 := by
  have e1 := zAll_at 7 zOk_all c (by omega)
  have e2 := zAll_at (p := fun m => zOk c m) (zFa c) e1 m hm
  have e3 := zAll_at (p := fun k => zPx c m k == zIx c m c k && Nat.blt (zPx c m k) c && Nat.blt (zMt c m k) 64) c e2 k hk
  have e3 : (zPx c m k == zIx c m c k && Nat.blt (zPx c m k) c && Nat.blt (zMt c m k) 64) = true := e3
  rw [Bool.and_eq_true, Bool.and_eq_true] at e3
  exact ⟨eq_of_beq e3.1.1, Nat.le_of_ble_eq_true e3.1.2, Nat.le_of_ble_eq_true e3.2⟩
theorem zSh_at {b : Nat} : ∀ (d : Nat) (f : Nat → Int32) (p : Nat), zSh b d f p = if b < p ∧ p ≤ b + d then f (p - 1) else f p
  | 0, f, p => by rw [zSh, if_neg (by omega)]
  | d + 1, f, p => by
    rw [zSh, zSh_at d]
    by_cases e : p = b + d + 1
    · rw [if_neg (by omega), if_pos (by omega), e, zu_at]
      congr 1
    · by_cases e2 : b < p ∧ p ≤ b + d
      · rw [if_pos e2, if_pos (by omega), zu_ne (by omega)]
      · rw [if_neg e2, if_neg (by omega), zu_ne e]
theorem zBf_at {f : Nat → Int32} {b d p : Nat} : zBf f b d p = f (zRot b d p) := by
  unfold zBf zRot
  by_cases e : p = b
  · rw [if_pos e, e, zu_at]
  · rw [if_neg e, zu_ne e, zSh_at]
    split <;> rfl
theorem zSb_lf {c m : Nat} {f : Nat → Int32} : ∀ i, (zSb c m f i).1 = zLfo c m i
  | 0 => rfl
  | i + 1 => by
    rw [zSb, zLfo, zSb_lf i, show c - 1 - i = c - (i + 1) by omega]
theorem zSb_ix {c m : Nat} {f : Nat → Int32} : ∀ i p, (zSb c m f i).2 p = f (zIx c m i p)
  | 0, p => rfl
  | i + 1, p => by
    rw [zSb, zIx]
    show zBf (zSb c m f i).2 i ((zSb c m f i).1 / zFa (c - 1 - i)) p = _
    rw [zBf_at, zSb_ix i, zSb_lf, show c - 1 - i = c - (i + 1) by omega]
theorem zLfo_lt {c m : Nat} (hm : m < zFa c) : ∀ p, p ≤ c → zLfo c m p < zFa (c - p)
  | 0, _ => hm
  | p + 1, h => by
    rw [zLfo]
    exact Nat.mod_lt _ (zFa_pos _)
theorem zFa_step {c k : Nat} (hk : k < c) (hc : c ≤ 6) : nI (zFa (c - k)) / nI (c - k) = nI (zFa (c - (k + 1))) := by
  have e : zFa (c - k) = (c - k) * zFa (c - (k + 1)) := by
    rw [show c - k = (c - (k + 1)) + 1 by omega, zFa]
  have b1 := zFa_le (j := c - k) (by omega)
  rw [pk_div (by omega) (by omega) (by omega), e, Nat.mul_div_cancel_left _ (by omega)]
theorem zbit {m p : Nat} (hm : m < 64) (hp : p < 6) : ((nI m >>> (nI p &&& 31)) &&& 1) = nI ((m >>> p) % 2) := by
  have e : ∀ m, m < 64 → ∀ p, p < 6 → ((nI m >>> (nI p &&& 31)) &&& 1) = nI ((m >>> p) % 2) := by decide +kernel
  exact e m hm p hp
theorem zbor {m p : Nat} (hm : m < 64) (hp : p < 6) : (nI m ||| ((1 : Int32) <<< (nI p &&& 31))) = nI (m ||| 1 <<< p) := by
  have e : ∀ m, m < 64 → ∀ p, p < 6 → (nI m ||| ((1 : Int32) <<< (nI p &&& 31))) = nI (m ||| 1 <<< p) := by decide +kernel
  exact e m hm p hp
theorem zb1 {x : Nat} (h : nI (x % 2) = 1) : x % 2 = 1 := by
  rcases (show x % 2 = 0 ∨ x % 2 = 1 by omega) with e | e
  · rw [e] at h; exact absurd h (by decide)
  · exact e
theorem zb0 {x : Nat} (h : ¬ nI (x % 2) = 1) : ¬ x % 2 = 1 := fun e => h (by rw [e]; rfl)
theorem zprd {c : Nat} {x : Int32} (hc : c < 1000) (h : nI c ≤ x) : nI c - 1 < x := by
  cases c with
  | zero => exact Int32.lt_of_lt_of_le (show nI 0 - 1 < nI 0 by decide) h
  | succ c =>
    rw [nI_pred]
    exact Int32.lt_of_lt_of_le (nI_lt (by omega) (by omega)) h
/-- a row filled in front -/
def zTk (f s : Nat → Int32) : Nat → Nat → Int32
  | 0 => f
  | k + 1 => zu (zTk f s k) k (s k)
theorem zTk_at {f s : Nat → Int32} : ∀ k p, zTk f s k p = if p < k then s p else f p
  | 0, p => by rw [zTk, if_neg (by omega)]
  | k + 1, p => by
    rw [zTk]
    by_cases e : p = k
    · rw [e, zu_at, if_pos (by omega)]
    · rw [zu_ne e, zTk_at k p]
      by_cases e2 : p < k
      · rw [if_pos e2, if_pos (by omega)]
      · rw [if_neg e2, if_neg (by omega)]
theorem mOr {M : Mem} {A B : Nat → Int32} {v k : Nat} {x z : Int32} : up2 (up2 (va_up (va_up M 95 A) 75 B) 75 v x) 95 k z = va_up (va_up M 95 (zu A k z)) 75 (zu B v x) := by
  rw [up2_va]
  funext q j
  by_cases e : q = 95
  · subst e
    rw [up2_row, va_up_ne _ _ (show 95 ≠ 75 by decide), va_up_ne _ _ (show 95 ≠ 75 by decide), va_up_self, va_up_self]
    rfl
  · rw [up2_ne e]
    by_cases e2 : q = 75
    · subst e2; rw [va_up_self, va_up_self]
    · rw [va_up_ne _ _ e2, va_up_ne _ _ e2, va_up_ne _ _ e, va_up_ne _ _ e]
/-- one order tried on, the reference's way -/
def rOr (c m : Nat) (M : Mem) : Mem := va_up (va_up M 95 (zTk (M 95) (fun k => M 93 (zPx c m k)) c)) 75 (zGt (M 75) (fun k => M 93 (zPx c m k)) (M 94) c)
def rOb (c n : Nat) (R : Mem) : Nat → Mem × Int32
  | 0 => (R, -1)
  | i + 1 => if (rOb c n R i).2 = -1 then (rCp (rNow (rOr c i (rOb c n R i).1) n) 92 95 0 0 c, rCost (rNow (rOr c i (rOb c n R i).1) n)) else if (rOb c n R i).2 ≤ rCost (rNow (rOr c i (rOb c n R i).1) n) then (rNow (rOr c i (rOb c n R i).1) n, (rOb c n R i).2) else (rCp (rNow (rOr c i (rOb c n R i).1) n) 92 95 0 0 c, rCost (rNow (rOr c i (rOb c n R i).1) n))
theorem rOr_ne {c m q : Nat} {M : Mem} (h1 : q ≠ 95) (h2 : q ≠ 75) : rOr c m M q = M q := by
  unfold rOr
  rw [va_up_ne _ _ h2, va_up_ne _ _ h1]
theorem rOr_75 {c m : Nat} {M : Mem} : rOr c m M 75 = zGt (M 75) (fun k => M 93 (zPx c m k)) (M 94) c := va_up_self _ _ _
theorem zGt_hi {h s t : Nat → Int32} {k : Nat} : ∀ c, (∀ p, p < c → ∃ v : Nat, v < 6 ∧ s p = nI v) → 6 ≤ k → zGt h s t c k = h k
  | 0, _, _ => rfl
  | c + 1, hs, hk => by
    obtain ⟨v, v1, v2⟩ := hs c (by omega)
    rw [zGt, v2, nI_clamp (show v < 2 ^ 31 by omega), zu_ne (by omega)]
    exact zGt_hi c (fun p hp => hs p (by omega)) hk
theorem rOr_fr {c m : Nat} {M : Mem} (hc : c ≤ 6) (hm : m < zFa c) (hp : ∀ p, p < c → ∃ v : Nat, v < 6 ∧ M 93 p = nI v) : zFr M (rOr c m M) := ⟨fun q h1 h2 h3 => rOr_ne (by omega) h2, rOr_ne (by decide) (by decide), rOr_ne (by decide) (by decide), fun j _ _ => by rw [rOr_ne (by decide) (by decide)], fun k hk => by rw [rOr_75]; exact zGt_hi c (fun p h => hp _ (zNum hc hm h).2.1) (by omega)⟩
theorem zFr.cq {μ : Mem} {a b i : Nat} : zFr μ (rCp μ 92 95 a b i) := ⟨fun q h _ _ => rCp_ne (by omega) i, rCp_ne (by decide) i, rCp_ne (by decide) i, fun j _ _ => by rw [rCp_ne (by decide)], fun j _ => by rw [rCp_ne (by decide)]⟩
theorem rOb_nx {c n : Nat} {R : Mem} {q : Nat} (i : Nat) (h1 : q ≠ 95) (h2 : q ≠ 75) (h3 : q ≠ 92) (h4 : ¬ zMe q) : (rOb c n R (i + 1)).1 q = (rOb c n R i).1 q := by
  have e : rNow (rOr c i (rOb c n R i).1) n q = (rOb c n R i).1 q := by rw [rNow_eq.1 q h4, rOr_ne h1 h2]
  rw [rOb]
  split
  · exact (rCp_ne h3 c).trans e
  · split
    · exact e
    · exact (rCp_ne h3 c).trans e
theorem rOb_ne {c n : Nat} {R : Mem} {q : Nat} (h1 : q ≠ 95) (h2 : q ≠ 75) (h3 : q ≠ 92) (h4 : ¬ zMe q) : ∀ i, (rOb c n R i).1 q = R q
  | 0 => rfl
  | i + 1 => (rOb_nx i h1 h2 h3 h4).trans (rOb_ne h1 h2 h3 h4 i)
theorem rOb_fr {c n : Nat} {R : Mem} (hc : c ≤ 6) (hp : ∀ p, p < c → ∃ v : Nat, v < 6 ∧ R 93 p = nI v) : ∀ i, i ≤ zFa c → zFr R (rOb c n R i).1
  | 0, _ => zFr.rf
  | i + 1, hi => by
    have hq : ∀ p, p < c → ∃ v : Nat, v < 6 ∧ (rOb c n R i).1 93 p = nI v := fun p h => by
      rw [rOb_ne (by decide) (by decide) (by decide) (by unfold zMe; omega)]
      exact hp p h
    have e := ((rOb_fr hc hp i (by omega)).tr (rOr_fr (m := i) hc (by omega) hq)).tr (zFr.now (n := n))
    rw [rOb]
    split
    · exact e.tr zFr.cq
    · split
      · exact e
      · exact e.tr zFr.cq
