
/-- where a reader stands: fault, its place, the letter, the place of the number -/
abbrev zCu : Type := Int32 × Int32 × Nat × Int32
def mC (M : Mem) (s : zCu) : Mem := va_up M 1 (fun j => if j = 5 then s.1 else if j = 6 then s.2.1 else if j = 7 then nI s.2.2.1 else if j = 8 then s.2.2.2 else M 1 j)
theorem mC_f {M : Mem} {s : zCu} : mC M s 1 5 = s.1 := rfl
theorem mC_p {M : Mem} {s : zCu} : mC M s 1 6 = s.2.1 := rfl
theorem mC_a {M : Mem} {s : zCu} : mC M s 1 7 = nI s.2.2.1 := rfl
theorem mC_q {M : Mem} {s : zCu} : mC M s 1 8 = s.2.2.2 := rfl
theorem mC_L {M : Mem} {s : zCu} : mC M s 1 4 = M 1 4 := rfl
theorem mC_9 {M : Mem} {s : zCu} : mC M s 1 9 = M 1 9 := rfl
theorem mC_10 {M : Mem} {s : zCu} : mC M s 1 10 = M 1 10 := rfl
theorem mC_ne {M : Mem} {s : zCu} {q : Nat} (h : q ≠ 1) : mC M s q = M q := va_up_ne _ _ h
theorem mC_ext {M N : Mem} {s : zCu} (h : ∀ q, q ≠ 1 → N q = M q) (h5 : N 1 5 = s.1) (h6 : N 1 6 = s.2.1) (h7 : N 1 7 = nI s.2.2.1) (h8 : N 1 8 = s.2.2.2) (hr : ∀ j, j ≠ 5 → j ≠ 6 → j ≠ 7 → j ≠ 8 → N 1 j = M 1 j) : N = mC M s := by
  funext q j
  by_cases e : q = 1
  · subst e
    unfold mC
    rw [va_up_self]
    by_cases e5 : j = 5
    · rw [if_pos e5, e5]; exact h5
    rw [if_neg e5]
    by_cases e6 : j = 6
    · rw [if_pos e6, e6]; exact h6
    rw [if_neg e6]
    by_cases e7 : j = 7
    · rw [if_pos e7, e7]; exact h7
    rw [if_neg e7]
    by_cases e8 : j = 8
    · rw [if_pos e8, e8]; exact h8
    rw [if_neg e8]
    exact hr j e5 e6 e7 e8
  · rw [mC_ne e, h q e]
theorem mC_row {M : Mem} {s : zCu} {j : Nat} (h5 : j ≠ 5) (h6 : j ≠ 6) (h7 : j ≠ 7) (h8 : j ≠ 8) : mC M s 1 j = M 1 j := by
  unfold mC
  rw [va_up_self, if_neg h5, if_neg h6, if_neg h7, if_neg h8]
theorem mC_up {M : Mem} {s : zCu} {q k : Nat} {v : Int32} (h : q ≠ 1) : up2 (mC M s) q k v = mC (up2 M q k v) s := by
  refine mC_ext (fun c hc => ?_) ?_ ?_ ?_ ?_ (fun j a1 a2 a3 a4 => ?_)
  · funext j
    by_cases e : c = q
    · rw [e, up2_row, up2_row, mC_ne h]
    · rw [up2_ne e, up2_ne e, mC_ne hc]
  all_goals rw [up2_ne (Ne.symm h)]
  · rfl
  · rfl
  · rfl
  · rfl
  · rw [up2_ne (Ne.symm h), mC_row a1 a2 a3 a4]
theorem mC_u1 {M : Mem} {s : zCu} {k : Nat} {v : Int32} (h5 : k ≠ 5) (h6 : k ≠ 6) (h7 : k ≠ 7) (h8 : k ≠ 8) : up2 (mC M s) 1 k v = mC (up2 M 1 k v) s := by
  refine mC_ext (fun c hc => ?_) ?_ ?_ ?_ ?_ (fun j a1 a2 a3 a4 => ?_)
  · rw [up2_ne hc, up2_ne hc, mC_ne hc]
  · rw [up2_row, if_neg (Ne.symm h5)]; rfl
  · rw [up2_row, if_neg (Ne.symm h6)]; rfl
  · rw [up2_row, if_neg (Ne.symm h7)]; rfl
  · rw [up2_row, if_neg (Ne.symm h8)]; rfl
  · rw [up2_row, up2_row, mC_row a1 a2 a3 a4]
theorem mC_ua {M : Mem} {s : zCu} {b : Nat} : up2 (mC M s) 1 7 (nI b) = mC M (s.1, s.2.1, b, s.2.2.2) := by
  refine mC_ext (fun c hc => by rw [up2_ne hc, mC_ne hc]) ?_ ?_ ?_ ?_ (fun j a1 a2 a3 a4 => by rw [up2_row, if_neg a3, mC_row a1 a2 a3 a4]) <;> rw [up2_row] <;> rfl
theorem mC_uf {M : Mem} {s : zCu} {x : Int32} : up2 (mC M s) 1 5 x = mC M (x, s.2.1, s.2.2.1, s.2.2.2) := by
  refine mC_ext (fun c hc => by rw [up2_ne hc, mC_ne hc]) ?_ ?_ ?_ ?_ (fun j a1 a2 a3 a4 => by rw [up2_row, if_neg a1, mC_row a1 a2 a3 a4]) <;> rw [up2_row] <;> rfl
theorem mC_upl {M : Mem} {s : zCu} {x : Int32} : up2 (mC M s) 1 6 x = mC M (s.1, x, s.2.2.1, s.2.2.2) := by
  refine mC_ext (fun c hc => by rw [up2_ne hc, mC_ne hc]) ?_ ?_ ?_ ?_ (fun j a1 a2 a3 a4 => by rw [up2_row, if_neg a2, mC_row a1 a2 a3 a4]) <;> rw [up2_row] <;> rfl
theorem mC_uq {M : Mem} {s : zCu} {x : Int32} : up2 (mC M s) 1 8 x = mC M (s.1, s.2.1, s.2.2.1, x) := by
  refine mC_ext (fun c hc => by rw [up2_ne hc, mC_ne hc]) ?_ ?_ ?_ ?_ (fun j a1 a2 a3 a4 => by rw [up2_row, if_neg a4, mC_row a1 a2 a3 a4]) <;> rw [up2_row] <;> rfl
/-- blanks -/
def zSkp (T : Nat → Int32) : Nat → Nat → Nat
  | 0, a => a
  | d + 1, a => if T a = 32 then zSkp T d (a + 1) else a
theorem zSkp_sp {T : Nat → Int32} : ∀ d a, a ≤ zSkp T d a ∧ zSkp T d a ≤ a + d ∧ (∀ i, a ≤ i → i < zSkp T d a → T i = 32) ∧ (zSkp T d a < a + d → ¬ T (zSkp T d a) = 32)
  | 0, a => ⟨Nat.le_refl a, Nat.le_refl a, fun i h1 h2 => absurd (show i < a from h2) (by omega), fun h => absurd (show a < a from h) (by omega)⟩
  | d + 1, a => by
    by_cases e : T a = 32
    · obtain ⟨h1, h2, h3, h4⟩ := zSkp_sp (T := T) d (a + 1)
      have e2 : zSkp T (d + 1) a = zSkp T d (a + 1) := if_pos e
      rw [e2]
      refine ⟨by omega, by omega, fun i i1 i2 => ?_, fun h => h4 (by omega)⟩
      rcases (show i = a ∨ a + 1 ≤ i by omega) with rfl | i3
      · exact e
      · exact h3 i i3 i2
    · have e2 : zSkp T (d + 1) a = a := if_neg e
      rw [e2]
      exact ⟨Nat.le_refl a, by omega, fun i i1 i2 => absurd i2 (by omega), fun _ => e⟩
def zDi (x : Int32) : Bool := decide (48 ≤ x ∧ x ≤ 57)
theorem zDi_iff {x : Int32} : zDi x = true ↔ 48 ≤ x ∧ x ≤ 57 := by unfold zDi; exact decide_eq_true_iff
/-- figures -/
def zFge (T : Nat → Int32) : Nat → Nat → Nat
  | 0, a => a
  | d + 1, a => if zDi (T a) = true then zFge T d (a + 1) else a
theorem zFge_sp {T : Nat → Int32} : ∀ d a, a ≤ zFge T d a ∧ zFge T d a ≤ a + d ∧ (∀ i, a ≤ i → i < zFge T d a → zDi (T i) = true) ∧ (zFge T d a < a + d → ¬ zDi (T (zFge T d a)) = true)
  | 0, a => ⟨Nat.le_refl a, Nat.le_refl a, fun i h1 h2 => absurd (show i < a from h2) (by omega), fun h => absurd (show a < a from h) (by omega)⟩
  | d + 1, a => by
    by_cases e : zDi (T a) = true
    · obtain ⟨h1, h2, h3, h4⟩ := zFge_sp (T := T) d (a + 1)
      have e2 : zFge T (d + 1) a = zFge T d (a + 1) := if_pos e
      rw [e2]
      refine ⟨by omega, by omega, fun i i1 i2 => ?_, fun h => h4 (by omega)⟩
      rcases (show i = a ∨ a + 1 ≤ i by omega) with rfl | i3
      · exact e
      · exact h3 i i3 i2
    · have e2 : zFge T (d + 1) a = a := if_neg e
      rw [e2]
      exact ⟨Nat.le_refl a, by omega, fun i i1 i2 => absurd i2 (by omega), fun _ => e⟩
/-- the number in a row of figures -/
def zVl (T : Nat → Int32) (b : Nat) : Nat → Nat
  | 0 => 0
  | i + 1 => zVl T b i * 10 + ((T (b + i)).toNatClampNeg - 48)
theorem zDi_at {x : Int32} (h0 : zDi x = true) : ∃ d : Nat, d ≤ 9 ∧ x = nI (d + 48) ∧ x.toNatClampNeg - 48 = d := by
  have h := zDi_iff.mp h0
  rcases zrng x 48 57 (by decide) (by decide) with e | ⟨j, j1, j2, rfl⟩
  · rcases e with e | e
    · exact (znle h.1 e).elim
    · exact (znle h.2 e).elim
  · exact ⟨j - 48, by omega, by rw [show j - 48 + 48 = j by omega], by rw [nI_clamp (show j < 2 ^ 31 by omega)]⟩
theorem zVl_lt {T : Nat → Int32} {b : Nat} : ∀ i, (∀ j, j < i → zDi (T (b + j)) = true) → zVl T b i < 10 ^ i
  | 0, _ => by rw [zVl]; decide
  | i + 1, h => by
    have ih := zVl_lt (T := T) (b := b) i (fun j hj => h j (by omega))
    obtain ⟨d, d1, -, d3⟩ := zDi_at (h i (by omega))
    rw [zVl, d3, Nat.pow_succ]
    omega
/-- the class's number -/
def zCn (T : Nat → Int32) (b : Nat) : Nat → Int32
  | 0 => 0
  | i + 1 => if 10000 < zCn T b i * 10 + T (b + i) - 48 then 10000 else zCn T b i * 10 + T (b + i) - 48
theorem zCn_eq {T : Nat → Int32} {b : Nat} : ∀ i, i ≤ 3 → (∀ j, j < i → zDi (T (b + j)) = true) → zCn T b i = nI (zVl T b i)
  | 0, _, _ => rfl
  | i + 1, hi, h => by
    have ih := zCn_eq (T := T) (b := b) i (by omega) (fun j hj => h j (by omega))
    have hl := zVl_lt (T := T) (b := b) i (fun j hj => h j (by omega))
    have hp : 10 ^ i ≤ 10 ^ 2 := Nat.pow_le_pow_right (by decide) (by omega)
    obtain ⟨d, d1, d2, d3⟩ := zDi_at (h i (by omega))
    have e : zCn T b i * 10 + T (b + i) - 48 = nI (zVl T b i * 10 + d) := by
      rw [ih, d2, show (10 : Int32) = nI 10 from rfl, pk_mul, nI_add, show (48 : Int32) = nI 48 from rfl, pk_sub (by omega)]
      congr 1
    rw [zCn, e, zVl, d3, if_neg]
    exact nI_nlt (a := 10000) (b := zVl T b i * 10 + d) (by omega) (by omega)
def zFl (s : zCu) (x y : Int32) : zCu := if s.1 = 0 then (x, y, s.2.2.1, s.2.2.2) else s
/-- after the blanks -/
def zBk (T : Nat → Int32) (L a : Nat) : Nat := zSkp T (L - a) a
def zEg (T : Nat → Int32) (L a : Nat) : Nat := zFge T (L - a) a
def zNk (T : Nat → Int32) (L a lo hi : Nat) : Bool := decide (¬ 3 < zEg T L a - a ∧ ¬ zVl T a (zEg T L a - a) < lo ∧ ¬ hi < zVl T a (zEg T L a - a))
theorem zNk_iff {T : Nat → Int32} {L a lo hi : Nat} : zNk T L a lo hi = true ↔ (¬ 3 < zEg T L a - a ∧ ¬ zVl T a (zEg T L a - a) < lo ∧ ¬ hi < zVl T a (zEg T L a - a)) := by unfold zNk; exact decide_eq_true_iff
def zNu (T : Nat → Int32) (L : Nat) (s : zCu) (lo hi : Nat) : zCu × Nat :=
  if zBk T L s.2.2.1 < L ∧ zDi (T (zBk T L s.2.2.1)) = true then
    if zNk T L (zBk T L s.2.2.1) lo hi = true then (⟨s.1, s.2.1, zEg T L (zBk T L s.2.2.1), nI (zBk T L s.2.2.1)⟩, zVl T (zBk T L s.2.2.1) (zEg T L (zBk T L s.2.2.1) - zBk T L s.2.2.1))
    else (zFl ⟨s.1, s.2.1, zEg T L (zBk T L s.2.2.1), nI (zBk T L s.2.2.1)⟩ 2 (nI (zBk T L s.2.2.1)), lo)
  else (zFl (s.1, s.2.1, zBk T L s.2.2.1, s.2.2.2) 1 (nI (zBk T L s.2.2.1)), lo)
def zEn (T : Nat → Int32) (L : Nat) (s : zCu) : zCu :=
  if zBk T L s.2.2.1 < L ∧ T (zBk T L s.2.2.1) = 59 then (s.1, s.2.1, zBk T L s.2.2.1 + 1, s.2.2.2) else zFl (s.1, s.2.1, zBk T L s.2.2.1, s.2.2.2) 1 (nI (zBk T L s.2.2.1))
theorem zBk_sp {T : Nat → Int32} {L a : Nat} (h : a ≤ L) : a ≤ zBk T L a ∧ zBk T L a ≤ L ∧ (∀ i, a ≤ i → i < zBk T L a → T i = 32) ∧ (zBk T L a < L → ¬ T (zBk T L a) = 32) := by
  obtain ⟨h1, h2, h3, h4⟩ := zSkp_sp (T := T) (L - a) a
  exact ⟨h1, by unfold zBk; omega, h3, fun h5 => h4 (by unfold zBk at h5; omega)⟩
theorem zEg_sp {T : Nat → Int32} {L a : Nat} (h : a ≤ L) : a ≤ zEg T L a ∧ zEg T L a ≤ L ∧ (∀ i, a ≤ i → i < zEg T L a → zDi (T i) = true) ∧ (zEg T L a < L → ¬ zDi (T (zEg T L a)) = true) := by
  obtain ⟨h1, h2, h3, h4⟩ := zFge_sp (T := T) (L - a) a
  exact ⟨h1, by unfold zEg; omega, h3, fun h5 => h4 (by unfold zEg at h5; omega)⟩
theorem zFl_a {s : zCu} {x y : Int32} : (zFl s x y).2.2.1 = s.2.2.1 := by unfold zFl; split <;> rfl
theorem zFl_q {s : zCu} {x y : Int32} : (zFl s x y).2.2.2 = s.2.2.2 := by unfold zFl; split <;> rfl
theorem zNu_a {T : Nat → Int32} {L lo hi : Nat} {s : zCu} (h : s.2.2.1 ≤ L) : s.2.2.1 ≤ (zNu T L s lo hi).1.2.2.1 ∧ (zNu T L s lo hi).1.2.2.1 ≤ L := by
  obtain ⟨b1, b2, -, -⟩ := zBk_sp (T := T) h
  obtain ⟨e1, e2, -, -⟩ := zEg_sp (T := T) b2
  unfold zNu
  split
  · split
    · exact ⟨by show s.2.2.1 ≤ zEg T L (zBk T L s.2.2.1); omega, e2⟩
    · rw [zFl_a]
      exact ⟨by show s.2.2.1 ≤ zEg T L (zBk T L s.2.2.1); omega, e2⟩
  · rw [zFl_a]
    exact ⟨b1, b2⟩
theorem zNu_v {T : Nat → Int32} {L lo hi : Nat} {s : zCu} (h : lo ≤ hi) : lo ≤ (zNu T L s lo hi).2 ∧ (zNu T L s lo hi).2 ≤ hi := by
  unfold zNu
  split
  · split
    · rename_i e
      have e := zNk_iff.mp e
      exact ⟨Nat.not_lt.mp e.2.1, Nat.not_lt.mp e.2.2⟩
    · exact ⟨Nat.le_refl lo, h⟩
  · exact ⟨Nat.le_refl lo, h⟩
theorem zEn_a {T : Nat → Int32} {L : Nat} {s : zCu} (h : s.2.2.1 ≤ L) : s.2.2.1 ≤ (zEn T L s).2.2.1 ∧ (zEn T L s).2.2.1 ≤ L := by
  obtain ⟨b1, b2, -, -⟩ := zBk_sp (T := T) h
  unfold zEn
  split
  · rename_i e
    exact ⟨by show s.2.2.1 ≤ zBk T L s.2.2.1 + 1; omega, by show zBk T L s.2.2.1 + 1 ≤ L; omega⟩
  · rw [zFl_a]; exact ⟨b1, b2⟩
/-- the first fault stays -/
theorem zFl_st {s : zCu} {x y : Int32} (h : ¬ s.1 = 0) : zFl s x y = s := by unfold zFl; rw [if_neg h]
theorem zFl_f {s : zCu} {x y : Int32} (hx : ¬ x = 0) : ¬ (zFl s x y).1 = 0 := by
  unfold zFl
  split
  · exact hx
  · assumption
theorem zNu_st {T : Nat → Int32} {L lo hi : Nat} {s : zCu} (h : ¬ s.1 = 0) : (zNu T L s lo hi).1.1 = s.1 ∧ (zNu T L s lo hi).1.2.1 = s.2.1 := by
  unfold zNu
  split
  · split
    · exact ⟨rfl, rfl⟩
    · rw [zFl_st (by exact h)]; exact ⟨rfl, rfl⟩
  · rw [zFl_st (by exact h)]; exact ⟨rfl, rfl⟩
theorem zEn_st {T : Nat → Int32} {L : Nat} {s : zCu} (h : ¬ s.1 = 0) : (zEn T L s).1 = s.1 ∧ (zEn T L s).2.1 = s.2.1 := by
  unfold zEn
  split
  · exact ⟨rfl, rfl⟩
  · rw [zFl_st (by exact h)]; exact ⟨rfl, rfl⟩
