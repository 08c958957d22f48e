
theorem zGt_congr {h s s' t : Nat → Int32} : ∀ c, (∀ p, p < c → s p = s' p) → zGt h s t c = zGt h s' t c
  | 0, _ => rfl
  | c + 1, e => by rw [zGt, zGt, zGt_congr c (fun p hp => e p (by omega)), e c (by omega)]
theorem zAr_ne {sd : Nat → Int32} {s x g : Int32} {f : Nat → Int32} {k : Nat} : ∀ i, i ≤ k → (zAr sd s x g f i).2 k = f k
  | 0, _ => rfl
  | i + 1, h => by
    rw [zAr]
    split
    · exact (zu_ne (by omega)).trans (zAr_ne i (by omega))
    · exact zAr_ne i (by omega)
theorem zAr_N {sd : Nat → Int32} {s x : Int32} {f : Nat → Int32} {n b : Nat} (h6 : n ≤ 6) (hb : b ≤ 50) (hf : ∀ w, w < n → zN (f w) 999) (hx : ∀ i, i < n → sd i = s → zN x 999) : ∀ i, i ≤ n → (zAr sd s x (nI b) f i).1 ≤ i ∧ ∀ w, w < n → zN ((zAr sd s x (nI b) f i).2 w) 1300
  | 0, _ => ⟨Nat.le_refl 0, fun w hw => (hf w hw).mono (by decide)⟩
  | i + 1, hi => by
    obtain ⟨h1, h2⟩ := zAr_N h6 hb hf hx i (by omega)
    rw [zAr]
    by_cases e : sd i = s
    · rw [if_pos e]
      refine ⟨by show (zAr sd s x (nI b) f i).1 + 1 ≤ i + 1; omega, fun w hw => ?_⟩
      show zN (zu (zAr sd s x (nI b) f i).2 i (x + nI b * nI (zAr sd s x (nI b) f i).1) w) 1300
      by_cases q : w = i
      · rw [q, zu_at]
        obtain ⟨k, k1, k2⟩ := hx i (by omega) e
        have hm : b * (zAr sd s x (nI b) f i).1 ≤ 50 * 5 := Nat.mul_le_mul hb (by omega)
        exact ⟨k + b * (zAr sd s x (nI b) f i).1, by omega, by rw [k2, pk_mul, nI_add]⟩
      · rw [zu_ne q]; exact h2 w hw
    · rw [if_neg e]
      exact ⟨by omega, h2⟩
theorem zFr.va {τ : Mem} {f : Nat → Int32} (h : ∀ k, 21 ≤ k → f k = τ 75 k) : zFr τ (va_up τ 75 f) := ⟨fun q _ a _ => va_up_ne _ _ a, va_up_ne _ _ (by decide), va_up_ne _ _ (by decide), fun j _ _ => by rw [va_up_ne _ _ (by decide)], fun k hk => by rw [va_up_self]; exact h k hk⟩
theorem op_apart (u v : Int32) : zOp mX9_apart [.ref 0, .int u, .int v] mX10_apart [.ref 66, .int u, .int v] := by
  intro l G μ ν n h
  have h6 := h.1
  have hn := h.2.1
  have hm := h.2.2.1
  rcases zrng u 0 1 (by decide) (by decide) with hu | ⟨a, -, ha, rfl⟩
  · exact zOp.same h (c_apart_a hu) (d_apart_a hu) rfl
  rcases zrng v 0 50 (by decide) (by decide) with hu | ⟨b, -, hb, rfl⟩
  · exact zOp.same h (c_apart_b ha hu) (d_apart_b ha hu) rfl
  have hs := h.hp.sides
  have f0 : zFc μ (va_up (va_up (va_up (mGa (fPlanCp μ 45 22) (zGa (μ 18) (μ 23) (nI a) (μ 50) (μ 52) n).1 (zGa (μ 18) (μ 23) (nI a) (μ 50) (μ 52) n).2.1 (zGa (μ 18) (μ 23) (nI a) (μ 50) (μ 52) n).2.2) 51 (zSb (zGa (μ 18) (μ 23) (nI a) (μ 50) (μ 52) n).1 0 (va_cpy (zGa (μ 18) (μ 23) (nI a) (μ 50) (μ 52) n).2.2 (μ 51) 0 0 (zGa (μ 18) (μ 23) (nI a) (μ 50) (μ 52) n).1) (zGa (μ 18) (μ 23) (nI a) (μ 50) (μ 52) n).1).2) 50 (zAp (zGa (μ 18) (μ 23) (nI a) (μ 50) (μ 52) n).2.1 (nI b) ((zGa (μ 18) (μ 23) (nI a) (μ 50) (μ 52) n).1 - 1))) 46 (zGt ((fPlanCp μ 45 22) 46) (zSb (zGa (μ 18) (μ 23) (nI a) (μ 50) (μ 52) n).1 0 (va_cpy (zGa (μ 18) (μ 23) (nI a) (μ 50) (μ 52) n).2.2 (μ 51) 0 0 (zGa (μ 18) (μ 23) (nI a) (μ 50) (μ 52) n).1) (zGa (μ 18) (μ 23) (nI a) (μ 50) (μ 52) n).1).2 (zAp (zGa (μ 18) (μ 23) (nI a) (μ 50) (μ 52) n).2.1 (nI b) ((zGa (μ 18) (μ 23) (nI a) (μ 50) (μ 52) n).1 - 1)) (zGa (μ 18) (μ 23) (nI a) (μ 50) (μ 52) n).1)) := (((zFc.cp.tr zFc.ga).tr (zFc.va (by decide))).tr (zFc.va (by decide))).tr (zFc.va (by decide))
  have f3 := f0.tr (zFc.run (pl := 45) h6 (f0.sd hs))
  have h2 := h.congr zKeepC.rf f3.hi
  have hsd : ∀ w, w < n → μ 18 w = μ 71 w := fun w hw => (h.2.2.2.1.1 w hw).1
  have hco : ∀ w, w < n → μ 23 w = μ 75 w := fun w hw => (h.2.2.2.2.1.1 w hw).1
  have hk9 : ∀ w, w < n → zN (μ 75 w) 999 := fun w hw => (h.2.2.2.2.2.1.1 w hw).1
  have hmin := zGa_min (sd := μ 18) (co := μ 23) (s := nI a) (f0 := μ 50) (g0 := μ 52) (n := n) (fun w hw => by rw [hco w hw]; exact hk9 w hw) n (Nat.le_refl n)
  rw [zMn_congr (sd' := μ 71) (co' := μ 75) n (fun w hw => ⟨hsd w hw, hco w hw⟩)] at hmin
  have hx : 0 < (zGa (μ 18) (μ 23) (nI a) (μ 50) (μ 52) n).1 → zMn (μ 71) (μ 75) (nI a) n = (zGa (μ 18) (μ 23) (nI a) (μ 50) (μ 52) n).2.1 0 := fun hp => by
    rcases hmin with ⟨z, -⟩ | ⟨-, z, -⟩
    · omega
    · exact z
  have hx9 : ∀ i, i < n → μ 71 i = nI a → zN (zMn (μ 71) (μ 75) (nI a) n) 999 := fun i hi e => by
    have eG : zGa (μ 18) (μ 23) (nI a) (μ 50) (μ 52) (i + 1) = _ := if_pos (show μ 18 i = nI a by rw [hsd i hi]; exact e)
    have m := (zGa_mono (sd := μ 18) (co := μ 23) (s := nI a) (f0 := μ 50) (g0 := μ 52) (i := i + 1) (n - (i + 1))).1
    rw [show i + 1 + (n - (i + 1)) = n by omega, eG] at m
    have m : (zGa (μ 18) (μ 23) (nI a) (μ 50) (μ 52) i).1 + 1 ≤ (zGa (μ 18) (μ 23) (nI a) (μ 50) (μ 52) n).1 := m
    rcases hmin with ⟨z, -⟩ | ⟨-, -, ⟨k, k1, k2⟩, -⟩
    · omega
    · exact ⟨k, k1, k2⟩
  obtain ⟨t1, t2, t3⟩ := h.trial
  have hap := (zApart (sd := μ 18) (co := μ 23) (sd' := μ 71) (s := nI a) (g := nI b) (x := zMn (μ 71) (μ 75) (nI a) n) (f0 := μ 50) (g0 := μ 52) (h := fPlanCp μ 45 22 46) (h' := μ 75) h6 hsd (fun w hw => (t1 w hw).1) hx n (Nat.le_refl n)).2
  have hrn := (zAr_N (sd := μ 71) (s := nI a) (x := zMn (μ 71) (μ 75) (nI a) n) (f := μ 75) h6 hb hk9 hx9 n (Nat.le_refl n)).2
  have pk : zPk (zAr (μ 71) (nI a) (zMn (μ 71) (μ 75) (nI a) n) (nI b) (μ 75) n).2 n 1300 := by
    obtain ⟨k1, k2, k3⟩ := h.k13
    refine ⟨fun w hw => ⟨hrn w hw, ?_, ?_⟩, ?_, ?_⟩
    · rw [zAr_ne n (by omega)]; exact (k1 w hw).2.1
    · rw [zAr_ne n (by omega)]; exact (k1 w hw).2.2
    · rw [zAr_ne n (by omega)]; exact k2
    · rw [zAr_ne n (by omega)]; exact k3
  have pl : zPl (va_up (va_up (va_up (mGa (fPlanCp μ 45 22) (zGa (μ 18) (μ 23) (nI a) (μ 50) (μ 52) n).1 (zGa (μ 18) (μ 23) (nI a) (μ 50) (μ 52) n).2.1 (zGa (μ 18) (μ 23) (nI a) (μ 50) (μ 52) n).2.2) 51 (zSb (zGa (μ 18) (μ 23) (nI a) (μ 50) (μ 52) n).1 0 (va_cpy (zGa (μ 18) (μ 23) (nI a) (μ 50) (μ 52) n).2.2 (μ 51) 0 0 (zGa (μ 18) (μ 23) (nI a) (μ 50) (μ 52) n).1) (zGa (μ 18) (μ 23) (nI a) (μ 50) (μ 52) n).1).2) 50 (zAp (zGa (μ 18) (μ 23) (nI a) (μ 50) (μ 52) n).2.1 (nI b) ((zGa (μ 18) (μ 23) (nI a) (μ 50) (μ 52) n).1 - 1))) 46 (zGt ((fPlanCp μ 45 22) 46) (zSb (zGa (μ 18) (μ 23) (nI a) (μ 50) (μ 52) n).1 0 (va_cpy (zGa (μ 18) (μ 23) (nI a) (μ 50) (μ 52) n).2.2 (μ 51) 0 0 (zGa (μ 18) (μ 23) (nI a) (μ 50) (μ 52) n).1) (zGa (μ 18) (μ 23) (nI a) (μ 50) (μ 52) n).1).2 (zAp (zGa (μ 18) (μ 23) (nI a) (μ 50) (μ 52) n).2.1 (nI b) ((zGa (μ 18) (μ 23) (nI a) (μ 50) (μ 52) n).1 - 1)) (zGa (μ 18) (μ 23) (nI a) (μ 50) (μ 52) n).1)) 45 (zAr (μ 71) (nI a) (zMn (μ 71) (μ 75) (nI a) n) (nI b) (μ 75) n).2 n := by
    have eS : (zSb (zGa (μ 18) (μ 23) (nI a) (μ 50) (μ 52) n).1 0 (va_cpy (zGa (μ 18) (μ 23) (nI a) (μ 50) (μ 52) n).2.2 (μ 51) 0 0 (zGa (μ 18) (μ 23) (nI a) (μ 50) (μ 52) n).1) (zGa (μ 18) (μ 23) (nI a) (μ 50) (μ 52) n).1).2 = va_cpy (zGa (μ 18) (μ 23) (nI a) (μ 50) (μ 52) n).2.2 (μ 51) 0 0 (zGa (μ 18) (μ 23) (nI a) (μ 50) (μ 52) n).1 := by rw [zSb_0]
    refine ⟨fun w hw => ⟨?_, ?_, ?_⟩, ?_, ?_⟩
    · rw [← hap w hw]
      refine (congrFun (va_up_self _ _ _) w).trans ?_
      rw [eS]
      refine congrFun (zGt_congr _ (fun p hp => ?_)) w
      unfold va_cpy
      rw [if_pos (by omega), show 0 + (p - 0) = p by omega]
    · rw [zAr_ne n (by omega)]; exact (t1 w hw).2.1
    · rw [zAr_ne n (by omega)]; exact (t1 w hw).2.2
    · rw [zAr_ne n (by omega)]; exact t2
    · rw [zAr_ne n (by omega)]; exact t3
  have e71 : gRun (va_up (va_up (va_up (mGa (fPlanCp μ 45 22) (zGa (μ 18) (μ 23) (nI a) (μ 50) (μ 52) n).1 (zGa (μ 18) (μ 23) (nI a) (μ 50) (μ 52) n).2.1 (zGa (μ 18) (μ 23) (nI a) (μ 50) (μ 52) n).2.2) 51 (zSb (zGa (μ 18) (μ 23) (nI a) (μ 50) (μ 52) n).1 0 (va_cpy (zGa (μ 18) (μ 23) (nI a) (μ 50) (μ 52) n).2.2 (μ 51) 0 0 (zGa (μ 18) (μ 23) (nI a) (μ 50) (μ 52) n).1) (zGa (μ 18) (μ 23) (nI a) (μ 50) (μ 52) n).1).2) 50 (zAp (zGa (μ 18) (μ 23) (nI a) (μ 50) (μ 52) n).2.1 (nI b) ((zGa (μ 18) (μ 23) (nI a) (μ 50) (μ 52) n).1 - 1))) 46 (zGt ((fPlanCp μ 45 22) 46) (zSb (zGa (μ 18) (μ 23) (nI a) (μ 50) (μ 52) n).1 0 (va_cpy (zGa (μ 18) (μ 23) (nI a) (μ 50) (μ 52) n).2.2 (μ 51) 0 0 (zGa (μ 18) (μ 23) (nI a) (μ 50) (μ 52) n).1) (zGa (μ 18) (μ 23) (nI a) (μ 50) (μ 52) n).1).2 (zAp (zGa (μ 18) (μ 23) (nI a) (μ 50) (μ 52) n).2.1 (nI b) ((zGa (μ 18) (μ 23) (nI a) (μ 50) (μ 52) n).1 - 1)) (zGa (μ 18) (μ 23) (nI a) (μ 50) (μ 52) n).1)) 45 n 71 = μ 71 := f3 71 (by omega)
  have e75 : gRun (va_up (va_up (va_up (mGa (fPlanCp μ 45 22) (zGa (μ 18) (μ 23) (nI a) (μ 50) (μ 52) n).1 (zGa (μ 18) (μ 23) (nI a) (μ 50) (μ 52) n).2.1 (zGa (μ 18) (μ 23) (nI a) (μ 50) (μ 52) n).2.2) 51 (zSb (zGa (μ 18) (μ 23) (nI a) (μ 50) (μ 52) n).1 0 (va_cpy (zGa (μ 18) (μ 23) (nI a) (μ 50) (μ 52) n).2.2 (μ 51) 0 0 (zGa (μ 18) (μ 23) (nI a) (μ 50) (μ 52) n).1) (zGa (μ 18) (μ 23) (nI a) (μ 50) (μ 52) n).1).2) 50 (zAp (zGa (μ 18) (μ 23) (nI a) (μ 50) (μ 52) n).2.1 (nI b) ((zGa (μ 18) (μ 23) (nI a) (μ 50) (μ 52) n).1 - 1))) 46 (zGt ((fPlanCp μ 45 22) 46) (zSb (zGa (μ 18) (μ 23) (nI a) (μ 50) (μ 52) n).1 0 (va_cpy (zGa (μ 18) (μ 23) (nI a) (μ 50) (μ 52) n).2.2 (μ 51) 0 0 (zGa (μ 18) (μ 23) (nI a) (μ 50) (μ 52) n).1) (zGa (μ 18) (μ 23) (nI a) (μ 50) (μ 52) n).1).2 (zAp (zGa (μ 18) (μ 23) (nI a) (μ 50) (μ 52) n).2.1 (nI b) ((zGa (μ 18) (μ 23) (nI a) (μ 50) (μ 52) n).1 - 1)) (zGa (μ 18) (μ 23) (nI a) (μ 50) (μ 52) n).1)) 45 n 75 = μ 75 := f3 75 (by omega)
  have hfr : zFr (rCp (gRun (va_up (va_up (va_up (mGa (fPlanCp μ 45 22) (zGa (μ 18) (μ 23) (nI a) (μ 50) (μ 52) n).1 (zGa (μ 18) (μ 23) (nI a) (μ 50) (μ 52) n).2.1 (zGa (μ 18) (μ 23) (nI a) (μ 50) (μ 52) n).2.2) 51 (zSb (zGa (μ 18) (μ 23) (nI a) (μ 50) (μ 52) n).1 0 (va_cpy (zGa (μ 18) (μ 23) (nI a) (μ 50) (μ 52) n).2.2 (μ 51) 0 0 (zGa (μ 18) (μ 23) (nI a) (μ 50) (μ 52) n).1) (zGa (μ 18) (μ 23) (nI a) (μ 50) (μ 52) n).1).2) 50 (zAp (zGa (μ 18) (μ 23) (nI a) (μ 50) (μ 52) n).2.1 (nI b) ((zGa (μ 18) (μ 23) (nI a) (μ 50) (μ 52) n).1 - 1))) 46 (zGt ((fPlanCp μ 45 22) 46) (zSb (zGa (μ 18) (μ 23) (nI a) (μ 50) (μ 52) n).1 0 (va_cpy (zGa (μ 18) (μ 23) (nI a) (μ 50) (μ 52) n).2.2 (μ 51) 0 0 (zGa (μ 18) (μ 23) (nI a) (μ 50) (μ 52) n).1) (zGa (μ 18) (μ 23) (nI a) (μ 50) (μ 52) n).1).2 (zAp (zGa (μ 18) (μ 23) (nI a) (μ 50) (μ 52) n).2.1 (nI b) ((zGa (μ 18) (μ 23) (nI a) (μ 50) (μ 52) n).1 - 1)) (zGa (μ 18) (μ 23) (nI a) (μ 50) (μ 52) n).1)) 45 n) 91 75 0 0 21) (va_up (rCp (gRun (va_up (va_up (va_up (mGa (fPlanCp μ 45 22) (zGa (μ 18) (μ 23) (nI a) (μ 50) (μ 52) n).1 (zGa (μ 18) (μ 23) (nI a) (μ 50) (μ 52) n).2.1 (zGa (μ 18) (μ 23) (nI a) (μ 50) (μ 52) n).2.2) 51 (zSb (zGa (μ 18) (μ 23) (nI a) (μ 50) (μ 52) n).1 0 (va_cpy (zGa (μ 18) (μ 23) (nI a) (μ 50) (μ 52) n).2.2 (μ 51) 0 0 (zGa (μ 18) (μ 23) (nI a) (μ 50) (μ 52) n).1) (zGa (μ 18) (μ 23) (nI a) (μ 50) (μ 52) n).1).2) 50 (zAp (zGa (μ 18) (μ 23) (nI a) (μ 50) (μ 52) n).2.1 (nI b) ((zGa (μ 18) (μ 23) (nI a) (μ 50) (μ 52) n).1 - 1))) 46 (zGt ((fPlanCp μ 45 22) 46) (zSb (zGa (μ 18) (μ 23) (nI a) (μ 50) (μ 52) n).1 0 (va_cpy (zGa (μ 18) (μ 23) (nI a) (μ 50) (μ 52) n).2.2 (μ 51) 0 0 (zGa (μ 18) (μ 23) (nI a) (μ 50) (μ 52) n).1) (zGa (μ 18) (μ 23) (nI a) (μ 50) (μ 52) n).1).2 (zAp (zGa (μ 18) (μ 23) (nI a) (μ 50) (μ 52) n).2.1 (nI b) ((zGa (μ 18) (μ 23) (nI a) (μ 50) (μ 52) n).1 - 1)) (zGa (μ 18) (μ 23) (nI a) (μ 50) (μ 52) n).1)) 45 n) 91 75 0 0 21) 75 (zAr (gRun (va_up (va_up (va_up (mGa (fPlanCp μ 45 22) (zGa (μ 18) (μ 23) (nI a) (μ 50) (μ 52) n).1 (zGa (μ 18) (μ 23) (nI a) (μ 50) (μ 52) n).2.1 (zGa (μ 18) (μ 23) (nI a) (μ 50) (μ 52) n).2.2) 51 (zSb (zGa (μ 18) (μ 23) (nI a) (μ 50) (μ 52) n).1 0 (va_cpy (zGa (μ 18) (μ 23) (nI a) (μ 50) (μ 52) n).2.2 (μ 51) 0 0 (zGa (μ 18) (μ 23) (nI a) (μ 50) (μ 52) n).1) (zGa (μ 18) (μ 23) (nI a) (μ 50) (μ 52) n).1).2) 50 (zAp (zGa (μ 18) (μ 23) (nI a) (μ 50) (μ 52) n).2.1 (nI b) ((zGa (μ 18) (μ 23) (nI a) (μ 50) (μ 52) n).1 - 1))) 46 (zGt ((fPlanCp μ 45 22) 46) (zSb (zGa (μ 18) (μ 23) (nI a) (μ 50) (μ 52) n).1 0 (va_cpy (zGa (μ 18) (μ 23) (nI a) (μ 50) (μ 52) n).2.2 (μ 51) 0 0 (zGa (μ 18) (μ 23) (nI a) (μ 50) (μ 52) n).1) (zGa (μ 18) (μ 23) (nI a) (μ 50) (μ 52) n).1).2 (zAp (zGa (μ 18) (μ 23) (nI a) (μ 50) (μ 52) n).2.1 (nI b) ((zGa (μ 18) (μ 23) (nI a) (μ 50) (μ 52) n).1 - 1)) (zGa (μ 18) (μ 23) (nI a) (μ 50) (μ 52) n).1)) 45 n 71) (nI a) (zMn (gRun (va_up (va_up (va_up (mGa (fPlanCp μ 45 22) (zGa (μ 18) (μ 23) (nI a) (μ 50) (μ 52) n).1 (zGa (μ 18) (μ 23) (nI a) (μ 50) (μ 52) n).2.1 (zGa (μ 18) (μ 23) (nI a) (μ 50) (μ 52) n).2.2) 51 (zSb (zGa (μ 18) (μ 23) (nI a) (μ 50) (μ 52) n).1 0 (va_cpy (zGa (μ 18) (μ 23) (nI a) (μ 50) (μ 52) n).2.2 (μ 51) 0 0 (zGa (μ 18) (μ 23) (nI a) (μ 50) (μ 52) n).1) (zGa (μ 18) (μ 23) (nI a) (μ 50) (μ 52) n).1).2) 50 (zAp (zGa (μ 18) (μ 23) (nI a) (μ 50) (μ 52) n).2.1 (nI b) ((zGa (μ 18) (μ 23) (nI a) (μ 50) (μ 52) n).1 - 1))) 46 (zGt ((fPlanCp μ 45 22) 46) (zSb (zGa (μ 18) (μ 23) (nI a) (μ 50) (μ 52) n).1 0 (va_cpy (zGa (μ 18) (μ 23) (nI a) (μ 50) (μ 52) n).2.2 (μ 51) 0 0 (zGa (μ 18) (μ 23) (nI a) (μ 50) (μ 52) n).1) (zGa (μ 18) (μ 23) (nI a) (μ 50) (μ 52) n).1).2 (zAp (zGa (μ 18) (μ 23) (nI a) (μ 50) (μ 52) n).2.1 (nI b) ((zGa (μ 18) (μ 23) (nI a) (μ 50) (μ 52) n).1 - 1)) (zGa (μ 18) (μ 23) (nI a) (μ 50) (μ 52) n).1)) 45 n 71) (gRun (va_up (va_up (va_up (mGa (fPlanCp μ 45 22) (zGa (μ 18) (μ 23) (nI a) (μ 50) (μ 52) n).1 (zGa (μ 18) (μ 23) (nI a) (μ 50) (μ 52) n).2.1 (zGa (μ 18) (μ 23) (nI a) (μ 50) (μ 52) n).2.2) 51 (zSb (zGa (μ 18) (μ 23) (nI a) (μ 50) (μ 52) n).1 0 (va_cpy (zGa (μ 18) (μ 23) (nI a) (μ 50) (μ 52) n).2.2 (μ 51) 0 0 (zGa (μ 18) (μ 23) (nI a) (μ 50) (μ 52) n).1) (zGa (μ 18) (μ 23) (nI a) (μ 50) (μ 52) n).1).2) 50 (zAp (zGa (μ 18) (μ 23) (nI a) (μ 50) (μ 52) n).2.1 (nI b) ((zGa (μ 18) (μ 23) (nI a) (μ 50) (μ 52) n).1 - 1))) 46 (zGt ((fPlanCp μ 45 22) 46) (zSb (zGa (μ 18) (μ 23) (nI a) (μ 50) (μ 52) n).1 0 (va_cpy (zGa (μ 18) (μ 23) (nI a) (μ 50) (μ 52) n).2.2 (μ 51) 0 0 (zGa (μ 18) (μ 23) (nI a) (μ 50) (μ 52) n).1) (zGa (μ 18) (μ 23) (nI a) (μ 50) (μ 52) n).1).2 (zAp (zGa (μ 18) (μ 23) (nI a) (μ 50) (μ 52) n).2.1 (nI b) ((zGa (μ 18) (μ 23) (nI a) (μ 50) (μ 52) n).1 - 1)) (zGa (μ 18) (μ 23) (nI a) (μ 50) (μ 52) n).1)) 45 n 75) (nI a) n) (nI b) (gRun (va_up (va_up (va_up (mGa (fPlanCp μ 45 22) (zGa (μ 18) (μ 23) (nI a) (μ 50) (μ 52) n).1 (zGa (μ 18) (μ 23) (nI a) (μ 50) (μ 52) n).2.1 (zGa (μ 18) (μ 23) (nI a) (μ 50) (μ 52) n).2.2) 51 (zSb (zGa (μ 18) (μ 23) (nI a) (μ 50) (μ 52) n).1 0 (va_cpy (zGa (μ 18) (μ 23) (nI a) (μ 50) (μ 52) n).2.2 (μ 51) 0 0 (zGa (μ 18) (μ 23) (nI a) (μ 50) (μ 52) n).1) (zGa (μ 18) (μ 23) (nI a) (μ 50) (μ 52) n).1).2) 50 (zAp (zGa (μ 18) (μ 23) (nI a) (μ 50) (μ 52) n).2.1 (nI b) ((zGa (μ 18) (μ 23) (nI a) (μ 50) (μ 52) n).1 - 1))) 46 (zGt ((fPlanCp μ 45 22) 46) (zSb (zGa (μ 18) (μ 23) (nI a) (μ 50) (μ 52) n).1 0 (va_cpy (zGa (μ 18) (μ 23) (nI a) (μ 50) (μ 52) n).2.2 (μ 51) 0 0 (zGa (μ 18) (μ 23) (nI a) (μ 50) (μ 52) n).1) (zGa (μ 18) (μ 23) (nI a) (μ 50) (μ 52) n).1).2 (zAp (zGa (μ 18) (μ 23) (nI a) (μ 50) (μ 52) n).2.1 (nI b) ((zGa (μ 18) (μ 23) (nI a) (μ 50) (μ 52) n).1 - 1)) (zGa (μ 18) (μ 23) (nI a) (μ 50) (μ 52) n).1)) 45 n 75) n).2) := zFr.va (fun k hk => by rw [zAr_ne n (by omega), hold_n (by decide)])
  refine zOp.tried h (c_apart hn h6 hs ha hb) (d_apart h2.2.2.1 h6 h2.hp.sidesM ha hb) ?_ f3 (hfr.tr zFr.now)
  rw [h.clsCost f0 pl pk]
  refine h.refCost f3 hfr ?_ pk
  rw [va_up_self, e71, e75]
  exact zPq.rf
