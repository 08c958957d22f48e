
section GE
variable {σ τ : Mem} {n T w lf s : Nat} {t st sp : Int32} {D : Nat → Prop}
theorem gEnd_1 {a b : Nat} (ha : a < 2) (hl : lf < 2) : gEnd σ w lf s t st sp (30 + 4 * a + 1) b = if a = lf ∧ b = s then zWf (σ (30 + 4 * lf + 1) s) (σ (30 + 4 * lf + 2) s) st else σ (30 + 4 * a + 1) b := by
  unfold gEnd
  by_cases e : a = lf
  · subst e
    rw [fLet_1, up2_ne (by omega), up2_ne (by omega), up2_ne (by omega), up2_ne (by omega), up2_ne (by omega), up2_ne (by omega)]
    simp
  · rw [fLet_ne (by omega) (by omega) (by omega), up2_ne (by omega), up2_ne (by omega), up2_ne (by omega), if_neg (fun q => e q.1)]
theorem gEnd_2 {a b : Nat} (ha : a < 2) (hl : lf < 2) : gEnd σ w lf s t st sp (30 + 4 * a + 2) b = if a = lf ∧ b = s then zWt (σ (30 + 4 * lf + 2) s) st (st + sp) else σ (30 + 4 * a + 2) b := by
  unfold gEnd
  by_cases e : a = lf
  · subst e
    rw [fLet_2, up2_ne (by omega), up2_ne (by omega), up2_ne (by omega)]
    simp
  · rw [fLet_ne (by omega) (by omega) (by omega), up2_ne (by omega), up2_ne (by omega), up2_ne (by omega), if_neg (fun q => e q.1)]
theorem gEnd_3 {a b : Nat} (ha : a < 2) (hl : lf < 2) : gEnd σ w lf s t st sp (30 + 4 * a + 3) b = if a = lf ∧ b = s then nI w else σ (30 + 4 * a + 3) b := by
  unfold gEnd
  by_cases e : a = lf
  · subst e
    rw [fLet_lat, up2_ne (by omega), up2_ne (by omega), up2_ne (by omega)]
    simp
  · rw [fLet_ne (by omega) (by omega) (by omega), up2_ne (by omega), up2_ne (by omega), up2_ne (by omega), if_neg (fun q => e q.1)]
theorem gEnd_0 {a : Nat} (ha : a < 2) (hl : lf < 2) : gEnd σ w lf s t st sp (30 + 4 * a) = σ (30 + 4 * a) := by
  unfold gEnd
  rw [fLet_ne (by omega) (by omega) (by omega), up2_ne (by omega), up2_ne (by omega), up2_ne (by omega)]
theorem gEnd_p {v : Nat} (hl : lf < 2) (e : v ≠ w) : gEnd σ w lf s t st sp (38 + v) = σ (38 + v) := by
  unfold gEnd
  rw [fLet_ne (by omega) (by omega) (by omega), up2_ne (by omega), up2_ne (by omega), up2_ne (by omega)]
theorem gEnd_w {j : Nat} (hl : lf < 2) : gEnd σ w lf s t st sp (38 + w) j = if j = 2 then st + sp else if j = 1 then st else if j = 4 then st - t else σ (38 + w) j := by
  unfold gEnd
  rw [fLet_ne (by omega) (by omega) (by omega), up2_row, up2_row, up2_row]
def rEnd (τ : Mem) (w lf s : Nat) (st sp : Int32) : Mem := up2 (rFin τ w lf s st sp) 90 (2 * lf + s) (nI w)
theorem rEnd_84 {d : Nat} : rEnd τ w lf s st sp 84 d = if d = 2 * lf + s then zWf (τ 84 (2 * lf + s)) (τ 85 (2 * lf + s)) st else τ 84 d := by
  unfold rEnd rFin
  rw [up2_ne (by decide), up2_ne (by decide), up2_ne (by decide), rWiden_84]
theorem rEnd_85 {d : Nat} : rEnd τ w lf s st sp 85 d = if d = 2 * lf + s then zWt (τ 85 (2 * lf + s)) st (st + sp) else τ 85 d := by
  unfold rEnd rFin
  rw [up2_ne (by decide), up2_ne (by decide), up2_ne (by decide), rWiden_85]
theorem rEnd_90 {d : Nat} : rEnd τ w lf s st sp 90 d = if d = 2 * lf + s then nI w else τ 90 d := by
  unfold rEnd rFin
  rw [up2_row, up2_ne (by decide), up2_ne (by decide), rWiden_ne (by decide) (by decide)]
theorem rEnd_79 {d : Nat} : rEnd τ w lf s st sp 79 d = if d = w then st else τ 79 d := by
  unfold rEnd rFin
  rw [up2_ne (by decide), up2_ne (by decide), up2_row, rWiden_ne (by decide) (by decide)]
theorem rEnd_80 {d : Nat} : rEnd τ w lf s st sp 80 d = if d = w then st + sp else τ 80 d := by
  unfold rEnd rFin
  rw [up2_ne (by decide), up2_row, up2_ne (by decide), rWiden_ne (by decide) (by decide)]
theorem rEnd_ne {q : Nat} (h1 : q ≠ 84) (h2 : q ≠ 85) (h3 : q ≠ 90) (h4 : q ≠ 79) (h5 : q ≠ 80) : rEnd τ w lf s st sp q = τ q := by
  unfold rEnd rFin
  rw [up2_ne h3, up2_ne h5, up2_ne h4, rWiden_ne h1 h2]
theorem zEnd {x p : Nat} (hM : zMid σ τ n T D w) (hw : w < n) (hl : lf < 2) (hs : s < 2) (hst : st = nI x) (hx : x ≤ T) (hsp : sp = nI p) (hp : p ≤ 30) (hwt : τ 82 w = st - t) (hwb : zN (st - t) 2000) :
    zInv (gEnd σ w lf s t st sp) (rEnd τ w lf s st sp) n (T + 30) (fun v => D v ∨ v = w) := by
  obtain ⟨⟨hA, hK⟩, hP, hZ, hSm, hLd, k0, k3, k5, kN⟩ := hM
  have n78 : rEnd τ w lf s st sp 78 = τ 78 := rEnd_ne (by decide) (by decide) (by decide) (by decide) (by decide)
  have n81 : rEnd τ w lf s st sp 81 = τ 81 := rEnd_ne (by decide) (by decide) (by decide) (by decide) (by decide)
  have n82 : rEnd τ w lf s st sp 82 = τ 82 := rEnd_ne (by decide) (by decide) (by decide) (by decide) (by decide)
  have n83 : rEnd τ w lf s st sp 83 = τ 83 := rEnd_ne (by decide) (by decide) (by decide) (by decide) (by decide)
  have n66 : rEnd τ w lf s st sp 66 = τ 66 := rEnd_ne (by decide) (by decide) (by decide) (by decide) (by decide)
  have n73 : rEnd τ w lf s st sp 73 = τ 73 := rEnd_ne (by decide) (by decide) (by decide) (by decide) (by decide)
  have n86 : rEnd τ w lf s st sp 86 = τ 86 := rEnd_ne (by decide) (by decide) (by decide) (by decide) (by decide)
  have n87 : rEnd τ w lf s st sp 87 = τ 87 := rEnd_ne (by decide) (by decide) (by decide) (by decide) (by decide)
  have n88 : rEnd τ w lf s st sp 88 = τ 88 := rEnd_ne (by decide) (by decide) (by decide) (by decide) (by decide)
  have n89 : rEnd τ w lf s st sp 89 = τ 89 := rEnd_ne (by decide) (by decide) (by decide) (by decide) (by decide)
  have n70 : rEnd τ w lf s st sp 70 = τ 70 := rEnd_ne (by decide) (by decide) (by decide) (by decide) (by decide)
  have hstN : zN st (T + 30) := ⟨x, by omega, hst⟩
  have hspN : zN (st + sp) (T + 30) := ⟨x + p, by omega, by rw [hst, hsp, nI_add]⟩
  refine ⟨⟨fun a b ha hb => ?_, fun a ha => ?_⟩, fun v hv hD => ?_, fun v hv hD => ?_, ?_, fun c hc => ?_⟩
  · obtain ⟨a1, a2, a3, a4, a5⟩ := hA a b ha hb
    obtain ⟨b1, b2, b3, b4, b5⟩ := hA lf s hl hs
    rw [gEnd_1 ha hl, gEnd_2 ha hl, gEnd_3 ha hl, rEnd_84, rEnd_85, rEnd_90]
    by_cases e : a = lf ∧ b = s
    · have e2 : 2 * a + b = 2 * lf + s := by omega
      rw [if_pos e, if_pos e, if_pos e, if_pos e2, if_pos e2, if_pos e2, b1, b2]
      exact ⟨rfl, rfl, rfl, zWf_N (b4.mono (by omega)) hstN, zWt_N (b5.mono (by omega)) hspN⟩
    · have e2 : ¬ 2 * a + b = 2 * lf + s := by omega
      rw [if_neg e, if_neg e, if_neg e, if_neg e2, if_neg e2, if_neg e2]
      exact ⟨a1, a2, a3, a4.mono (by omega), a5.mono (by omega)⟩
  · obtain ⟨a1, a2, a3⟩ := hK a ha
    rw [gEnd_0 ha hl, n88, n89]
    refine ⟨?_, a2, a3⟩
    unfold zKick
    rw [gEnd_0 ha hl, n86, n87, n70]
    rcases a1 with a1 | ⟨ka, kb, q1, q2⟩
    · exact Or.inl a1
    · exact Or.inr ⟨ka, kb, by omega, q2⟩
  · by_cases e : v = w
    · subst e
      unfold zPs
      rw [gEnd_w hl, gEnd_w hl, gEnd_w hl, gEnd_w hl, gEnd_w hl, gEnd_w hl, n78, n81, n82, n83, rEnd_79, rEnd_80]
      simp only [if_true, if_neg (show ¬ (0 : Nat) = 2 by decide), if_neg (show ¬ (0 : Nat) = 1 by decide), if_neg (show ¬ (0 : Nat) = 4 by decide), if_neg (show ¬ (1 : Nat) = 2 by decide), if_neg (show ¬ (3 : Nat) = 2 by decide), if_neg (show ¬ (3 : Nat) = 1 by decide), if_neg (show ¬ (3 : Nat) = 4 by decide), if_neg (show ¬ (4 : Nat) = 2 by decide), if_neg (show ¬ (4 : Nat) = 1 by decide), if_neg (show ¬ (5 : Nat) = 2 by decide), if_neg (show ¬ (5 : Nat) = 1 by decide), if_neg (show ¬ (5 : Nat) = 4 by decide)]
      exact ⟨k0, trivial, trivial, k3, hwt.symm, k5, by rw [hwt]; exact hwb, kN⟩
    · have hDv : D v := hD.resolve_right e
      unfold zPs
      rw [gEnd_p hl e, n78, n81, n82, n83, rEnd_79, rEnd_80, if_neg e, if_neg e]
      exact hP v hv hDv
  · have h1 : ¬ D v := fun q => hD (Or.inl q)
    have h2 : v ≠ w := fun q => hD (Or.inr q)
    rw [n78, n82, n83]
    exact hZ v hv h1 h2
  · unfold zSm
    rw [n66, n73, n82, n83]
    exact hSm
  · rw [rEnd_84, rEnd_85, rEnd_90]
    by_cases e : c = 2 * lf + s
    · rw [if_pos e, if_pos e, if_pos e]
      exact Or.inr ⟨w, hw, Or.inr rfl, rfl⟩
    · rw [if_neg e, if_neg e, if_neg e]
      rcases hLd c hc with q | ⟨m, q1, q2, q3⟩
      · exact Or.inl q
      · exact Or.inr ⟨m, q1, Or.inl q2, q3⟩
/-- open and coming back, by both -/
theorem swing_rel {x H Bk : Nat} (hK : zKick σ τ T lf) (hT : T ≤ 1900) (hx : x ≤ T) (hH : H ≤ 9) (hB : Bk ≤ 9) (eH : τ 70 (2 * lf) = nI H) (eB : τ 70 (2 * lf + 1) = nI Bk) (ht : t = nI x) :
    (rSwing τ lf t = 2 ↔ ¬ fOpen σ (30 + 4 * lf) t = 0) ∧ (fOpen σ (30 + 4 * lf) t = 0 → (rSwing τ lf t = 3 ↔ ¬ fBack σ (30 + 4 * lf) t = 0)) := by
  subst ht
  rcases hK with ⟨q1, q2, q3, q4⟩ | ⟨ka, kb, p1, p2, p3, p4, p5, p6, p7, p8⟩
  · unfold rSwing fOpen fBack
    rw [q1, q2, q3, q4, if_pos rfl, if_neg (nI_pos (by omega)), if_pos (nI_pos' (by omega))]
    exact ⟨⟨fun h => absurd h (by decide), fun h => absurd rfl h⟩, fun _ => ⟨fun h => absurd h (by decide), fun h => absurd rfl h⟩⟩
  · have hP : kb * H ≤ 81 := by
      have := Nat.mul_le_mul p3 hH
      omega
    generalize hPe : kb * H = P at hP
    rw [p4, p5, eH, pk_mul, nI_add, hPe] at p7
    rw [p4, p5, eH, eB, pk_mul, nI_add, nI_add, hPe] at p8
    unfold rSwing fOpen fBack
    rw [p4, p5, eH, eB, p6, p7, p8, pk_mul, hPe, nI_add, nI_add, if_neg (nI_ne0 (by omega) (by omega))]
    have e1 := nI_leI (a := ka) (b := x) (by omega) (by omega)
    have e2 := nI_leI (a := ka + P) (b := x) (by omega) (by omega)
    have e3 := nI_leI (a := ka + P + Bk) (b := x) (by omega) (by omega)
    have e4 := nI_ltI (a := x) (b := ka) (by omega) (by omega)
    have e5 := nI_ltI (a := x) (b := ka + P) (by omega) (by omega)
    simp only [e1, e2, e3, e4, e5]
    by_cases c1 : ka ≤ x
    · have n1 : ¬ x < ka := by omega
      by_cases c2 : ka + P ≤ x
      · have n2 : ¬ x < ka + P := by omega
        by_cases c3 : ka + P + Bk ≤ x
        · simp [c1, c2, c3, n1, n2]
        · simp [c1, c2, c3, n1, n2]
      · have n2 : x < ka + P := by omega
        simp [c1, c2, n1, n2]
    · have n1 : x < ka := by omega
      have n2 : x < ka + P := by omega
      simp [c1, n1, n2]
end GE
