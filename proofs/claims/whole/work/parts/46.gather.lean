
/-- those of a side: how many, their tenths in a row, they themselves -/
def zGa (sd co : Nat → Int32) (s : Int32) (f0 g0 : Nat → Int32) : Nat → Nat × (Nat → Int32) × (Nat → Int32)
  | 0 => (0, f0, g0)
  | i + 1 => if sd i = s then ((zGa sd co s f0 g0 i).1 + 1, zIt (co i) (zGa sd co s f0 g0 i).1 (zGa sd co s f0 g0 i).2.1, zu (zGa sd co s f0 g0 i).2.2 (zGa sd co s f0 g0 i).1 (nI i)) else zGa sd co s f0 g0 i
theorem zGa_le {sd co : Nat → Int32} {s : Int32} {f0 g0 : Nat → Int32} : ∀ i, (zGa sd co s f0 g0 i).1 ≤ i
  | 0 => Nat.le_refl 0
  | i + 1 => by
    have := zGa_le (sd := sd) (co := co) (s := s) (f0 := f0) (g0 := g0) i
    rw [zGa]
    split
    · show (zGa sd co s f0 g0 i).1 + 1 ≤ i + 1
      omega
    · omega
def mGa (μ : Mem) (c : Nat) (f g : Nat → Int32) : Mem := fun q => if q = 52 then g else if q = 50 then f else if q = 49 then zu (μ 49) 3 (nI c) else μ q
theorem mGa_52 {μ : Mem} {c i : Nat} {f g : Nat → Int32} {x : Int32} : up2 (mGa μ c f g) 52 i x = mGa μ c f (zu g i x) := by
  funext q j
  by_cases h : q = 52
  · subst h; rw [up2_row]; rfl
  · rw [up2_ne h]; unfold mGa; rw [if_neg h, if_neg h]
theorem mGa_50 {μ : Mem} {c : Nat} {f f' g : Nat → Int32} : va_up (mGa μ c f g) 50 f' = mGa μ c f' g := by
  funext q
  by_cases h : q = 50
  · subst h; rw [va_up_self]; rfl
  · rw [va_up_ne _ _ h]; unfold mGa; rw [if_neg h, if_neg h]
theorem mGa_49 {μ : Mem} {c c' : Nat} {f g : Nat → Int32} : up2 (mGa μ c f g) 49 3 (nI c') = mGa μ c' f g := by
  funext q j
  by_cases h : q = 49
  · subst h
    rw [up2_row]
    show (if j = 3 then nI c' else zu (μ 49) 3 (nI c) j) = zu (μ 49) 3 (nI c') j
    unfold zu
    by_cases e : j = 3
    · rw [if_pos e, if_pos e]
    · rw [if_neg e, if_neg e, if_neg e]
  · rw [up2_ne h]; unfold mGa; rw [if_neg h, if_neg h]
theorem mGa_0 {μ : Mem} {c : Nat} : up2 μ 49 3 (nI c) = mGa μ c (μ 50) (μ 52) := by
  funext q j
  unfold mGa
  by_cases h : q = 49
  · subst h; rw [up2_row]; rfl
  · rw [up2_ne h, if_neg h]
    by_cases h2 : q = 52
    · subst h2; rfl
    · rw [if_neg h2]
      by_cases h3 : q = 50
      · subst h3; rfl
      · rw [if_neg h3]
theorem mGa_ne {μ : Mem} {c q : Nat} {f g : Nat → Int32} (h : q < 49 ∨ 52 < q) : mGa μ c f g q = μ q := by
  unfold mGa
  rw [if_neg (by omega), if_neg (by omega), if_neg (by omega)]
theorem mGa_c {μ : Mem} {c : Nat} {f g : Nat → Int32} : mGa μ c f g 49 3 = nI c := rfl
set_option maxRecDepth 100000 in
set_option maxHeartbeats 400000 in
theorem c_gather {l : Launch} {G : zG} {μ : Mem} {ν : Lng} {n : Nat} (hn : μ 15 6 = nI n) (hz6 : n ≤ 6) {s : Int32}  : Cm l G mX6_gather [.ref 49, .ref 15, .ref 22, .int s] μ ν (fun _ b9 c9 => mGa μ (zGa (μ 18) (μ 23) s (μ 50) (μ 52) n).1 (zGa (μ 18) (μ 23) s (μ 50) (μ 52) n).2.1 (zGa (μ 18) (μ 23) s (μ 50) (μ 52) n).2.2 = b9 ∧ ν = c9) := by
  refine Con.of (by decide) (Nat.le_of_ble_eq_true rfl) ?_
  show Am l G mX6_gather 0 [(0, .ref 49), (1, .ref 15), (2, .ref 22), (3, .int s)] [] μ ν _
  have hle := fun i => zGa_le (sd := μ 18) (co := μ 23) (s := s) (f0 := μ 50) (g0 := μ 52) i
  have hn1 : ∀ i, (mGa μ (zGa (μ 18) (μ 23) s (μ 50) (μ 52) i).1 (zGa (μ 18) (μ 23) s (μ 50) (μ 52) i).2.1 (zGa (μ 18) (μ 23) s (μ 50) (μ 52) i).2.2) 15 6 = nI n := fun i => hn
  have hL := m_for (l := l) (G := G) (M := mX6_gather) (pc := 8) (ν := ν) (K := (fun _ b9 c9 => mGa μ (zGa (μ 18) (μ 23) s (μ 50) (μ 52) n).1 (zGa (μ 18) (μ 23) s (μ 50) (μ 52) n).2.1 (zGa (μ 18) (μ 23) s (μ 50) (μ 52) n).2.2 = b9 ∧ ν = c9)) (N := n) (fun i => [(4, .int (nI i)), (0, .ref 49), (1, .ref 15), (2, .ref 22), (3, .int s)]) (fun i => mGa μ (zGa (μ 18) (μ 23) s (μ 50) (μ 52) i).1 (zGa (μ 18) (μ 23) s (μ 50) (μ 52) i).2.1 (zGa (μ 18) (μ 23) s (μ 50) (μ 52) i).2.2) (fun i hi H => by
    refine z_iload dX6_gather_8 rfl ?_
    refine z_aload_n dX6_gather_10 rfl ?_
    refine m_geti dX6_gather_11 fX6_25 sh15 rfl ?_
    refine z_icmp_ge 66 dX6_gather_14 (by decide) (fun h14 => absurd (hn1 i ▸ h14) (nI_ge hi (by omega))) (fun h14 => ?_)
    refine z_aload_n dX6_gather_17 rfl ?_
    refine m_getr dX6_gather_18 fX6_30 sh15 rfl ?_
    refine z_iload dX6_gather_21 rfl ?_
    refine m_ialdN (j := i) dX6_gather_23 sh18 rfl (by omega) rfl ?_
    refine z_iload_n dX6_gather_24 rfl ?_
    refine z_icmp_ne 60 dX6_gather_25 (by decide) (fun h25 => ?_) (fun h25 => ?_)
    · skip
      try rw [mGa_49]
      refine z_iinc (fun y => [(4, .int y), (0, .ref 49), (1, .ref 15), (2, .ref 22), (3, .int s)]) dX6_gather_60 rfl rfl (fun _ => rfl) (fun x4_60 ex4_60 => ?_)
      obtain rfl : x4_60 = nI (i + 1) := by rw [ex4_60]; exact nI_1 i
      refine z_goto 8 dX6_gather_63 (by decide) ?_
      first | (rw [show zGa (μ 18) (μ 23) s (μ 50) (μ 52) (i + 1) = zGa (μ 18) (μ 23) s (μ 50) (μ 52) i from if_neg h25] at H; exact H) | (rw [show zGa (μ 18) (μ 23) s (μ 50) (μ 52) (i + 1) = ((zGa (μ 18) (μ 23) s (μ 50) (μ 52) i).1 + 1, zIt (μ 23 i) ((zGa (μ 18) (μ 23) s (μ 50) (μ 52) i).1) (zGa (μ 18) (μ 23) s (μ 50) (μ 52) i).2.1, zu (zGa (μ 18) (μ 23) s (μ 50) (μ 52) i).2.2 ((zGa (μ 18) (μ 23) s (μ 50) (μ 52) i).1) (nI i)) from if_pos h25] at H; exact H)
    · skip
      have hci := hle i
      refine z_aload_n dX6_gather_28 rfl ?_
      refine m_getr dX6_gather_29 fX6_18 sh49 rfl ?_
      refine z_aload_n dX6_gather_32 rfl ?_
      refine m_geti dX6_gather_33 fX6_21 sh49 rfl ?_
      rw [mGa_c]
      refine z_iload dX6_gather_36 rfl ?_
      refine m_iastN (j := (zGa (μ 18) (μ 23) s (μ 50) (μ 52) i).1) dX6_gather_38 sh52 rfl (by omega) rfl ?_
      rw [mGa_52]
      refine z_aload_n dX6_gather_39 rfl ?_
      refine z_aload_n dX6_gather_40 rfl ?_
      refine m_getr dX6_gather_41 fX6_33 sh22 rfl ?_
      refine z_iload dX6_gather_44 rfl ?_
      refine m_ialdN (j := i) dX6_gather_46 sh23 rfl (by omega) rfl ?_
      refine m_callVv (As := [.int _]) dX6_gather_47 kX6_38 ⟨rfl, rfl⟩ rfl ⟨rfl, rfl⟩ rfl rfl sh49 rfl rfl (c_insertTenth (c := (zGa (μ 18) (μ 23) s (μ 50) (μ 52) i).1) rfl (by omega)) (fun μ47 ν47 hk47 => ?_)
      obtain ⟨rfl, rfl⟩ := hk47
      rw [mGa_50]
      refine z_aload_n dX6_gather_50 rfl ?_
      refine z_dup dX6_gather_51 rfl ?_
      refine m_geti dX6_gather_52 fX6_21 sh49 rfl ?_
      rw [mGa_c]
      refine z_iconst (v := 1) dX6_gather_55 rfl ?_
      refine z_iadd dX6_gather_56 ?_
      rw [show (nI ((zGa (μ 18) (μ 23) s (μ 50) (μ 52) i).1) + 1) = nI ((zGa (μ 18) (μ 23) s (μ 50) (μ 52) i).1 + 1) from nI_1 ((zGa (μ 18) (μ 23) s (μ 50) (μ 52) i).1)]
      refine m_puti dX6_gather_57 fX6_21 (fun q h => by cases h; rfl) rfl rfl sh49 rfl ?_
      try rw [mGa_49]
      refine z_iinc (fun y => [(4, .int y), (0, .ref 49), (1, .ref 15), (2, .ref 22), (3, .int s)]) dX6_gather_60 rfl rfl (fun _ => rfl) (fun x4_60 ex4_60 => ?_)
      obtain rfl : x4_60 = nI (i + 1) := by rw [ex4_60]; exact nI_1 i
      refine z_goto 8 dX6_gather_63 (by decide) ?_
      first | (rw [show zGa (μ 18) (μ 23) s (μ 50) (μ 52) (i + 1) = zGa (μ 18) (μ 23) s (μ 50) (μ 52) i from if_neg h25] at H; exact H) | (rw [show zGa (μ 18) (μ 23) s (μ 50) (μ 52) (i + 1) = ((zGa (μ 18) (μ 23) s (μ 50) (μ 52) i).1 + 1, zIt (μ 23 i) ((zGa (μ 18) (μ 23) s (μ 50) (μ 52) i).1) (zGa (μ 18) (μ 23) s (μ 50) (μ 52) i).2.1, zu (zGa (μ 18) (μ 23) s (μ 50) (μ 52) i).2.2 ((zGa (μ 18) (μ 23) s (μ 50) (μ 52) i).1) (nI i)) from if_pos h25] at H; exact H)) (by
    refine z_iload dX6_gather_8 rfl ?_
    refine z_aload_n dX6_gather_10 rfl ?_
    refine m_geti dX6_gather_11 fX6_25 sh15 rfl ?_
    refine z_icmp_ge 66 dX6_gather_14 (by decide) (fun h14 => ?_) (fun h14 => absurd (hn1 n ▸ nI_le (Nat.le_refl n) (by omega)) h14)
    refine m_ret dX6_gather_66 rfl ?_
    exact ⟨rfl, rfl⟩)
  refine z_aload_n dX6_gather_0 rfl ?_
  refine z_iconst (v := 0) dX6_gather_1 rfl ?_
  refine m_puti dX6_gather_2 fX6_21 (fun q h => by cases h; rfl) rfl rfl sh49 rfl ?_
  refine z_iconst (v := 0) dX6_gather_5 rfl ?_
  refine z_istore (i := 4) (fun y => [(4, .int y), (0, .ref 49), (1, .ref 15), (2, .ref 22), (3, .int s)]) dX6_gather_6 rfl (fun _ => rfl) (fun x9 e9 => ?_)
  subst e9
  have e0 := hL 0 (Nat.zero_le n)
  rw [show zGa (μ 18) (μ 23) s (μ 50) (μ 52) 0 = (0, μ 50, μ 52) from rfl, ← mGa_0] at e0
  exact e0
