set_option maxRecDepth 100000 in
set_option maxHeartbeats 400000 in
theorem d_itIn {l : Launch} {G : zG} {c2 s : Int32} {w : Nat} (hw : w < 6) {ν : Lng} {K : Int32 → Mem → Lng → Prop} {μ : Mem} : ∀ (p : Nat) (f : Nat → Int32), p < 6 → Am l G mX10_layPlaces 83 [(3, .int (nI w)), (2, .int c2), (0, .ref 66), (1, .int s)] [] (va_up μ 94 (zIt (μ 75 w) p f)) ν K → Am l G mX10_layPlaces 25 [(4, .int (nI p)), (3, .int (nI w)), (2, .int c2), (0, .ref 66), (1, .int s)] [] (va_up μ 94 f) ν K
  | 0, f, hp, H => by
    refine z_iload dX10_layPlaces_25 rfl ?_
    refine z_if_le 70 dX10_layPlaces_27 (by decide) (fun h27 => ?_) (fun h27 => absurd (show nI 0 ≤ 0 by decide) h27)
    refine z_aload_n dX10_layPlaces_70 rfl ?_
    refine m_getr dX10_layPlaces_71 fX10_96 sh66 rfl ?_
    refine z_iload dX10_layPlaces_74 rfl ?_
    refine z_aload_n dX10_layPlaces_76 rfl ?_
    refine m_getr dX10_layPlaces_77 fX10_38 sh66 rfl ?_
    refine z_iload_n dX10_layPlaces_80 rfl ?_
    refine m_ialdN (j := w) dX10_layPlaces_81 sh75 rfl (by omega) rfl ?_
    refine m_iastN (j := 0) dX10_layPlaces_82 sh94 rfl (by decide) rfl ?_
    refine z_lv [1, 2, 3, 4] rfl ?_
    rw [up2_va]
    exact H
  | p + 1, f, hp, H => by
    have e1 : nI (p + 1) - 1 = nI p := nI_pred p
    refine z_iload dX10_layPlaces_25 rfl ?_
    refine z_if_le 70 dX10_layPlaces_27 (by decide) (fun h27 => absurd h27 (nI_nle (by omega) (by omega))) (fun h27 => ?_)
    refine z_aload_n dX10_layPlaces_30 rfl ?_
    refine m_getr dX10_layPlaces_31 fX10_96 sh66 rfl ?_
    refine z_iload dX10_layPlaces_34 rfl ?_
    refine z_iconst (v := 1) dX10_layPlaces_36 rfl ?_
    refine z_isub dX10_layPlaces_37 ?_
    rw [show (nI (p + 1) - 1) = nI p from e1]
    refine m_ialdN (j := p) dX10_layPlaces_38 sh94 rfl (by omega) rfl ?_
    refine z_aload_n dX10_layPlaces_39 rfl ?_
    refine m_getr dX10_layPlaces_40 fX10_38 sh66 rfl ?_
    refine z_iload_n dX10_layPlaces_43 rfl ?_
    refine m_ialdN (j := w) dX10_layPlaces_44 sh75 rfl (by omega) rfl ?_
    refine z_icmp_le 70 dX10_layPlaces_45 (by decide) (fun h45 => ?_) (fun h45 => ?_)
    · skip
      refine z_aload_n dX10_layPlaces_70 rfl ?_
      refine m_getr dX10_layPlaces_71 fX10_96 sh66 rfl ?_
      refine z_iload dX10_layPlaces_74 rfl ?_
      refine z_aload_n dX10_layPlaces_76 rfl ?_
      refine m_getr dX10_layPlaces_77 fX10_38 sh66 rfl ?_
      refine z_iload_n dX10_layPlaces_80 rfl ?_
      refine m_ialdN (j := w) dX10_layPlaces_81 sh75 rfl (by omega) rfl ?_
      refine m_iastN (j := (p + 1)) dX10_layPlaces_82 sh94 rfl (by omega) rfl ?_
      refine z_lv [1, 2, 3, 4] rfl ?_
      rw [up2_va]
      rw [va_up_self, va_up_ne _ _ (show 75 ≠ 94 by decide)] at h45
      rw [zIt, if_pos h45] at H
      exact H
    · skip
      refine z_aload_n dX10_layPlaces_48 rfl ?_
      refine m_getr dX10_layPlaces_49 fX10_96 sh66 rfl ?_
      refine z_iload dX10_layPlaces_52 rfl ?_
      refine z_aload_n dX10_layPlaces_54 rfl ?_
      refine m_getr dX10_layPlaces_55 fX10_96 sh66 rfl ?_
      refine z_iload dX10_layPlaces_58 rfl ?_
      refine z_iconst (v := 1) dX10_layPlaces_60 rfl ?_
      refine z_isub dX10_layPlaces_61 ?_
      rw [show (nI (p + 1) - 1) = nI p from e1]
      refine m_ialdN (j := p) dX10_layPlaces_62 sh94 rfl (by omega) rfl ?_
      refine m_iastN (j := (p + 1)) dX10_layPlaces_63 sh94 rfl (by omega) rfl ?_
      refine z_iinc (fun y => [(4, .int y), (3, .int (nI w)), (2, .int c2), (0, .ref 66), (1, .int s)]) dX10_layPlaces_64 rfl rfl (fun _ => rfl) (fun x4_64 ex4_64 => ?_)
      obtain rfl : x4_64 = nI p := by rw [ex4_64]; exact pk_m1 p
      refine z_goto 25 dX10_layPlaces_67 (by decide) ?_
      rw [va_up_self, va_up_ne _ _ (show 75 ≠ 94 by decide)] at h45
      rw [va_up_self, up2_va]
      refine d_itIn hw p _ (by omega) ?_
      rw [zIt, if_neg h45] at H
      exact H

def mLp (μ : Mem) (f g : Nat → Int32) : Mem := fun q => if q = 94 then f else if q = 93 then g else μ q
theorem mLp_94 {μ : Mem} {f f' g : Nat → Int32} : va_up (mLp μ f g) 94 f' = mLp μ f' g := by
  funext q
  by_cases h : q = 94
  · subst h; rw [va_up_self]; rfl
  · rw [va_up_ne _ _ h]; unfold mLp; rw [if_neg h, if_neg h]
theorem mLp_93 {μ : Mem} {i : Nat} {f g : Nat → Int32} {x : Int32} : up2 (mLp μ f g) 93 i x = mLp μ f (zu g i x) := by
  funext q j
  by_cases h : q = 93
  · subst h; rw [up2_row]; rfl
  · rw [up2_ne h]; unfold mLp; rw [if_neg h, if_neg h]
theorem mLp_0 {μ : Mem} : mLp μ (μ 94) (μ 93) = μ := by
  funext q
  unfold mLp
  by_cases h : q = 94
  · subst h; rfl
  · rw [if_neg h]
    by_cases h2 : q = 93
    · subst h2; rfl
    · rw [if_neg h2]
set_option maxRecDepth 100000 in
set_option maxHeartbeats 400000 in
theorem d_lay {l : Launch} {G : zG} {μ : Mem} {ν : Lng} {n : Nat} (hn : μ 66 17 = nI n) (hz6 : n ≤ 6) {s : Int32}  : Cm l G mX10_layPlaces [.ref 66, .int s] μ ν (fun a9 b9 c9 => nI (zGa (μ 71) (μ 75) s (μ 94) (μ 93) n).1 = a9 ∧ mLp μ (zGa (μ 71) (μ 75) s (μ 94) (μ 93) n).2.1 (zGa (μ 71) (μ 75) s (μ 94) (μ 93) n).2.2 = b9 ∧ ν = c9) := by
  refine Con.of (by decide) (Nat.le_of_ble_eq_true rfl) ?_
  show Am l G mX10_layPlaces 0 [(0, .ref 66), (1, .int s)] [] μ ν _
  have hle := fun i => zGa_le (sd := μ 71) (co := μ 75) (s := s) (f0 := μ 94) (g0 := μ 93) i
  have hn1 : ∀ i, (mLp μ (zGa (μ 71) (μ 75) s (μ 94) (μ 93) i).2.1 (zGa (μ 71) (μ 75) s (μ 94) (μ 93) i).2.2) 66 17 = nI n := fun i => hn
  have hL := m_for (l := l) (G := G) (M := mX10_layPlaces) (pc := 4) (ν := ν) (K := (fun a9 b9 c9 => nI (zGa (μ 71) (μ 75) s (μ 94) (μ 93) n).1 = a9 ∧ mLp μ (zGa (μ 71) (μ 75) s (μ 94) (μ 93) n).2.1 (zGa (μ 71) (μ 75) s (μ 94) (μ 93) n).2.2 = b9 ∧ ν = c9)) (N := n) (fun i => [(3, .int (nI i)), (2, .int (nI (zGa (μ 71) (μ 75) s (μ 94) (μ 93) i).1)), (0, .ref 66), (1, .int s)]) (fun i => mLp μ (zGa (μ 71) (μ 75) s (μ 94) (μ 93) i).2.1 (zGa (μ 71) (μ 75) s (μ 94) (μ 93) i).2.2) (fun i hi H => by
    refine z_iload_n dX10_layPlaces_4 rfl ?_
    refine z_aload_n dX10_layPlaces_5 rfl ?_
    refine m_geti dX10_layPlaces_6 fX10_105 sh66 rfl ?_
    refine z_icmp_ge 99 dX10_layPlaces_9 (by decide) (fun h9 => absurd (hn1 i ▸ h9) (nI_ge hi (by omega))) (fun h9 => ?_)
    refine z_aload_n dX10_layPlaces_12 rfl ?_
    refine m_getr dX10_layPlaces_13 fX10_26 sh66 rfl ?_
    refine z_iload_n dX10_layPlaces_16 rfl ?_
    refine m_ialdN (j := i) dX10_layPlaces_17 sh71 rfl (by omega) rfl ?_
    refine z_iload_n dX10_layPlaces_18 rfl ?_
    refine z_icmp_ne 93 dX10_layPlaces_19 (by decide) (fun h19 => ?_) (fun h19 => ?_)
    · skip
      refine z_iinc (fun y => [(3, .int y), (2, .int (nI (zGa (μ 71) (μ 75) s (μ 94) (μ 93) i).1)), (0, .ref 66), (1, .int s)]) dX10_layPlaces_93 rfl rfl (fun _ => rfl) (fun x3_93 ex3_93 => ?_)
      obtain rfl : x3_93 = nI (i + 1) := by rw [ex3_93]; exact nI_1 i
      refine z_goto 4 dX10_layPlaces_96 (by decide) ?_
      rw [show zGa (μ 71) (μ 75) s (μ 94) (μ 93) (i + 1) = zGa (μ 71) (μ 75) s (μ 94) (μ 93) i from if_neg h19] at H
      exact H
    · skip
      have hci := hle i
      have h83 : Am l G mX10_layPlaces 83 [(3, .int (nI i)), (2, .int (nI (zGa (μ 71) (μ 75) s (μ 94) (μ 93) i).1)), (0, .ref 66), (1, .int s)] [] (mLp μ (zIt (μ 75 i) ((zGa (μ 71) (μ 75) s (μ 94) (μ 93) i).1) (zGa (μ 71) (μ 75) s (μ 94) (μ 93) i).2.1) (zGa (μ 71) (μ 75) s (μ 94) (μ 93) i).2.2) ν (fun a9 b9 c9 => nI (zGa (μ 71) (μ 75) s (μ 94) (μ 93) n).1 = a9 ∧ mLp μ (zGa (μ 71) (μ 75) s (μ 94) (μ 93) n).2.1 (zGa (μ 71) (μ 75) s (μ 94) (μ 93) n).2.2 = b9 ∧ ν = c9) := by
        refine z_aload_n dX10_layPlaces_83 rfl ?_
        refine m_getr dX10_layPlaces_84 fX10_93 sh66 rfl ?_
        refine z_iload_n dX10_layPlaces_87 rfl ?_
        refine z_iload_n dX10_layPlaces_88 rfl ?_
        refine m_iastN (j := (zGa (μ 71) (μ 75) s (μ 94) (μ 93) i).1) dX10_layPlaces_89 sh93 rfl (by omega) rfl ?_
        refine z_iinc (fun y => [(2, .int y), (3, .int (nI i)), (0, .ref 66), (1, .int s)]) dX10_layPlaces_90 rfl rfl (fun _ => rfl) (fun x2_90 ex2_90 => ?_)
        obtain rfl : x2_90 = nI ((zGa (μ 71) (μ 75) s (μ 94) (μ 93) i).1 + 1) := by rw [ex2_90]; exact nI_1 ((zGa (μ 71) (μ 75) s (μ 94) (μ 93) i).1)
        refine z_iinc (fun y => [(3, .int y), (2, .int (nI ((zGa (μ 71) (μ 75) s (μ 94) (μ 93) i).1 + 1))), (0, .ref 66), (1, .int s)]) dX10_layPlaces_93 rfl rfl (fun _ => rfl) (fun x3_93 ex3_93 => ?_)
        obtain rfl : x3_93 = nI (i + 1) := by rw [ex3_93]; exact nI_1 i
        refine z_goto 4 dX10_layPlaces_96 (by decide) ?_
        rw [mLp_93]
        rw [show zGa (μ 71) (μ 75) s (μ 94) (μ 93) (i + 1) = ((zGa (μ 71) (μ 75) s (μ 94) (μ 93) i).1 + 1, zIt (μ 75 i) ((zGa (μ 71) (μ 75) s (μ 94) (μ 93) i).1) (zGa (μ 71) (μ 75) s (μ 94) (μ 93) i).2.1, zu (zGa (μ 71) (μ 75) s (μ 94) (μ 93) i).2.2 ((zGa (μ 71) (μ 75) s (μ 94) (μ 93) i).1) (nI i)) from if_pos h19] at H
        exact H
      have hI := d_itIn (l := l) (G := G) (c2 := nI ((zGa (μ 71) (μ 75) s (μ 94) (μ 93) i).1)) (s := s) (w := i) (by omega) (ν := ν) (μ := mLp μ (zGa (μ 71) (μ 75) s (μ 94) (μ 93) i).2.1 (zGa (μ 71) (μ 75) s (μ 94) (μ 93) i).2.2) (K := (fun a9 b9 c9 => nI (zGa (μ 71) (μ 75) s (μ 94) (μ 93) n).1 = a9 ∧ mLp μ (zGa (μ 71) (μ 75) s (μ 94) (μ 93) n).2.1 (zGa (μ 71) (μ 75) s (μ 94) (μ 93) n).2.2 = b9 ∧ ν = c9)) ((zGa (μ 71) (μ 75) s (μ 94) (μ 93) i).1) (zGa (μ 71) (μ 75) s (μ 94) (μ 93) i).2.1 (by omega) (by rw [mLp_94]; exact h83)
      rw [mLp_94] at hI
      refine z_iload_n dX10_layPlaces_22 rfl ?_
      refine z_istore (i := 4) (fun y => [(4, .int y), (3, .int (nI i)), (2, .int (nI (zGa (μ 71) (μ 75) s (μ 94) (μ 93) i).1)), (0, .ref 66), (1, .int s)]) dX10_layPlaces_23 rfl (fun _ => rfl) (fun x9 e9 => ?_)
      subst e9
      exact hI) (by
    refine z_iload_n dX10_layPlaces_4 rfl ?_
    refine z_aload_n dX10_layPlaces_5 rfl ?_
    refine m_geti dX10_layPlaces_6 fX10_105 sh66 rfl ?_
    refine z_icmp_ge 99 dX10_layPlaces_9 (by decide) (fun h9 => ?_) (fun h9 => absurd (hn1 n ▸ nI_le (Nat.le_refl n) (by omega)) h9)
    refine z_iload_n dX10_layPlaces_99 rfl ?_
    refine m_iret dX10_layPlaces_100 rfl rfl ?_
    exact ⟨rfl, rfl, rfl⟩)
  refine z_iconst (v := 0) dX10_layPlaces_0 rfl ?_
  refine z_istore_n (i := 2) (fun y => [(2, .int y), (0, .ref 66), (1, .int s)]) dX10_layPlaces_1 rfl rfl (fun _ => rfl) (fun x9 e9 => ?_)
  subst e9
  refine z_iconst (v := 0) dX10_layPlaces_2 rfl ?_
  refine z_istore_n (i := 3) (fun y => [(3, .int y), (2, .int 0), (0, .ref 66), (1, .int s)]) dX10_layPlaces_3 rfl rfl (fun _ => rfl) (fun x9 e9 => ?_)
  subst e9
  have e0 := hL 0 (Nat.zero_le n)
  rw [show zGa (μ 71) (μ 75) s (μ 94) (μ 93) 0 = (0, μ 94, μ 93) from rfl, mLp_0] at e0
  exact e0
