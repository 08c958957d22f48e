
def gKe (M : Mem) : Nat → Mem
  | 0 => M
  | i + 1 => up2 (gKe M i) (56 + 5 * i) 2 0
theorem gKe_ne {M : Mem} {q : Nat} (h1 : q ≠ 56) (h2 : q ≠ 61) : ∀ i, i ≤ 2 → gKe M i q = M q
  | 0, _ => rfl
  | i + 1, h => by
    rw [gKe, up2_ne (by omega)]
    exact gKe_ne h1 h2 i (by omega)
set_option maxRecDepth 100000 in
set_option maxHeartbeats 400000 in
theorem c_house_f {l : Launch} {G : zG} {μ : Mem} {ν : Lng} {T : Nat → Int32} {L N : Nat} (hT : μ 13 = T) (hL : μ 1 4 = nI L) (hL2 : L ≤ 250) (hN : N = 250) (hf : ¬ (gIt T L (gR0 μ, gS0 μ) N).2.1 = 0)  : Cm l G mX9_house [.ref 0] μ ν (fun a9 b9 c9 => (-10) - (gIt T L (gR0 μ, gS0 μ) N).2.1 = a9 ∧ up2 (up2 (mC (gIt T L (gR0 μ, gS0 μ) N).1 (gIt T L (gR0 μ, gS0 μ) N).2) 1 4 0) 0 10 (gIt T L (gR0 μ, gS0 μ) N).2.2.1 = b9 ∧ ν = c9) := by
  refine Con.of (by decide) (Nat.le_of_ble_eq_true rfl) ?_
  show Am l G mX9_house 0 [(0, .ref 0)] [] μ ν _
  refine z_aload_n dX9_house_0 rfl ?_
  refine m_getr dX9_house_1 fX9_10 sh0 rfl ?_
  refine m_callVv (As := []) dX9_house_4 kX9_82 ⟨rfl, rfl⟩ rfl ⟨rfl, rfl⟩ rfl rfl sh1 rfl rfl (c_read hT hL hL2 hN) (fun μ4 ν4 hk4 => ?_)
  obtain ⟨rfl, rfl⟩ := hk4
  refine z_aload_n dX9_house_7 rfl ?_
  refine m_getr dX9_house_8 fX9_10 sh0 rfl ?_
  refine m_geti dX9_house_11 fX9_85 sh1 rfl ?_
  rw [up2_row, if_neg (show ¬ 5 = 4 by decide), mC_f]
  refine z_if_eq 39 dX9_house_14 (by decide) (fun h14 => absurd h14 hf) (fun h14 => ?_)
  refine z_aload_n dX9_house_17 rfl ?_
  refine z_aload_n dX9_house_18 rfl ?_
  refine m_getr dX9_house_19 fX9_10 sh0 rfl ?_
  refine m_geti dX9_house_22 fX9_88 sh1 rfl ?_
  rw [up2_row, if_neg (show ¬ 6 = 4 by decide), mC_p]
  refine m_puti dX9_house_25 fX9_69 (fun q h => by cases h; rfl) rfl rfl sh0 rfl ?_
  refine z_bipush (v := -10) dX9_house_28 rfl ?_
  refine z_aload_n dX9_house_30 rfl ?_
  refine m_getr dX9_house_31 fX9_10 sh0 rfl ?_
  refine m_geti dX9_house_34 fX9_85 sh1 rfl ?_
  rw [up2_ne (show 1 ≠ 0 by decide), up2_row, if_neg (show ¬ 5 = 4 by decide), mC_f]
  refine z_isub dX9_house_37 ?_
  refine m_iret dX9_house_38 rfl rfl ?_
  exact ⟨rfl, rfl, rfl⟩
set_option maxRecDepth 100000 in
set_option maxHeartbeats 400000 in
theorem c_house_k {l : Launch} {G : zG} {μ : Mem} {ν : Lng} {T : Nat → Int32} {L N : Nat} (hT : μ 13 = T) (hL : μ 1 4 = nI L) (hL2 : L ≤ 250) (hN : N = 250) (hf : (gIt T L (gR0 μ, gS0 μ) N).2.1 = 0)  : Cm l G mX9_house [.ref 0] μ ν (fun a9 b9 c9 => gKe (up2 (fPlanCp (fHouseCp (up2 (up2 (mC (gIt T L (gR0 μ, gS0 μ) N).1 (gIt T L (gR0 μ, gS0 μ) N).2) 1 4 0) 0 10 (-1))) 22 9) 0 8 0) 2 15 6 = a9 ∧ gKe (up2 (fPlanCp (fHouseCp (up2 (up2 (mC (gIt T L (gR0 μ, gS0 μ) N).1 (gIt T L (gR0 μ, gS0 μ) N).2) 1 4 0) 0 10 (-1))) 22 9) 0 8 0) 2 = b9 ∧ ν = c9) := by
  refine Con.of (by decide) (Nat.le_of_ble_eq_true rfl) ?_
  show Am l G mX9_house 0 [(0, .ref 0)] [] μ ν _
  have hL1 := m_for (l := l) (G := G) (M := mX9_house) (pc := 79) (ν := ν) (K := (fun a9 b9 c9 => gKe (up2 (fPlanCp (fHouseCp (up2 (up2 (mC (gIt T L (gR0 μ, gS0 μ) N).1 (gIt T L (gR0 μ, gS0 μ) N).2) 1 4 0) 0 10 (-1))) 22 9) 0 8 0) 2 15 6 = a9 ∧ gKe (up2 (fPlanCp (fHouseCp (up2 (up2 (mC (gIt T L (gR0 μ, gS0 μ) N).1 (gIt T L (gR0 μ, gS0 μ) N).2) 1 4 0) 0 10 (-1))) 22 9) 0 8 0) 2 = b9 ∧ ν = c9)) (N := 2) (fun i => [(1, .int (nI i)), (0, .ref 0)]) (fun i => gKe (up2 (fPlanCp (fHouseCp (up2 (up2 (mC (gIt T L (gR0 μ, gS0 μ) N).1 (gIt T L (gR0 μ, gS0 μ) N).2) 1 4 0) 0 10 (-1))) 22 9) 0 8 0) i) (fun i hi H => by
    refine z_iload_n dX9_house_79 rfl ?_
    refine z_iconst (v := 2) dX9_house_80 rfl ?_
    refine z_icmp_ge 100 dX9_house_81 (by decide) (fun h81 => absurd h81 (nI_ge (a := i) (b := 2) hi (by decide))) (fun h81 => ?_)
    refine z_aload_n dX9_house_84 rfl ?_
    refine m_getr dX9_house_85 fX9_50 sh0 rfl ?_
    refine z_iload_n dX9_house_88 rfl ?_
    refine m_aaldN (j := i) (q := (56 + 5 * i)) dX9_house_89 sh53 rfl rfl (by omega) rfl (zImage_row i (by omega)) ?_
    refine z_iconst (v := 0) dX9_house_90 rfl ?_
    refine m_puti dX9_house_91 fX9_97 (fun q h => by cases h; rfl) rfl rfl (zImage_of i (by omega)).1 rfl ?_
    refine z_iinc (fun y => [(1, .int y), (0, .ref 0)]) dX9_house_94 rfl rfl (fun _ => rfl) (fun x1_94 ex1_94 => ?_)
    obtain rfl : x1_94 = nI (i + 1) := by rw [ex1_94]; exact nI_1 i
    refine z_goto 79 dX9_house_97 (by decide) ?_
    exact H) (by
    refine z_iload_n dX9_house_79 rfl ?_
    refine z_iconst (v := 2) dX9_house_80 rfl ?_
    refine z_icmp_ge 100 dX9_house_81 (by decide) (fun h81 => ?_) (fun h81 => absurd (nI_le (a := 2) (b := 2) (by decide) (by decide)) h81)
    refine z_aload_n dX9_house_100 rfl ?_
    refine m_getr dX9_house_101 fX9_19 sh0 rfl ?_
    refine m_geti dX9_house_104 fX9_101 sh15 rfl ?_
    refine m_iret dX9_house_107 rfl rfl ?_
    exact ⟨rfl, rfl, rfl⟩)
  refine z_aload_n dX9_house_0 rfl ?_
  refine m_getr dX9_house_1 fX9_10 sh0 rfl ?_
  refine m_callVv (As := []) dX9_house_4 kX9_82 ⟨rfl, rfl⟩ rfl ⟨rfl, rfl⟩ rfl rfl sh1 rfl rfl (c_read hT hL hL2 hN) (fun μ4 ν4 hk4 => ?_)
  obtain ⟨rfl, rfl⟩ := hk4
  refine z_aload_n dX9_house_7 rfl ?_
  refine m_getr dX9_house_8 fX9_10 sh0 rfl ?_
  refine m_geti dX9_house_11 fX9_85 sh1 rfl ?_
  rw [up2_row, if_neg (show ¬ 5 = 4 by decide), mC_f]
  refine z_if_eq 39 dX9_house_14 (by decide) (fun h14 => ?_) (fun h14 => absurd hf h14)
  refine z_aload_n dX9_house_39 rfl ?_
  refine z_iconst (v := -1) dX9_house_40 rfl ?_
  refine m_puti dX9_house_41 fX9_69 (fun q h => by cases h; rfl) rfl rfl sh0 rfl ?_
  refine z_aload_n dX9_house_44 rfl ?_
  refine m_getr dX9_house_45 fX9_19 sh0 rfl ?_
  refine z_aload_n dX9_house_48 rfl ?_
  refine m_getr dX9_house_49 fX9_10 sh0 rfl ?_
  refine m_getr dX9_house_52 fX9_89 sh1 rfl ?_
  refine m_callVv (As := [.ref _]) dX9_house_55 kX9_90 ⟨rfl, rfl⟩ rfl ⟨rfl, rfl⟩ rfl rfl sh15 rfl rfl c_houseCp (fun μ55 ν55 hk55 => ?_)
  obtain ⟨rfl, rfl⟩ := hk55
  refine z_aload_n dX9_house_58 rfl ?_
  refine m_getr dX9_house_59 fX9_26 sh0 rfl ?_
  refine z_aload_n dX9_house_62 rfl ?_
  refine m_getr dX9_house_63 fX9_10 sh0 rfl ?_
  refine m_getr dX9_house_66 fX9_93 sh1 rfl ?_
  refine m_callVv (As := [.ref _]) dX9_house_69 kX9_94 ⟨rfl, rfl⟩ rfl ⟨rfl, rfl⟩ rfl rfl sh22 rfl rfl (c_planCp zPlan22 zPlan9) (fun μ69 ν69 hk69 => ?_)
  obtain ⟨rfl, rfl⟩ := hk69
  refine z_aload_n dX9_house_72 rfl ?_
  refine z_iconst (v := 0) dX9_house_73 rfl ?_
  refine m_puti dX9_house_74 fX9_61 (fun q h => by cases h; rfl) rfl rfl sh0 rfl ?_
  refine z_iconst (v := 0) dX9_house_77 rfl ?_
  refine z_istore_n (i := 1) (fun y => [(1, .int y), (0, .ref 0)]) dX9_house_78 rfl rfl (fun _ => rfl) (fun x9 e9 => ?_)
  subst e9
  exact hL1 0 (by decide)
