set_option maxRecDepth 100000 in
set_option maxHeartbeats 400000 in
theorem c_best_o {l : Launch} {G : zG} {μ : Mem} {ν : Lng} {n : Nat} (hn : μ 15 6 = nI n) (hz6 : n ≤ 6) {w : Int32} (hw : w < 0 ∨ nI n ≤ w) (hne : ¬ w = -1)  : Cm l G mX9_best [.ref 0, .int w] μ ν (fun a9 b9 c9 => (-1000000001) = a9 ∧ μ = b9 ∧ ν = c9) := by
  refine Con.of (by decide) (Nat.le_of_ble_eq_true rfl) ?_
  show Am l G mX9_best 0 [(0, .ref 0), (1, .int w)] [] μ ν _
  refine z_iload_n dX9_best_0 rfl ?_
  refine z_iconst (v := -1) dX9_best_1 rfl ?_
  refine z_icmp_eq 16 dX9_best_2 (by decide) (fun h2 => absurd h2 hne) (fun h2 => ?_)
  refine z_aload_n dX9_best_5 rfl ?_
  refine z_iload_n dX9_best_6 rfl ?_
  refine m_callV (As := [.int _]) dX9_best_7 kX9_155 ⟨rfl, rfl⟩ rfl ⟨rfl, rfl⟩ rfl rfl sh0 rfl rfl (c_noW1 hn hz6 hw) (fun r7 μ7 ν7 hk7 => ?_)
  obtain ⟨rfl, rfl, rfl⟩ := hk7
  refine z_if_eq 16 dX9_best_10 (by decide) (fun h10 => absurd h10 (by decide)) (fun h10 => ?_)
  refine z_ldc dX9_best_13 cX9_136 ?_
  refine m_iret dX9_best_15 rfl rfl ?_
  exact ⟨rfl, rfl, rfl⟩
set_option maxRecDepth 100000 in
set_option maxHeartbeats 400000 in
theorem c_best_w {l : Launch} {G : zG} {μ : Mem} {ν : Lng} {n : Nat} (hn : μ 15 6 = nI n) (hz6 : n ≤ 6) (hsd : zSides μ n) {N f : Nat} (hN : N = 3 ^ n) (hN2 : N ≤ 729) (hf : gSe (fun i M => gSp n i M) (fun _ => true) nI n (gSt μ) N 44 5 = nI f) (hf2 : f < N) {j : Nat} (hj : j < n)  : Cm l G mX9_best [.ref 0, .int (nI j)] μ ν (fun a9 b9 c9 => gSp n f (gSe (fun i M => gSp n i M) (fun _ => true) nI n (gSt μ) N) 48 j = a9 ∧ gSp n f (gSe (fun i M => gSp n i M) (fun _ => true) nI n (gSt μ) N) = b9 ∧ ν = c9) := by
  refine Con.of (by decide) (Nat.le_of_ble_eq_true rfl) ?_
  show Am l G mX9_best 0 [(0, .ref 0), (1, .int (nI j))] [] μ ν _
  refine z_iload_n dX9_best_0 rfl ?_
  refine z_iconst (v := -1) dX9_best_1 rfl ?_
  refine z_icmp_eq 16 dX9_best_2 (by decide) (fun h2 => absurd h2 (nI_ne_m1 (by omega))) (fun h2 => ?_)
  refine z_aload_n dX9_best_5 rfl ?_
  refine z_iload_n dX9_best_6 rfl ?_
  refine m_callV (As := [.int _]) dX9_best_7 kX9_155 ⟨rfl, rfl⟩ rfl ⟨rfl, rfl⟩ rfl rfl sh0 rfl rfl (c_noW0 hn hz6 hj) (fun r7 μ7 ν7 hk7 => ?_)
  obtain ⟨rfl, rfl, rfl⟩ := hk7
  refine z_if_eq 16 dX9_best_10 (by decide) (fun h10 => ?_) (fun h10 => absurd (by decide) h10)
  refine z_aload_n dX9_best_16 rfl ?_
  refine m_getr dX9_best_17 fX9_44 sh0 rfl ?_
  refine z_iload_n dX9_best_20 rfl ?_
  refine m_callV (As := [.int _]) dX9_best_21 kX9_226 ⟨rfl, rfl⟩ rfl ⟨rfl, rfl⟩ rfl rfl sh44 rfl rfl (c_bestRules_w hn hz6 hsd hN hN2 hf hf2 hj) (fun r21 μ21 ν21 hk21 => ?_)
  obtain ⟨rfl, rfl, rfl⟩ := hk21
  refine m_iret dX9_best_24 rfl rfl ?_
  exact ⟨rfl, rfl, rfl⟩
set_option maxRecDepth 100000 in
set_option maxHeartbeats 400000 in
theorem c_best_c {l : Launch} {G : zG} {μ : Mem} {ν : Lng} {n : Nat} (hn : μ 15 6 = nI n) (hz6 : n ≤ 6) (hsd : zSides μ n) {N f : Nat} (hN : N = 3 ^ n) (hN2 : N ≤ 729) (hf : gSe (fun i M => gSp n i M) (fun _ => true) nI n (gSt μ) N 44 5 = nI f) (hf2 : f < N)  : Cm l G mX9_best [.ref 0, .int (-1)] μ ν (fun a9 b9 c9 => gSe (fun i M => gSp n i M) (fun _ => true) nI n (gSt μ) N 44 6 = a9 ∧ gSp n f (gSe (fun i M => gSp n i M) (fun _ => true) nI n (gSt μ) N) = b9 ∧ ν = c9) := by
  refine Con.of (by decide) (Nat.le_of_ble_eq_true rfl) ?_
  show Am l G mX9_best 0 [(0, .ref 0), (1, .int (-1))] [] μ ν _
  refine z_iload_n dX9_best_0 rfl ?_
  refine z_iconst (v := -1) dX9_best_1 rfl ?_
  refine z_icmp_eq 16 dX9_best_2 (by decide) (fun h2 => ?_) (fun h2 => absurd (by decide) h2)
  refine z_aload_n dX9_best_16 rfl ?_
  refine m_getr dX9_best_17 fX9_44 sh0 rfl ?_
  refine z_iload_n dX9_best_20 rfl ?_
  refine m_callV (As := [.int _]) dX9_best_21 kX9_226 ⟨rfl, rfl⟩ rfl ⟨rfl, rfl⟩ rfl rfl sh44 rfl rfl (c_bestRules_c hn hz6 hsd hN hN2 hf hf2) (fun r21 μ21 ν21 hk21 => ?_)
  obtain ⟨rfl, rfl, rfl⟩ := hk21
  refine m_iret dX9_best_24 rfl rfl ?_
  exact ⟨rfl, rfl, rfl⟩

def rBe (n : Nat) (μ : Mem) : Nat → Mem × Int32
  | 0 => (μ, -1)
  | i + 1 => if (rBe n μ i).2 < 0 then (rCp (rNow (rSp n i (rBe n μ i).1) n) 92 75 0 6 n, rCost (rNow (rSp n i (rBe n μ i).1) n)) else if (rBe n μ i).2 ≤ rCost (rNow (rSp n i (rBe n μ i).1) n) then (rNow (rSp n i (rBe n μ i).1) n, (rBe n μ i).2) else (rCp (rNow (rSp n i (rBe n μ i).1) n) 92 75 0 6 n, rCost (rNow (rSp n i (rBe n μ i).1) n))
theorem zFr.cp9 {μ : Mem} {a b i : Nat} : zFr μ (rCp μ 92 75 a b i) := ⟨fun q h _ _ => rCp_ne (by omega) i, rCp_ne (by decide) i, rCp_ne (by decide) i, fun j _ _ => by rw [rCp_ne (by decide)], fun j _ => by rw [rCp_ne (by decide)]⟩
theorem rBe_fr {n : Nat} {μ : Mem} (h6 : n ≤ 6) : ∀ i, zFr μ (rBe n μ i).1
  | 0 => zFr.rf
  | i + 1 => by
    have e := ((rBe_fr (μ := μ) h6 i).tr (rSp_fr n i _ h6)).tr (zFr.now (n := n))
    rw [rBe]
    split
    · exact e.tr zFr.cp9
    · split
      · exact e
      · exact e.tr zFr.cp9
set_option maxRecDepth 100000 in
set_option maxHeartbeats 400000 in
theorem d_best_o {l : Launch} {G : zG} {μ : Mem} {ν : Lng} {n : Nat} (hn : μ 66 17 = nI n) (hz6 : n ≤ 6) {w : Int32} (hw : w < 0 ∨ nI n ≤ w) (hne : ¬ w = -1)  : Cm l G mX10_best [.ref 66, .int w] μ ν (fun a9 b9 c9 => (-1000000001) = a9 ∧ μ = b9 ∧ ν = c9) := by
  refine Con.of (by decide) (Nat.le_of_ble_eq_true rfl) ?_
  show Am l G mX10_best 0 [(0, .ref 66), (1, .int w)] [] μ ν _
  refine z_iload_n dX10_best_0 rfl ?_
  refine z_iconst (v := -1) dX10_best_1 rfl ?_
  refine z_icmp_eq 16 dX10_best_2 (by decide) (fun h2 => absurd h2 hne) (fun h2 => ?_)
  refine z_aload_n dX10_best_5 rfl ?_
  refine z_iload_n dX10_best_6 rfl ?_
  refine m_callV (As := [.int _]) dX10_best_7 kX10_228 ⟨rfl, rfl⟩ rfl ⟨rfl, rfl⟩ rfl rfl sh66 rfl rfl (c_isOneF hn hz6 hw) (fun r7 μ7 ν7 hk7 => ?_)
  obtain ⟨rfl, rfl, rfl⟩ := hk7
  refine z_if_ne 16 dX10_best_10 (by decide) (fun h10 => absurd (by decide) h10) (fun h10 => ?_)
  refine z_ldc dX10_best_13 cX10_227 ?_
  refine m_iret dX10_best_15 rfl rfl ?_
  exact ⟨rfl, rfl, rfl⟩
set_option maxRecDepth 100000 in
set_option maxHeartbeats 400000 in
theorem d_spellIn {l : Launch} {G : zG} {i4 l3 n2 u : Int32} {ν : Lng} {K : Int32 → Mem → Lng → Prop} : ∀ (m c : Nat) (μ : Mem), m ≤ 6 → c < 2 ^ 31 → Am l G mX10_best 96 [(4, .int i4), (3, .int l3), (2, .int n2), (0, .ref 66), (1, .int u)] [] (rSp m c μ) ν K → Am l G mX10_best 65 [(6, .int (nI m - 1)), (5, .int (nI c)), (4, .int i4), (3, .int l3), (2, .int n2), (0, .ref 66), (1, .int u)] [] μ ν K
  | 0, c, μ, hm, hc, H => by
    refine z_iload dX10_best_65 rfl ?_
    refine z_if_lt 96 dX10_best_67 (by decide) (fun h67 => ?_) (fun h67 => absurd (show nI 0 - 1 < 0 by decide) h67)
    refine z_lv [2, 3, 4, 5, 6] rfl ?_
    exact H
  | m + 1, c, μ, hm, hc, H => by
    rw [nI_pred m]
    refine z_iload dX10_best_65 rfl ?_
    refine z_if_lt 96 dX10_best_67 (by decide) (fun h67 => absurd h67 (nI_pos (by omega))) (fun h67 => ?_)
    refine z_aload_n dX10_best_70 rfl ?_
    refine m_getr dX10_best_71 fX10_38 sh66 rfl ?_
    refine z_bipush (v := 6) dX10_best_74 rfl ?_
    refine z_iload dX10_best_76 rfl ?_
    refine z_iadd dX10_best_78 ?_
    rw [show (6 + nI m) = nI (6 + m) from z6a 6 m]
    refine z_iload dX10_best_79 rfl ?_
    refine z_iconst (v := 3) dX10_best_81 rfl ?_
    refine z_irem dX10_best_82 (by decide) ?_
    rw [show (nI c - nI c / 3 * 3) = nI (c % 3) from pk_rem (by omega) (by decide) (by decide)]
    refine m_iastN (j := (6 + m)) dX10_best_83 sh75 rfl (by omega) rfl ?_
    refine z_iload dX10_best_84 rfl ?_
    refine z_iconst (v := 3) dX10_best_86 rfl ?_
    refine z_idiv dX10_best_87 (by decide) ?_
    rw [show (nI c / 3) = nI (c / 3) from pk_div (by omega) (by decide) (by decide)]
    refine z_istore (i := 5) (fun y => [(5, .int y), (6, .int (nI m)), (4, .int i4), (3, .int l3), (2, .int n2), (0, .ref 66), (1, .int u)]) dX10_best_88 rfl (fun _ => rfl) (fun x9 e9 => ?_)
    subst e9
    refine z_iinc (fun y => [(6, .int y), (5, .int (nI (c / 3))), (4, .int i4), (3, .int l3), (2, .int n2), (0, .ref 66), (1, .int u)]) dX10_best_90 rfl rfl (fun _ => rfl) (fun x6_90 ex6_90 => ?_)
    obtain rfl : x6_90 = (nI m - 1) := by rw [ex6_90]; exact zdec m
    refine z_goto 65 dX10_best_93 (by decide) ?_
    exact d_spellIn m (c / 3) _ (by omega) (by omega) H
set_option maxRecDepth 100000 in
set_option maxHeartbeats 400000 in
theorem d_best_w {l : Launch} {G : zG} {μ : Mem} {ν : Lng} {n : Nat} (hn : μ 66 17 = nI n) (hz6 : n ≤ 6) (hsd : zSidesM μ n) {N : Nat} (hN : N = 3 ^ n) (hN2 : N ≤ 729) {j : Nat} (hj : j < n)  : Cm l G mX10_best [.ref 66, .int (nI j)] μ ν (fun a9 b9 c9 => (rBe n (rCp μ 91 75 0 0 21) N).1 92 j = a9 ∧ rCp (rBe n (rCp μ 91 75 0 0 21) N).1 75 91 0 0 21 = b9 ∧ ν = c9) := by
  refine Con.of (by decide) (Nat.le_of_ble_eq_true rfl) ?_
  show Am l G mX10_best 0 [(0, .ref 66), (1, .int (nI j))] [] μ ν _
  have gH : (rCp μ 91 75 0 0 21) 66 17 = nI n := zFr.holdN hn
  have g1 : ∀ i, zFr (rCp μ 91 75 0 0 21) (rBe n (rCp μ 91 75 0 0 21) i).1 := fun i => rBe_fr hz6 i
  have g2 : ∀ i, zFr (rCp μ 91 75 0 0 21) (rSp n i (rBe n (rCp μ 91 75 0 0 21) i).1) := fun i => (g1 i).tr (rSp_fr n i _ hz6)
  have g3 : ∀ i k, zFr (rCp μ 91 75 0 0 21) (rCp (rNow (rSp n i (rBe n (rCp μ 91 75 0 0 21) i).1) n) 92 75 0 6 k) := fun i k => ((g2 i).tr zFr.now).tr zFr.cp9
  have hL := m_for (l := l) (G := G) (M := mX10_best) (pc := 47) (ν := ν) (K := (fun a9 b9 c9 => (rBe n (rCp μ 91 75 0 0 21) N).1 92 j = a9 ∧ rCp (rBe n (rCp μ 91 75 0 0 21) N).1 75 91 0 0 21 = b9 ∧ ν = c9)) (N := N) (fun i => [(4, .int (nI i)), (3, .int ((rBe n (rCp μ 91 75 0 0 21) i).2)), (2, .int (nI N)), (0, .ref 66), (1, .int (nI j))]) (fun i => (rBe n (rCp μ 91 75 0 0 21) i).1) (fun i hi0 H0 => by
    have hC0 : rBe n (rCp μ 91 75 0 0 21) (i + 1) = (rCp (rNow (rSp n i (rBe n (rCp μ 91 75 0 0 21) i).1) n) 92 75 0 6 n, (rCost (rNow (rSp n i (rBe n (rCp μ 91 75 0 0 21) i).1) n))) → ∀ k, k ≤ n → Am l G mX10_best 118 [(7, .int (nI k)), (4, .int (nI i)), (3, .int (rCost (rNow (rSp n i (rBe n (rCp μ 91 75 0 0 21) i).1) n))), (2, .int (nI N)), (0, .ref 66), (1, .int (nI j))] [] (rCp (rNow (rSp n i (rBe n (rCp μ 91 75 0 0 21) i).1) n) 92 75 0 6 k) ν (fun a9 b9 c9 => (rBe n (rCp μ 91 75 0 0 21) N).1 92 j = a9 ∧ rCp (rBe n (rCp μ 91 75 0 0 21) N).1 75 91 0 0 21 = b9 ∧ ν = c9) := fun e8 => by
      rw [e8] at H0
      have HX := H0
      have hC := m_for (l := l) (G := G) (M := mX10_best) (pc := 118) (ν := ν) (K := (fun a9 b9 c9 => (rBe n (rCp μ 91 75 0 0 21) N).1 92 j = a9 ∧ rCp (rBe n (rCp μ 91 75 0 0 21) N).1 75 91 0 0 21 = b9 ∧ ν = c9)) (N := n) (fun k => [(7, .int (nI k)), (4, .int (nI i)), (3, .int (rCost (rNow (rSp n i (rBe n (rCp μ 91 75 0 0 21) i).1) n))), (2, .int (nI N)), (0, .ref 66), (1, .int (nI j))]) (fun k => rCp (rNow (rSp n i (rBe n (rCp μ 91 75 0 0 21) i).1) n) 92 75 0 6 k) (fun k hi H => by
        refine z_iload dX10_best_118 rfl ?_
        refine z_aload_n dX10_best_120 rfl ?_
        refine m_geti dX10_best_121 fX10_105 sh66 rfl ?_
        refine z_icmp_ge 150 dX10_best_124 (by decide) (fun h124 => absurd ((g3 i k).n (zFr.holdN hn) ▸ h124) (nI_ge hi (by omega))) (fun h124 => ?_)
        refine z_aload_n dX10_best_127 rfl ?_
        refine m_getr dX10_best_128 fX10_90 sh66 rfl ?_
        refine z_iload dX10_best_131 rfl ?_
        refine z_aload_n dX10_best_133 rfl ?_
        refine m_getr dX10_best_134 fX10_38 sh66 rfl ?_
        refine z_bipush (v := 6) dX10_best_137 rfl ?_
        refine z_iload dX10_best_139 rfl ?_
        refine z_iadd dX10_best_141 ?_
        rw [show (6 + nI k) = nI (6 + k) from z6a 6 k]
        refine m_ialdN (j := (6 + k)) dX10_best_142 sh75 rfl (by omega) rfl ?_
        refine m_iastN (j := k) dX10_best_143 sh92 rfl (by omega) rfl ?_
        refine z_iinc (fun y => [(7, .int y), (4, .int (nI i)), (3, .int (rCost (rNow (rSp n i (rBe n (rCp μ 91 75 0 0 21) i).1) n))), (2, .int (nI N)), (0, .ref 66), (1, .int (nI j))]) dX10_best_144 rfl rfl (fun _ => rfl) (fun x7_144 ex7_144 => ?_)
        obtain rfl : x7_144 = nI (k + 1) := by rw [ex7_144]; exact nI_1 k
        refine z_goto 118 dX10_best_147 (by decide) ?_
        rw [show rCp (rNow (rSp n i (rBe n (rCp μ 91 75 0 0 21) i).1) n) 92 75 0 6 (k + 1) = up2 (rCp (rNow (rSp n i (rBe n (rCp μ 91 75 0 0 21) i).1) n) 92 75 0 6 k) 92 (0 + k) (rCp (rNow (rSp n i (rBe n (rCp μ 91 75 0 0 21) i).1) n) 92 75 0 6 k 75 (6 + k)) from rfl, Nat.zero_add] at H
        exact H) (by
        refine z_iload dX10_best_118 rfl ?_
        refine z_aload_n dX10_best_120 rfl ?_
        refine m_geti dX10_best_121 fX10_105 sh66 rfl ?_
        refine z_icmp_ge 150 dX10_best_124 (by decide) (fun h124 => ?_) (fun h124 => absurd ((g3 i n).n (zFr.holdN hn) ▸ nI_le (Nat.le_refl n) (by omega)) h124)
        refine z_iinc (fun y => [(4, .int y), (7, .int (nI n)), (3, .int (rCost (rNow (rSp n i (rBe n (rCp μ 91 75 0 0 21) i).1) n))), (2, .int (nI N)), (0, .ref 66), (1, .int (nI j))]) dX10_best_150 rfl rfl (fun _ => rfl) (fun x4_150 ex4_150 => ?_)
        obtain rfl : x4_150 = nI (i + 1) := by rw [ex4_150]; exact nI_1 i
        refine z_goto 47 dX10_best_153 (by decide) ?_
        refine z_lv [0, 2, 3, 4, 5] rfl ?_
        exact HX)
      exact hC
    have h96 : Am l G mX10_best 96 [(4, .int (nI i)), (3, .int ((rBe n (rCp μ 91 75 0 0 21) i).2)), (2, .int (nI N)), (0, .ref 66), (1, .int (nI j))] [] (rSp n i (rBe n (rCp μ 91 75 0 0 21) i).1) ν (fun a9 b9 c9 => (rBe n (rCp μ 91 75 0 0 21) N).1 92 j = a9 ∧ rCp (rBe n (rCp μ 91 75 0 0 21) N).1 75 91 0 0 21 = b9 ∧ ν = c9) := by
      refine z_aload_n dX10_best_96 rfl ?_
      refine m_callV (As := []) dX10_best_97 kX10_223 ⟨rfl, rfl⟩ rfl ⟨rfl, rfl⟩ rfl rfl sh66 rfl rfl (d_cost ((g2 i).n (zFr.holdN hn)) hz6 ((g2 i).sd (zFr.holdS hsd))) (fun r97 μ97 ν97 hk97 => ?_)
      obtain ⟨rfl, rfl, rfl⟩ := hk97
      refine z_istore (i := 6) (fun y => [(6, .int y), (4, .int (nI i)), (3, .int ((rBe n (rCp μ 91 75 0 0 21) i).2)), (2, .int (nI N)), (0, .ref 66), (1, .int (nI j))]) dX10_best_100 rfl (fun _ => rfl) (fun x9 e9 => ?_)
      subst e9
      refine z_iload_n dX10_best_102 rfl ?_
      refine z_if_lt 112 dX10_best_103 (by decide) (fun h103 => ?_) (fun h103 => ?_)
      · skip
        refine z_iload dX10_best_112 rfl ?_
        refine z_istore_n (i := 3) (fun y => [(3, .int y), (6, .int (rCost (rNow (rSp n i (rBe n (rCp μ 91 75 0 0 21) i).1) n))), (4, .int (nI i)), (2, .int (nI N)), (0, .ref 66), (1, .int (nI j))]) dX10_best_114 rfl rfl (fun _ => rfl) (fun x9 e9 => ?_)
        subst e9
        refine z_iconst (v := 0) dX10_best_115 rfl ?_
        refine z_istore (i := 7) (fun y => [(7, .int y), (3, .int (rCost (rNow (rSp n i (rBe n (rCp μ 91 75 0 0 21) i).1) n))), (6, .int (rCost (rNow (rSp n i (rBe n (rCp μ 91 75 0 0 21) i).1) n))), (4, .int (nI i)), (2, .int (nI N)), (0, .ref 66), (1, .int (nI j))]) dX10_best_116 rfl (fun _ => rfl) (fun x9 e9 => ?_)
        subst e9
        refine z_lv [0, 3, 1, 4, 5, 6] rfl ?_
        exact hC0 (if_pos h103) 0 (Nat.zero_le n)
      · skip
        refine z_iload dX10_best_106 rfl ?_
        refine z_iload_n dX10_best_108 rfl ?_
        refine z_icmp_ge 150 dX10_best_109 (by decide) (fun h109 => ?_) (fun h109 => ?_)
        · skip
          refine z_iinc (fun y => [(4, .int y), (6, .int (rCost (rNow (rSp n i (rBe n (rCp μ 91 75 0 0 21) i).1) n))), (3, .int ((rBe n (rCp μ 91 75 0 0 21) i).2)), (2, .int (nI N)), (0, .ref 66), (1, .int (nI j))]) dX10_best_150 rfl rfl (fun _ => rfl) (fun x4_150 ex4_150 => ?_)
          obtain rfl : x4_150 = nI (i + 1) := by rw [ex4_150]; exact nI_1 i
          refine z_goto 47 dX10_best_153 (by decide) ?_
          refine z_lv [0, 2, 3, 4, 5] rfl ?_
          rw [show rBe n (rCp μ 91 75 0 0 21) (i + 1) = (rNow (rSp n i (rBe n (rCp μ 91 75 0 0 21) i).1) n, (rBe n (rCp μ 91 75 0 0 21) i).2) from (if_neg h103).trans (if_pos h109)] at H0
          exact H0
        · skip
          refine z_iload dX10_best_112 rfl ?_
          refine z_istore_n (i := 3) (fun y => [(3, .int y), (6, .int (rCost (rNow (rSp n i (rBe n (rCp μ 91 75 0 0 21) i).1) n))), (4, .int (nI i)), (2, .int (nI N)), (0, .ref 66), (1, .int (nI j))]) dX10_best_114 rfl rfl (fun _ => rfl) (fun x9 e9 => ?_)
          subst e9
          refine z_iconst (v := 0) dX10_best_115 rfl ?_
          refine z_istore (i := 7) (fun y => [(7, .int y), (3, .int (rCost (rNow (rSp n i (rBe n (rCp μ 91 75 0 0 21) i).1) n))), (6, .int (rCost (rNow (rSp n i (rBe n (rCp μ 91 75 0 0 21) i).1) n))), (4, .int (nI i)), (2, .int (nI N)), (0, .ref 66), (1, .int (nI j))]) dX10_best_116 rfl (fun _ => rfl) (fun x9 e9 => ?_)
          subst e9
          refine z_lv [0, 3, 1, 4, 5, 6] rfl ?_
          exact hC0 ((if_neg h103).trans (if_neg h109)) 0 (Nat.zero_le n)
    refine z_iload dX10_best_47 rfl ?_
    refine z_iload_n dX10_best_49 rfl ?_
    refine z_icmp_ge 156 dX10_best_50 (by decide) (fun h50 => absurd h50 (nI_ge (a := i) (b := N) hi0 (by omega))) (fun h50 => ?_)
    refine z_iload dX10_best_53 rfl ?_
    refine z_istore (i := 5) (fun y => [(5, .int y), (4, .int (nI i)), (3, .int ((rBe n (rCp μ 91 75 0 0 21) i).2)), (2, .int (nI N)), (0, .ref 66), (1, .int (nI j))]) dX10_best_55 rfl (fun _ => rfl) (fun x9 e9 => ?_)
    subst e9
    refine z_aload_n dX10_best_57 rfl ?_
    refine m_geti dX10_best_58 fX10_105 sh66 rfl ?_
    rw [(g1 i).n (zFr.holdN hn)]
    refine z_iconst (v := 1) dX10_best_61 rfl ?_
    refine z_isub dX10_best_62 ?_
    refine z_istore (i := 6) (fun y => [(6, .int y), (5, .int (nI i)), (4, .int (nI i)), (3, .int ((rBe n (rCp μ 91 75 0 0 21) i).2)), (2, .int (nI N)), (0, .ref 66), (1, .int (nI j))]) dX10_best_63 rfl (fun _ => rfl) (fun x9 e9 => ?_)
    subst e9
    exact d_spellIn n i _ hz6 (by omega) h96) (by
    refine z_iload dX10_best_47 rfl ?_
    refine z_iload_n dX10_best_49 rfl ?_
    refine z_icmp_ge 156 dX10_best_50 (by decide) (fun h50 => ?_) (fun h50 => absurd (nI_le (Nat.le_refl N) (by omega)) h50)
    refine z_aload_n dX10_best_156 rfl ?_
    refine m_callVv (As := []) dX10_best_157 kX10_248 ⟨rfl, rfl⟩ rfl ⟨rfl, rfl⟩ rfl rfl sh66 rfl rfl d_release (fun μ157 ν157 hk157 => ?_)
    obtain ⟨rfl, rfl⟩ := hk157
    refine z_iload_n dX10_best_160 rfl ?_
    refine z_iconst (v := -1) dX10_best_161 rfl ?_
    refine z_icmp_ne 169 dX10_best_162 (by decide) (fun h162 => ?_) (fun h162 => absurd h162 (nI_ne_m1 (by omega)))
    refine z_aload_n dX10_best_169 rfl ?_
    refine m_getr dX10_best_170 fX10_90 sh66 rfl ?_
    refine z_iload_n dX10_best_173 rfl ?_
    refine m_ialdN (j := j) dX10_best_174 sh92 rfl (by omega) rfl ?_
    refine m_iret dX10_best_175 rfl rfl ?_
    exact ⟨(by rw [rCp_ne (by decide)]), rfl, rfl⟩)
  have hP := m_for (l := l) (G := G) (M := mX10_best) (pc := 24) (ν := ν) (K := (fun a9 b9 c9 => (rBe n (rCp μ 91 75 0 0 21) N).1 92 j = a9 ∧ rCp (rBe n (rCp μ 91 75 0 0 21) N).1 75 91 0 0 21 = b9 ∧ ν = c9)) (N := n) (fun i => [(3, .int (nI i)), (2, .int (nI (3 ^ i))), (0, .ref 66), (1, .int (nI j))]) (fun i => rCp μ 91 75 0 0 21) (fun i hi H => by
    refine z_iload_n dX10_best_24 rfl ?_
    refine z_aload_n dX10_best_25 rfl ?_
    refine m_geti dX10_best_26 fX10_105 sh66 rfl ?_
    refine z_icmp_ge 42 dX10_best_29 (by decide) (fun h29 => absurd (gH ▸ h29) (nI_ge hi (by omega))) (fun h29 => ?_)
    refine z_iload_n dX10_best_32 rfl ?_
    refine z_iconst (v := 3) dX10_best_33 rfl ?_
    refine z_imul dX10_best_34 ?_
    rw [show (nI (3 ^ i) * 3) = nI (3 ^ (i + 1)) from (by rw [show (3 : Int32) = nI 3 from rfl, pk_mul, Nat.pow_succ])]
    refine z_istore_n (i := 2) (fun y => [(2, .int y), (3, .int (nI i)), (0, .ref 66), (1, .int (nI j))]) dX10_best_35 rfl rfl (fun _ => rfl) (fun x9 e9 => ?_)
    subst e9
    refine z_iinc (fun y => [(3, .int y), (2, .int (nI (3 ^ (i + 1)))), (0, .ref 66), (1, .int (nI j))]) dX10_best_36 rfl rfl (fun _ => rfl) (fun x3_36 ex3_36 => ?_)
    obtain rfl : x3_36 = nI (i + 1) := by rw [ex3_36]; exact nI_1 i
    refine z_goto 24 dX10_best_39 (by decide) ?_
    exact H) (by
    refine z_iload_n dX10_best_24 rfl ?_
    refine z_aload_n dX10_best_25 rfl ?_
    refine m_geti dX10_best_26 fX10_105 sh66 rfl ?_
    refine z_icmp_ge 42 dX10_best_29 (by decide) (fun h29 => ?_) (fun h29 => absurd (by rw [gH]; exact nI_le (Nat.le_refl n) (by omega)) h29)
    refine z_iconst (v := -1) dX10_best_42 rfl ?_
    refine z_istore_n (i := 3) (fun y => [(3, .int y), (2, .int (nI (3 ^ n))), (0, .ref 66), (1, .int (nI j))]) dX10_best_43 rfl rfl (fun _ => rfl) (fun x9 e9 => ?_)
    subst e9
    refine z_iconst (v := 0) dX10_best_44 rfl ?_
    refine z_istore (i := 4) (fun y => [(4, .int y), (3, .int (-1)), (2, .int (nI (3 ^ n))), (0, .ref 66), (1, .int (nI j))]) dX10_best_45 rfl (fun _ => rfl) (fun x9 e9 => ?_)
    subst e9
    rw [← hN]
    exact hL 0 (Nat.zero_le _))
  refine z_iload_n dX10_best_0 rfl ?_
  refine z_iconst (v := -1) dX10_best_1 rfl ?_
  refine z_icmp_eq 16 dX10_best_2 (by decide) (fun h2 => absurd h2 (nI_ne_m1 (by omega))) (fun h2 => ?_)
  refine z_aload_n dX10_best_5 rfl ?_
  refine z_iload_n dX10_best_6 rfl ?_
  refine m_callV (As := [.int _]) dX10_best_7 kX10_228 ⟨rfl, rfl⟩ rfl ⟨rfl, rfl⟩ rfl rfl sh66 rfl rfl (c_isOneT hn hz6 hj) (fun r7 μ7 ν7 hk7 => ?_)
  obtain ⟨rfl, rfl, rfl⟩ := hk7
  refine z_if_ne 16 dX10_best_10 (by decide) (fun h10 => ?_) (fun h10 => absurd h10 (by decide))
  refine z_aload_n dX10_best_16 rfl ?_
  refine m_callVv (As := []) dX10_best_17 kX10_245 ⟨rfl, rfl⟩ rfl ⟨rfl, rfl⟩ rfl rfl sh66 rfl rfl d_hold (fun μ17 ν17 hk17 => ?_)
  obtain ⟨rfl, rfl⟩ := hk17
  refine z_iconst (v := 1) dX10_best_20 rfl ?_
  refine z_istore_n (i := 2) (fun y => [(2, .int y), (0, .ref 66), (1, .int (nI j))]) dX10_best_21 rfl rfl (fun _ => rfl) (fun x9 e9 => ?_)
  subst e9
  refine z_iconst (v := 0) dX10_best_22 rfl ?_
  refine z_istore_n (i := 3) (fun y => [(3, .int y), (2, .int 1), (0, .ref 66), (1, .int (nI j))]) dX10_best_23 rfl rfl (fun _ => rfl) (fun x9 e9 => ?_)
  subst e9
  exact hP 0 (Nat.zero_le _)
set_option maxRecDepth 100000 in
set_option maxHeartbeats 400000 in
theorem d_best_c {l : Launch} {G : zG} {μ : Mem} {ν : Lng} {n : Nat} (hn : μ 66 17 = nI n) (hz6 : n ≤ 6) (hsd : zSidesM μ n) {N : Nat} (hN : N = 3 ^ n) (hN2 : N ≤ 729)  : Cm l G mX10_best [.ref 66, .int (-1)] μ ν (fun a9 b9 c9 => (rBe n (rCp μ 91 75 0 0 21) N).2 = a9 ∧ rCp (rBe n (rCp μ 91 75 0 0 21) N).1 75 91 0 0 21 = b9 ∧ ν = c9) := by
  refine Con.of (by decide) (Nat.le_of_ble_eq_true rfl) ?_
  show Am l G mX10_best 0 [(0, .ref 66), (1, .int (-1))] [] μ ν _
  have gH : (rCp μ 91 75 0 0 21) 66 17 = nI n := zFr.holdN hn
  have g1 : ∀ i, zFr (rCp μ 91 75 0 0 21) (rBe n (rCp μ 91 75 0 0 21) i).1 := fun i => rBe_fr hz6 i
  have g2 : ∀ i, zFr (rCp μ 91 75 0 0 21) (rSp n i (rBe n (rCp μ 91 75 0 0 21) i).1) := fun i => (g1 i).tr (rSp_fr n i _ hz6)
  have g3 : ∀ i k, zFr (rCp μ 91 75 0 0 21) (rCp (rNow (rSp n i (rBe n (rCp μ 91 75 0 0 21) i).1) n) 92 75 0 6 k) := fun i k => ((g2 i).tr zFr.now).tr zFr.cp9
  have hL := m_for (l := l) (G := G) (M := mX10_best) (pc := 47) (ν := ν) (K := (fun a9 b9 c9 => (rBe n (rCp μ 91 75 0 0 21) N).2 = a9 ∧ rCp (rBe n (rCp μ 91 75 0 0 21) N).1 75 91 0 0 21 = b9 ∧ ν = c9)) (N := N) (fun i => [(4, .int (nI i)), (3, .int ((rBe n (rCp μ 91 75 0 0 21) i).2)), (2, .int (nI N)), (0, .ref 66), (1, .int (-1))]) (fun i => (rBe n (rCp μ 91 75 0 0 21) i).1) (fun i hi0 H0 => by
    have hC0 : rBe n (rCp μ 91 75 0 0 21) (i + 1) = (rCp (rNow (rSp n i (rBe n (rCp μ 91 75 0 0 21) i).1) n) 92 75 0 6 n, (rCost (rNow (rSp n i (rBe n (rCp μ 91 75 0 0 21) i).1) n))) → ∀ k, k ≤ n → Am l G mX10_best 118 [(7, .int (nI k)), (4, .int (nI i)), (3, .int (rCost (rNow (rSp n i (rBe n (rCp μ 91 75 0 0 21) i).1) n))), (2, .int (nI N)), (0, .ref 66), (1, .int (-1))] [] (rCp (rNow (rSp n i (rBe n (rCp μ 91 75 0 0 21) i).1) n) 92 75 0 6 k) ν (fun a9 b9 c9 => (rBe n (rCp μ 91 75 0 0 21) N).2 = a9 ∧ rCp (rBe n (rCp μ 91 75 0 0 21) N).1 75 91 0 0 21 = b9 ∧ ν = c9) := fun e8 => by
      rw [e8] at H0
      have HX := H0
      have hC := m_for (l := l) (G := G) (M := mX10_best) (pc := 118) (ν := ν) (K := (fun a9 b9 c9 => (rBe n (rCp μ 91 75 0 0 21) N).2 = a9 ∧ rCp (rBe n (rCp μ 91 75 0 0 21) N).1 75 91 0 0 21 = b9 ∧ ν = c9)) (N := n) (fun k => [(7, .int (nI k)), (4, .int (nI i)), (3, .int (rCost (rNow (rSp n i (rBe n (rCp μ 91 75 0 0 21) i).1) n))), (2, .int (nI N)), (0, .ref 66), (1, .int (-1))]) (fun k => rCp (rNow (rSp n i (rBe n (rCp μ 91 75 0 0 21) i).1) n) 92 75 0 6 k) (fun k hi H => by
        refine z_iload dX10_best_118 rfl ?_
        refine z_aload_n dX10_best_120 rfl ?_
        refine m_geti dX10_best_121 fX10_105 sh66 rfl ?_
        refine z_icmp_ge 150 dX10_best_124 (by decide) (fun h124 => absurd ((g3 i k).n (zFr.holdN hn) ▸ h124) (nI_ge hi (by omega))) (fun h124 => ?_)
        refine z_aload_n dX10_best_127 rfl ?_
        refine m_getr dX10_best_128 fX10_90 sh66 rfl ?_
        refine z_iload dX10_best_131 rfl ?_
        refine z_aload_n dX10_best_133 rfl ?_
        refine m_getr dX10_best_134 fX10_38 sh66 rfl ?_
        refine z_bipush (v := 6) dX10_best_137 rfl ?_
        refine z_iload dX10_best_139 rfl ?_
        refine z_iadd dX10_best_141 ?_
        rw [show (6 + nI k) = nI (6 + k) from z6a 6 k]
        refine m_ialdN (j := (6 + k)) dX10_best_142 sh75 rfl (by omega) rfl ?_
        refine m_iastN (j := k) dX10_best_143 sh92 rfl (by omega) rfl ?_
        refine z_iinc (fun y => [(7, .int y), (4, .int (nI i)), (3, .int (rCost (rNow (rSp n i (rBe n (rCp μ 91 75 0 0 21) i).1) n))), (2, .int (nI N)), (0, .ref 66), (1, .int (-1))]) dX10_best_144 rfl rfl (fun _ => rfl) (fun x7_144 ex7_144 => ?_)
        obtain rfl : x7_144 = nI (k + 1) := by rw [ex7_144]; exact nI_1 k
        refine z_goto 118 dX10_best_147 (by decide) ?_
        rw [show rCp (rNow (rSp n i (rBe n (rCp μ 91 75 0 0 21) i).1) n) 92 75 0 6 (k + 1) = up2 (rCp (rNow (rSp n i (rBe n (rCp μ 91 75 0 0 21) i).1) n) 92 75 0 6 k) 92 (0 + k) (rCp (rNow (rSp n i (rBe n (rCp μ 91 75 0 0 21) i).1) n) 92 75 0 6 k 75 (6 + k)) from rfl, Nat.zero_add] at H
        exact H) (by
        refine z_iload dX10_best_118 rfl ?_
        refine z_aload_n dX10_best_120 rfl ?_
        refine m_geti dX10_best_121 fX10_105 sh66 rfl ?_
        refine z_icmp_ge 150 dX10_best_124 (by decide) (fun h124 => ?_) (fun h124 => absurd ((g3 i n).n (zFr.holdN hn) ▸ nI_le (Nat.le_refl n) (by omega)) h124)
        refine z_iinc (fun y => [(4, .int y), (7, .int (nI n)), (3, .int (rCost (rNow (rSp n i (rBe n (rCp μ 91 75 0 0 21) i).1) n))), (2, .int (nI N)), (0, .ref 66), (1, .int (-1))]) dX10_best_150 rfl rfl (fun _ => rfl) (fun x4_150 ex4_150 => ?_)
        obtain rfl : x4_150 = nI (i + 1) := by rw [ex4_150]; exact nI_1 i
        refine z_goto 47 dX10_best_153 (by decide) ?_
        refine z_lv [0, 2, 3, 4, 5] rfl ?_
        exact HX)
      exact hC
    have h96 : Am l G mX10_best 96 [(4, .int (nI i)), (3, .int ((rBe n (rCp μ 91 75 0 0 21) i).2)), (2, .int (nI N)), (0, .ref 66), (1, .int (-1))] [] (rSp n i (rBe n (rCp μ 91 75 0 0 21) i).1) ν (fun a9 b9 c9 => (rBe n (rCp μ 91 75 0 0 21) N).2 = a9 ∧ rCp (rBe n (rCp μ 91 75 0 0 21) N).1 75 91 0 0 21 = b9 ∧ ν = c9) := by
      refine z_aload_n dX10_best_96 rfl ?_
      refine m_callV (As := []) dX10_best_97 kX10_223 ⟨rfl, rfl⟩ rfl ⟨rfl, rfl⟩ rfl rfl sh66 rfl rfl (d_cost ((g2 i).n (zFr.holdN hn)) hz6 ((g2 i).sd (zFr.holdS hsd))) (fun r97 μ97 ν97 hk97 => ?_)
      obtain ⟨rfl, rfl, rfl⟩ := hk97
      refine z_istore (i := 6) (fun y => [(6, .int y), (4, .int (nI i)), (3, .int ((rBe n (rCp μ 91 75 0 0 21) i).2)), (2, .int (nI N)), (0, .ref 66), (1, .int (-1))]) dX10_best_100 rfl (fun _ => rfl) (fun x9 e9 => ?_)
      subst e9
      refine z_iload_n dX10_best_102 rfl ?_
      refine z_if_lt 112 dX10_best_103 (by decide) (fun h103 => ?_) (fun h103 => ?_)
      · skip
        refine z_iload dX10_best_112 rfl ?_
        refine z_istore_n (i := 3) (fun y => [(3, .int y), (6, .int (rCost (rNow (rSp n i (rBe n (rCp μ 91 75 0 0 21) i).1) n))), (4, .int (nI i)), (2, .int (nI N)), (0, .ref 66), (1, .int (-1))]) dX10_best_114 rfl rfl (fun _ => rfl) (fun x9 e9 => ?_)
        subst e9
        refine z_iconst (v := 0) dX10_best_115 rfl ?_
        refine z_istore (i := 7) (fun y => [(7, .int y), (3, .int (rCost (rNow (rSp n i (rBe n (rCp μ 91 75 0 0 21) i).1) n))), (6, .int (rCost (rNow (rSp n i (rBe n (rCp μ 91 75 0 0 21) i).1) n))), (4, .int (nI i)), (2, .int (nI N)), (0, .ref 66), (1, .int (-1))]) dX10_best_116 rfl (fun _ => rfl) (fun x9 e9 => ?_)
        subst e9
        refine z_lv [0, 3, 1, 4, 5, 6] rfl ?_
        exact hC0 (if_pos h103) 0 (Nat.zero_le n)
      · skip
        refine z_iload dX10_best_106 rfl ?_
        refine z_iload_n dX10_best_108 rfl ?_
        refine z_icmp_ge 150 dX10_best_109 (by decide) (fun h109 => ?_) (fun h109 => ?_)
        · skip
          refine z_iinc (fun y => [(4, .int y), (6, .int (rCost (rNow (rSp n i (rBe n (rCp μ 91 75 0 0 21) i).1) n))), (3, .int ((rBe n (rCp μ 91 75 0 0 21) i).2)), (2, .int (nI N)), (0, .ref 66), (1, .int (-1))]) dX10_best_150 rfl rfl (fun _ => rfl) (fun x4_150 ex4_150 => ?_)
          obtain rfl : x4_150 = nI (i + 1) := by rw [ex4_150]; exact nI_1 i
          refine z_goto 47 dX10_best_153 (by decide) ?_
          refine z_lv [0, 2, 3, 4, 5] rfl ?_
          rw [show rBe n (rCp μ 91 75 0 0 21) (i + 1) = (rNow (rSp n i (rBe n (rCp μ 91 75 0 0 21) i).1) n, (rBe n (rCp μ 91 75 0 0 21) i).2) from (if_neg h103).trans (if_pos h109)] at H0
          exact H0
        · skip
          refine z_iload dX10_best_112 rfl ?_
          refine z_istore_n (i := 3) (fun y => [(3, .int y), (6, .int (rCost (rNow (rSp n i (rBe n (rCp μ 91 75 0 0 21) i).1) n))), (4, .int (nI i)), (2, .int (nI N)), (0, .ref 66), (1, .int (-1))]) dX10_best_114 rfl rfl (fun _ => rfl) (fun x9 e9 => ?_)
          subst e9
          refine z_iconst (v := 0) dX10_best_115 rfl ?_
          refine z_istore (i := 7) (fun y => [(7, .int y), (3, .int (rCost (rNow (rSp n i (rBe n (rCp μ 91 75 0 0 21) i).1) n))), (6, .int (rCost (rNow (rSp n i (rBe n (rCp μ 91 75 0 0 21) i).1) n))), (4, .int (nI i)), (2, .int (nI N)), (0, .ref 66), (1, .int (-1))]) dX10_best_116 rfl (fun _ => rfl) (fun x9 e9 => ?_)
          subst e9
          refine z_lv [0, 3, 1, 4, 5, 6] rfl ?_
          exact hC0 ((if_neg h103).trans (if_neg h109)) 0 (Nat.zero_le n)
    refine z_iload dX10_best_47 rfl ?_
    refine z_iload_n dX10_best_49 rfl ?_
    refine z_icmp_ge 156 dX10_best_50 (by decide) (fun h50 => absurd h50 (nI_ge (a := i) (b := N) hi0 (by omega))) (fun h50 => ?_)
    refine z_iload dX10_best_53 rfl ?_
    refine z_istore (i := 5) (fun y => [(5, .int y), (4, .int (nI i)), (3, .int ((rBe n (rCp μ 91 75 0 0 21) i).2)), (2, .int (nI N)), (0, .ref 66), (1, .int (-1))]) dX10_best_55 rfl (fun _ => rfl) (fun x9 e9 => ?_)
    subst e9
    refine z_aload_n dX10_best_57 rfl ?_
    refine m_geti dX10_best_58 fX10_105 sh66 rfl ?_
    rw [(g1 i).n (zFr.holdN hn)]
    refine z_iconst (v := 1) dX10_best_61 rfl ?_
    refine z_isub dX10_best_62 ?_
    refine z_istore (i := 6) (fun y => [(6, .int y), (5, .int (nI i)), (4, .int (nI i)), (3, .int ((rBe n (rCp μ 91 75 0 0 21) i).2)), (2, .int (nI N)), (0, .ref 66), (1, .int (-1))]) dX10_best_63 rfl (fun _ => rfl) (fun x9 e9 => ?_)
    subst e9
    exact d_spellIn n i _ hz6 (by omega) h96) (by
    refine z_iload dX10_best_47 rfl ?_
    refine z_iload_n dX10_best_49 rfl ?_
    refine z_icmp_ge 156 dX10_best_50 (by decide) (fun h50 => ?_) (fun h50 => absurd (nI_le (Nat.le_refl N) (by omega)) h50)
    refine z_aload_n dX10_best_156 rfl ?_
    refine m_callVv (As := []) dX10_best_157 kX10_248 ⟨rfl, rfl⟩ rfl ⟨rfl, rfl⟩ rfl rfl sh66 rfl rfl d_release (fun μ157 ν157 hk157 => ?_)
    obtain ⟨rfl, rfl⟩ := hk157
    refine z_iload_n dX10_best_160 rfl ?_
    refine z_iconst (v := -1) dX10_best_161 rfl ?_
    refine z_icmp_ne 169 dX10_best_162 (by decide) (fun h162 => absurd (by decide) h162) (fun h162 => ?_)
    refine z_iload_n dX10_best_165 rfl ?_
    refine z_goto 175 dX10_best_166 (by decide) ?_
    refine m_iret dX10_best_175 rfl rfl ?_
    exact ⟨rfl, rfl, rfl⟩)
  have hP := m_for (l := l) (G := G) (M := mX10_best) (pc := 24) (ν := ν) (K := (fun a9 b9 c9 => (rBe n (rCp μ 91 75 0 0 21) N).2 = a9 ∧ rCp (rBe n (rCp μ 91 75 0 0 21) N).1 75 91 0 0 21 = b9 ∧ ν = c9)) (N := n) (fun i => [(3, .int (nI i)), (2, .int (nI (3 ^ i))), (0, .ref 66), (1, .int (-1))]) (fun i => rCp μ 91 75 0 0 21) (fun i hi H => by
    refine z_iload_n dX10_best_24 rfl ?_
    refine z_aload_n dX10_best_25 rfl ?_
    refine m_geti dX10_best_26 fX10_105 sh66 rfl ?_
    refine z_icmp_ge 42 dX10_best_29 (by decide) (fun h29 => absurd (gH ▸ h29) (nI_ge hi (by omega))) (fun h29 => ?_)
    refine z_iload_n dX10_best_32 rfl ?_
    refine z_iconst (v := 3) dX10_best_33 rfl ?_
    refine z_imul dX10_best_34 ?_
    rw [show (nI (3 ^ i) * 3) = nI (3 ^ (i + 1)) from (by rw [show (3 : Int32) = nI 3 from rfl, pk_mul, Nat.pow_succ])]
    refine z_istore_n (i := 2) (fun y => [(2, .int y), (3, .int (nI i)), (0, .ref 66), (1, .int (-1))]) dX10_best_35 rfl rfl (fun _ => rfl) (fun x9 e9 => ?_)
    subst e9
    refine z_iinc (fun y => [(3, .int y), (2, .int (nI (3 ^ (i + 1)))), (0, .ref 66), (1, .int (-1))]) dX10_best_36 rfl rfl (fun _ => rfl) (fun x3_36 ex3_36 => ?_)
    obtain rfl : x3_36 = nI (i + 1) := by rw [ex3_36]; exact nI_1 i
    refine z_goto 24 dX10_best_39 (by decide) ?_
    exact H) (by
    refine z_iload_n dX10_best_24 rfl ?_
    refine z_aload_n dX10_best_25 rfl ?_
    refine m_geti dX10_best_26 fX10_105 sh66 rfl ?_
    refine z_icmp_ge 42 dX10_best_29 (by decide) (fun h29 => ?_) (fun h29 => absurd (by rw [gH]; exact nI_le (Nat.le_refl n) (by omega)) h29)
    refine z_iconst (v := -1) dX10_best_42 rfl ?_
    refine z_istore_n (i := 3) (fun y => [(3, .int y), (2, .int (nI (3 ^ n))), (0, .ref 66), (1, .int (-1))]) dX10_best_43 rfl rfl (fun _ => rfl) (fun x9 e9 => ?_)
    subst e9
    refine z_iconst (v := 0) dX10_best_44 rfl ?_
    refine z_istore (i := 4) (fun y => [(4, .int y), (3, .int (-1)), (2, .int (nI (3 ^ n))), (0, .ref 66), (1, .int (-1))]) dX10_best_45 rfl (fun _ => rfl) (fun x9 e9 => ?_)
    subst e9
    rw [← hN]
    exact hL 0 (Nat.zero_le _))
  refine z_iload_n dX10_best_0 rfl ?_
  refine z_iconst (v := -1) dX10_best_1 rfl ?_
  refine z_icmp_eq 16 dX10_best_2 (by decide) (fun h2 => ?_) (fun h2 => absurd (by decide) h2)
  refine z_aload_n dX10_best_16 rfl ?_
  refine m_callVv (As := []) dX10_best_17 kX10_245 ⟨rfl, rfl⟩ rfl ⟨rfl, rfl⟩ rfl rfl sh66 rfl rfl d_hold (fun μ17 ν17 hk17 => ?_)
  obtain ⟨rfl, rfl⟩ := hk17
  refine z_iconst (v := 1) dX10_best_20 rfl ?_
  refine z_istore_n (i := 2) (fun y => [(2, .int y), (0, .ref 66), (1, .int (-1))]) dX10_best_21 rfl rfl (fun _ => rfl) (fun x9 e9 => ?_)
  subst e9
  refine z_iconst (v := 0) dX10_best_22 rfl ?_
  refine z_istore_n (i := 3) (fun y => [(3, .int y), (2, .int 1), (0, .ref 66), (1, .int (-1))]) dX10_best_23 rfl rfl (fun _ => rfl) (fun x9 e9 => ?_)
  subst e9
  exact hP 0 (Nat.zero_le _)
