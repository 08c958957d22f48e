
theorem zdec (m : Nat) : nI m + Int32.ofInt (-1) = nI m - 1 := by
  cases m with
  | zero => decide
  | succ k =>
    show nI (k + 1) + -1 = nI (k + 1) - 1
    rw [pk_m1, nI_pred]
/-- the figures of a choice -/
def zdg : Nat → Nat → Nat → Nat
  | 0, _, _ => 0
  | m + 1, c, w => if w = m then c % 3 else zdg m (c / 3) w
theorem zdg_le : ∀ m c w, zdg m c w ≤ 2
  | 0, _, _ => by unfold zdg; omega
  | m + 1, c, w => by
    unfold zdg
    split
    · omega
    · exact zdg_le m (c / 3) w
def gSp : Nat → Nat → Mem → Mem
  | 0, _, μ => μ
  | m + 1, c, μ => gSp m (c / 3) (up2 μ 48 m (nI (c % 3)))
theorem gSp_ne {q : Nat} (hq : q ≠ 48) : ∀ m c μ, gSp m c μ q = μ q
  | 0, _, _ => rfl
  | m + 1, c, μ => by rw [gSp, gSp_ne hq m, up2_ne hq]
theorem gSp_fc : ∀ m c μ, zFc μ (gSp m c μ)
  | 0, _, _ => zFc.rf
  | m + 1, c, μ => by
    rw [gSp]
    exact (zFc.up (by decide)).tr (gSp_fc m _ _)
theorem gSp_at : ∀ m c μ w, gSp m c μ 48 w = if w < m then nI (zdg m c w) else μ 48 w
  | 0, c, μ, w => by rw [gSp, if_neg (by omega)]
  | m + 1, c, μ, w => by
    rw [gSp, gSp_at m, up2_row, show zdg (m + 1) c w = if w = m then c % 3 else zdg m (c / 3) w from rfl]
    by_cases e : w = m
    · rw [if_neg (show ¬ w < m by omega), if_pos e, if_pos (by omega), if_pos e]
    · rw [if_neg e, if_neg e]
      by_cases e2 : w < m
      · rw [if_pos e2, if_pos (by omega)]
      · rw [if_neg e2, if_neg (by omega)]
def rSp : Nat → Nat → Mem → Mem
  | 0, _, μ => μ
  | m + 1, c, μ => rSp m (c / 3) (up2 μ 75 (6 + m) (nI (c % 3)))
theorem rSp_fr : ∀ m c μ, m ≤ 6 → zFr μ (rSp m c μ)
  | 0, _, _, _ => zFr.rf
  | m + 1, c, μ, h => by
    rw [rSp]
    exact (zFr.up (by omega)).tr (rSp_fr m _ _ (by omega))
theorem rSp_at : ∀ m c μ k, rSp m c μ 75 k = if 6 ≤ k ∧ k < 6 + m then nI (zdg m c (k - 6)) else μ 75 k
  | 0, c, μ, k => by rw [rSp, if_neg (by omega)]
  | m + 1, c, μ, k => by
    rw [rSp, rSp_at m, up2_row, show zdg (m + 1) c (k - 6) = if k - 6 = m then c % 3 else zdg m (c / 3) (k - 6) from rfl]
    by_cases e : k = 6 + m
    · rw [if_neg (show ¬ (6 ≤ k ∧ k < 6 + m) by omega), if_pos e, if_pos (by omega), if_pos (show k - 6 = m by omega)]
    · rw [if_neg e]
      by_cases e2 : 6 ≤ k ∧ k < 6 + m
      · rw [if_pos e2, if_pos (by omega), if_neg (by omega)]
      · rw [if_neg e2, if_neg (by omega)]
theorem pw3 : ∀ n, n ≤ 6 → 3 ^ n ≤ 729 ∧ 0 < 3 ^ n := fun n h => by
  rcases (show n = 0 ∨ n = 1 ∨ n = 2 ∨ n = 3 ∨ n = 4 ∨ n = 5 ∨ n = 6 by omega) with rfl | rfl | rfl | rfl | rfl | rfl | rfl <;> decide
set_option maxRecDepth 100000 in
set_option maxHeartbeats 400000 in
theorem c_spellIn {l : Launch} {G : zG} {x : Int32} {ν : Lng} {K : Int32 → Mem → Lng → Prop} : ∀ (m c : Nat) (μ : Mem), m ≤ 6 → c < 2 ^ 31 → K 0 (gSp m c μ) ν → Am l G mX8_spellRules 12 [(3, .int (nI m - 1)), (2, .int (nI c)), (0, .ref 44), (1, .int x)] [] μ ν K
  | 0, c, μ, hm, hc, H => by
    refine z_iload_n dX8_spellRules_12 rfl ?_
    refine z_if_lt 38 dX8_spellRules_13 (by decide) (fun h13 => ?_) (fun h13 => absurd (show nI 0 - 1 < 0 by decide) h13)
    refine m_ret dX8_spellRules_38 rfl ?_
    exact H
  | m + 1, c, μ, hm, hc, H => by
    rw [nI_pred m]
    refine z_iload_n dX8_spellRules_12 rfl ?_
    refine z_if_lt 38 dX8_spellRules_13 (by decide) (fun h13 => absurd h13 (nI_pos (by omega))) (fun h13 => ?_)
    refine z_aload_n dX8_spellRules_16 rfl ?_
    refine m_getr dX8_spellRules_17 fX8_12 sh44 rfl ?_
    refine m_getr dX8_spellRules_20 fX8_57 sh45 rfl ?_
    refine z_iload_n dX8_spellRules_23 rfl ?_
    refine z_iload_n dX8_spellRules_24 rfl ?_
    refine z_iconst (v := 3) dX8_spellRules_25 rfl ?_
    refine z_irem dX8_spellRules_26 (by decide) ?_
    rw [show (nI c - nI c / 3 * 3) = nI (c % 3) from pk_rem (by omega) (by decide) (by decide)]
    refine m_iastN (j := m) dX8_spellRules_27 sh48 rfl (by omega) rfl ?_
    refine z_iload_n dX8_spellRules_28 rfl ?_
    refine z_iconst (v := 3) dX8_spellRules_29 rfl ?_
    refine z_idiv dX8_spellRules_30 (by decide) ?_
    rw [show (nI c / 3) = nI (c / 3) from pk_div (by omega) (by decide) (by decide)]
    refine z_istore_n (i := 2) (fun y => [(2, .int y), (3, .int (nI m)), (0, .ref 44), (1, .int x)]) dX8_spellRules_31 rfl rfl (fun _ => rfl) (fun x9 e9 => ?_)
    subst e9
    refine z_iinc (fun y => [(3, .int y), (2, .int (nI (c / 3))), (0, .ref 44), (1, .int x)]) dX8_spellRules_32 rfl rfl (fun _ => rfl) (fun x3_32 ex3_32 => ?_)
    obtain rfl : x3_32 = (nI m - 1) := by rw [ex3_32]; exact zdec m
    refine z_goto 12 dX8_spellRules_35 (by decide) ?_
    exact c_spellIn m (c / 3) _ (by omega) (by omega) H
set_option maxRecDepth 100000 in
set_option maxHeartbeats 400000 in
theorem c_spell {l : Launch} {G : zG} {μ : Mem} {ν : Lng} {n : Nat} (hn : μ 15 6 = nI n) (hz6 : n ≤ 6) {c : Nat} (hc : c < 2 ^ 31)  : Cm l G mX8_spellRules [.ref 44, .int (nI c)] μ ν (fun _ b9 c9 => gSp n c μ = b9 ∧ ν = c9) := by
  refine Con.of (by decide) (Nat.le_of_ble_eq_true rfl) ?_
  show Am l G mX8_spellRules 0 [(0, .ref 44), (1, .int (nI c))] [] μ ν _
  refine z_iload_n dX8_spellRules_0 rfl ?_
  refine z_istore_n (i := 2) (fun y => [(2, .int y), (0, .ref 44), (1, .int (nI c))]) dX8_spellRules_1 rfl rfl (fun _ => rfl) (fun x9 e9 => ?_)
  subst e9
  refine z_aload_n dX8_spellRules_2 rfl ?_
  refine m_getr dX8_spellRules_3 fX8_32 sh44 rfl ?_
  refine m_geti dX8_spellRules_6 fX8_73 sh15 rfl ?_
  rw [hn]
  refine z_iconst (v := 1) dX8_spellRules_9 rfl ?_
  refine z_isub dX8_spellRules_10 ?_
  refine z_istore_n (i := 3) (fun y => [(3, .int y), (2, .int (nI c)), (0, .ref 44), (1, .int (nI c))]) dX8_spellRules_11 rfl rfl (fun _ => rfl) (fun x9 e9 => ?_)
  subst e9
  exact c_spellIn n c μ hz6 hc ⟨rfl, rfl⟩
set_option maxRecDepth 100000 in
set_option maxHeartbeats 400000 in
theorem c_bestRules_w {l : Launch} {G : zG} {μ : Mem} {ν : Lng} {n : Nat} (hn : μ 15 6 = nI n) (hz6 : n ≤ 6) (hsd : zSides μ n) {N f : Nat} (hN : N = 3 ^ n) (hN2 : N ≤ 729) (hf : gSe (fun i M => gSp n i M) (fun _ => true) nI n (gSt μ) N 44 5 = nI f) (hf2 : f < N) {j : Nat} (hj : j < n)  : Cm l G mX8_bestRules [.ref 44, .int (nI j)] μ ν (fun a9 b9 c9 => gSp n f (gSe (fun i M => gSp n i M) (fun _ => true) nI n (gSt μ) N) 48 j = a9 ∧ gSp n f (gSe (fun i M => gSp n i M) (fun _ => true) nI n (gSt μ) N) = b9 ∧ ν = c9) := by
  refine Con.of (by decide) (Nat.le_of_ble_eq_true rfl) ?_
  show Am l G mX8_bestRules 0 [(0, .ref 44), (1, .int (nI j))] [] μ ν _
  have f0 : zFc μ (gSt μ) := gSt_fc
  have f1 : ∀ i, zFc μ (gSe (fun i M => gSp n i M) (fun _ => true) nI n (gSt μ) i) := fun i => f0.tr (gSe_fc hz6 (f0.sd hsd) (fun i M => gSp_fc n i M) i)
  have f2 : ∀ i, zFc μ (gSp n i (gSe (fun i M => gSp n i M) (fun _ => true) nI n (gSt μ) i)) := fun i => (f1 i).tr (gSp_fc n i _)
  have hT : ∀ xx : Int32, Am l G mX8_bestRules 59 [(3, .int xx), (2, .int (nI N)), (0, .ref 44), (1, .int (nI j))] [] (gSe (fun i M => gSp n i M) (fun _ => true) nI n (gSt μ) N) ν (fun a9 b9 c9 => gSp n f (gSe (fun i M => gSp n i M) (fun _ => true) nI n (gSt μ) N) 48 j = a9 ∧ gSp n f (gSe (fun i M => gSp n i M) (fun _ => true) nI n (gSt μ) N) = b9 ∧ ν = c9) := fun xx => by
    refine z_aload_n dX8_bestRules_59 rfl ?_
    refine z_aload_n dX8_bestRules_60 rfl ?_
    refine m_geti dX8_bestRules_61 fX8_25 sh44 rfl ?_
    rw [hf]
    refine m_callVv (As := [.int _]) dX8_bestRules_64 kX8_78 ⟨rfl, rfl⟩ rfl ⟨rfl, rfl⟩ rfl rfl sh44 rfl rfl (c_spell ((f1 N).n hn) hz6 (c := f) (by omega)) (fun μ64 ν64 hk64 => ?_)
    obtain ⟨rfl, rfl⟩ := hk64
    refine z_iload_n dX8_bestRules_67 rfl ?_
    refine z_if_lt 89 dX8_bestRules_68 (by decide) (fun h68 => absurd h68 (nI_nlt (a := j) (b := 0) (by omega) (by omega))) (fun h68 => ?_)
    refine z_iload_n dX8_bestRules_71 rfl ?_
    refine z_bipush (v := 6) dX8_bestRules_72 rfl ?_
    refine z_icmp_ge 89 dX8_bestRules_74 (by decide) (fun h74 => absurd h74 (nI_ge (a := j) (b := 6) (by omega) (by omega))) (fun h74 => ?_)
    refine z_aload_n dX8_bestRules_77 rfl ?_
    refine m_getr dX8_bestRules_78 fX8_12 sh44 rfl ?_
    refine m_getr dX8_bestRules_81 fX8_57 sh45 rfl ?_
    refine z_iload_n dX8_bestRules_84 rfl ?_
    refine m_ialdN (j := j) dX8_bestRules_85 sh48 rfl (by omega) rfl ?_
    refine z_goto 93 dX8_bestRules_86 (by decide) ?_
    refine m_iret dX8_bestRules_93 rfl rfl ?_
    exact ⟨rfl, rfl, rfl⟩
  have hL := m_for (l := l) (G := G) (M := mX8_bestRules) (pc := 31) (ν := ν) (K := (fun a9 b9 c9 => gSp n f (gSe (fun i M => gSp n i M) (fun _ => true) nI n (gSt μ) N) 48 j = a9 ∧ gSp n f (gSe (fun i M => gSp n i M) (fun _ => true) nI n (gSt μ) N) = b9 ∧ ν = c9)) (N := N) (fun i => [(3, .int (nI i)), (2, .int (nI N)), (0, .ref 44), (1, .int (nI j))]) (fun i => gSe (fun i M => gSp n i M) (fun _ => true) nI n (gSt μ) i) (fun i hi H => by
    refine z_iload_n dX8_bestRules_31 rfl ?_
    refine z_iload_n dX8_bestRules_32 rfl ?_
    refine z_icmp_ge 59 dX8_bestRules_33 (by decide) (fun h33 => absurd h33 (nI_ge hi (by omega))) (fun h33 => ?_)
    refine z_aload_n dX8_bestRules_36 rfl ?_
    refine m_geti dX8_bestRules_37 fX8_29 sh44 rfl ?_
    refine z_if_le 59 dX8_bestRules_40 (by decide) (fun h40 => ?_) (fun h40 => ?_)
    · skip
      rw [← gSe_end (Nat.le_of_lt hi) h40]
      exact hT _
    · skip
      refine z_aload_n dX8_bestRules_43 rfl ?_
      refine z_iload_n dX8_bestRules_44 rfl ?_
      refine m_callVv (As := [.int _]) dX8_bestRules_45 kX8_78 ⟨rfl, rfl⟩ rfl ⟨rfl, rfl⟩ rfl rfl sh44 rfl rfl (c_spell ((f1 i).n hn) hz6 (by omega)) (fun μ45 ν45 hk45 => ?_)
      obtain ⟨rfl, rfl⟩ := hk45
      refine z_aload_n dX8_bestRules_48 rfl ?_
      refine z_iload_n dX8_bestRules_49 rfl ?_
      refine m_callVv (As := [.int _]) dX8_bestRules_50 kX8_82 ⟨rfl, rfl⟩ rfl ⟨rfl, rfl⟩ rfl rfl sh44 rfl rfl (c_weigh ((f2 i).n hn) hz6 ((f2 i).sd hsd)) (fun μ50 ν50 hk50 => ?_)
      obtain ⟨rfl, rfl⟩ := hk50
      refine z_iinc (fun y => [(3, .int y), (2, .int (nI N)), (0, .ref 44), (1, .int (nI j))]) dX8_bestRules_53 rfl rfl (fun _ => rfl) (fun x3_53 ex3_53 => ?_)
      obtain rfl : x3_53 = nI (i + 1) := by rw [ex3_53]; exact nI_1 i
      refine z_goto 31 dX8_bestRules_56 (by decide) ?_
      rw [gSe, if_neg h40, if_pos rfl] at H
      exact H) (by
    refine z_iload_n dX8_bestRules_31 rfl ?_
    refine z_iload_n dX8_bestRules_32 rfl ?_
    refine z_icmp_ge 59 dX8_bestRules_33 (by decide) (fun h33 => ?_) (fun h33 => absurd (nI_le (Nat.le_refl N) (by omega)) h33)
    exact hT _)
  have hP := m_for (l := l) (G := G) (M := mX8_bestRules) (pc := 8) (ν := ν) (K := (fun a9 b9 c9 => gSp n f (gSe (fun i M => gSp n i M) (fun _ => true) nI n (gSt μ) N) 48 j = a9 ∧ gSp n f (gSe (fun i M => gSp n i M) (fun _ => true) nI n (gSt μ) N) = b9 ∧ ν = c9)) (N := n) (fun i => [(3, .int (nI i)), (2, .int (nI (3 ^ i))), (0, .ref 44), (1, .int (nI j))]) (fun i => gSt μ) (fun i hi H => by
    refine z_iload_n dX8_bestRules_8 rfl ?_
    refine z_aload_n dX8_bestRules_9 rfl ?_
    refine m_getr dX8_bestRules_10 fX8_32 sh44 rfl ?_
    refine m_geti dX8_bestRules_13 fX8_73 sh15 rfl ?_
    refine z_icmp_ge 29 dX8_bestRules_16 (by decide) (fun h16 => absurd (f0.n hn ▸ h16) (nI_ge hi (by omega))) (fun h16 => ?_)
    refine z_iload_n dX8_bestRules_19 rfl ?_
    refine z_iconst (v := 3) dX8_bestRules_20 rfl ?_
    refine z_imul dX8_bestRules_21 ?_
    rw [show (nI (3 ^ i) * 3) = nI (3 ^ (i + 1)) from (by rw [show (3 : Int32) = nI 3 from rfl, pk_mul, Nat.pow_succ])]
    refine z_istore_n (i := 2) (fun y => [(2, .int y), (3, .int (nI i)), (0, .ref 44), (1, .int (nI j))]) dX8_bestRules_22 rfl rfl (fun _ => rfl) (fun x9 e9 => ?_)
    subst e9
    refine z_iinc (fun y => [(3, .int y), (2, .int (nI (3 ^ (i + 1)))), (0, .ref 44), (1, .int (nI j))]) dX8_bestRules_23 rfl rfl (fun _ => rfl) (fun x3_23 ex3_23 => ?_)
    obtain rfl : x3_23 = nI (i + 1) := by rw [ex3_23]; exact nI_1 i
    refine z_goto 8 dX8_bestRules_26 (by decide) ?_
    exact H) (by
    refine z_iload_n dX8_bestRules_8 rfl ?_
    refine z_aload_n dX8_bestRules_9 rfl ?_
    refine m_getr dX8_bestRules_10 fX8_32 sh44 rfl ?_
    refine m_geti dX8_bestRules_13 fX8_73 sh15 rfl ?_
    refine z_icmp_ge 29 dX8_bestRules_16 (by decide) (fun h16 => ?_) (fun h16 => absurd (f0.n hn ▸ nI_le (Nat.le_refl n) (by omega)) h16)
    refine z_iconst (v := 0) dX8_bestRules_29 rfl ?_
    refine z_istore_n (i := 3) (fun y => [(3, .int y), (2, .int (nI (3 ^ n))), (0, .ref 44), (1, .int (nI j))]) dX8_bestRules_30 rfl rfl (fun _ => rfl) (fun x9 e9 => ?_)
    subst e9
    rw [← hN]
    exact hL 0 (Nat.zero_le _))
  refine z_aload_n dX8_bestRules_0 rfl ?_
  refine m_callVv (As := []) dX8_bestRules_1 kX8_70 ⟨rfl, rfl⟩ rfl ⟨rfl, rfl⟩ rfl rfl sh44 rfl rfl c_startSearch (fun μ1 ν1 hk1 => ?_)
  obtain ⟨rfl, rfl⟩ := hk1
  refine z_iconst (v := 1) dX8_bestRules_4 rfl ?_
  refine z_istore_n (i := 2) (fun y => [(2, .int y), (0, .ref 44), (1, .int (nI j))]) dX8_bestRules_5 rfl rfl (fun _ => rfl) (fun x9 e9 => ?_)
  subst e9
  refine z_iconst (v := 0) dX8_bestRules_6 rfl ?_
  refine z_istore_n (i := 3) (fun y => [(3, .int y), (2, .int 1), (0, .ref 44), (1, .int (nI j))]) dX8_bestRules_7 rfl rfl (fun _ => rfl) (fun x9 e9 => ?_)
  subst e9
  exact hP 0 (Nat.zero_le _)
set_option maxRecDepth 100000 in
set_option maxHeartbeats 400000 in
theorem c_bestRules_c {l : Launch} {G : zG} {μ : Mem} {ν : Lng} {n : Nat} (hn : μ 15 6 = nI n) (hz6 : n ≤ 6) (hsd : zSides μ n) {N f : Nat} (hN : N = 3 ^ n) (hN2 : N ≤ 729) (hf : gSe (fun i M => gSp n i M) (fun _ => true) nI n (gSt μ) N 44 5 = nI f) (hf2 : f < N)  : Cm l G mX8_bestRules [.ref 44, .int (-1)] μ ν (fun a9 b9 c9 => gSe (fun i M => gSp n i M) (fun _ => true) nI n (gSt μ) N 44 6 = a9 ∧ gSp n f (gSe (fun i M => gSp n i M) (fun _ => true) nI n (gSt μ) N) = b9 ∧ ν = c9) := by
  refine Con.of (by decide) (Nat.le_of_ble_eq_true rfl) ?_
  show Am l G mX8_bestRules 0 [(0, .ref 44), (1, .int (-1))] [] μ ν _
  have f0 : zFc μ (gSt μ) := gSt_fc
  have f1 : ∀ i, zFc μ (gSe (fun i M => gSp n i M) (fun _ => true) nI n (gSt μ) i) := fun i => f0.tr (gSe_fc hz6 (f0.sd hsd) (fun i M => gSp_fc n i M) i)
  have f2 : ∀ i, zFc μ (gSp n i (gSe (fun i M => gSp n i M) (fun _ => true) nI n (gSt μ) i)) := fun i => (f1 i).tr (gSp_fc n i _)
  have hT : ∀ xx : Int32, Am l G mX8_bestRules 59 [(3, .int xx), (2, .int (nI N)), (0, .ref 44), (1, .int (-1))] [] (gSe (fun i M => gSp n i M) (fun _ => true) nI n (gSt μ) N) ν (fun a9 b9 c9 => gSe (fun i M => gSp n i M) (fun _ => true) nI n (gSt μ) N 44 6 = a9 ∧ gSp n f (gSe (fun i M => gSp n i M) (fun _ => true) nI n (gSt μ) N) = b9 ∧ ν = c9) := fun xx => by
    refine z_aload_n dX8_bestRules_59 rfl ?_
    refine z_aload_n dX8_bestRules_60 rfl ?_
    refine m_geti dX8_bestRules_61 fX8_25 sh44 rfl ?_
    rw [hf]
    refine m_callVv (As := [.int _]) dX8_bestRules_64 kX8_78 ⟨rfl, rfl⟩ rfl ⟨rfl, rfl⟩ rfl rfl sh44 rfl rfl (c_spell ((f1 N).n hn) hz6 (c := f) (by omega)) (fun μ64 ν64 hk64 => ?_)
    obtain ⟨rfl, rfl⟩ := hk64
    refine z_iload_n dX8_bestRules_67 rfl ?_
    refine z_if_lt 89 dX8_bestRules_68 (by decide) (fun h68 => ?_) (fun h68 => absurd (by decide) h68)
    refine z_aload_n dX8_bestRules_89 rfl ?_
    refine m_geti dX8_bestRules_90 fX8_29 sh44 rfl ?_
    refine m_iret dX8_bestRules_93 rfl rfl ?_
    exact ⟨(by rw [gSp_ne (by decide)]), rfl, rfl⟩
  have hL := m_for (l := l) (G := G) (M := mX8_bestRules) (pc := 31) (ν := ν) (K := (fun a9 b9 c9 => gSe (fun i M => gSp n i M) (fun _ => true) nI n (gSt μ) N 44 6 = a9 ∧ gSp n f (gSe (fun i M => gSp n i M) (fun _ => true) nI n (gSt μ) N) = b9 ∧ ν = c9)) (N := N) (fun i => [(3, .int (nI i)), (2, .int (nI N)), (0, .ref 44), (1, .int (-1))]) (fun i => gSe (fun i M => gSp n i M) (fun _ => true) nI n (gSt μ) i) (fun i hi H => by
    refine z_iload_n dX8_bestRules_31 rfl ?_
    refine z_iload_n dX8_bestRules_32 rfl ?_
    refine z_icmp_ge 59 dX8_bestRules_33 (by decide) (fun h33 => absurd h33 (nI_ge hi (by omega))) (fun h33 => ?_)
    refine z_aload_n dX8_bestRules_36 rfl ?_
    refine m_geti dX8_bestRules_37 fX8_29 sh44 rfl ?_
    refine z_if_le 59 dX8_bestRules_40 (by decide) (fun h40 => ?_) (fun h40 => ?_)
    · skip
      rw [← gSe_end (Nat.le_of_lt hi) h40]
      exact hT _
    · skip
      refine z_aload_n dX8_bestRules_43 rfl ?_
      refine z_iload_n dX8_bestRules_44 rfl ?_
      refine m_callVv (As := [.int _]) dX8_bestRules_45 kX8_78 ⟨rfl, rfl⟩ rfl ⟨rfl, rfl⟩ rfl rfl sh44 rfl rfl (c_spell ((f1 i).n hn) hz6 (by omega)) (fun μ45 ν45 hk45 => ?_)
      obtain ⟨rfl, rfl⟩ := hk45
      refine z_aload_n dX8_bestRules_48 rfl ?_
      refine z_iload_n dX8_bestRules_49 rfl ?_
      refine m_callVv (As := [.int _]) dX8_bestRules_50 kX8_82 ⟨rfl, rfl⟩ rfl ⟨rfl, rfl⟩ rfl rfl sh44 rfl rfl (c_weigh ((f2 i).n hn) hz6 ((f2 i).sd hsd)) (fun μ50 ν50 hk50 => ?_)
      obtain ⟨rfl, rfl⟩ := hk50
      refine z_iinc (fun y => [(3, .int y), (2, .int (nI N)), (0, .ref 44), (1, .int (-1))]) dX8_bestRules_53 rfl rfl (fun _ => rfl) (fun x3_53 ex3_53 => ?_)
      obtain rfl : x3_53 = nI (i + 1) := by rw [ex3_53]; exact nI_1 i
      refine z_goto 31 dX8_bestRules_56 (by decide) ?_
      rw [gSe, if_neg h40, if_pos rfl] at H
      exact H) (by
    refine z_iload_n dX8_bestRules_31 rfl ?_
    refine z_iload_n dX8_bestRules_32 rfl ?_
    refine z_icmp_ge 59 dX8_bestRules_33 (by decide) (fun h33 => ?_) (fun h33 => absurd (nI_le (Nat.le_refl N) (by omega)) h33)
    exact hT _)
  have hP := m_for (l := l) (G := G) (M := mX8_bestRules) (pc := 8) (ν := ν) (K := (fun a9 b9 c9 => gSe (fun i M => gSp n i M) (fun _ => true) nI n (gSt μ) N 44 6 = a9 ∧ gSp n f (gSe (fun i M => gSp n i M) (fun _ => true) nI n (gSt μ) N) = b9 ∧ ν = c9)) (N := n) (fun i => [(3, .int (nI i)), (2, .int (nI (3 ^ i))), (0, .ref 44), (1, .int (-1))]) (fun i => gSt μ) (fun i hi H => by
    refine z_iload_n dX8_bestRules_8 rfl ?_
    refine z_aload_n dX8_bestRules_9 rfl ?_
    refine m_getr dX8_bestRules_10 fX8_32 sh44 rfl ?_
    refine m_geti dX8_bestRules_13 fX8_73 sh15 rfl ?_
    refine z_icmp_ge 29 dX8_bestRules_16 (by decide) (fun h16 => absurd (f0.n hn ▸ h16) (nI_ge hi (by omega))) (fun h16 => ?_)
    refine z_iload_n dX8_bestRules_19 rfl ?_
    refine z_iconst (v := 3) dX8_bestRules_20 rfl ?_
    refine z_imul dX8_bestRules_21 ?_
    rw [show (nI (3 ^ i) * 3) = nI (3 ^ (i + 1)) from (by rw [show (3 : Int32) = nI 3 from rfl, pk_mul, Nat.pow_succ])]
    refine z_istore_n (i := 2) (fun y => [(2, .int y), (3, .int (nI i)), (0, .ref 44), (1, .int (-1))]) dX8_bestRules_22 rfl rfl (fun _ => rfl) (fun x9 e9 => ?_)
    subst e9
    refine z_iinc (fun y => [(3, .int y), (2, .int (nI (3 ^ (i + 1)))), (0, .ref 44), (1, .int (-1))]) dX8_bestRules_23 rfl rfl (fun _ => rfl) (fun x3_23 ex3_23 => ?_)
    obtain rfl : x3_23 = nI (i + 1) := by rw [ex3_23]; exact nI_1 i
    refine z_goto 8 dX8_bestRules_26 (by decide) ?_
    exact H) (by
    refine z_iload_n dX8_bestRules_8 rfl ?_
    refine z_aload_n dX8_bestRules_9 rfl ?_
    refine m_getr dX8_bestRules_10 fX8_32 sh44 rfl ?_
    refine m_geti dX8_bestRules_13 fX8_73 sh15 rfl ?_
    refine z_icmp_ge 29 dX8_bestRules_16 (by decide) (fun h16 => ?_) (fun h16 => absurd (f0.n hn ▸ nI_le (Nat.le_refl n) (by omega)) h16)
    refine z_iconst (v := 0) dX8_bestRules_29 rfl ?_
    refine z_istore_n (i := 3) (fun y => [(3, .int y), (2, .int (nI (3 ^ n))), (0, .ref 44), (1, .int (-1))]) dX8_bestRules_30 rfl rfl (fun _ => rfl) (fun x9 e9 => ?_)
    subst e9
    rw [← hN]
    exact hL 0 (Nat.zero_le _))
  refine z_aload_n dX8_bestRules_0 rfl ?_
  refine m_callVv (As := []) dX8_bestRules_1 kX8_70 ⟨rfl, rfl⟩ rfl ⟨rfl, rfl⟩ rfl rfl sh44 rfl rfl c_startSearch (fun μ1 ν1 hk1 => ?_)
  obtain ⟨rfl, rfl⟩ := hk1
  refine z_iconst (v := 1) dX8_bestRules_4 rfl ?_
  refine z_istore_n (i := 2) (fun y => [(2, .int y), (0, .ref 44), (1, .int (-1))]) dX8_bestRules_5 rfl rfl (fun _ => rfl) (fun x9 e9 => ?_)
  subst e9
  refine z_iconst (v := 0) dX8_bestRules_6 rfl ?_
  refine z_istore_n (i := 3) (fun y => [(3, .int y), (2, .int 1), (0, .ref 44), (1, .int (-1))]) dX8_bestRules_7 rfl rfl (fun _ => rfl) (fun x9 e9 => ?_)
  subst e9
  exact hP 0 (Nat.zero_le _)
