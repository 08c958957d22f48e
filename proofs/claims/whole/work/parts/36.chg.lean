
def fOne (co : Nat → Int32) (x : Int32) : Nat → Bool
  | 0 => false
  | n + 1 => fOne co x n || decide (co n = x)
theorem fOne_t {co : Nat → Int32} {x : Int32} {i : Nat} (h : co i = x) : ∀ n, i < n → fOne co x n = true
  | 0, h2 => absurd h2 (Nat.not_lt_zero i)
  | n + 1, h2 => by
    rw [fOne]
    by_cases e : i = n
    · subst e; rw [decide_eq_true h, Bool.or_true]
    · rw [fOne_t h n (by omega), Bool.true_or]
theorem fOne_f {co : Nat → Int32} {x : Int32} : ∀ n, fOne co x n = false → ∀ i, i < n → ¬ co i = x
  | 0, _, i, h2 => absurd h2 (Nat.not_lt_zero i)
  | n + 1, h, i, h2 => fun e => by rw [fOne_t e (n + 1) h2] at h; cases h
def gCh (μ : Mem) (t a b : Int32) : Nat → Mem
  | 0 => μ
  | i + 1 => up2 (gCh μ t a b i) 48 i (if gCh μ t a b i 46 i < t then a else b)
theorem gCh_ne {μ : Mem} {t a b : Int32} {q : Nat} (h : q ≠ 48) : ∀ i, gCh μ t a b i q = μ q
  | 0 => rfl
  | i + 1 => by rw [gCh, up2_ne h, gCh_ne h i]
theorem gCh_fc {μ : Mem} {t a b : Int32} : ∀ i, zFc μ (gCh μ t a b i)
  | 0 => zFc.rf
  | i + 1 => (gCh_fc i).tr (zFc.up (by decide))
theorem gCh_at {μ : Mem} {t a b : Int32} : ∀ i w, w < i → gCh μ t a b i 48 w = if μ 46 w < t then a else b
  | 0, w, h => absurd h (Nat.not_lt_zero w)
  | i + 1, w, h => by
    rw [gCh, up2_row, gCh_ne (by decide)]
    by_cases e : w = i
    · rw [if_pos e, e]
    · rw [if_neg e, gCh_at i w (by omega)]
def rCh (μ : Mem) (t a b : Int32) : Nat → Mem
  | 0 => μ
  | i + 1 => up2 (rCh μ t a b i) 75 (6 + i) (if t ≤ rCh μ t a b i 75 i then b else a)
theorem rCh_fr {μ : Mem} {t a b : Int32} : ∀ i, i ≤ 6 → zFr μ (rCh μ t a b i)
  | 0, _ => zFr.rf
  | i + 1, h => (rCh_fr i (by omega)).tr (zFr.up (by omega))
theorem rCh_ne {μ : Mem} {t a b : Int32} {k : Nat} (h : k < 6 ∨ 12 ≤ k) : ∀ i, i ≤ 6 → rCh μ t a b i 75 k = μ 75 k
  | 0, _ => rfl
  | i + 1, hi => by rw [rCh, up2_row, if_neg (by omega), rCh_ne h i (by omega)]
theorem rCh_at {μ : Mem} {t a b : Int32} : ∀ i w, i ≤ 6 → w < i → rCh μ t a b i 75 (6 + w) = if t ≤ μ 75 w then b else a
  | 0, w, _, h => absurd h (Nat.not_lt_zero w)
  | i + 1, w, hi, h => by
    rw [rCh, up2_row, rCh_ne (by omega) i (by omega)]
    by_cases e : w = i
    · rw [if_pos (by omega), e]
    · rw [if_neg (by omega), rCh_at i w (by omega) (by omega)]
set_option maxRecDepth 100000 in
set_option maxHeartbeats 400000 in
theorem c_one {l : Launch} {G : zG} {μ : Mem} {ν : Lng} {n : Nat} (hn : μ 15 6 = nI n) (hz6 : n ≤ 6) {x : Int32}  : Cm l G mX8_oneComesAt [.ref 44, .int x] μ ν (fun a9 b9 c9 => (if fOne (μ 23) x n = true then 1 else 0) = a9 ∧ μ = b9 ∧ ν = c9) := by
  refine Con.of (by decide) (Nat.le_of_ble_eq_true rfl) ?_
  show Am l G mX8_oneComesAt 0 [(0, .ref 44), (1, .int x)] [] μ ν _
  have hL := m_forP (l := l) (G := G) (M := mX8_oneComesAt) (pc := 2) (ν := ν) (K := (fun a9 b9 c9 => (if fOne (μ 23) x n = true then 1 else 0) = a9 ∧ μ = b9 ∧ ν = c9)) (N := n) (fun i => fOne (μ 23) x i = false) (fun i => [(2, .int (nI i)), (0, .ref 44), (1, .int x)]) (fun _ => μ) (fun i hi hP H => by
    refine z_iload_n dX8_oneComesAt_2 rfl ?_
    refine z_aload_n dX8_oneComesAt_3 rfl ?_
    refine m_getr dX8_oneComesAt_4 fX8_32 sh44 rfl ?_
    refine m_geti dX8_oneComesAt_7 fX8_73 sh15 rfl ?_
    refine z_icmp_ge 34 dX8_oneComesAt_10 (by decide) (fun h10 => absurd (hn ▸ h10) (nI_ge hi (by omega))) (fun h10 => ?_)
    refine z_aload_n dX8_oneComesAt_13 rfl ?_
    refine m_getr dX8_oneComesAt_14 fX8_36 sh44 rfl ?_
    refine m_getr dX8_oneComesAt_17 fX8_96 sh22 rfl ?_
    refine z_iload_n dX8_oneComesAt_20 rfl ?_
    refine m_ialdN (j := i) dX8_oneComesAt_21 sh23 rfl (by omega) rfl ?_
    refine z_iload_n dX8_oneComesAt_22 rfl ?_
    refine z_icmp_ne 28 dX8_oneComesAt_23 (by decide) (fun h23 => ?_) (fun h23 => ?_)
    · skip
      refine z_iinc (fun y => [(2, .int y), (0, .ref 44), (1, .int x)]) dX8_oneComesAt_28 rfl rfl (fun _ => rfl) (fun x2_28 ex2_28 => ?_)
      obtain rfl : x2_28 = nI (i + 1) := by rw [ex2_28]; exact nI_1 i
      refine z_goto 2 dX8_oneComesAt_31 (by decide) ?_
      refine H ?_
      rw [fOne, hP, decide_eq_false h23]
      rfl
    · skip
      refine z_iconst (v := 1) dX8_oneComesAt_26 rfl ?_
      refine m_iret dX8_oneComesAt_27 rfl rfl ?_
      exact ⟨if_pos (fOne_t h23 n hi), rfl, rfl⟩) (fun hP => by
    refine z_iload_n dX8_oneComesAt_2 rfl ?_
    refine z_aload_n dX8_oneComesAt_3 rfl ?_
    refine m_getr dX8_oneComesAt_4 fX8_32 sh44 rfl ?_
    refine m_geti dX8_oneComesAt_7 fX8_73 sh15 rfl ?_
    refine z_icmp_ge 34 dX8_oneComesAt_10 (by decide) (fun h10 => ?_) (fun h10 => absurd (hn ▸ nI_le (Nat.le_refl n) (by omega)) h10)
    refine z_iconst (v := 0) dX8_oneComesAt_34 rfl ?_
    refine m_iret dX8_oneComesAt_35 rfl rfl ?_
    exact ⟨if_neg (by rw [hP]; decide), rfl, rfl⟩)
  refine z_iconst (v := 0) dX8_oneComesAt_0 rfl ?_
  refine z_istore_n (i := 2) (fun y => [(2, .int y), (0, .ref 44), (1, .int x)]) dX8_oneComesAt_1 rfl rfl (fun _ => rfl) (fun x9 e9 => ?_)
  subst e9
  exact hL 0 (Nat.zero_le n) rfl
theorem c_oneT {l : Launch} {G : zG} {μ : Mem} {ν : Lng} {n : Nat} (hn : μ 15 6 = nI n) (hz6 : n ≤ 6) {x : Int32} (h : fOne (μ 23) x n = true) : Cm l G mX8_oneComesAt [.ref 44, .int x] μ ν (fun a9 b9 c9 => (1 : Int32) = a9 ∧ μ = b9 ∧ ν = c9) := by
  have e := c_one (l := l) (G := G) (ν := ν) (x := x) hn hz6
  rw [h] at e
  exact e
theorem c_oneF {l : Launch} {G : zG} {μ : Mem} {ν : Lng} {n : Nat} (hn : μ 15 6 = nI n) (hz6 : n ≤ 6) {x : Int32} (h : fOne (μ 23) x n = false) : Cm l G mX8_oneComesAt [.ref 44, .int x] μ ν (fun a9 b9 c9 => (0 : Int32) = a9 ∧ μ = b9 ∧ ν = c9) := by
  have e := c_one (l := l) (G := G) (ν := ν) (x := x) hn hz6
  rw [h] at e
  exact e
set_option maxRecDepth 100000 in
set_option maxHeartbeats 400000 in
theorem c_changeAt {l : Launch} {G : zG} {μ : Mem} {ν : Lng} {n : Nat} (hn : μ 15 6 = nI n) (hz6 : n ≤ 6) {t a b : Int32}  : Cm l G mX8_changeAt [.ref 44, .int t, .int a, .int b] μ ν (fun _ b9 c9 => gCh μ t a b n = b9 ∧ ν = c9) := by
  refine Con.of (by decide) (Nat.le_of_ble_eq_true rfl) ?_
  show Am l G mX8_changeAt 0 [(0, .ref 44), (1, .int t), (2, .int a), (3, .int b)] [] μ ν _
  have hn1 : ∀ i, gCh μ t a b i 15 6 = nI n := fun i => (gCh_fc i).n hn
  have hL := m_for (l := l) (G := G) (M := mX8_changeAt) (pc := 3) (ν := ν) (K := (fun _ b9 c9 => gCh μ t a b n = b9 ∧ ν = c9)) (N := n) (fun i => [(4, .int (nI i)), (0, .ref 44), (1, .int t), (2, .int a), (3, .int b)]) (fun i => gCh μ t a b i) (fun i hi H => by
    refine z_iload dX8_changeAt_3 rfl ?_
    refine z_aload_n dX8_changeAt_5 rfl ?_
    refine m_getr dX8_changeAt_6 fX8_32 sh44 rfl ?_
    refine m_geti dX8_changeAt_9 fX8_73 sh15 rfl ?_
    refine z_icmp_ge 50 dX8_changeAt_12 (by decide) (fun h12 => absurd (hn1 i ▸ h12) (nI_ge hi (by omega))) (fun h12 => ?_)
    refine z_aload_n dX8_changeAt_15 rfl ?_
    refine m_getr dX8_changeAt_16 fX8_12 sh44 rfl ?_
    refine m_getr dX8_changeAt_19 fX8_57 sh45 rfl ?_
    refine z_iload dX8_changeAt_22 rfl ?_
    refine z_aload_n dX8_changeAt_24 rfl ?_
    refine m_getr dX8_changeAt_25 fX8_12 sh44 rfl ?_
    refine m_getr dX8_changeAt_28 fX8_96 sh45 rfl ?_
    refine z_iload dX8_changeAt_31 rfl ?_
    refine m_ialdN (j := i) dX8_changeAt_33 sh46 rfl (by omega) rfl ?_
    refine z_iload_n dX8_changeAt_34 rfl ?_
    refine z_icmp_lt 42 dX8_changeAt_35 (by decide) (fun h35 => ?_) (fun h35 => ?_)
    · skip
      refine z_iload_n dX8_changeAt_42 rfl ?_
      refine m_iastN (j := i) dX8_changeAt_43 sh48 rfl (by omega) rfl ?_
      refine z_iinc (fun y => [(4, .int y), (0, .ref 44), (1, .int t), (2, .int a), (3, .int b)]) dX8_changeAt_44 rfl rfl (fun _ => rfl) (fun x4_44 ex4_44 => ?_)
      obtain rfl : x4_44 = nI (i + 1) := by rw [ex4_44]; exact nI_1 i
      refine z_goto 3 dX8_changeAt_47 (by decide) ?_
      simp only [gCh, if_pos h35] at H
      exact H
    · skip
      refine z_iload_n dX8_changeAt_38 rfl ?_
      refine z_goto 43 dX8_changeAt_39 (by decide) ?_
      refine m_iastN (j := i) dX8_changeAt_43 sh48 rfl (by omega) rfl ?_
      refine z_iinc (fun y => [(4, .int y), (0, .ref 44), (1, .int t), (2, .int a), (3, .int b)]) dX8_changeAt_44 rfl rfl (fun _ => rfl) (fun x4_44 ex4_44 => ?_)
      obtain rfl : x4_44 = nI (i + 1) := by rw [ex4_44]; exact nI_1 i
      refine z_goto 3 dX8_changeAt_47 (by decide) ?_
      simp only [gCh, if_neg h35] at H
      exact H) (by
    refine z_iload dX8_changeAt_3 rfl ?_
    refine z_aload_n dX8_changeAt_5 rfl ?_
    refine m_getr dX8_changeAt_6 fX8_32 sh44 rfl ?_
    refine m_geti dX8_changeAt_9 fX8_73 sh15 rfl ?_
    refine z_icmp_ge 50 dX8_changeAt_12 (by decide) (fun h12 => ?_) (fun h12 => absurd (hn1 n ▸ nI_le (Nat.le_refl n) (by omega)) h12)
    refine m_ret dX8_changeAt_50 rfl ?_
    exact ⟨rfl, rfl⟩)
  refine z_iconst (v := 0) dX8_changeAt_0 rfl ?_
  refine z_istore (i := 4) (fun y => [(4, .int y), (0, .ref 44), (1, .int t), (2, .int a), (3, .int b)]) dX8_changeAt_1 rfl (fun _ => rfl) (fun x9 e9 => ?_)
  subst e9
  exact hL 0 (Nat.zero_le n)
def zGo (co : Nat → Int32) (n : Nat) : Nat → Bool
  | 0 => true
  | j + 1 => fOne co (nI j) n
set_option maxRecDepth 100000 in
set_option maxHeartbeats 400000 in
theorem c_findChange {l : Launch} {G : zG} {μ : Mem} {ν : Lng} {n : Nat} (hn : μ 15 6 = nI n) (hz6 : n ≤ 6) (hsd : zSides μ n) {N : Nat} (hN : N = 1001) {a b : Int32}  : Cm l G mX8_findChange [.ref 44, .int a, .int b] μ ν (fun _ b9 c9 => gSe (fun i M => gCh M (nI i) a b n) (zGo (μ 23) n) nI n (gSt μ) N = b9 ∧ ν = c9) := by
  refine Con.of (by decide) (Nat.le_of_ble_eq_true rfl) ?_
  show Am l G mX8_findChange 0 [(0, .ref 44), (1, .int a), (2, .int b)] [] μ ν _
  have f0 : zFc μ (gSt μ) := gSt_fc
  have f1 : ∀ i, zFc μ (gSe (fun i M => gCh M (nI i) a b n) (zGo (μ 23) n) nI n (gSt μ) i) := fun i => f0.tr (gSe_fc hz6 (f0.sd hsd) (fun i M => gCh_fc n) i)
  have f2 : ∀ i, zFc μ (gCh (gSe (fun i M => gCh M (nI i) a b n) (zGo (μ 23) n) nI n (gSt μ) i) (nI i) a b n) := fun i => (f1 i).tr (gCh_fc n)
  have f3 : ∀ i, (gSe (fun i M => gCh M (nI i) a b n) (zGo (μ 23) n) nI n (gSt μ) i) 23 = μ 23 := fun i => f1 i 23 (by omega)
  have hL := m_for (l := l) (G := G) (M := mX8_findChange) (pc := 6) (ν := ν) (K := (fun _ b9 c9 => gSe (fun i M => gCh M (nI i) a b n) (zGo (μ 23) n) nI n (gSt μ) N = b9 ∧ ν = c9)) (N := N) (fun i => [(3, .int (nI i)), (0, .ref 44), (1, .int a), (2, .int b)]) (fun i => gSe (fun i M => gCh M (nI i) a b n) (zGo (μ 23) n) nI n (gSt μ) i) (fun i hi H => by
    rcases (show i = 0 ∨ 0 < i by omega) with rfl | hp
    · skip
      refine z_iload_n dX8_findChange_6 rfl ?_
      refine z_sipush (v := 1000) dX8_findChange_7 rfl ?_
      refine z_icmp_gt 52 dX8_findChange_10 (by decide) (fun h10 => absurd h10 (nI_nlt (a := 1000) (b := 0) (by omega) (by omega))) (fun h10 => ?_)
      refine z_aload_n dX8_findChange_13 rfl ?_
      refine m_geti dX8_findChange_14 fX8_29 sh44 rfl ?_
      refine z_if_le 52 dX8_findChange_17 (by decide) (fun h17 => ?_) (fun h17 => ?_)
      · skip
        refine m_ret dX8_findChange_52 rfl ?_
        exact ⟨gSe_end (by omega) h17, rfl⟩
      · skip
        refine z_iload_n dX8_findChange_20 rfl ?_
        refine z_if_eq 34 dX8_findChange_21 (by decide) (fun h21 => ?_) (fun h21 => absurd (by decide) h21)
        refine z_aload_n dX8_findChange_34 rfl ?_
        refine z_iload_n dX8_findChange_35 rfl ?_
        refine z_iload_n dX8_findChange_36 rfl ?_
        refine z_iload_n dX8_findChange_37 rfl ?_
        refine m_callVv (As := [.int _, .int _, .int _]) dX8_findChange_38 kX8_92 ⟨rfl, rfl⟩ rfl ⟨rfl, rfl⟩ rfl rfl sh44 rfl rfl (c_changeAt ((f1 0).n hn) hz6) (fun μ38 ν38 hk38 => ?_)
        obtain ⟨rfl, rfl⟩ := hk38
        refine z_aload_n dX8_findChange_41 rfl ?_
        refine z_iload_n dX8_findChange_42 rfl ?_
        refine m_callVv (As := [.int _]) dX8_findChange_43 kX8_82 ⟨rfl, rfl⟩ rfl ⟨rfl, rfl⟩ rfl rfl sh44 rfl rfl (c_weigh ((f2 0).n hn) hz6 ((f2 0).sd hsd)) (fun μ43 ν43 hk43 => ?_)
        obtain ⟨rfl, rfl⟩ := hk43
        refine z_iinc (fun y => [(3, .int y), (0, .ref 44), (1, .int a), (2, .int b)]) dX8_findChange_46 rfl rfl (fun _ => rfl) (fun x3_46 ex3_46 => ?_)
        obtain rfl : x3_46 = nI (0 + 1) := by rw [ex3_46]; exact nI_1 0
        refine z_goto 6 dX8_findChange_49 (by decide) ?_
        rw [gSe, if_neg h17, if_pos (show zGo (μ 23) n 0 = true from rfl)] at H
        exact H
    · obtain ⟨j, rfl⟩ : ∃ j, i = j + 1 := ⟨i - 1, by omega⟩
      rcases (show fOne (μ 23) (nI j) n = true ∨ fOne (μ 23) (nI j) n = false by cases fOne (μ 23) (nI j) n; exact Or.inr rfl; exact Or.inl rfl) with hg | hg
      · skip
        refine z_iload_n dX8_findChange_6 rfl ?_
        refine z_sipush (v := 1000) dX8_findChange_7 rfl ?_
        refine z_icmp_gt 52 dX8_findChange_10 (by decide) (fun h10 => absurd h10 (nI_nlt (a := 1000) (b := (j + 1)) (by omega) (by omega))) (fun h10 => ?_)
        refine z_aload_n dX8_findChange_13 rfl ?_
        refine m_geti dX8_findChange_14 fX8_29 sh44 rfl ?_
        refine z_if_le 52 dX8_findChange_17 (by decide) (fun h17 => ?_) (fun h17 => ?_)
        · skip
          refine m_ret dX8_findChange_52 rfl ?_
          exact ⟨gSe_end (by omega) h17, rfl⟩
        · skip
          refine z_iload_n dX8_findChange_20 rfl ?_
          refine z_if_eq 34 dX8_findChange_21 (by decide) (fun h21 => absurd h21 (zne (a := (j + 1)) (b := 0) (by omega) (by omega) (by omega))) (fun h21 => ?_)
          refine z_aload_n dX8_findChange_24 rfl ?_
          refine z_iload_n dX8_findChange_25 rfl ?_
          refine z_iconst (v := 1) dX8_findChange_26 rfl ?_
          refine z_isub dX8_findChange_27 ?_
          rw [show (nI (j + 1) - 1) = nI j from nI_pred j]
          refine m_callV (As := [.int _]) dX8_findChange_28 kX8_88 ⟨rfl, rfl⟩ rfl ⟨rfl, rfl⟩ rfl rfl sh44 rfl rfl (c_oneT ((f1 (j + 1)).n hn) hz6 (by rw [f3]; exact hg)) (fun r28 μ28 ν28 hk28 => ?_)
          obtain ⟨rfl, rfl, rfl⟩ := hk28
          refine z_if_eq 46 dX8_findChange_31 (by decide) (fun h31 => absurd h31 (by decide)) (fun h31 => ?_)
          refine z_aload_n dX8_findChange_34 rfl ?_
          refine z_iload_n dX8_findChange_35 rfl ?_
          refine z_iload_n dX8_findChange_36 rfl ?_
          refine z_iload_n dX8_findChange_37 rfl ?_
          refine m_callVv (As := [.int _, .int _, .int _]) dX8_findChange_38 kX8_92 ⟨rfl, rfl⟩ rfl ⟨rfl, rfl⟩ rfl rfl sh44 rfl rfl (c_changeAt ((f1 (j + 1)).n hn) hz6) (fun μ38 ν38 hk38 => ?_)
          obtain ⟨rfl, rfl⟩ := hk38
          refine z_aload_n dX8_findChange_41 rfl ?_
          refine z_iload_n dX8_findChange_42 rfl ?_
          refine m_callVv (As := [.int _]) dX8_findChange_43 kX8_82 ⟨rfl, rfl⟩ rfl ⟨rfl, rfl⟩ rfl rfl sh44 rfl rfl (c_weigh ((f2 (j + 1)).n hn) hz6 ((f2 (j + 1)).sd hsd)) (fun μ43 ν43 hk43 => ?_)
          obtain ⟨rfl, rfl⟩ := hk43
          refine z_iinc (fun y => [(3, .int y), (0, .ref 44), (1, .int a), (2, .int b)]) dX8_findChange_46 rfl rfl (fun _ => rfl) (fun x3_46 ex3_46 => ?_)
          obtain rfl : x3_46 = nI (j + 1 + 1) := by rw [ex3_46]; exact nI_1 (j + 1)
          refine z_goto 6 dX8_findChange_49 (by decide) ?_
          rw [gSe, if_neg h17, if_pos (show zGo (μ 23) n (j + 1) = true from hg)] at H
          exact H
      · skip
        refine z_iload_n dX8_findChange_6 rfl ?_
        refine z_sipush (v := 1000) dX8_findChange_7 rfl ?_
        refine z_icmp_gt 52 dX8_findChange_10 (by decide) (fun h10 => absurd h10 (nI_nlt (a := 1000) (b := (j + 1)) (by omega) (by omega))) (fun h10 => ?_)
        refine z_aload_n dX8_findChange_13 rfl ?_
        refine m_geti dX8_findChange_14 fX8_29 sh44 rfl ?_
        refine z_if_le 52 dX8_findChange_17 (by decide) (fun h17 => ?_) (fun h17 => ?_)
        · skip
          refine m_ret dX8_findChange_52 rfl ?_
          exact ⟨gSe_end (by omega) h17, rfl⟩
        · skip
          refine z_iload_n dX8_findChange_20 rfl ?_
          refine z_if_eq 34 dX8_findChange_21 (by decide) (fun h21 => absurd h21 (zne (a := (j + 1)) (b := 0) (by omega) (by omega) (by omega))) (fun h21 => ?_)
          refine z_aload_n dX8_findChange_24 rfl ?_
          refine z_iload_n dX8_findChange_25 rfl ?_
          refine z_iconst (v := 1) dX8_findChange_26 rfl ?_
          refine z_isub dX8_findChange_27 ?_
          rw [show (nI (j + 1) - 1) = nI j from nI_pred j]
          refine m_callV (As := [.int _]) dX8_findChange_28 kX8_88 ⟨rfl, rfl⟩ rfl ⟨rfl, rfl⟩ rfl rfl sh44 rfl rfl (c_oneF ((f1 (j + 1)).n hn) hz6 (by rw [f3]; exact hg)) (fun r28 μ28 ν28 hk28 => ?_)
          obtain ⟨rfl, rfl, rfl⟩ := hk28
          refine z_if_eq 46 dX8_findChange_31 (by decide) (fun h31 => ?_) (fun h31 => absurd (by decide) h31)
          refine z_iinc (fun y => [(3, .int y), (0, .ref 44), (1, .int a), (2, .int b)]) dX8_findChange_46 rfl rfl (fun _ => rfl) (fun x3_46 ex3_46 => ?_)
          obtain rfl : x3_46 = nI (j + 1 + 1) := by rw [ex3_46]; exact nI_1 (j + 1)
          refine z_goto 6 dX8_findChange_49 (by decide) ?_
          rw [gSe, if_neg h17, if_neg (show ¬ zGo (μ 23) n (j + 1) = true by show ¬ fOne (μ 23) (nI j) n = true; rw [hg]; decide)] at H
          exact H) (by
    refine z_iload_n dX8_findChange_6 rfl ?_
    refine z_sipush (v := 1000) dX8_findChange_7 rfl ?_
    refine z_icmp_gt 52 dX8_findChange_10 (by decide) (fun h10 => ?_) (fun h10 => absurd (nI_lt (a := 1000) (b := N) (by omega) (by omega)) h10)
    refine m_ret dX8_findChange_52 rfl ?_
    exact ⟨rfl, rfl⟩)
  refine z_aload_n dX8_findChange_0 rfl ?_
  refine m_callVv (As := []) dX8_findChange_1 kX8_70 ⟨rfl, rfl⟩ rfl ⟨rfl, rfl⟩ rfl rfl sh44 rfl rfl c_startSearch (fun μ1 ν1 hk1 => ?_)
  obtain ⟨rfl, rfl⟩ := hk1
  refine z_iconst (v := 0) dX8_findChange_4 rfl ?_
  refine z_istore_n (i := 3) (fun y => [(3, .int y), (0, .ref 44), (1, .int a), (2, .int b)]) dX8_findChange_5 rfl rfl (fun _ => rfl) (fun x9 e9 => ?_)
  subst e9
  exact hL 0 (Nat.zero_le _)
set_option maxRecDepth 100000 in
set_option maxHeartbeats 400000 in
theorem c_change_a {l : Launch} {G : zG} {μ : Mem} {ν : Lng} {v : Int32} (hv : v < 0 ∨ 2 < v) {x y : Int32}  : Cm l G mX9_change [.ref 0, .int v, .int x, .int y] μ ν (fun a9 b9 c9 => (-1000000002) = a9 ∧ μ = b9 ∧ ν = c9) := by
  refine Con.of (by decide) (Nat.le_of_ble_eq_true rfl) ?_
  show Am l G mX9_change 0 [(0, .ref 0), (1, .int v), (2, .int x), (3, .int y)] [] μ ν _
  refine z_iload_n dX9_change_0 rfl ?_
  refine m_callS (As := [.int _]) dX9_change_1 kX9_220 ⟨rfl, rfl⟩ rfl ⟨rfl, rfl⟩ rfl rfl rfl (c_noRule1 hv) (fun r1 μ1 ν1 hk1 => ?_)
  obtain ⟨rfl, rfl, rfl⟩ := hk1
  refine z_if_ne 23 dX9_change_4 (by decide) (fun h4 => ?_) (fun h4 => absurd h4 (by decide))
  refine z_ldc dX9_change_23 cX9_73 ?_
  refine m_iret dX9_change_25 rfl rfl ?_
  exact ⟨rfl, rfl, rfl⟩
set_option maxRecDepth 100000 in
set_option maxHeartbeats 400000 in
theorem c_change_b {l : Launch} {G : zG} {μ : Mem} {ν : Lng} {a : Nat} (ha : a ≤ 2) {v : Int32} (hv : v < 0 ∨ 2 < v) {y : Int32}  : Cm l G mX9_change [.ref 0, .int (nI a), .int v, .int y] μ ν (fun a9 b9 c9 => (-1000000002) = a9 ∧ μ = b9 ∧ ν = c9) := by
  refine Con.of (by decide) (Nat.le_of_ble_eq_true rfl) ?_
  show Am l G mX9_change 0 [(0, .ref 0), (1, .int (nI a)), (2, .int v), (3, .int y)] [] μ ν _
  refine z_iload_n dX9_change_0 rfl ?_
  refine m_callS (As := [.int _]) dX9_change_1 kX9_220 ⟨rfl, rfl⟩ rfl ⟨rfl, rfl⟩ rfl rfl rfl (c_noRule0 ha) (fun r1 μ1 ν1 hk1 => ?_)
  obtain ⟨rfl, rfl, rfl⟩ := hk1
  refine z_if_ne 23 dX9_change_4 (by decide) (fun h4 => absurd (by decide) h4) (fun h4 => ?_)
  refine z_iload_n dX9_change_7 rfl ?_
  refine m_callS (As := [.int _]) dX9_change_8 kX9_220 ⟨rfl, rfl⟩ rfl ⟨rfl, rfl⟩ rfl rfl rfl (c_noRule1 hv) (fun r8 μ8 ν8 hk8 => ?_)
  obtain ⟨rfl, rfl, rfl⟩ := hk8
  refine z_if_ne 23 dX9_change_11 (by decide) (fun h11 => ?_) (fun h11 => absurd h11 (by decide))
  refine z_ldc dX9_change_23 cX9_73 ?_
  refine m_iret dX9_change_25 rfl rfl ?_
  exact ⟨rfl, rfl, rfl⟩
set_option maxRecDepth 100000 in
set_option maxHeartbeats 400000 in
theorem c_change_c {l : Launch} {G : zG} {μ : Mem} {ν : Lng} {a b : Nat} (ha : a ≤ 2) (hb : b ≤ 2) {v : Int32} (hv : v < 0 ∨ 1 < v)  : Cm l G mX9_change [.ref 0, .int (nI a), .int (nI b), .int v] μ ν (fun a9 b9 c9 => (-1000000002) = a9 ∧ μ = b9 ∧ ν = c9) := by
  refine Con.of (by decide) (Nat.le_of_ble_eq_true rfl) ?_
  show Am l G mX9_change 0 [(0, .ref 0), (1, .int (nI a)), (2, .int (nI b)), (3, .int v)] [] μ ν _
  refine z_iload_n dX9_change_0 rfl ?_
  refine m_callS (As := [.int _]) dX9_change_1 kX9_220 ⟨rfl, rfl⟩ rfl ⟨rfl, rfl⟩ rfl rfl rfl (c_noRule0 ha) (fun r1 μ1 ν1 hk1 => ?_)
  obtain ⟨rfl, rfl, rfl⟩ := hk1
  refine z_if_ne 23 dX9_change_4 (by decide) (fun h4 => absurd (by decide) h4) (fun h4 => ?_)
  refine z_iload_n dX9_change_7 rfl ?_
  refine m_callS (As := [.int _]) dX9_change_8 kX9_220 ⟨rfl, rfl⟩ rfl ⟨rfl, rfl⟩ rfl rfl rfl (c_noRule0 hb) (fun r8 μ8 ν8 hk8 => ?_)
  obtain ⟨rfl, rfl, rfl⟩ := hk8
  refine z_if_ne 23 dX9_change_11 (by decide) (fun h11 => absurd (by decide) h11) (fun h11 => ?_)
  refine z_iload_n dX9_change_14 rfl ?_
  refine z_if_lt 23 dX9_change_15 (by decide) (fun h15 => ?_) (fun h15 => ?_)
  · skip
    refine z_ldc dX9_change_23 cX9_73 ?_
    refine m_iret dX9_change_25 rfl rfl ?_
    exact ⟨rfl, rfl, rfl⟩
  · skip
    refine z_iload_n dX9_change_18 rfl ?_
    refine z_iconst (v := 1) dX9_change_19 rfl ?_
    refine z_icmp_le 26 dX9_change_20 (by decide) (fun h20 => (zbad hv h15 h20).elim) (fun h20 => ?_)
    refine z_ldc dX9_change_23 cX9_73 ?_
    refine m_iret dX9_change_25 rfl rfl ?_
    exact ⟨rfl, rfl, rfl⟩
set_option maxRecDepth 100000 in
set_option maxHeartbeats 400000 in
theorem c_change_0 {l : Launch} {G : zG} {μ : Mem} {ν : Lng} {n : Nat} (hn : μ 15 6 = nI n) (hz6 : n ≤ 6) (hsd : zSides μ n) {N : Nat} (hN : N = 1001) {a b : Nat} (ha : a ≤ 2) (hb : b ≤ 2)  : Cm l G mX9_change [.ref 0, .int (nI a), .int (nI b), .int 0] μ ν (fun a9 b9 c9 => gSe (fun i M => gCh M (nI i) (nI a) (nI b) n) (zGo (μ 23) n) nI n (gSt μ) N 44 5 = a9 ∧ gSe (fun i M => gCh M (nI i) (nI a) (nI b) n) (zGo (μ 23) n) nI n (gSt μ) N = b9 ∧ ν = c9) := by
  refine Con.of (by decide) (Nat.le_of_ble_eq_true rfl) ?_
  show Am l G mX9_change 0 [(0, .ref 0), (1, .int (nI a)), (2, .int (nI b)), (3, .int 0)] [] μ ν _
  refine z_iload_n dX9_change_0 rfl ?_
  refine m_callS (As := [.int _]) dX9_change_1 kX9_220 ⟨rfl, rfl⟩ rfl ⟨rfl, rfl⟩ rfl rfl rfl (c_noRule0 ha) (fun r1 μ1 ν1 hk1 => ?_)
  obtain ⟨rfl, rfl, rfl⟩ := hk1
  refine z_if_ne 23 dX9_change_4 (by decide) (fun h4 => absurd (by decide) h4) (fun h4 => ?_)
  refine z_iload_n dX9_change_7 rfl ?_
  refine m_callS (As := [.int _]) dX9_change_8 kX9_220 ⟨rfl, rfl⟩ rfl ⟨rfl, rfl⟩ rfl rfl rfl (c_noRule0 hb) (fun r8 μ8 ν8 hk8 => ?_)
  obtain ⟨rfl, rfl, rfl⟩ := hk8
  refine z_if_ne 23 dX9_change_11 (by decide) (fun h11 => absurd (by decide) h11) (fun h11 => ?_)
  refine z_iload_n dX9_change_14 rfl ?_
  refine z_if_lt 23 dX9_change_15 (by decide) (fun h15 => absurd h15 (by decide)) (fun h15 => ?_)
  refine z_iload_n dX9_change_18 rfl ?_
  refine z_iconst (v := 1) dX9_change_19 rfl ?_
  refine z_icmp_le 26 dX9_change_20 (by decide) (fun h20 => ?_) (fun h20 => absurd (by decide) h20)
  refine z_aload_n dX9_change_26 rfl ?_
  refine m_getr dX9_change_27 fX9_44 sh0 rfl ?_
  refine z_iload_n dX9_change_30 rfl ?_
  refine z_iload_n dX9_change_31 rfl ?_
  refine m_callVv (As := [.int _, .int _]) dX9_change_32 kX9_239 ⟨rfl, rfl⟩ rfl ⟨rfl, rfl⟩ rfl rfl sh44 rfl rfl (c_findChange hn hz6 hsd hN) (fun μ32 ν32 hk32 => ?_)
  obtain ⟨rfl, rfl⟩ := hk32
  refine z_iload_n dX9_change_35 rfl ?_
  refine z_if_ne 49 dX9_change_36 (by decide) (fun h36 => absurd (by decide) h36) (fun h36 => ?_)
  refine z_aload_n dX9_change_39 rfl ?_
  refine m_getr dX9_change_40 fX9_44 sh0 rfl ?_
  refine m_geti dX9_change_43 fX9_233 sh44 rfl ?_
  refine z_goto 56 dX9_change_46 (by decide) ?_
  refine m_iret dX9_change_56 rfl rfl ?_
  exact ⟨rfl, rfl, rfl⟩
set_option maxRecDepth 100000 in
set_option maxHeartbeats 400000 in
theorem c_change_1 {l : Launch} {G : zG} {μ : Mem} {ν : Lng} {n : Nat} (hn : μ 15 6 = nI n) (hz6 : n ≤ 6) (hsd : zSides μ n) {N : Nat} (hN : N = 1001) {a b : Nat} (ha : a ≤ 2) (hb : b ≤ 2)  : Cm l G mX9_change [.ref 0, .int (nI a), .int (nI b), .int 1] μ ν (fun a9 b9 c9 => gSe (fun i M => gCh M (nI i) (nI a) (nI b) n) (zGo (μ 23) n) nI n (gSt μ) N 44 6 = a9 ∧ gSe (fun i M => gCh M (nI i) (nI a) (nI b) n) (zGo (μ 23) n) nI n (gSt μ) N = b9 ∧ ν = c9) := by
  refine Con.of (by decide) (Nat.le_of_ble_eq_true rfl) ?_
  show Am l G mX9_change 0 [(0, .ref 0), (1, .int (nI a)), (2, .int (nI b)), (3, .int 1)] [] μ ν _
  refine z_iload_n dX9_change_0 rfl ?_
  refine m_callS (As := [.int _]) dX9_change_1 kX9_220 ⟨rfl, rfl⟩ rfl ⟨rfl, rfl⟩ rfl rfl rfl (c_noRule0 ha) (fun r1 μ1 ν1 hk1 => ?_)
  obtain ⟨rfl, rfl, rfl⟩ := hk1
  refine z_if_ne 23 dX9_change_4 (by decide) (fun h4 => absurd (by decide) h4) (fun h4 => ?_)
  refine z_iload_n dX9_change_7 rfl ?_
  refine m_callS (As := [.int _]) dX9_change_8 kX9_220 ⟨rfl, rfl⟩ rfl ⟨rfl, rfl⟩ rfl rfl rfl (c_noRule0 hb) (fun r8 μ8 ν8 hk8 => ?_)
  obtain ⟨rfl, rfl, rfl⟩ := hk8
  refine z_if_ne 23 dX9_change_11 (by decide) (fun h11 => absurd (by decide) h11) (fun h11 => ?_)
  refine z_iload_n dX9_change_14 rfl ?_
  refine z_if_lt 23 dX9_change_15 (by decide) (fun h15 => absurd h15 (by decide)) (fun h15 => ?_)
  refine z_iload_n dX9_change_18 rfl ?_
  refine z_iconst (v := 1) dX9_change_19 rfl ?_
  refine z_icmp_le 26 dX9_change_20 (by decide) (fun h20 => ?_) (fun h20 => absurd (by decide) h20)
  refine z_aload_n dX9_change_26 rfl ?_
  refine m_getr dX9_change_27 fX9_44 sh0 rfl ?_
  refine z_iload_n dX9_change_30 rfl ?_
  refine z_iload_n dX9_change_31 rfl ?_
  refine m_callVv (As := [.int _, .int _]) dX9_change_32 kX9_239 ⟨rfl, rfl⟩ rfl ⟨rfl, rfl⟩ rfl rfl sh44 rfl rfl (c_findChange hn hz6 hsd hN) (fun μ32 ν32 hk32 => ?_)
  obtain ⟨rfl, rfl⟩ := hk32
  refine z_iload_n dX9_change_35 rfl ?_
  refine z_if_ne 49 dX9_change_36 (by decide) (fun h36 => ?_) (fun h36 => absurd h36 (by decide))
  refine z_aload_n dX9_change_49 rfl ?_
  refine m_getr dX9_change_50 fX9_44 sh0 rfl ?_
  refine m_geti dX9_change_53 fX9_236 sh44 rfl ?_
  refine m_iret dX9_change_56 rfl rfl ?_
  exact ⟨rfl, rfl, rfl⟩
set_option maxRecDepth 100000 in
set_option maxHeartbeats 400000 in
theorem d_change_a {l : Launch} {G : zG} {μ : Mem} {ν : Lng} {v : Int32} (hv : v < 0 ∨ 2 < v) {x y : Int32}  : Cm l G mX10_change [.ref 66, .int v, .int x, .int y] μ ν (fun a9 b9 c9 => (-1000000002) = a9 ∧ μ = b9 ∧ ν = c9) := by
  refine Con.of (by decide) (Nat.le_of_ble_eq_true rfl) ?_
  show Am l G mX10_change 0 [(0, .ref 66), (1, .int v), (2, .int x), (3, .int y)] [] μ ν _
  refine z_iload_n dX10_change_0 rfl ?_
  refine z_iconst (v := 0) dX10_change_1 rfl ?_
  refine z_iconst (v := 2) dX10_change_2 rfl ?_
  refine m_callS (As := [.int _, .int _, .int _]) dX10_change_3 kX10_108 ⟨rfl, rfl⟩ rfl ⟨rfl, rfl⟩ rfl rfl rfl (c_inF hv) (fun r3 μ3 ν3 hk3 => ?_)
  obtain ⟨rfl, rfl, rfl⟩ := hk3
  refine z_if_eq 27 dX10_change_6 (by decide) (fun h6 => ?_) (fun h6 => absurd (by decide) h6)
  refine z_ldc dX10_change_27 cX10_112 ?_
  refine m_iret dX10_change_29 rfl rfl ?_
  exact ⟨rfl, rfl, rfl⟩
set_option maxRecDepth 100000 in
set_option maxHeartbeats 400000 in
theorem d_change_b {l : Launch} {G : zG} {μ : Mem} {ν : Lng} {a : Nat} (ha : a ≤ 2) {v : Int32} (hv : v < 0 ∨ 2 < v) {y : Int32}  : Cm l G mX10_change [.ref 66, .int (nI a), .int v, .int y] μ ν (fun a9 b9 c9 => (-1000000002) = a9 ∧ μ = b9 ∧ ν = c9) := by
  refine Con.of (by decide) (Nat.le_of_ble_eq_true rfl) ?_
  show Am l G mX10_change 0 [(0, .ref 66), (1, .int (nI a)), (2, .int v), (3, .int y)] [] μ ν _
  refine z_iload_n dX10_change_0 rfl ?_
  refine z_iconst (v := 0) dX10_change_1 rfl ?_
  refine z_iconst (v := 2) dX10_change_2 rfl ?_
  refine m_callS (As := [.int _, .int _, .int _]) dX10_change_3 kX10_108 ⟨rfl, rfl⟩ rfl ⟨rfl, rfl⟩ rfl rfl rfl (c_inT (v := a) (lo := 0) (hi := 2) (Nat.zero_le a) ha (by decide)) (fun r3 μ3 ν3 hk3 => ?_)
  obtain ⟨rfl, rfl, rfl⟩ := hk3
  refine z_if_eq 27 dX10_change_6 (by decide) (fun h6 => absurd h6 (by decide)) (fun h6 => ?_)
  refine z_iload_n dX10_change_9 rfl ?_
  refine z_iconst (v := 0) dX10_change_10 rfl ?_
  refine z_iconst (v := 2) dX10_change_11 rfl ?_
  refine m_callS (As := [.int _, .int _, .int _]) dX10_change_12 kX10_108 ⟨rfl, rfl⟩ rfl ⟨rfl, rfl⟩ rfl rfl rfl (c_inF hv) (fun r12 μ12 ν12 hk12 => ?_)
  obtain ⟨rfl, rfl, rfl⟩ := hk12
  refine z_if_eq 27 dX10_change_15 (by decide) (fun h15 => ?_) (fun h15 => absurd (by decide) h15)
  refine z_ldc dX10_change_27 cX10_112 ?_
  refine m_iret dX10_change_29 rfl rfl ?_
  exact ⟨rfl, rfl, rfl⟩
set_option maxRecDepth 100000 in
set_option maxHeartbeats 400000 in
theorem d_change_c {l : Launch} {G : zG} {μ : Mem} {ν : Lng} {a b : Nat} (ha : a ≤ 2) (hb : b ≤ 2) {v : Int32} (hv : v < 0 ∨ 1 < v)  : Cm l G mX10_change [.ref 66, .int (nI a), .int (nI b), .int v] μ ν (fun a9 b9 c9 => (-1000000002) = a9 ∧ μ = b9 ∧ ν = c9) := by
  refine Con.of (by decide) (Nat.le_of_ble_eq_true rfl) ?_
  show Am l G mX10_change 0 [(0, .ref 66), (1, .int (nI a)), (2, .int (nI b)), (3, .int v)] [] μ ν _
  refine z_iload_n dX10_change_0 rfl ?_
  refine z_iconst (v := 0) dX10_change_1 rfl ?_
  refine z_iconst (v := 2) dX10_change_2 rfl ?_
  refine m_callS (As := [.int _, .int _, .int _]) dX10_change_3 kX10_108 ⟨rfl, rfl⟩ rfl ⟨rfl, rfl⟩ rfl rfl rfl (c_inT (v := a) (lo := 0) (hi := 2) (Nat.zero_le a) ha (by decide)) (fun r3 μ3 ν3 hk3 => ?_)
  obtain ⟨rfl, rfl, rfl⟩ := hk3
  refine z_if_eq 27 dX10_change_6 (by decide) (fun h6 => absurd h6 (by decide)) (fun h6 => ?_)
  refine z_iload_n dX10_change_9 rfl ?_
  refine z_iconst (v := 0) dX10_change_10 rfl ?_
  refine z_iconst (v := 2) dX10_change_11 rfl ?_
  refine m_callS (As := [.int _, .int _, .int _]) dX10_change_12 kX10_108 ⟨rfl, rfl⟩ rfl ⟨rfl, rfl⟩ rfl rfl rfl (c_inT (v := b) (lo := 0) (hi := 2) (Nat.zero_le b) hb (by decide)) (fun r12 μ12 ν12 hk12 => ?_)
  obtain ⟨rfl, rfl, rfl⟩ := hk12
  refine z_if_eq 27 dX10_change_15 (by decide) (fun h15 => absurd h15 (by decide)) (fun h15 => ?_)
  refine z_iload_n dX10_change_18 rfl ?_
  refine z_iconst (v := 0) dX10_change_19 rfl ?_
  refine z_iconst (v := 1) dX10_change_20 rfl ?_
  refine m_callS (As := [.int _, .int _, .int _]) dX10_change_21 kX10_108 ⟨rfl, rfl⟩ rfl ⟨rfl, rfl⟩ rfl rfl rfl (c_inF hv) (fun r21 μ21 ν21 hk21 => ?_)
  obtain ⟨rfl, rfl, rfl⟩ := hk21
  refine z_if_ne 30 dX10_change_24 (by decide) (fun h24 => absurd (by decide) h24) (fun h24 => ?_)
  refine z_ldc dX10_change_27 cX10_112 ?_
  refine m_iret dX10_change_29 rfl rfl ?_
  exact ⟨rfl, rfl, rfl⟩
set_option maxRecDepth 100000 in
set_option maxHeartbeats 400000 in
theorem d_change_0 {l : Launch} {G : zG} {μ : Mem} {ν : Lng} {n : Nat} (hn : μ 66 17 = nI n) (hz6 : n ≤ 6) (hsd : zSidesM μ n) {N : Nat} (hN : N = 1001) {a b : Nat} (ha : a ≤ 2) (hb : b ≤ 2)  : Cm l G mX10_change [.ref 66, .int (nI a), .int (nI b), .int 0] μ ν (fun a9 b9 c9 => (zSr (rSc (fun i M => rCh M (nI i) (nI a) (nI b) n) n (rCp μ 91 75 0 0 21)) nI (-1) 0 N).1 = a9 ∧ rCp (rSe (fun i M => rCh M (nI i) (nI a) (nI b) n) n (rCp μ 91 75 0 0 21) N) 75 91 0 0 21 = b9 ∧ ν = c9) := by
  refine Con.of (by decide) (Nat.le_of_ble_eq_true rfl) ?_
  show Am l G mX10_change 0 [(0, .ref 66), (1, .int (nI a)), (2, .int (nI b)), (3, .int 0)] [] μ ν _
  have g1 : ∀ i, zFr (rCp μ 91 75 0 0 21) (rSe (fun i M => rCh M (nI i) (nI a) (nI b) n) n (rCp μ 91 75 0 0 21) i) := fun i => rSe_fr (fun i M => rCh_fr n hz6) i
  have g2 : ∀ i w, w ≤ n → zFr (rCp μ 91 75 0 0 21) (rCh (rSe (fun i M => rCh M (nI i) (nI a) (nI b) n) n (rCp μ 91 75 0 0 21) i) (nI i) (nI a) (nI b) w) := fun i w hw => (g1 i).tr (rCh_fr w (by omega))
  have hn2 : ∀ i w, w ≤ n → rCh (rSe (fun i M => rCh M (nI i) (nI a) (nI b) n) n (rCp μ 91 75 0 0 21) i) (nI i) (nI a) (nI b) w 66 17 = nI n := fun i w hw => (g2 i w hw).n (zFr.holdN hn)
  have hL := m_for (l := l) (G := G) (M := mX10_change) (pc := 43) (ν := ν) (K := (fun a9 b9 c9 => (zSr (rSc (fun i M => rCh M (nI i) (nI a) (nI b) n) n (rCp μ 91 75 0 0 21)) nI (-1) 0 N).1 = a9 ∧ rCp (rSe (fun i M => rCh M (nI i) (nI a) (nI b) n) n (rCp μ 91 75 0 0 21) N) 75 91 0 0 21 = b9 ∧ ν = c9)) (N := N) (fun i => [(6, .int (nI i)), (5, .int ((zSr (rSc (fun i M => rCh M (nI i) (nI a) (nI b) n) n (rCp μ 91 75 0 0 21)) nI (-1) 0 i).2)), (4, .int ((zSr (rSc (fun i M => rCh M (nI i) (nI a) (nI b) n) n (rCp μ 91 75 0 0 21)) nI (-1) 0 i).1)), (0, .ref 66), (1, .int (nI a)), (2, .int (nI b)), (3, .int 0)]) (fun i => rSe (fun i M => rCh M (nI i) (nI a) (nI b) n) n (rCp μ 91 75 0 0 21) i) (fun i hi0 H0 => by
    have hI := m_for (l := l) (G := G) (M := mX10_change) (pc := 54) (ν := ν) (K := (fun a9 b9 c9 => (zSr (rSc (fun i M => rCh M (nI i) (nI a) (nI b) n) n (rCp μ 91 75 0 0 21)) nI (-1) 0 N).1 = a9 ∧ rCp (rSe (fun i M => rCh M (nI i) (nI a) (nI b) n) n (rCp μ 91 75 0 0 21) N) 75 91 0 0 21 = b9 ∧ ν = c9)) (N := n) (fun w => [(7, .int (nI w)), (6, .int (nI i)), (5, .int ((zSr (rSc (fun i M => rCh M (nI i) (nI a) (nI b) n) n (rCp μ 91 75 0 0 21)) nI (-1) 0 i).2)), (4, .int ((zSr (rSc (fun i M => rCh M (nI i) (nI a) (nI b) n) n (rCp μ 91 75 0 0 21)) nI (-1) 0 i).1)), (0, .ref 66), (1, .int (nI a)), (2, .int (nI b)), (3, .int 0)]) (fun w => rCh (rSe (fun i M => rCh M (nI i) (nI a) (nI b) n) n (rCp μ 91 75 0 0 21) i) (nI i) (nI a) (nI b) w) (fun w hi H => by
      refine z_iload dX10_change_54 rfl ?_
      refine z_aload_n dX10_change_56 rfl ?_
      refine m_geti dX10_change_57 fX10_105 sh66 rfl ?_
      refine z_icmp_ge 96 dX10_change_60 (by decide) (fun h60 => absurd (hn2 i w (by omega) ▸ h60) (nI_ge hi (by omega))) (fun h60 => ?_)
      refine z_aload_n dX10_change_63 rfl ?_
      refine m_getr dX10_change_64 fX10_38 sh66 rfl ?_
      refine z_bipush (v := 6) dX10_change_67 rfl ?_
      refine z_iload dX10_change_69 rfl ?_
      refine z_iadd dX10_change_71 ?_
      rw [show (6 + nI w) = nI (6 + w) from z6a 6 w]
      refine z_aload_n dX10_change_72 rfl ?_
      refine m_getr dX10_change_73 fX10_38 sh66 rfl ?_
      refine z_iload dX10_change_76 rfl ?_
      refine m_ialdN (j := w) dX10_change_78 sh75 rfl (by omega) rfl ?_
      refine z_iload dX10_change_79 rfl ?_
      refine z_icmp_ge 88 dX10_change_81 (by decide) (fun h81 => ?_) (fun h81 => ?_)
      · skip
        refine z_iload_n dX10_change_88 rfl ?_
        refine m_iastN (j := (6 + w)) dX10_change_89 sh75 rfl (by omega) rfl ?_
        refine z_iinc (fun y => [(7, .int y), (6, .int (nI i)), (5, .int ((zSr (rSc (fun i M => rCh M (nI i) (nI a) (nI b) n) n (rCp μ 91 75 0 0 21)) nI (-1) 0 i).2)), (4, .int ((zSr (rSc (fun i M => rCh M (nI i) (nI a) (nI b) n) n (rCp μ 91 75 0 0 21)) nI (-1) 0 i).1)), (0, .ref 66), (1, .int (nI a)), (2, .int (nI b)), (3, .int 0)]) dX10_change_90 rfl rfl (fun _ => rfl) (fun x7_90 ex7_90 => ?_)
        obtain rfl : x7_90 = nI (w + 1) := by rw [ex7_90]; exact nI_1 w
        refine z_goto 54 dX10_change_93 (by decide) ?_
        simp only [rCh, if_pos h81] at H
        exact H
      · skip
        refine z_iload_n dX10_change_84 rfl ?_
        refine z_goto 89 dX10_change_85 (by decide) ?_
        refine m_iastN (j := (6 + w)) dX10_change_89 sh75 rfl (by omega) rfl ?_
        refine z_iinc (fun y => [(7, .int y), (6, .int (nI i)), (5, .int ((zSr (rSc (fun i M => rCh M (nI i) (nI a) (nI b) n) n (rCp μ 91 75 0 0 21)) nI (-1) 0 i).2)), (4, .int ((zSr (rSc (fun i M => rCh M (nI i) (nI a) (nI b) n) n (rCp μ 91 75 0 0 21)) nI (-1) 0 i).1)), (0, .ref 66), (1, .int (nI a)), (2, .int (nI b)), (3, .int 0)]) dX10_change_90 rfl rfl (fun _ => rfl) (fun x7_90 ex7_90 => ?_)
        obtain rfl : x7_90 = nI (w + 1) := by rw [ex7_90]; exact nI_1 w
        refine z_goto 54 dX10_change_93 (by decide) ?_
        simp only [rCh, if_neg h81] at H
        exact H) (by
      refine z_iload dX10_change_54 rfl ?_
      refine z_aload_n dX10_change_56 rfl ?_
      refine m_geti dX10_change_57 fX10_105 sh66 rfl ?_
      refine z_icmp_ge 96 dX10_change_60 (by decide) (fun h60 => ?_) (fun h60 => absurd (hn2 i n (Nat.le_refl n) ▸ nI_le (Nat.le_refl n) (by omega)) h60)
      refine z_aload_n dX10_change_96 rfl ?_
      refine m_callV (As := []) dX10_change_97 kX10_223 ⟨rfl, rfl⟩ rfl ⟨rfl, rfl⟩ rfl rfl sh66 rfl rfl (d_cost (hn2 i n (Nat.le_refl n)) hz6 ((g2 i n (Nat.le_refl n)).sd (zFr.holdS hsd))) (fun r97 μ97 ν97 hk97 => ?_)
      obtain ⟨rfl, rfl, rfl⟩ := hk97
      refine z_istore (i := 7) (fun y => [(7, .int y), (6, .int (nI i)), (5, .int ((zSr (rSc (fun i M => rCh M (nI i) (nI a) (nI b) n) n (rCp μ 91 75 0 0 21)) nI (-1) 0 i).2)), (4, .int ((zSr (rSc (fun i M => rCh M (nI i) (nI a) (nI b) n) n (rCp μ 91 75 0 0 21)) nI (-1) 0 i).1)), (0, .ref 66), (1, .int (nI a)), (2, .int (nI b)), (3, .int 0)]) dX10_change_100 rfl (fun _ => rfl) (fun x9 e9 => ?_)
      subst e9
      refine z_iload dX10_change_102 rfl ?_
      refine z_iconst (v := -1) dX10_change_104 rfl ?_
      refine z_icmp_eq 115 dX10_change_105 (by decide) (fun h105 => ?_) (fun h105 => ?_)
      · skip
        refine z_iconst (v := 1) dX10_change_115 rfl ?_
        refine z_goto 120 dX10_change_116 (by decide) ?_
        refine z_istore (i := 8) (fun y => [(8, .int y), (7, .int (rCost (rNow (rCh (rSe (fun i M => rCh M (nI i) (nI a) (nI b) n) n (rCp μ 91 75 0 0 21) i) (nI i) (nI a) (nI b) n) n))), (6, .int (nI i)), (5, .int ((zSr (rSc (fun i M => rCh M (nI i) (nI a) (nI b) n) n (rCp μ 91 75 0 0 21)) nI (-1) 0 i).2)), (4, .int ((zSr (rSc (fun i M => rCh M (nI i) (nI a) (nI b) n) n (rCp μ 91 75 0 0 21)) nI (-1) 0 i).1)), (0, .ref 66), (1, .int (nI a)), (2, .int (nI b)), (3, .int 0)]) dX10_change_120 rfl (fun _ => rfl) (fun x9 e9 => ?_)
        subst e9
        refine z_iload dX10_change_122 rfl ?_
        refine z_if_eq 132 dX10_change_124 (by decide) (fun h124 => absurd h124 (by decide)) (fun h124 => ?_)
        refine z_iload dX10_change_127 rfl ?_
        refine z_goto 134 dX10_change_129 (by decide) ?_
        refine z_istore (i := 4) (fun y => [(4, .int y), (8, .int 1), (7, .int (rCost (rNow (rCh (rSe (fun i M => rCh M (nI i) (nI a) (nI b) n) n (rCp μ 91 75 0 0 21) i) (nI i) (nI a) (nI b) n) n))), (6, .int (nI i)), (5, .int ((zSr (rSc (fun i M => rCh M (nI i) (nI a) (nI b) n) n (rCp μ 91 75 0 0 21)) nI (-1) 0 i).2)), (0, .ref 66), (1, .int (nI a)), (2, .int (nI b)), (3, .int 0)]) dX10_change_134 rfl (fun _ => rfl) (fun x9 e9 => ?_)
        subst e9
        refine z_iload dX10_change_136 rfl ?_
        refine z_if_eq 146 dX10_change_138 (by decide) (fun h138 => absurd h138 (by decide)) (fun h138 => ?_)
        refine z_iload dX10_change_141 rfl ?_
        refine z_goto 148 dX10_change_143 (by decide) ?_
        refine z_istore (i := 5) (fun y => [(5, .int y), (4, .int (nI i)), (8, .int 1), (7, .int (rCost (rNow (rCh (rSe (fun i M => rCh M (nI i) (nI a) (nI b) n) n (rCp μ 91 75 0 0 21) i) (nI i) (nI a) (nI b) n) n))), (6, .int (nI i)), (0, .ref 66), (1, .int (nI a)), (2, .int (nI b)), (3, .int 0)]) dX10_change_148 rfl (fun _ => rfl) (fun x9 e9 => ?_)
        subst e9
        refine z_iinc (fun y => [(6, .int y), (5, .int (rCost (rNow (rCh (rSe (fun i M => rCh M (nI i) (nI a) (nI b) n) n (rCp μ 91 75 0 0 21) i) (nI i) (nI a) (nI b) n) n))), (4, .int (nI i)), (8, .int 1), (7, .int (rCost (rNow (rCh (rSe (fun i M => rCh M (nI i) (nI a) (nI b) n) n (rCp μ 91 75 0 0 21) i) (nI i) (nI a) (nI b) n) n))), (0, .ref 66), (1, .int (nI a)), (2, .int (nI b)), (3, .int 0)]) dX10_change_150 rfl rfl (fun _ => rfl) (fun x6_150 ex6_150 => ?_)
        obtain rfl : x6_150 = nI (i + 1) := by rw [ex6_150]; exact nI_1 i
        refine z_goto 43 dX10_change_153 (by decide) ?_
        refine z_lv [0, 1, 2, 5, 6, 7, 8] rfl ?_
        have es : zSr (rSc (fun i M => rCh M (nI i) (nI a) (nI b) n) n (rCp μ 91 75 0 0 21)) nI (-1) 0 (i + 1) = (nI i, (rSc (fun i M => rCh M (nI i) (nI a) (nI b) n) n (rCp μ 91 75 0 0 21)) i) := by
          rw [zSr]
          first | exact if_pos h105 | exact (if_neg h105).trans (if_pos h112) | exact (if_neg h105).trans (if_neg h112)
        rw [es] at H0
        exact H0
      · skip
        refine z_iload dX10_change_108 rfl ?_
        refine z_iload dX10_change_110 rfl ?_
        refine z_icmp_ge 119 dX10_change_112 (by decide) (fun h112 => ?_) (fun h112 => ?_)
        · skip
          refine z_iconst (v := 0) dX10_change_119 rfl ?_
          refine z_istore (i := 8) (fun y => [(8, .int y), (7, .int (rCost (rNow (rCh (rSe (fun i M => rCh M (nI i) (nI a) (nI b) n) n (rCp μ 91 75 0 0 21) i) (nI i) (nI a) (nI b) n) n))), (6, .int (nI i)), (5, .int ((zSr (rSc (fun i M => rCh M (nI i) (nI a) (nI b) n) n (rCp μ 91 75 0 0 21)) nI (-1) 0 i).2)), (4, .int ((zSr (rSc (fun i M => rCh M (nI i) (nI a) (nI b) n) n (rCp μ 91 75 0 0 21)) nI (-1) 0 i).1)), (0, .ref 66), (1, .int (nI a)), (2, .int (nI b)), (3, .int 0)]) dX10_change_120 rfl (fun _ => rfl) (fun x9 e9 => ?_)
          subst e9
          refine z_iload dX10_change_122 rfl ?_
          refine z_if_eq 132 dX10_change_124 (by decide) (fun h124 => ?_) (fun h124 => absurd (by decide) h124)
          refine z_iload dX10_change_132 rfl ?_
          refine z_istore (i := 4) (fun y => [(4, .int y), (8, .int 0), (7, .int (rCost (rNow (rCh (rSe (fun i M => rCh M (nI i) (nI a) (nI b) n) n (rCp μ 91 75 0 0 21) i) (nI i) (nI a) (nI b) n) n))), (6, .int (nI i)), (5, .int ((zSr (rSc (fun i M => rCh M (nI i) (nI a) (nI b) n) n (rCp μ 91 75 0 0 21)) nI (-1) 0 i).2)), (0, .ref 66), (1, .int (nI a)), (2, .int (nI b)), (3, .int 0)]) dX10_change_134 rfl (fun _ => rfl) (fun x9 e9 => ?_)
          subst e9
          refine z_iload dX10_change_136 rfl ?_
          refine z_if_eq 146 dX10_change_138 (by decide) (fun h138 => ?_) (fun h138 => absurd (by decide) h138)
          refine z_iload dX10_change_146 rfl ?_
          refine z_istore (i := 5) (fun y => [(5, .int y), (4, .int ((zSr (rSc (fun i M => rCh M (nI i) (nI a) (nI b) n) n (rCp μ 91 75 0 0 21)) nI (-1) 0 i).1)), (8, .int 0), (7, .int (rCost (rNow (rCh (rSe (fun i M => rCh M (nI i) (nI a) (nI b) n) n (rCp μ 91 75 0 0 21) i) (nI i) (nI a) (nI b) n) n))), (6, .int (nI i)), (0, .ref 66), (1, .int (nI a)), (2, .int (nI b)), (3, .int 0)]) dX10_change_148 rfl (fun _ => rfl) (fun x9 e9 => ?_)
          subst e9
          refine z_iinc (fun y => [(6, .int y), (5, .int ((zSr (rSc (fun i M => rCh M (nI i) (nI a) (nI b) n) n (rCp μ 91 75 0 0 21)) nI (-1) 0 i).2)), (4, .int ((zSr (rSc (fun i M => rCh M (nI i) (nI a) (nI b) n) n (rCp μ 91 75 0 0 21)) nI (-1) 0 i).1)), (8, .int 0), (7, .int (rCost (rNow (rCh (rSe (fun i M => rCh M (nI i) (nI a) (nI b) n) n (rCp μ 91 75 0 0 21) i) (nI i) (nI a) (nI b) n) n))), (0, .ref 66), (1, .int (nI a)), (2, .int (nI b)), (3, .int 0)]) dX10_change_150 rfl rfl (fun _ => rfl) (fun x6_150 ex6_150 => ?_)
          obtain rfl : x6_150 = nI (i + 1) := by rw [ex6_150]; exact nI_1 i
          refine z_goto 43 dX10_change_153 (by decide) ?_
          refine z_lv [0, 1, 2, 5, 6, 7, 8] rfl ?_
          have es : zSr (rSc (fun i M => rCh M (nI i) (nI a) (nI b) n) n (rCp μ 91 75 0 0 21)) nI (-1) 0 (i + 1) = zSr (rSc (fun i M => rCh M (nI i) (nI a) (nI b) n) n (rCp μ 91 75 0 0 21)) nI (-1) 0 i := by
            rw [zSr]
            first | exact if_pos h105 | exact (if_neg h105).trans (if_pos h112) | exact (if_neg h105).trans (if_neg h112)
          rw [es] at H0
          exact H0
        · skip
          refine z_iconst (v := 1) dX10_change_115 rfl ?_
          refine z_goto 120 dX10_change_116 (by decide) ?_
          refine z_istore (i := 8) (fun y => [(8, .int y), (7, .int (rCost (rNow (rCh (rSe (fun i M => rCh M (nI i) (nI a) (nI b) n) n (rCp μ 91 75 0 0 21) i) (nI i) (nI a) (nI b) n) n))), (6, .int (nI i)), (5, .int ((zSr (rSc (fun i M => rCh M (nI i) (nI a) (nI b) n) n (rCp μ 91 75 0 0 21)) nI (-1) 0 i).2)), (4, .int ((zSr (rSc (fun i M => rCh M (nI i) (nI a) (nI b) n) n (rCp μ 91 75 0 0 21)) nI (-1) 0 i).1)), (0, .ref 66), (1, .int (nI a)), (2, .int (nI b)), (3, .int 0)]) dX10_change_120 rfl (fun _ => rfl) (fun x9 e9 => ?_)
          subst e9
          refine z_iload dX10_change_122 rfl ?_
          refine z_if_eq 132 dX10_change_124 (by decide) (fun h124 => absurd h124 (by decide)) (fun h124 => ?_)
          refine z_iload dX10_change_127 rfl ?_
          refine z_goto 134 dX10_change_129 (by decide) ?_
          refine z_istore (i := 4) (fun y => [(4, .int y), (8, .int 1), (7, .int (rCost (rNow (rCh (rSe (fun i M => rCh M (nI i) (nI a) (nI b) n) n (rCp μ 91 75 0 0 21) i) (nI i) (nI a) (nI b) n) n))), (6, .int (nI i)), (5, .int ((zSr (rSc (fun i M => rCh M (nI i) (nI a) (nI b) n) n (rCp μ 91 75 0 0 21)) nI (-1) 0 i).2)), (0, .ref 66), (1, .int (nI a)), (2, .int (nI b)), (3, .int 0)]) dX10_change_134 rfl (fun _ => rfl) (fun x9 e9 => ?_)
          subst e9
          refine z_iload dX10_change_136 rfl ?_
          refine z_if_eq 146 dX10_change_138 (by decide) (fun h138 => absurd h138 (by decide)) (fun h138 => ?_)
          refine z_iload dX10_change_141 rfl ?_
          refine z_goto 148 dX10_change_143 (by decide) ?_
          refine z_istore (i := 5) (fun y => [(5, .int y), (4, .int (nI i)), (8, .int 1), (7, .int (rCost (rNow (rCh (rSe (fun i M => rCh M (nI i) (nI a) (nI b) n) n (rCp μ 91 75 0 0 21) i) (nI i) (nI a) (nI b) n) n))), (6, .int (nI i)), (0, .ref 66), (1, .int (nI a)), (2, .int (nI b)), (3, .int 0)]) dX10_change_148 rfl (fun _ => rfl) (fun x9 e9 => ?_)
          subst e9
          refine z_iinc (fun y => [(6, .int y), (5, .int (rCost (rNow (rCh (rSe (fun i M => rCh M (nI i) (nI a) (nI b) n) n (rCp μ 91 75 0 0 21) i) (nI i) (nI a) (nI b) n) n))), (4, .int (nI i)), (8, .int 1), (7, .int (rCost (rNow (rCh (rSe (fun i M => rCh M (nI i) (nI a) (nI b) n) n (rCp μ 91 75 0 0 21) i) (nI i) (nI a) (nI b) n) n))), (0, .ref 66), (1, .int (nI a)), (2, .int (nI b)), (3, .int 0)]) dX10_change_150 rfl rfl (fun _ => rfl) (fun x6_150 ex6_150 => ?_)
          obtain rfl : x6_150 = nI (i + 1) := by rw [ex6_150]; exact nI_1 i
          refine z_goto 43 dX10_change_153 (by decide) ?_
          refine z_lv [0, 1, 2, 5, 6, 7, 8] rfl ?_
          have es : zSr (rSc (fun i M => rCh M (nI i) (nI a) (nI b) n) n (rCp μ 91 75 0 0 21)) nI (-1) 0 (i + 1) = (nI i, (rSc (fun i M => rCh M (nI i) (nI a) (nI b) n) n (rCp μ 91 75 0 0 21)) i) := by
            rw [zSr]
            first | exact if_pos h105 | exact (if_neg h105).trans (if_pos h112) | exact (if_neg h105).trans (if_neg h112)
          rw [es] at H0
          exact H0)
    refine z_iload dX10_change_43 rfl ?_
    refine z_sipush (v := 1000) dX10_change_45 rfl ?_
    refine z_icmp_gt 156 dX10_change_48 (by decide) (fun h48 => absurd h48 (nI_nlt (a := 1000) (b := i) (by omega) (by omega))) (fun h48 => ?_)
    refine z_iconst (v := 0) dX10_change_51 rfl ?_
    refine z_istore (i := 7) (fun y => [(7, .int y), (6, .int (nI i)), (5, .int ((zSr (rSc (fun i M => rCh M (nI i) (nI a) (nI b) n) n (rCp μ 91 75 0 0 21)) nI (-1) 0 i).2)), (4, .int ((zSr (rSc (fun i M => rCh M (nI i) (nI a) (nI b) n) n (rCp μ 91 75 0 0 21)) nI (-1) 0 i).1)), (0, .ref 66), (1, .int (nI a)), (2, .int (nI b)), (3, .int 0)]) dX10_change_52 rfl (fun _ => rfl) (fun x9 e9 => ?_)
    subst e9
    exact hI 0 (Nat.zero_le n)) (by
    refine z_iload dX10_change_43 rfl ?_
    refine z_sipush (v := 1000) dX10_change_45 rfl ?_
    refine z_icmp_gt 156 dX10_change_48 (by decide) (fun h48 => ?_) (fun h48 => absurd (nI_lt (a := 1000) (b := N) (by omega) (by omega)) h48)
    refine z_aload_n dX10_change_156 rfl ?_
    refine m_callVv (As := []) dX10_change_157 kX10_248 ⟨rfl, rfl⟩ rfl ⟨rfl, rfl⟩ rfl rfl sh66 rfl rfl d_release (fun μ157 ν157 hk157 => ?_)
    obtain ⟨rfl, rfl⟩ := hk157
    refine z_iload_n dX10_change_160 rfl ?_
    refine z_if_ne 169 dX10_change_161 (by decide) (fun h161 => absurd (by decide) h161) (fun h161 => ?_)
    refine z_iload dX10_change_164 rfl ?_
    refine z_goto 171 dX10_change_166 (by decide) ?_
    refine m_iret dX10_change_171 rfl rfl ?_
    exact ⟨rfl, rfl, rfl⟩)
  refine z_iload_n dX10_change_0 rfl ?_
  refine z_iconst (v := 0) dX10_change_1 rfl ?_
  refine z_iconst (v := 2) dX10_change_2 rfl ?_
  refine m_callS (As := [.int _, .int _, .int _]) dX10_change_3 kX10_108 ⟨rfl, rfl⟩ rfl ⟨rfl, rfl⟩ rfl rfl rfl (c_inT (v := a) (lo := 0) (hi := 2) (Nat.zero_le a) ha (by decide)) (fun r3 μ3 ν3 hk3 => ?_)
  obtain ⟨rfl, rfl, rfl⟩ := hk3
  refine z_if_eq 27 dX10_change_6 (by decide) (fun h6 => absurd h6 (by decide)) (fun h6 => ?_)
  refine z_iload_n dX10_change_9 rfl ?_
  refine z_iconst (v := 0) dX10_change_10 rfl ?_
  refine z_iconst (v := 2) dX10_change_11 rfl ?_
  refine m_callS (As := [.int _, .int _, .int _]) dX10_change_12 kX10_108 ⟨rfl, rfl⟩ rfl ⟨rfl, rfl⟩ rfl rfl rfl (c_inT (v := b) (lo := 0) (hi := 2) (Nat.zero_le b) hb (by decide)) (fun r12 μ12 ν12 hk12 => ?_)
  obtain ⟨rfl, rfl, rfl⟩ := hk12
  refine z_if_eq 27 dX10_change_15 (by decide) (fun h15 => absurd h15 (by decide)) (fun h15 => ?_)
  refine z_iload_n dX10_change_18 rfl ?_
  refine z_iconst (v := 0) dX10_change_19 rfl ?_
  refine z_iconst (v := 1) dX10_change_20 rfl ?_
  refine m_callS (As := [.int _, .int _, .int _]) dX10_change_21 kX10_108 ⟨rfl, rfl⟩ rfl ⟨rfl, rfl⟩ rfl rfl rfl (c_inT (v := 0) (lo := 0) (hi := 1) (by decide) (by decide) (by decide)) (fun r21 μ21 ν21 hk21 => ?_)
  obtain ⟨rfl, rfl, rfl⟩ := hk21
  refine z_if_ne 30 dX10_change_24 (by decide) (fun h24 => ?_) (fun h24 => absurd h24 (by decide))
  refine z_aload_n dX10_change_30 rfl ?_
  refine m_callVv (As := []) dX10_change_31 kX10_245 ⟨rfl, rfl⟩ rfl ⟨rfl, rfl⟩ rfl rfl sh66 rfl rfl d_hold (fun μ31 ν31 hk31 => ?_)
  obtain ⟨rfl, rfl⟩ := hk31
  refine z_iconst (v := -1) dX10_change_34 rfl ?_
  refine z_istore (i := 4) (fun y => [(4, .int y), (0, .ref 66), (1, .int (nI a)), (2, .int (nI b)), (3, .int 0)]) dX10_change_35 rfl (fun _ => rfl) (fun x9 e9 => ?_)
  subst e9
  refine z_iconst (v := 0) dX10_change_37 rfl ?_
  refine z_istore (i := 5) (fun y => [(5, .int y), (4, .int (-1)), (0, .ref 66), (1, .int (nI a)), (2, .int (nI b)), (3, .int 0)]) dX10_change_38 rfl (fun _ => rfl) (fun x9 e9 => ?_)
  subst e9
  refine z_iconst (v := 0) dX10_change_40 rfl ?_
  refine z_istore (i := 6) (fun y => [(6, .int y), (5, .int 0), (4, .int (-1)), (0, .ref 66), (1, .int (nI a)), (2, .int (nI b)), (3, .int 0)]) dX10_change_41 rfl (fun _ => rfl) (fun x9 e9 => ?_)
  subst e9
  exact hL 0 (Nat.zero_le _)
set_option maxRecDepth 100000 in
set_option maxHeartbeats 400000 in
theorem d_change_1 {l : Launch} {G : zG} {μ : Mem} {ν : Lng} {n : Nat} (hn : μ 66 17 = nI n) (hz6 : n ≤ 6) (hsd : zSidesM μ n) {N : Nat} (hN : N = 1001) {a b : Nat} (ha : a ≤ 2) (hb : b ≤ 2)  : Cm l G mX10_change [.ref 66, .int (nI a), .int (nI b), .int 1] μ ν (fun a9 b9 c9 => (zSr (rSc (fun i M => rCh M (nI i) (nI a) (nI b) n) n (rCp μ 91 75 0 0 21)) nI (-1) 0 N).2 = a9 ∧ rCp (rSe (fun i M => rCh M (nI i) (nI a) (nI b) n) n (rCp μ 91 75 0 0 21) N) 75 91 0 0 21 = b9 ∧ ν = c9) := by
  refine Con.of (by decide) (Nat.le_of_ble_eq_true rfl) ?_
  show Am l G mX10_change 0 [(0, .ref 66), (1, .int (nI a)), (2, .int (nI b)), (3, .int 1)] [] μ ν _
  have g1 : ∀ i, zFr (rCp μ 91 75 0 0 21) (rSe (fun i M => rCh M (nI i) (nI a) (nI b) n) n (rCp μ 91 75 0 0 21) i) := fun i => rSe_fr (fun i M => rCh_fr n hz6) i
  have g2 : ∀ i w, w ≤ n → zFr (rCp μ 91 75 0 0 21) (rCh (rSe (fun i M => rCh M (nI i) (nI a) (nI b) n) n (rCp μ 91 75 0 0 21) i) (nI i) (nI a) (nI b) w) := fun i w hw => (g1 i).tr (rCh_fr w (by omega))
  have hn2 : ∀ i w, w ≤ n → rCh (rSe (fun i M => rCh M (nI i) (nI a) (nI b) n) n (rCp μ 91 75 0 0 21) i) (nI i) (nI a) (nI b) w 66 17 = nI n := fun i w hw => (g2 i w hw).n (zFr.holdN hn)
  have hL := m_for (l := l) (G := G) (M := mX10_change) (pc := 43) (ν := ν) (K := (fun a9 b9 c9 => (zSr (rSc (fun i M => rCh M (nI i) (nI a) (nI b) n) n (rCp μ 91 75 0 0 21)) nI (-1) 0 N).2 = a9 ∧ rCp (rSe (fun i M => rCh M (nI i) (nI a) (nI b) n) n (rCp μ 91 75 0 0 21) N) 75 91 0 0 21 = b9 ∧ ν = c9)) (N := N) (fun i => [(6, .int (nI i)), (5, .int ((zSr (rSc (fun i M => rCh M (nI i) (nI a) (nI b) n) n (rCp μ 91 75 0 0 21)) nI (-1) 0 i).2)), (4, .int ((zSr (rSc (fun i M => rCh M (nI i) (nI a) (nI b) n) n (rCp μ 91 75 0 0 21)) nI (-1) 0 i).1)), (0, .ref 66), (1, .int (nI a)), (2, .int (nI b)), (3, .int 1)]) (fun i => rSe (fun i M => rCh M (nI i) (nI a) (nI b) n) n (rCp μ 91 75 0 0 21) i) (fun i hi0 H0 => by
    have hI := m_for (l := l) (G := G) (M := mX10_change) (pc := 54) (ν := ν) (K := (fun a9 b9 c9 => (zSr (rSc (fun i M => rCh M (nI i) (nI a) (nI b) n) n (rCp μ 91 75 0 0 21)) nI (-1) 0 N).2 = a9 ∧ rCp (rSe (fun i M => rCh M (nI i) (nI a) (nI b) n) n (rCp μ 91 75 0 0 21) N) 75 91 0 0 21 = b9 ∧ ν = c9)) (N := n) (fun w => [(7, .int (nI w)), (6, .int (nI i)), (5, .int ((zSr (rSc (fun i M => rCh M (nI i) (nI a) (nI b) n) n (rCp μ 91 75 0 0 21)) nI (-1) 0 i).2)), (4, .int ((zSr (rSc (fun i M => rCh M (nI i) (nI a) (nI b) n) n (rCp μ 91 75 0 0 21)) nI (-1) 0 i).1)), (0, .ref 66), (1, .int (nI a)), (2, .int (nI b)), (3, .int 1)]) (fun w => rCh (rSe (fun i M => rCh M (nI i) (nI a) (nI b) n) n (rCp μ 91 75 0 0 21) i) (nI i) (nI a) (nI b) w) (fun w hi H => by
      refine z_iload dX10_change_54 rfl ?_
      refine z_aload_n dX10_change_56 rfl ?_
      refine m_geti dX10_change_57 fX10_105 sh66 rfl ?_
      refine z_icmp_ge 96 dX10_change_60 (by decide) (fun h60 => absurd (hn2 i w (by omega) ▸ h60) (nI_ge hi (by omega))) (fun h60 => ?_)
      refine z_aload_n dX10_change_63 rfl ?_
      refine m_getr dX10_change_64 fX10_38 sh66 rfl ?_
      refine z_bipush (v := 6) dX10_change_67 rfl ?_
      refine z_iload dX10_change_69 rfl ?_
      refine z_iadd dX10_change_71 ?_
      rw [show (6 + nI w) = nI (6 + w) from z6a 6 w]
      refine z_aload_n dX10_change_72 rfl ?_
      refine m_getr dX10_change_73 fX10_38 sh66 rfl ?_
      refine z_iload dX10_change_76 rfl ?_
      refine m_ialdN (j := w) dX10_change_78 sh75 rfl (by omega) rfl ?_
      refine z_iload dX10_change_79 rfl ?_
      refine z_icmp_ge 88 dX10_change_81 (by decide) (fun h81 => ?_) (fun h81 => ?_)
      · skip
        refine z_iload_n dX10_change_88 rfl ?_
        refine m_iastN (j := (6 + w)) dX10_change_89 sh75 rfl (by omega) rfl ?_
        refine z_iinc (fun y => [(7, .int y), (6, .int (nI i)), (5, .int ((zSr (rSc (fun i M => rCh M (nI i) (nI a) (nI b) n) n (rCp μ 91 75 0 0 21)) nI (-1) 0 i).2)), (4, .int ((zSr (rSc (fun i M => rCh M (nI i) (nI a) (nI b) n) n (rCp μ 91 75 0 0 21)) nI (-1) 0 i).1)), (0, .ref 66), (1, .int (nI a)), (2, .int (nI b)), (3, .int 1)]) dX10_change_90 rfl rfl (fun _ => rfl) (fun x7_90 ex7_90 => ?_)
        obtain rfl : x7_90 = nI (w + 1) := by rw [ex7_90]; exact nI_1 w
        refine z_goto 54 dX10_change_93 (by decide) ?_
        simp only [rCh, if_pos h81] at H
        exact H
      · skip
        refine z_iload_n dX10_change_84 rfl ?_
        refine z_goto 89 dX10_change_85 (by decide) ?_
        refine m_iastN (j := (6 + w)) dX10_change_89 sh75 rfl (by omega) rfl ?_
        refine z_iinc (fun y => [(7, .int y), (6, .int (nI i)), (5, .int ((zSr (rSc (fun i M => rCh M (nI i) (nI a) (nI b) n) n (rCp μ 91 75 0 0 21)) nI (-1) 0 i).2)), (4, .int ((zSr (rSc (fun i M => rCh M (nI i) (nI a) (nI b) n) n (rCp μ 91 75 0 0 21)) nI (-1) 0 i).1)), (0, .ref 66), (1, .int (nI a)), (2, .int (nI b)), (3, .int 1)]) dX10_change_90 rfl rfl (fun _ => rfl) (fun x7_90 ex7_90 => ?_)
        obtain rfl : x7_90 = nI (w + 1) := by rw [ex7_90]; exact nI_1 w
        refine z_goto 54 dX10_change_93 (by decide) ?_
        simp only [rCh, if_neg h81] at H
        exact H) (by
      refine z_iload dX10_change_54 rfl ?_
      refine z_aload_n dX10_change_56 rfl ?_
      refine m_geti dX10_change_57 fX10_105 sh66 rfl ?_
      refine z_icmp_ge 96 dX10_change_60 (by decide) (fun h60 => ?_) (fun h60 => absurd (hn2 i n (Nat.le_refl n) ▸ nI_le (Nat.le_refl n) (by omega)) h60)
      refine z_aload_n dX10_change_96 rfl ?_
      refine m_callV (As := []) dX10_change_97 kX10_223 ⟨rfl, rfl⟩ rfl ⟨rfl, rfl⟩ rfl rfl sh66 rfl rfl (d_cost (hn2 i n (Nat.le_refl n)) hz6 ((g2 i n (Nat.le_refl n)).sd (zFr.holdS hsd))) (fun r97 μ97 ν97 hk97 => ?_)
      obtain ⟨rfl, rfl, rfl⟩ := hk97
      refine z_istore (i := 7) (fun y => [(7, .int y), (6, .int (nI i)), (5, .int ((zSr (rSc (fun i M => rCh M (nI i) (nI a) (nI b) n) n (rCp μ 91 75 0 0 21)) nI (-1) 0 i).2)), (4, .int ((zSr (rSc (fun i M => rCh M (nI i) (nI a) (nI b) n) n (rCp μ 91 75 0 0 21)) nI (-1) 0 i).1)), (0, .ref 66), (1, .int (nI a)), (2, .int (nI b)), (3, .int 1)]) dX10_change_100 rfl (fun _ => rfl) (fun x9 e9 => ?_)
      subst e9
      refine z_iload dX10_change_102 rfl ?_
      refine z_iconst (v := -1) dX10_change_104 rfl ?_
      refine z_icmp_eq 115 dX10_change_105 (by decide) (fun h105 => ?_) (fun h105 => ?_)
      · skip
        refine z_iconst (v := 1) dX10_change_115 rfl ?_
        refine z_goto 120 dX10_change_116 (by decide) ?_
        refine z_istore (i := 8) (fun y => [(8, .int y), (7, .int (rCost (rNow (rCh (rSe (fun i M => rCh M (nI i) (nI a) (nI b) n) n (rCp μ 91 75 0 0 21) i) (nI i) (nI a) (nI b) n) n))), (6, .int (nI i)), (5, .int ((zSr (rSc (fun i M => rCh M (nI i) (nI a) (nI b) n) n (rCp μ 91 75 0 0 21)) nI (-1) 0 i).2)), (4, .int ((zSr (rSc (fun i M => rCh M (nI i) (nI a) (nI b) n) n (rCp μ 91 75 0 0 21)) nI (-1) 0 i).1)), (0, .ref 66), (1, .int (nI a)), (2, .int (nI b)), (3, .int 1)]) dX10_change_120 rfl (fun _ => rfl) (fun x9 e9 => ?_)
        subst e9
        refine z_iload dX10_change_122 rfl ?_
        refine z_if_eq 132 dX10_change_124 (by decide) (fun h124 => absurd h124 (by decide)) (fun h124 => ?_)
        refine z_iload dX10_change_127 rfl ?_
        refine z_goto 134 dX10_change_129 (by decide) ?_
        refine z_istore (i := 4) (fun y => [(4, .int y), (8, .int 1), (7, .int (rCost (rNow (rCh (rSe (fun i M => rCh M (nI i) (nI a) (nI b) n) n (rCp μ 91 75 0 0 21) i) (nI i) (nI a) (nI b) n) n))), (6, .int (nI i)), (5, .int ((zSr (rSc (fun i M => rCh M (nI i) (nI a) (nI b) n) n (rCp μ 91 75 0 0 21)) nI (-1) 0 i).2)), (0, .ref 66), (1, .int (nI a)), (2, .int (nI b)), (3, .int 1)]) dX10_change_134 rfl (fun _ => rfl) (fun x9 e9 => ?_)
        subst e9
        refine z_iload dX10_change_136 rfl ?_
        refine z_if_eq 146 dX10_change_138 (by decide) (fun h138 => absurd h138 (by decide)) (fun h138 => ?_)
        refine z_iload dX10_change_141 rfl ?_
        refine z_goto 148 dX10_change_143 (by decide) ?_
        refine z_istore (i := 5) (fun y => [(5, .int y), (4, .int (nI i)), (8, .int 1), (7, .int (rCost (rNow (rCh (rSe (fun i M => rCh M (nI i) (nI a) (nI b) n) n (rCp μ 91 75 0 0 21) i) (nI i) (nI a) (nI b) n) n))), (6, .int (nI i)), (0, .ref 66), (1, .int (nI a)), (2, .int (nI b)), (3, .int 1)]) dX10_change_148 rfl (fun _ => rfl) (fun x9 e9 => ?_)
        subst e9
        refine z_iinc (fun y => [(6, .int y), (5, .int (rCost (rNow (rCh (rSe (fun i M => rCh M (nI i) (nI a) (nI b) n) n (rCp μ 91 75 0 0 21) i) (nI i) (nI a) (nI b) n) n))), (4, .int (nI i)), (8, .int 1), (7, .int (rCost (rNow (rCh (rSe (fun i M => rCh M (nI i) (nI a) (nI b) n) n (rCp μ 91 75 0 0 21) i) (nI i) (nI a) (nI b) n) n))), (0, .ref 66), (1, .int (nI a)), (2, .int (nI b)), (3, .int 1)]) dX10_change_150 rfl rfl (fun _ => rfl) (fun x6_150 ex6_150 => ?_)
        obtain rfl : x6_150 = nI (i + 1) := by rw [ex6_150]; exact nI_1 i
        refine z_goto 43 dX10_change_153 (by decide) ?_
        refine z_lv [0, 1, 2, 5, 6, 7, 8] rfl ?_
        have es : zSr (rSc (fun i M => rCh M (nI i) (nI a) (nI b) n) n (rCp μ 91 75 0 0 21)) nI (-1) 0 (i + 1) = (nI i, (rSc (fun i M => rCh M (nI i) (nI a) (nI b) n) n (rCp μ 91 75 0 0 21)) i) := by
          rw [zSr]
          first | exact if_pos h105 | exact (if_neg h105).trans (if_pos h112) | exact (if_neg h105).trans (if_neg h112)
        rw [es] at H0
        exact H0
      · skip
        refine z_iload dX10_change_108 rfl ?_
        refine z_iload dX10_change_110 rfl ?_
        refine z_icmp_ge 119 dX10_change_112 (by decide) (fun h112 => ?_) (fun h112 => ?_)
        · skip
          refine z_iconst (v := 0) dX10_change_119 rfl ?_
          refine z_istore (i := 8) (fun y => [(8, .int y), (7, .int (rCost (rNow (rCh (rSe (fun i M => rCh M (nI i) (nI a) (nI b) n) n (rCp μ 91 75 0 0 21) i) (nI i) (nI a) (nI b) n) n))), (6, .int (nI i)), (5, .int ((zSr (rSc (fun i M => rCh M (nI i) (nI a) (nI b) n) n (rCp μ 91 75 0 0 21)) nI (-1) 0 i).2)), (4, .int ((zSr (rSc (fun i M => rCh M (nI i) (nI a) (nI b) n) n (rCp μ 91 75 0 0 21)) nI (-1) 0 i).1)), (0, .ref 66), (1, .int (nI a)), (2, .int (nI b)), (3, .int 1)]) dX10_change_120 rfl (fun _ => rfl) (fun x9 e9 => ?_)
          subst e9
          refine z_iload dX10_change_122 rfl ?_
          refine z_if_eq 132 dX10_change_124 (by decide) (fun h124 => ?_) (fun h124 => absurd (by decide) h124)
          refine z_iload dX10_change_132 rfl ?_
          refine z_istore (i := 4) (fun y => [(4, .int y), (8, .int 0), (7, .int (rCost (rNow (rCh (rSe (fun i M => rCh M (nI i) (nI a) (nI b) n) n (rCp μ 91 75 0 0 21) i) (nI i) (nI a) (nI b) n) n))), (6, .int (nI i)), (5, .int ((zSr (rSc (fun i M => rCh M (nI i) (nI a) (nI b) n) n (rCp μ 91 75 0 0 21)) nI (-1) 0 i).2)), (0, .ref 66), (1, .int (nI a)), (2, .int (nI b)), (3, .int 1)]) dX10_change_134 rfl (fun _ => rfl) (fun x9 e9 => ?_)
          subst e9
          refine z_iload dX10_change_136 rfl ?_
          refine z_if_eq 146 dX10_change_138 (by decide) (fun h138 => ?_) (fun h138 => absurd (by decide) h138)
          refine z_iload dX10_change_146 rfl ?_
          refine z_istore (i := 5) (fun y => [(5, .int y), (4, .int ((zSr (rSc (fun i M => rCh M (nI i) (nI a) (nI b) n) n (rCp μ 91 75 0 0 21)) nI (-1) 0 i).1)), (8, .int 0), (7, .int (rCost (rNow (rCh (rSe (fun i M => rCh M (nI i) (nI a) (nI b) n) n (rCp μ 91 75 0 0 21) i) (nI i) (nI a) (nI b) n) n))), (6, .int (nI i)), (0, .ref 66), (1, .int (nI a)), (2, .int (nI b)), (3, .int 1)]) dX10_change_148 rfl (fun _ => rfl) (fun x9 e9 => ?_)
          subst e9
          refine z_iinc (fun y => [(6, .int y), (5, .int ((zSr (rSc (fun i M => rCh M (nI i) (nI a) (nI b) n) n (rCp μ 91 75 0 0 21)) nI (-1) 0 i).2)), (4, .int ((zSr (rSc (fun i M => rCh M (nI i) (nI a) (nI b) n) n (rCp μ 91 75 0 0 21)) nI (-1) 0 i).1)), (8, .int 0), (7, .int (rCost (rNow (rCh (rSe (fun i M => rCh M (nI i) (nI a) (nI b) n) n (rCp μ 91 75 0 0 21) i) (nI i) (nI a) (nI b) n) n))), (0, .ref 66), (1, .int (nI a)), (2, .int (nI b)), (3, .int 1)]) dX10_change_150 rfl rfl (fun _ => rfl) (fun x6_150 ex6_150 => ?_)
          obtain rfl : x6_150 = nI (i + 1) := by rw [ex6_150]; exact nI_1 i
          refine z_goto 43 dX10_change_153 (by decide) ?_
          refine z_lv [0, 1, 2, 5, 6, 7, 8] rfl ?_
          have es : zSr (rSc (fun i M => rCh M (nI i) (nI a) (nI b) n) n (rCp μ 91 75 0 0 21)) nI (-1) 0 (i + 1) = zSr (rSc (fun i M => rCh M (nI i) (nI a) (nI b) n) n (rCp μ 91 75 0 0 21)) nI (-1) 0 i := by
            rw [zSr]
            first | exact if_pos h105 | exact (if_neg h105).trans (if_pos h112) | exact (if_neg h105).trans (if_neg h112)
          rw [es] at H0
          exact H0
        · skip
          refine z_iconst (v := 1) dX10_change_115 rfl ?_
          refine z_goto 120 dX10_change_116 (by decide) ?_
          refine z_istore (i := 8) (fun y => [(8, .int y), (7, .int (rCost (rNow (rCh (rSe (fun i M => rCh M (nI i) (nI a) (nI b) n) n (rCp μ 91 75 0 0 21) i) (nI i) (nI a) (nI b) n) n))), (6, .int (nI i)), (5, .int ((zSr (rSc (fun i M => rCh M (nI i) (nI a) (nI b) n) n (rCp μ 91 75 0 0 21)) nI (-1) 0 i).2)), (4, .int ((zSr (rSc (fun i M => rCh M (nI i) (nI a) (nI b) n) n (rCp μ 91 75 0 0 21)) nI (-1) 0 i).1)), (0, .ref 66), (1, .int (nI a)), (2, .int (nI b)), (3, .int 1)]) dX10_change_120 rfl (fun _ => rfl) (fun x9 e9 => ?_)
          subst e9
          refine z_iload dX10_change_122 rfl ?_
          refine z_if_eq 132 dX10_change_124 (by decide) (fun h124 => absurd h124 (by decide)) (fun h124 => ?_)
          refine z_iload dX10_change_127 rfl ?_
          refine z_goto 134 dX10_change_129 (by decide) ?_
          refine z_istore (i := 4) (fun y => [(4, .int y), (8, .int 1), (7, .int (rCost (rNow (rCh (rSe (fun i M => rCh M (nI i) (nI a) (nI b) n) n (rCp μ 91 75 0 0 21) i) (nI i) (nI a) (nI b) n) n))), (6, .int (nI i)), (5, .int ((zSr (rSc (fun i M => rCh M (nI i) (nI a) (nI b) n) n (rCp μ 91 75 0 0 21)) nI (-1) 0 i).2)), (0, .ref 66), (1, .int (nI a)), (2, .int (nI b)), (3, .int 1)]) dX10_change_134 rfl (fun _ => rfl) (fun x9 e9 => ?_)
          subst e9
          refine z_iload dX10_change_136 rfl ?_
          refine z_if_eq 146 dX10_change_138 (by decide) (fun h138 => absurd h138 (by decide)) (fun h138 => ?_)
          refine z_iload dX10_change_141 rfl ?_
          refine z_goto 148 dX10_change_143 (by decide) ?_
          refine z_istore (i := 5) (fun y => [(5, .int y), (4, .int (nI i)), (8, .int 1), (7, .int (rCost (rNow (rCh (rSe (fun i M => rCh M (nI i) (nI a) (nI b) n) n (rCp μ 91 75 0 0 21) i) (nI i) (nI a) (nI b) n) n))), (6, .int (nI i)), (0, .ref 66), (1, .int (nI a)), (2, .int (nI b)), (3, .int 1)]) dX10_change_148 rfl (fun _ => rfl) (fun x9 e9 => ?_)
          subst e9
          refine z_iinc (fun y => [(6, .int y), (5, .int (rCost (rNow (rCh (rSe (fun i M => rCh M (nI i) (nI a) (nI b) n) n (rCp μ 91 75 0 0 21) i) (nI i) (nI a) (nI b) n) n))), (4, .int (nI i)), (8, .int 1), (7, .int (rCost (rNow (rCh (rSe (fun i M => rCh M (nI i) (nI a) (nI b) n) n (rCp μ 91 75 0 0 21) i) (nI i) (nI a) (nI b) n) n))), (0, .ref 66), (1, .int (nI a)), (2, .int (nI b)), (3, .int 1)]) dX10_change_150 rfl rfl (fun _ => rfl) (fun x6_150 ex6_150 => ?_)
          obtain rfl : x6_150 = nI (i + 1) := by rw [ex6_150]; exact nI_1 i
          refine z_goto 43 dX10_change_153 (by decide) ?_
          refine z_lv [0, 1, 2, 5, 6, 7, 8] rfl ?_
          have es : zSr (rSc (fun i M => rCh M (nI i) (nI a) (nI b) n) n (rCp μ 91 75 0 0 21)) nI (-1) 0 (i + 1) = (nI i, (rSc (fun i M => rCh M (nI i) (nI a) (nI b) n) n (rCp μ 91 75 0 0 21)) i) := by
            rw [zSr]
            first | exact if_pos h105 | exact (if_neg h105).trans (if_pos h112) | exact (if_neg h105).trans (if_neg h112)
          rw [es] at H0
          exact H0)
    refine z_iload dX10_change_43 rfl ?_
    refine z_sipush (v := 1000) dX10_change_45 rfl ?_
    refine z_icmp_gt 156 dX10_change_48 (by decide) (fun h48 => absurd h48 (nI_nlt (a := 1000) (b := i) (by omega) (by omega))) (fun h48 => ?_)
    refine z_iconst (v := 0) dX10_change_51 rfl ?_
    refine z_istore (i := 7) (fun y => [(7, .int y), (6, .int (nI i)), (5, .int ((zSr (rSc (fun i M => rCh M (nI i) (nI a) (nI b) n) n (rCp μ 91 75 0 0 21)) nI (-1) 0 i).2)), (4, .int ((zSr (rSc (fun i M => rCh M (nI i) (nI a) (nI b) n) n (rCp μ 91 75 0 0 21)) nI (-1) 0 i).1)), (0, .ref 66), (1, .int (nI a)), (2, .int (nI b)), (3, .int 1)]) dX10_change_52 rfl (fun _ => rfl) (fun x9 e9 => ?_)
    subst e9
    exact hI 0 (Nat.zero_le n)) (by
    refine z_iload dX10_change_43 rfl ?_
    refine z_sipush (v := 1000) dX10_change_45 rfl ?_
    refine z_icmp_gt 156 dX10_change_48 (by decide) (fun h48 => ?_) (fun h48 => absurd (nI_lt (a := 1000) (b := N) (by omega) (by omega)) h48)
    refine z_aload_n dX10_change_156 rfl ?_
    refine m_callVv (As := []) dX10_change_157 kX10_248 ⟨rfl, rfl⟩ rfl ⟨rfl, rfl⟩ rfl rfl sh66 rfl rfl d_release (fun μ157 ν157 hk157 => ?_)
    obtain ⟨rfl, rfl⟩ := hk157
    refine z_iload_n dX10_change_160 rfl ?_
    refine z_if_ne 169 dX10_change_161 (by decide) (fun h161 => ?_) (fun h161 => absurd h161 (by decide))
    refine z_iload dX10_change_169 rfl ?_
    refine m_iret dX10_change_171 rfl rfl ?_
    exact ⟨rfl, rfl, rfl⟩)
  refine z_iload_n dX10_change_0 rfl ?_
  refine z_iconst (v := 0) dX10_change_1 rfl ?_
  refine z_iconst (v := 2) dX10_change_2 rfl ?_
  refine m_callS (As := [.int _, .int _, .int _]) dX10_change_3 kX10_108 ⟨rfl, rfl⟩ rfl ⟨rfl, rfl⟩ rfl rfl rfl (c_inT (v := a) (lo := 0) (hi := 2) (Nat.zero_le a) ha (by decide)) (fun r3 μ3 ν3 hk3 => ?_)
  obtain ⟨rfl, rfl, rfl⟩ := hk3
  refine z_if_eq 27 dX10_change_6 (by decide) (fun h6 => absurd h6 (by decide)) (fun h6 => ?_)
  refine z_iload_n dX10_change_9 rfl ?_
  refine z_iconst (v := 0) dX10_change_10 rfl ?_
  refine z_iconst (v := 2) dX10_change_11 rfl ?_
  refine m_callS (As := [.int _, .int _, .int _]) dX10_change_12 kX10_108 ⟨rfl, rfl⟩ rfl ⟨rfl, rfl⟩ rfl rfl rfl (c_inT (v := b) (lo := 0) (hi := 2) (Nat.zero_le b) hb (by decide)) (fun r12 μ12 ν12 hk12 => ?_)
  obtain ⟨rfl, rfl, rfl⟩ := hk12
  refine z_if_eq 27 dX10_change_15 (by decide) (fun h15 => absurd h15 (by decide)) (fun h15 => ?_)
  refine z_iload_n dX10_change_18 rfl ?_
  refine z_iconst (v := 0) dX10_change_19 rfl ?_
  refine z_iconst (v := 1) dX10_change_20 rfl ?_
  refine m_callS (As := [.int _, .int _, .int _]) dX10_change_21 kX10_108 ⟨rfl, rfl⟩ rfl ⟨rfl, rfl⟩ rfl rfl rfl (c_inT (v := 1) (lo := 0) (hi := 1) (by decide) (by decide) (by decide)) (fun r21 μ21 ν21 hk21 => ?_)
  obtain ⟨rfl, rfl, rfl⟩ := hk21
  refine z_if_ne 30 dX10_change_24 (by decide) (fun h24 => ?_) (fun h24 => absurd h24 (by decide))
  refine z_aload_n dX10_change_30 rfl ?_
  refine m_callVv (As := []) dX10_change_31 kX10_245 ⟨rfl, rfl⟩ rfl ⟨rfl, rfl⟩ rfl rfl sh66 rfl rfl d_hold (fun μ31 ν31 hk31 => ?_)
  obtain ⟨rfl, rfl⟩ := hk31
  refine z_iconst (v := -1) dX10_change_34 rfl ?_
  refine z_istore (i := 4) (fun y => [(4, .int y), (0, .ref 66), (1, .int (nI a)), (2, .int (nI b)), (3, .int 1)]) dX10_change_35 rfl (fun _ => rfl) (fun x9 e9 => ?_)
  subst e9
  refine z_iconst (v := 0) dX10_change_37 rfl ?_
  refine z_istore (i := 5) (fun y => [(5, .int y), (4, .int (-1)), (0, .ref 66), (1, .int (nI a)), (2, .int (nI b)), (3, .int 1)]) dX10_change_38 rfl (fun _ => rfl) (fun x9 e9 => ?_)
  subst e9
  refine z_iconst (v := 0) dX10_change_40 rfl ?_
  refine z_istore (i := 6) (fun y => [(6, .int y), (5, .int 0), (4, .int (-1)), (0, .ref 66), (1, .int (nI a)), (2, .int (nI b)), (3, .int 1)]) dX10_change_41 rfl (fun _ => rfl) (fun x9 e9 => ?_)
  subst e9
  exact hL 0 (Nat.zero_le _)
