
abbrev Cf (l : Launch) (G : zG) (M : zM) (As : List Value) (μ : Mem) (ν : Lng) (r : Int32) (μ' : Mem) (ν' : Lng) : Prop := Cm l G M As μ ν (fun a b c => a = r ∧ b = μ' ∧ c = ν')
abbrev Cv (l : Launch) (G : zG) (M : zM) (As : List Value) (μ : Mem) (ν : Lng) (μ' : Mem) (ν' : Lng) : Prop := Cm l G M As μ ν (fun _ b c => b = μ' ∧ c = ν')
def fBusy (μ : Mem) (k s : Nat) (t : Int32) : Int32 := if t < μ (k + 1) s then 0 else if μ (k + 2) s ≤ t then 0 else 1
def fOpen (μ : Mem) (k : Nat) (t : Int32) : Int32 := if t < μ k 3 then 0 else if μ k 4 ≤ t then 0 else 1
def fBack (μ : Mem) (k : Nat) (t : Int32) : Int32 := if t < μ k 4 then 0 else if μ k 5 ≤ t then 0 else 1
def fDoing (μ : Mem) (k : Nat) (t : Int32) : Int32 := if ¬ fBusy μ k 0 t = 0 then 1 else if ¬ fBusy μ k 1 t = 0 then 1 else if fOpen μ k t = 0 then (if fBack μ k t = 0 then 0 else 3) else 2
def fLet (μ : Mem) (k s : Nat) (w t u : Int32) : Mem :=
  if t < μ (k + 2) s then
    let μ1 := up2 μ (k + 1) s (if t < μ (k + 1) s then t else μ (k + 1) s)
    up2 (up2 μ1 (k + 2) s (if μ1 (k + 2) s < u then u else μ1 (k + 2) s)) (k + 3) s w
  else up2 (up2 (up2 μ (k + 1) s t) (k + 2) s u) (k + 3) s w
def fKick (μ : Mem) (k : Nat) (t h b : Int32) : Mem :=
  let μ1 := up2 μ k 3 t
  let μ2 := up2 μ1 k 4 (t + h)
  let μ3 := up2 μ2 k 5 (μ2 k 4 + b)
  up2 μ3 k 7 (μ3 k 7 + 1)
def fFill (μ : Mem) (k n : Nat) (v : Int32) : Mem := va_up μ k (fun j => if j < n then v else μ k j)
theorem fFill_0 (μ : Mem) (k : Nat) (v : Int32) : fFill μ k 0 v = μ := by
  funext a b
  by_cases h : a = k
  · subst h; simp [fFill, va_up]
  · simp [fFill, va_up, h]
theorem fFill_s (μ : Mem) (k i : Nat) (v : Int32) : up2 (fFill μ k i v) k i v = fFill μ k (i + 1) v := by
  funext a b
  by_cases h : a = k
  · subst h
    rw [up2_row]
    by_cases hb : b = i
    · subst hb; simp [fFill, va_up]
    · rw [if_neg hb]
      simp only [fFill, va_up, if_true]
      by_cases h1 : b < i
      · rw [if_pos h1, if_pos (by omega)]
      · rw [if_neg h1, if_neg (by omega)]
  · rw [up2_ne h]; simp [fFill, va_up, h]
set_option maxRecDepth 100000 in
set_option maxHeartbeats 4000000 in
theorem c_busyFor {l : Launch} {G : zG} {k : Nat} (hk : zSwing k) {μ : Mem} {ν : Lng} {s : Nat} (hs : s < 2) {t : Int32} : Cm l G mX7_busyFor [.ref k, .int (nI s), .int t] μ ν (fun a9 b9 c9 => fBusy μ k s t = a9 ∧ μ = b9 ∧ ν = c9) := by
  refine Con.of (by decide) (Nat.le_of_ble_eq_true rfl) ?_
  show Am l G mX7_busyFor 0 [(0, .ref k), (1, .int (nI s)), (2, .int t)] [] μ ν _
  refine z_aload_n dX7_busyFor_0 rfl ?_
  refine m_getr dX7_busyFor_1 fX7_9 hk.1 rfl ?_
  refine z_iload_n dX7_busyFor_4 rfl ?_
  refine m_ialdN (j := s) dX7_busyFor_5 hk.2.1 rfl (by omega) rfl ?_
  refine z_iload_n dX7_busyFor_6 rfl ?_
  refine z_icmp_gt 24 dX7_busyFor_7 (by decide) (fun h7 => ?_) (fun h7 => ?_)
  · skip
    refine z_iconst (v := 0) dX7_busyFor_24 rfl ?_
    refine m_iret dX7_busyFor_25 rfl rfl ?_
    exact ⟨by simp only [fBusy, h7, if_true, if_false], rfl, rfl⟩
  · skip
    refine z_iload_n dX7_busyFor_10 rfl ?_
    refine z_aload_n dX7_busyFor_11 rfl ?_
    refine m_getr dX7_busyFor_12 fX7_15 hk.1 rfl ?_
    refine z_iload_n dX7_busyFor_15 rfl ?_
    refine m_ialdN (j := s) dX7_busyFor_16 hk.2.2.1 rfl (by omega) rfl ?_
    refine z_icmp_ge 24 dX7_busyFor_17 (by decide) (fun h17 => ?_) (fun h17 => ?_)
    · skip
      refine z_iconst (v := 0) dX7_busyFor_24 rfl ?_
      refine m_iret dX7_busyFor_25 rfl rfl ?_
      exact ⟨by simp only [fBusy, h7, h17, if_true, if_false], rfl, rfl⟩
    · skip
      refine z_iconst (v := 1) dX7_busyFor_20 rfl ?_
      refine z_goto 25 dX7_busyFor_21 (by decide) ?_
      refine m_iret dX7_busyFor_25 rfl rfl ?_
      exact ⟨by simp only [fBusy, h7, h17, if_true, if_false], rfl, rfl⟩
set_option maxRecDepth 100000 in
set_option maxHeartbeats 4000000 in
theorem c_openAt {l : Launch} {G : zG} {k : Nat} (hk : zSwing k) {μ : Mem} {ν : Lng} {t : Int32} : Cm l G mX7_openAt [.ref k, .int t] μ ν (fun a9 b9 c9 => fOpen μ k t = a9 ∧ μ = b9 ∧ ν = c9) := by
  refine Con.of (by decide) (Nat.le_of_ble_eq_true rfl) ?_
  show Am l G mX7_openAt 0 [(0, .ref k), (1, .int t)] [] μ ν _
  refine z_aload_n dX7_openAt_0 rfl ?_
  refine m_geti dX7_openAt_1 fX7_21 hk.1 rfl ?_
  refine z_iload_n dX7_openAt_4 rfl ?_
  refine z_icmp_gt 20 dX7_openAt_5 (by decide) (fun h5 => ?_) (fun h5 => ?_)
  · skip
    refine z_iconst (v := 0) dX7_openAt_20 rfl ?_
    refine m_iret dX7_openAt_21 rfl rfl ?_
    exact ⟨by simp only [fOpen, h5, if_true, if_false], rfl, rfl⟩
  · skip
    refine z_iload_n dX7_openAt_8 rfl ?_
    refine z_aload_n dX7_openAt_9 rfl ?_
    refine m_geti dX7_openAt_10 fX7_25 hk.1 rfl ?_
    refine z_icmp_ge 20 dX7_openAt_13 (by decide) (fun h13 => ?_) (fun h13 => ?_)
    · skip
      refine z_iconst (v := 0) dX7_openAt_20 rfl ?_
      refine m_iret dX7_openAt_21 rfl rfl ?_
      exact ⟨by simp only [fOpen, h5, h13, if_true, if_false], rfl, rfl⟩
    · skip
      refine z_iconst (v := 1) dX7_openAt_16 rfl ?_
      refine z_goto 21 dX7_openAt_17 (by decide) ?_
      refine m_iret dX7_openAt_21 rfl rfl ?_
      exact ⟨by simp only [fOpen, h5, h13, if_true, if_false], rfl, rfl⟩
set_option maxRecDepth 100000 in
set_option maxHeartbeats 4000000 in
theorem c_comesBackAt {l : Launch} {G : zG} {k : Nat} (hk : zSwing k) {μ : Mem} {ν : Lng} {t : Int32} : Cm l G mX7_comesBackAt [.ref k, .int t] μ ν (fun a9 b9 c9 => fBack μ k t = a9 ∧ μ = b9 ∧ ν = c9) := by
  refine Con.of (by decide) (Nat.le_of_ble_eq_true rfl) ?_
  show Am l G mX7_comesBackAt 0 [(0, .ref k), (1, .int t)] [] μ ν _
  refine z_aload_n dX7_comesBackAt_0 rfl ?_
  refine m_geti dX7_comesBackAt_1 fX7_25 hk.1 rfl ?_
  refine z_iload_n dX7_comesBackAt_4 rfl ?_
  refine z_icmp_gt 20 dX7_comesBackAt_5 (by decide) (fun h5 => ?_) (fun h5 => ?_)
  · skip
    refine z_iconst (v := 0) dX7_comesBackAt_20 rfl ?_
    refine m_iret dX7_comesBackAt_21 rfl rfl ?_
    exact ⟨by simp only [fBack, h5, if_true, if_false], rfl, rfl⟩
  · skip
    refine z_iload_n dX7_comesBackAt_8 rfl ?_
    refine z_aload_n dX7_comesBackAt_9 rfl ?_
    refine m_geti dX7_comesBackAt_10 fX7_28 hk.1 rfl ?_
    refine z_icmp_ge 20 dX7_comesBackAt_13 (by decide) (fun h13 => ?_) (fun h13 => ?_)
    · skip
      refine z_iconst (v := 0) dX7_comesBackAt_20 rfl ?_
      refine m_iret dX7_comesBackAt_21 rfl rfl ?_
      exact ⟨by simp only [fBack, h5, h13, if_true, if_false], rfl, rfl⟩
    · skip
      refine z_iconst (v := 1) dX7_comesBackAt_16 rfl ?_
      refine z_goto 21 dX7_comesBackAt_17 (by decide) ?_
      refine m_iret dX7_comesBackAt_21 rfl rfl ?_
      exact ⟨by simp only [fBack, h5, h13, if_true, if_false], rfl, rfl⟩
set_option maxRecDepth 100000 in
set_option maxHeartbeats 4000000 in
theorem c_letThrough {l : Launch} {G : zG} {k : Nat} (hk : zSwing k) {μ : Mem} {ν : Lng} {s : Nat} (hs : s < 2) {w t u : Int32} : Cm l G mX7_letThrough [.ref k, .int w, .int (nI s), .int t, .int u] μ ν (fun _ b9 c9 => fLet μ k s w t u = b9 ∧ ν = c9) := by
  refine Con.of (by decide) (Nat.le_of_ble_eq_true rfl) ?_
  show Am l G mX7_letThrough 0 [(0, .ref k), (1, .int w), (2, .int (nI s)), (3, .int t), (4, .int u)] [] μ ν _
  refine z_aload_n dX7_letThrough_0 rfl ?_
  refine m_getr dX7_letThrough_1 fX7_15 hk.1 rfl ?_
  refine z_iload_n dX7_letThrough_4 rfl ?_
  refine m_ialdN (j := s) dX7_letThrough_5 hk.2.2.1 rfl (by omega) rfl ?_
  refine z_iload_n dX7_letThrough_6 rfl ?_
  refine z_icmp_gt 28 dX7_letThrough_7 (by decide) (fun h7 => ?_) (fun h7 => ?_)
  · skip
    refine z_aload_n dX7_letThrough_28 rfl ?_
    refine m_getr dX7_letThrough_29 fX7_9 hk.1 rfl ?_
    refine z_iload_n dX7_letThrough_32 rfl ?_
    refine z_aload_n dX7_letThrough_33 rfl ?_
    refine m_getr dX7_letThrough_34 fX7_9 hk.1 rfl ?_
    refine z_iload_n dX7_letThrough_37 rfl ?_
    refine m_ialdN (j := s) dX7_letThrough_38 hk.2.1 rfl (by omega) rfl ?_
    refine z_iload_n dX7_letThrough_39 rfl ?_
    refine z_min dX7_letThrough_40 kX7_43 wSt_min wIniMath wCo_min rfl rfl rfl rfl ?_
    refine m_iastN (j := s) dX7_letThrough_43 hk.2.1 rfl (by omega) rfl ?_
    refine z_aload_n dX7_letThrough_44 rfl ?_
    refine m_getr dX7_letThrough_45 fX7_15 hk.1 rfl ?_
    refine z_iload_n dX7_letThrough_48 rfl ?_
    refine z_aload_n dX7_letThrough_49 rfl ?_
    refine m_getr dX7_letThrough_50 fX7_15 hk.1 rfl ?_
    refine z_iload_n dX7_letThrough_53 rfl ?_
    refine m_ialdN (j := s) dX7_letThrough_54 hk.2.2.1 rfl (by omega) rfl ?_
    refine z_iload dX7_letThrough_55 rfl ?_
    refine z_max dX7_letThrough_57 kX7_49 wSt_max wIniMath wCo_max rfl rfl rfl rfl ?_
    refine m_iastN (j := s) dX7_letThrough_60 hk.2.2.1 rfl (by omega) rfl ?_
    refine z_aload_n dX7_letThrough_61 rfl ?_
    refine m_getr dX7_letThrough_62 fX7_18 hk.1 rfl ?_
    refine z_iload_n dX7_letThrough_65 rfl ?_
    refine z_iload_n dX7_letThrough_66 rfl ?_
    refine m_iastN (j := s) dX7_letThrough_67 hk.2.2.2 rfl (by omega) rfl ?_
    refine m_ret dX7_letThrough_68 rfl ?_
    exact ⟨by simp only [fLet, h7, if_true, if_false], rfl⟩
  · skip
    refine z_aload_n dX7_letThrough_10 rfl ?_
    refine m_getr dX7_letThrough_11 fX7_9 hk.1 rfl ?_
    refine z_iload_n dX7_letThrough_14 rfl ?_
    refine z_iload_n dX7_letThrough_15 rfl ?_
    refine m_iastN (j := s) dX7_letThrough_16 hk.2.1 rfl (by omega) rfl ?_
    refine z_aload_n dX7_letThrough_17 rfl ?_
    refine m_getr dX7_letThrough_18 fX7_15 hk.1 rfl ?_
    refine z_iload_n dX7_letThrough_21 rfl ?_
    refine z_iload dX7_letThrough_22 rfl ?_
    refine m_iastN (j := s) dX7_letThrough_24 hk.2.2.1 rfl (by omega) rfl ?_
    refine z_goto 61 dX7_letThrough_25 (by decide) ?_
    refine z_aload_n dX7_letThrough_61 rfl ?_
    refine m_getr dX7_letThrough_62 fX7_18 hk.1 rfl ?_
    refine z_iload_n dX7_letThrough_65 rfl ?_
    refine z_iload_n dX7_letThrough_66 rfl ?_
    refine m_iastN (j := s) dX7_letThrough_67 hk.2.2.2 rfl (by omega) rfl ?_
    refine m_ret dX7_letThrough_68 rfl ?_
    exact ⟨by simp only [fLet, h7, if_true, if_false], rfl⟩
set_option maxRecDepth 100000 in
set_option maxHeartbeats 4000000 in
theorem c_takeKick {l : Launch} {G : zG} {k : Nat} (hk : zSwing k) {μ : Mem} {ν : Lng} {t h b : Int32} : Cm l G mX7_takeKick [.ref k, .int t, .int h, .int b] μ ν (fun _ b9 c9 => fKick μ k t h b = b9 ∧ ν = c9) := by
  refine Con.of (by decide) (Nat.le_of_ble_eq_true rfl) ?_
  show Am l G mX7_takeKick 0 [(0, .ref k), (1, .int t), (2, .int h), (3, .int b)] [] μ ν _
  refine z_aload_n dX7_takeKick_0 rfl ?_
  refine z_iload_n dX7_takeKick_1 rfl ?_
  refine m_puti dX7_takeKick_2 fX7_21 (fun q h => by cases h; rfl) rfl rfl hk.1 rfl ?_
  refine z_aload_n dX7_takeKick_5 rfl ?_
  refine z_iload_n dX7_takeKick_6 rfl ?_
  refine z_iload_n dX7_takeKick_7 rfl ?_
  refine z_iadd dX7_takeKick_8 ?_
  refine m_puti dX7_takeKick_9 fX7_25 (fun q h => by cases h; rfl) rfl rfl hk.1 rfl ?_
  refine z_aload_n dX7_takeKick_12 rfl ?_
  refine z_aload_n dX7_takeKick_13 rfl ?_
  refine m_geti dX7_takeKick_14 fX7_25 hk.1 rfl ?_
  refine z_iload_n dX7_takeKick_17 rfl ?_
  refine z_iadd dX7_takeKick_18 ?_
  refine m_puti dX7_takeKick_19 fX7_28 (fun q h => by cases h; rfl) rfl rfl hk.1 rfl ?_
  refine z_aload_n dX7_takeKick_22 rfl ?_
  refine z_dup dX7_takeKick_23 rfl ?_
  refine m_geti dX7_takeKick_24 fX7_34 hk.1 rfl ?_
  refine z_iconst (v := 1) dX7_takeKick_27 rfl ?_
  refine z_iadd dX7_takeKick_28 ?_
  refine m_puti dX7_takeKick_29 fX7_34 (fun q h => by cases h; rfl) rfl rfl hk.1 rfl ?_
  refine m_ret dX7_takeKick_32 rfl ?_
  exact ⟨rfl, rfl⟩
set_option maxRecDepth 100000 in
set_option maxHeartbeats 4000000 in
theorem c_fill {l : Launch} {G : zG} {k n : Nat} (hs : zsh[k]? = some (.inl (0, n, .inl zz))) (hn : n < 2147483648) {μ : Mem} {ν : Lng} {v : Int32} : Cm l G mJ7_fill_53178 [.ref k, .int v] μ ν (fun _ b9 c9 => fFill μ k n v = b9 ∧ ν = c9) := by
  refine Con.of (by decide) (Nat.le_of_ble_eq_true rfl) ?_
  show Am l G mJ7_fill_53178 0 [(0, .ref k), (1, .int v)] [] μ ν _
  have h0 := m_for (l := l) (G := G) (M := mJ7_fill_53178) (pc := 5) (ν := ν) (K := (fun _ b9 c9 => fFill μ k n v = b9 ∧ ν = c9)) (N := n) (fun i => [(3, .int (nI n)), (2, .int (nI i)), (0, .ref k), (1, .int v)]) (fun i => fFill μ k i v) (fun i hi H => by
    refine z_iload_n dJ7_fill_53178_5 rfl ?_
    refine z_iload_n dJ7_fill_53178_6 rfl ?_
    refine z_icmp_ge 20 dJ7_fill_53178_7 (by decide) (fun h7 => absurd h7 (nI_ge hi hn)) (fun h7 => ?_)
    refine z_aload_n dJ7_fill_53178_10 rfl ?_
    refine z_iload_n dJ7_fill_53178_11 rfl ?_
    refine z_iload_n dJ7_fill_53178_12 rfl ?_
    refine m_iastN (j := i) dJ7_fill_53178_13 hs rfl hi (Nat.blt_eq.mpr hn) ?_
    refine z_iinc (fun y => [(2, .int y), (3, .int (nI n)), (0, .ref k), (1, .int v)]) dJ7_fill_53178_14 rfl rfl (fun _ => rfl) (fun x2_14 ex2_14 => ?_)
    obtain rfl : x2_14 = nI (i + 1) := by rw [ex2_14]; exact nI_1 i
    refine z_goto 5 dJ7_fill_53178_17 (by decide) ?_
    refine z_lv [1, 0, 2, 3] rfl ?_
    rw [fFill_s]
    exact H) (by
    refine z_iload_n dJ7_fill_53178_5 rfl ?_
    refine z_iload_n dJ7_fill_53178_6 rfl ?_
    refine z_icmp_ge 20 dJ7_fill_53178_7 (by decide) (fun h7 => ?_) (fun h7 => absurd (nI_le (Nat.le_refl n) hn) h7)
    refine m_ret dJ7_fill_53178_20 rfl ?_
    exact ⟨rfl, rfl⟩)
  refine z_iconst (v := 0) dJ7_fill_53178_0 rfl ?_
  refine z_istore_n (i := 2) (fun y => [(2, .int y), (0, .ref k), (1, .int v)]) dJ7_fill_53178_1 rfl rfl (fun _ => rfl) (fun x9 e9 => ?_)
  subst e9
  refine z_aload_n dJ7_fill_53178_2 rfl ?_
  refine m_alen dJ7_fill_53178_3 hs ?_
  refine z_istore_n (i := 3) (fun y => [(3, .int y), (2, .int 0), (0, .ref k), (1, .int v)]) dJ7_fill_53178_4 rfl rfl (fun _ => rfl) (fun x9 e9 => ?_)
  subst e9
  have h9 := h0 0 (Nat.zero_le n)
  rw [fFill_0] at h9
  exact h9
def fRest (μ : Mem) (k : Nat) : Mem := up2 (up2 (up2 (up2 (up2 (fFill (fFill (fFill μ (k + 1) 2 0) (k + 2) 2 0) (k + 3) 2 (-1)) k 3 0) k 4 0) k 5 0) k 6 0) k 7 0
set_option maxRecDepth 100000 in
set_option maxHeartbeats 4000000 in
theorem c_rest {l : Launch} {G : zG} {k : Nat} (hk : zSwing k) {μ : Mem} {ν : Lng}  : Cm l G mX7_rest [.ref k] μ ν (fun _ b9 c9 => fRest μ k = b9 ∧ ν = c9) := by
  refine Con.of (by decide) (Nat.le_of_ble_eq_true rfl) ?_
  show Am l G mX7_rest 0 [(0, .ref k)] [] μ ν _
  refine z_aload_n dX7_rest_0 rfl ?_
  refine m_getr dX7_rest_1 fX7_9 hk.1 rfl ?_
  refine z_iconst (v := 0) dX7_rest_4 rfl ?_
  refine m_callSv (As := [.ref _, .int _]) dX7_rest_5 kX7_37 ⟨rfl, rfl⟩ rfl ⟨rfl, rfl⟩ rfl rfl rfl (c_fill hk.2.1 (by decide)) (fun μ5 ν5 hk5 => ?_)
  obtain ⟨rfl, rfl⟩ := hk5
  refine z_aload_n dX7_rest_8 rfl ?_
  refine m_getr dX7_rest_9 fX7_15 hk.1 rfl ?_
  refine z_iconst (v := 0) dX7_rest_12 rfl ?_
  refine m_callSv (As := [.ref _, .int _]) dX7_rest_13 kX7_37 ⟨rfl, rfl⟩ rfl ⟨rfl, rfl⟩ rfl rfl rfl (c_fill hk.2.2.1 (by decide)) (fun μ13 ν13 hk13 => ?_)
  obtain ⟨rfl, rfl⟩ := hk13
  refine z_aload_n dX7_rest_16 rfl ?_
  refine m_getr dX7_rest_17 fX7_18 hk.1 rfl ?_
  refine z_iconst (v := -1) dX7_rest_20 rfl ?_
  refine m_callSv (As := [.ref _, .int _]) dX7_rest_21 kX7_37 ⟨rfl, rfl⟩ rfl ⟨rfl, rfl⟩ rfl rfl rfl (c_fill hk.2.2.2 (by decide)) (fun μ21 ν21 hk21 => ?_)
  obtain ⟨rfl, rfl⟩ := hk21
  refine z_aload_n dX7_rest_24 rfl ?_
  refine z_iconst (v := 0) dX7_rest_25 rfl ?_
  refine m_puti dX7_rest_26 fX7_21 (fun q h => by cases h; rfl) rfl rfl hk.1 rfl ?_
  refine z_aload_n dX7_rest_29 rfl ?_
  refine z_iconst (v := 0) dX7_rest_30 rfl ?_
  refine m_puti dX7_rest_31 fX7_25 (fun q h => by cases h; rfl) rfl rfl hk.1 rfl ?_
  refine z_aload_n dX7_rest_34 rfl ?_
  refine z_iconst (v := 0) dX7_rest_35 rfl ?_
  refine m_puti dX7_rest_36 fX7_28 (fun q h => by cases h; rfl) rfl rfl hk.1 rfl ?_
  refine z_aload_n dX7_rest_39 rfl ?_
  refine z_iconst (v := 0) dX7_rest_40 rfl ?_
  refine m_puti dX7_rest_41 fX7_31 (fun q h => by cases h; rfl) rfl rfl hk.1 rfl ?_
  refine z_aload_n dX7_rest_44 rfl ?_
  refine z_iconst (v := 0) dX7_rest_45 rfl ?_
  refine m_puti dX7_rest_46 fX7_34 (fun q h => by cases h; rfl) rfl rfl hk.1 rfl ?_
  refine m_ret dX7_rest_49 rfl ?_
  exact ⟨rfl, rfl⟩
set_option maxRecDepth 100000 in
set_option maxHeartbeats 4000000 in
theorem c_doing {l : Launch} {G : zG} {k : Nat} (hk : zSwing k) {μ : Mem} {ν : Lng} {t : Int32} : Cm l G mX7_doing [.ref k, .int t] μ ν (fun a9 b9 c9 => fDoing μ k t = a9 ∧ μ = b9 ∧ ν = c9) := by
  refine Con.of (by decide) (Nat.le_of_ble_eq_true rfl) ?_
  show Am l G mX7_doing 0 [(0, .ref k), (1, .int t)] [] μ ν _
  refine z_aload_n dX7_doing_0 rfl ?_
  refine z_iconst (v := 0) dX7_doing_1 rfl ?_
  refine z_iload_n dX7_doing_2 rfl ?_
  refine m_callV (As := [.int _, .int _]) dX7_doing_3 kX7_52 ⟨rfl, rfl⟩ rfl ⟨rfl, rfl⟩ rfl rfl hk.1 rfl rfl (c_busyFor hk (s := 0) (by decide)) (fun r3 μ3 ν3 hk3 => ?_)
  obtain ⟨rfl, rfl, rfl⟩ := hk3
  refine z_if_ne 18 dX7_doing_6 (by decide) (fun h6 => ?_) (fun h6 => ?_)
  · skip
    refine z_iconst (v := 1) dX7_doing_18 rfl ?_
    refine m_iret dX7_doing_19 rfl rfl ?_
    exact ⟨by simp only [fDoing, not_false_eq_true, not_true_eq_false, h6, if_true, if_false], rfl, rfl⟩
  · skip
    refine z_aload_n dX7_doing_9 rfl ?_
    refine z_iconst (v := 1) dX7_doing_10 rfl ?_
    refine z_iload_n dX7_doing_11 rfl ?_
    refine m_callV (As := [.int _, .int _]) dX7_doing_12 kX7_52 ⟨rfl, rfl⟩ rfl ⟨rfl, rfl⟩ rfl rfl hk.1 rfl rfl (c_busyFor hk (s := 1) (by decide)) (fun r12 μ12 ν12 hk12 => ?_)
    obtain ⟨rfl, rfl, rfl⟩ := hk12
    refine z_if_eq 20 dX7_doing_15 (by decide) (fun h15 => ?_) (fun h15 => ?_)
    · skip
      refine z_aload_n dX7_doing_20 rfl ?_
      refine z_iload_n dX7_doing_21 rfl ?_
      refine m_callV (As := [.int _]) dX7_doing_22 kX7_56 ⟨rfl, rfl⟩ rfl ⟨rfl, rfl⟩ rfl rfl hk.1 rfl rfl (c_openAt hk) (fun r22 μ22 ν22 hk22 => ?_)
      obtain ⟨rfl, rfl, rfl⟩ := hk22
      refine z_if_eq 30 dX7_doing_25 (by decide) (fun h25 => ?_) (fun h25 => ?_)
      · skip
        refine z_aload_n dX7_doing_30 rfl ?_
        refine z_iload_n dX7_doing_31 rfl ?_
        refine m_callV (As := [.int _]) dX7_doing_32 kX7_60 ⟨rfl, rfl⟩ rfl ⟨rfl, rfl⟩ rfl rfl hk.1 rfl rfl (c_comesBackAt hk) (fun r32 μ32 ν32 hk32 => ?_)
        obtain ⟨rfl, rfl, rfl⟩ := hk32
        refine z_if_eq 42 dX7_doing_35 (by decide) (fun h35 => ?_) (fun h35 => ?_)
        · skip
          refine z_iconst (v := 0) dX7_doing_42 rfl ?_
          refine m_iret dX7_doing_43 rfl rfl ?_
          exact ⟨by simp only [fDoing, not_false_eq_true, not_true_eq_false, h6, h15, h25, h35, if_true, if_false], rfl, rfl⟩
        · skip
          refine z_iconst (v := 3) dX7_doing_38 rfl ?_
          refine z_goto 43 dX7_doing_39 (by decide) ?_
          refine m_iret dX7_doing_43 rfl rfl ?_
          exact ⟨by simp only [fDoing, not_false_eq_true, not_true_eq_false, h6, h15, h25, h35, if_true, if_false], rfl, rfl⟩
      · skip
        refine z_iconst (v := 2) dX7_doing_28 rfl ?_
        refine m_iret dX7_doing_29 rfl rfl ?_
        exact ⟨by simp only [fDoing, not_false_eq_true, not_true_eq_false, h6, h15, h25, if_true, if_false], rfl, rfl⟩
    · skip
      refine z_iconst (v := 1) dX7_doing_18 rfl ?_
      refine m_iret dX7_doing_19 rfl rfl ?_
      exact ⟨by simp only [fDoing, not_false_eq_true, not_true_eq_false, h6, h15, if_true, if_false], rfl, rfl⟩
set_option maxRecDepth 100000 in
set_option maxHeartbeats 4000000 in
theorem c_crash {l : Launch} {G : zG} {k : Nat} (hk : zPas k) {μ : Mem} {ν : Lng} : Cm l G mX3_crash [.ref k] μ ν (fun _ b9 c9 => up2 (up2 μ k 0 6) k 5 1 = b9 ∧ ν = c9) := by
  refine Con.of (by decide) (Nat.le_of_ble_eq_true rfl) ?_
  show Am l G mX3_crash 0 [(0, .ref k)] [] μ ν _
  refine z_aload_n dX3_crash_0 rfl ?_
  refine z_bipush (v := 6) dX3_crash_1 rfl ?_
  refine m_puti dX3_crash_3 fX3_9 (fun q h => by cases h; rfl) rfl rfl hk rfl ?_
  refine z_aload_n dX3_crash_6 rfl ?_
  refine z_iconst (v := 1) dX3_crash_7 rfl ?_
  refine m_puti dX3_crash_8 fX3_27 (fun q h => by cases h; rfl) rfl rfl hk rfl ?_
  refine m_ret dX3_crash_11 rfl ?_
  exact ⟨rfl, rfl⟩
