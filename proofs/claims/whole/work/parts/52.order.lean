
theorem zFc.va {σ : Mem} {q : Nat} {f : Nat → Int32} (h : 29 ≤ q ∧ q ≤ 52) : zFc σ (va_up σ q f) := fun a ha => va_up_ne _ _ (by omega)
theorem zFc.ga {σ : Mem} {c : Nat} {f g : Nat → Int32} : zFc σ (mGa σ c f g) := fun q hq => mGa_ne (by omega)
/-- one order tried on: seated, tenths given -/
def gOr (c m : Nat) (M : Mem) : Mem := va_up (va_up M 51 (zSb c m (va_cpy (M 52) (M 51) 0 0 c) c).2) 46 (zGt (M 46) (zSb c m (va_cpy (M 52) (M 51) 0 0 c) c).2 (M 50) c)
theorem gOr_fc {c m : Nat} {M : Mem} : zFc M (gOr c m M) := (zFc.va (by decide)).tr (zFc.va (by decide))
theorem gOr_ne {c m q : Nat} {M : Mem} (h1 : q ≠ 51) (h2 : q ≠ 46) : gOr c m M q = M q := by
  unfold gOr
  rw [va_up_ne _ _ h2, va_up_ne _ _ h1]
set_option maxRecDepth 100000 in
set_option maxHeartbeats 400000 in
theorem c_bestOrder_c {l : Launch} {G : zG} {μ : Mem} {ν : Lng} {n : Nat} (hn : μ 15 6 = nI n) (hz6 : n ≤ 6) (hsd : zSides μ n) {s : Int32} {N : Nat} (hN : N = zFa (zGa (μ 18) (μ 23) s (μ 50) (μ 52) n).1)  : Cm l G mX8_bestOrder [.ref 44, .int s, .int (-1)] μ ν (fun a9 b9 c9 => gSe (fun i M => gOr (zGa (μ 18) (μ 23) s (μ 50) (μ 52) n).1 i M) (fun _ => true) nI n (mGa (gSt μ) (zGa (μ 18) (μ 23) s (μ 50) (μ 52) n).1 (zGa (μ 18) (μ 23) s (μ 50) (μ 52) n).2.1 (zGa (μ 18) (μ 23) s (μ 50) (μ 52) n).2.2) N 44 6 = a9 ∧ gSe (fun i M => gOr (zGa (μ 18) (μ 23) s (μ 50) (μ 52) n).1 i M) (fun _ => true) nI n (mGa (gSt μ) (zGa (μ 18) (μ 23) s (μ 50) (μ 52) n).1 (zGa (μ 18) (μ 23) s (μ 50) (μ 52) n).2.1 (zGa (μ 18) (μ 23) s (μ 50) (μ 52) n).2.2) N = b9 ∧ ν = c9) := by
  refine Con.of (by decide) (Nat.le_of_ble_eq_true rfl) ?_
  show Am l G mX8_bestOrder 0 [(0, .ref 44), (1, .int s), (2, .int (-1))] [] μ ν _
  have f0 : zFc μ (mGa (gSt μ) (zGa (μ 18) (μ 23) s (μ 50) (μ 52) n).1 (zGa (μ 18) (μ 23) s (μ 50) (μ 52) n).2.1 (zGa (μ 18) (μ 23) s (μ 50) (μ 52) n).2.2) := gSt_fc.tr zFc.ga
  have hF : ∀ (i : Nat) (M : Mem), zFc M (gOr (zGa (μ 18) (μ 23) s (μ 50) (μ 52) n).1 i M) := fun i M => gOr_fc
  have f1 : ∀ i, zFc μ (gSe (fun i M => gOr (zGa (μ 18) (μ 23) s (μ 50) (μ 52) n).1 i M) (fun _ => true) nI n (mGa (gSt μ) (zGa (μ 18) (μ 23) s (μ 50) (μ 52) n).1 (zGa (μ 18) (μ 23) s (μ 50) (μ 52) n).2.1 (zGa (μ 18) (μ 23) s (μ 50) (μ 52) n).2.2) i) := fun i => f0.tr (gSe_fc hz6 (f0.sd hsd) hF i)
  have f2 : ∀ i, zFc μ (gOr (zGa (μ 18) (μ 23) s (μ 50) (μ 52) n).1 i (gSe (fun i M => gOr (zGa (μ 18) (μ 23) s (μ 50) (μ 52) n).1 i M) (fun _ => true) nI n (mGa (gSt μ) (zGa (μ 18) (μ 23) s (μ 50) (μ 52) n).1 (zGa (μ 18) (μ 23) s (μ 50) (μ 52) n).2.1 (zGa (μ 18) (μ 23) s (μ 50) (μ 52) n).2.2) i)) := fun i => (f1 i).tr gOr_fc
  have hcn : (zGa (μ 18) (μ 23) s (μ 50) (μ 52) n).1 ≤ n := zGa_le n
  have hc6 : (zGa (μ 18) (μ 23) s (μ 50) (μ 52) n).1 ≤ 6 := by omega
  have e2 : ∀ i q, 44 < q → q ≠ 46 → q ≠ 51 → (gSe (fun i M => gOr (zGa (μ 18) (μ 23) s (μ 50) (μ 52) n).1 i M) (fun _ => true) nI n (mGa (gSt μ) (zGa (μ 18) (μ 23) s (μ 50) (μ 52) n).1 (zGa (μ 18) (μ 23) s (μ 50) (μ 52) n).2.1 (zGa (μ 18) (μ 23) s (μ 50) (μ 52) n).2.2) i) q = (mGa (gSt μ) (zGa (μ 18) (μ 23) s (μ 50) (μ 52) n).1 (zGa (μ 18) (μ 23) s (μ 50) (μ 52) n).2.1 (zGa (μ 18) (μ 23) s (μ 50) (μ 52) n).2.2) q := by
    intro i
    induction i with
    | zero => intro q _ _ _; rfl
    | succ i ih =>
      intro q h1 h2 h3
      rw [gSe]
      split
      · exact ih q h1 h2 h3
      · rw [if_pos rfl, gWeigh_ne hz6 ((f2 i).sd hsd) h1]
        exact (gOr_ne h3 h2).trans (ih q h1 h2 h3)
  have hc : ∀ i, (gSe (fun i M => gOr (zGa (μ 18) (μ 23) s (μ 50) (μ 52) n).1 i M) (fun _ => true) nI n (mGa (gSt μ) (zGa (μ 18) (μ 23) s (μ 50) (μ 52) n).1 (zGa (μ 18) (μ 23) s (μ 50) (μ 52) n).2.1 (zGa (μ 18) (μ 23) s (μ 50) (μ 52) n).2.2) i) 49 3 = nI (zGa (μ 18) (μ 23) s (μ 50) (μ 52) n).1 := fun i => by rw [e2 i 49 (by decide) (by decide) (by decide)]; rfl
  have h52 : ∀ i, (gSe (fun i M => gOr (zGa (μ 18) (μ 23) s (μ 50) (μ 52) n).1 i M) (fun _ => true) nI n (mGa (gSt μ) (zGa (μ 18) (μ 23) s (μ 50) (μ 52) n).1 (zGa (μ 18) (μ 23) s (μ 50) (μ 52) n).2.1 (zGa (μ 18) (μ 23) s (μ 50) (μ 52) n).2.2) i) 52 = (zGa (μ 18) (μ 23) s (μ 50) (μ 52) n).2.2 := fun i => e2 i 52 (by decide) (by decide) (by decide)
  have hin : ∀ i p, p < (zGa (μ 18) (μ 23) s (μ 50) (μ 52) n).1 → ∃ v : Nat, v < 6 ∧ va_cpy ((gSe (fun i M => gOr (zGa (μ 18) (μ 23) s (μ 50) (μ 52) n).1 i M) (fun _ => true) nI n (mGa (gSt μ) (zGa (μ 18) (μ 23) s (μ 50) (μ 52) n).1 (zGa (μ 18) (μ 23) s (μ 50) (μ 52) n).2.1 (zGa (μ 18) (μ 23) s (μ 50) (μ 52) n).2.2) i) 52) ((gSe (fun i M => gOr (zGa (μ 18) (μ 23) s (μ 50) (μ 52) n).1 i M) (fun _ => true) nI n (mGa (gSt μ) (zGa (μ 18) (μ 23) s (μ 50) (μ 52) n).1 (zGa (μ 18) (μ 23) s (μ 50) (μ 52) n).2.1 (zGa (μ 18) (μ 23) s (μ 50) (μ 52) n).2.2) i) 51) 0 0 (zGa (μ 18) (μ 23) s (μ 50) (μ 52) n).1 p = nI v := fun i p hp => by
    unfold va_cpy
    rw [if_pos (by omega), h52 i, show 0 + (p - 0) = p by omega]
    obtain ⟨v, v1, v2⟩ := zGa_in n p hp
    exact ⟨v, by omega, v2⟩
  have hseat : ∀ i, i < zFa (zGa (μ 18) (μ 23) s (μ 50) (μ 52) n).1 → ∀ p, p < (zGa (μ 18) (μ 23) s (μ 50) (μ 52) n).1 → ∃ v : Nat, v < 6 ∧ (zSb (zGa (μ 18) (μ 23) s (μ 50) (μ 52) n).1 i (va_cpy ((gSe (fun i M => gOr (zGa (μ 18) (μ 23) s (μ 50) (μ 52) n).1 i M) (fun _ => true) nI n (mGa (gSt μ) (zGa (μ 18) (μ 23) s (μ 50) (μ 52) n).1 (zGa (μ 18) (μ 23) s (μ 50) (μ 52) n).2.1 (zGa (μ 18) (μ 23) s (μ 50) (μ 52) n).2.2) i) 52) ((gSe (fun i M => gOr (zGa (μ 18) (μ 23) s (μ 50) (μ 52) n).1 i M) (fun _ => true) nI n (mGa (gSt μ) (zGa (μ 18) (μ 23) s (μ 50) (μ 52) n).1 (zGa (μ 18) (μ 23) s (μ 50) (μ 52) n).2.1 (zGa (μ 18) (μ 23) s (μ 50) (μ 52) n).2.2) i) 51) 0 0 (zGa (μ 18) (μ 23) s (μ 50) (μ 52) n).1) (zGa (μ 18) (μ 23) s (μ 50) (μ 52) n).1).2 p = nI v := fun i hi p hp => zSb_in (P := fun x => ∃ v : Nat, v < 6 ∧ x = nI v) hi (hin i) _ (Nat.le_refl _) p hp
  have hfa := zFa_le hc6
  have hT : ∀ xx : Int32, Am l G mX8_bestOrder 70 [(3, .int xx), (0, .ref 44), (1, .int s), (2, .int (-1))] [] (gSe (fun i M => gOr (zGa (μ 18) (μ 23) s (μ 50) (μ 52) n).1 i M) (fun _ => true) nI n (mGa (gSt μ) (zGa (μ 18) (μ 23) s (μ 50) (μ 52) n).1 (zGa (μ 18) (μ 23) s (μ 50) (μ 52) n).2.1 (zGa (μ 18) (μ 23) s (μ 50) (μ 52) n).2.2) N) ν (fun a9 b9 c9 => gSe (fun i M => gOr (zGa (μ 18) (μ 23) s (μ 50) (μ 52) n).1 i M) (fun _ => true) nI n (mGa (gSt μ) (zGa (μ 18) (μ 23) s (μ 50) (μ 52) n).1 (zGa (μ 18) (μ 23) s (μ 50) (μ 52) n).2.1 (zGa (μ 18) (μ 23) s (μ 50) (μ 52) n).2.2) N 44 6 = a9 ∧ gSe (fun i M => gOr (zGa (μ 18) (μ 23) s (μ 50) (μ 52) n).1 i M) (fun _ => true) nI n (mGa (gSt μ) (zGa (μ 18) (μ 23) s (μ 50) (μ 52) n).1 (zGa (μ 18) (μ 23) s (μ 50) (μ 52) n).2.1 (zGa (μ 18) (μ 23) s (μ 50) (μ 52) n).2.2) N = b9 ∧ ν = c9) := fun xx => by
    refine z_iload_n dX8_bestOrder_70 rfl ?_
    refine z_iconst (v := -1) dX8_bestOrder_71 rfl ?_
    refine z_icmp_ne 80 dX8_bestOrder_72 (by decide) (fun h72 => absurd (by decide) h72) (fun h72 => ?_)
    refine z_aload_n dX8_bestOrder_75 rfl ?_
    refine m_geti dX8_bestOrder_76 fX8_29 sh44 rfl ?_
    refine m_iret dX8_bestOrder_79 rfl rfl ?_
    exact ⟨rfl, rfl, rfl⟩
  have hL := m_for (l := l) (G := G) (M := mX8_bestOrder) (pc := 22) (ν := ν) (K := (fun a9 b9 c9 => gSe (fun i M => gOr (zGa (μ 18) (μ 23) s (μ 50) (μ 52) n).1 i M) (fun _ => true) nI n (mGa (gSt μ) (zGa (μ 18) (μ 23) s (μ 50) (μ 52) n).1 (zGa (μ 18) (μ 23) s (μ 50) (μ 52) n).2.1 (zGa (μ 18) (μ 23) s (μ 50) (μ 52) n).2.2) N 44 6 = a9 ∧ gSe (fun i M => gOr (zGa (μ 18) (μ 23) s (μ 50) (μ 52) n).1 i M) (fun _ => true) nI n (mGa (gSt μ) (zGa (μ 18) (μ 23) s (μ 50) (μ 52) n).1 (zGa (μ 18) (μ 23) s (μ 50) (μ 52) n).2.1 (zGa (μ 18) (μ 23) s (μ 50) (μ 52) n).2.2) N = b9 ∧ ν = c9)) (N := N) (fun i => [(3, .int (nI i)), (0, .ref 44), (1, .int s), (2, .int (-1))]) (fun i => gSe (fun i M => gOr (zGa (μ 18) (μ 23) s (μ 50) (μ 52) n).1 i M) (fun _ => true) nI n (mGa (gSt μ) (zGa (μ 18) (μ 23) s (μ 50) (μ 52) n).1 (zGa (μ 18) (μ 23) s (μ 50) (μ 52) n).2.1 (zGa (μ 18) (μ 23) s (μ 50) (μ 52) n).2.2) i) (fun i hi H => by
    refine z_iload_n dX8_bestOrder_22 rfl ?_
    refine z_aload_n dX8_bestOrder_23 rfl ?_
    refine m_getr dX8_bestOrder_24 fX8_21 sh44 rfl ?_
    refine m_callV (As := []) dX8_bestOrder_27 kX8_121 ⟨rfl, rfl⟩ rfl ⟨rfl, rfl⟩ rfl rfl sh49 rfl rfl (c_orders (hc i) hc6) (fun r27 μ27 ν27 hk27 => ?_)
    obtain ⟨rfl, rfl, rfl⟩ := hk27
    refine z_icmp_ge 70 dX8_bestOrder_30 (by decide) (fun h30 => absurd h30 (nI_ge (a := i) (b := zFa (zGa (μ 18) (μ 23) s (μ 50) (μ 52) n).1) (by omega) (by omega))) (fun h30 => ?_)
    refine z_aload_n dX8_bestOrder_33 rfl ?_
    refine m_geti dX8_bestOrder_34 fX8_29 sh44 rfl ?_
    refine z_if_le 70 dX8_bestOrder_37 (by decide) (fun h37 => ?_) (fun h37 => ?_)
    · skip
      rw [← gSe_end (Nat.le_of_lt hi) h37]
      exact hT _
    · skip
      refine z_aload_n dX8_bestOrder_40 rfl ?_
      refine m_getr dX8_bestOrder_41 fX8_21 sh44 rfl ?_
      refine z_iload_n dX8_bestOrder_44 rfl ?_
      refine m_callVv (As := [.int _]) dX8_bestOrder_45 kX8_109 ⟨rfl, rfl⟩ rfl ⟨rfl, rfl⟩ rfl rfl sh49 rfl rfl (c_seatBy (c := (zGa (μ 18) (μ 23) s (μ 50) (μ 52) n).1) (m := i) (hc i) hc6 (by omega)) (fun μ45 ν45 hk45 => ?_)
      obtain ⟨rfl, rfl⟩ := hk45
      refine z_aload_n dX8_bestOrder_48 rfl ?_
      refine m_getr dX8_bestOrder_49 fX8_21 sh44 rfl ?_
      refine z_aload_n dX8_bestOrder_52 rfl ?_
      refine m_getr dX8_bestOrder_53 fX8_12 sh44 rfl ?_
      refine m_callVv (As := [.ref _]) dX8_bestOrder_56 kX8_118 ⟨rfl, rfl⟩ rfl ⟨rfl, rfl⟩ rfl rfl sh49 rfl rfl (c_give (c := (zGa (μ 18) (μ 23) s (μ 50) (μ 52) n).1) (hc i) hc6 (fun p hp => by rw [va_up_self]; exact hseat i (by omega) p hp)) (fun μ56 ν56 hk56 => ?_)
      obtain ⟨rfl, rfl⟩ := hk56
      refine z_aload_n dX8_bestOrder_59 rfl ?_
      refine z_iload_n dX8_bestOrder_60 rfl ?_
      refine m_callVv (As := [.int _]) dX8_bestOrder_61 kX8_82 ⟨rfl, rfl⟩ rfl ⟨rfl, rfl⟩ rfl rfl sh44 rfl rfl (c_weigh ((f2 i).n hn) hz6 ((f2 i).sd hsd)) (fun μ61 ν61 hk61 => ?_)
      obtain ⟨rfl, rfl⟩ := hk61
      refine z_iinc (fun y => [(3, .int y), (0, .ref 44), (1, .int s), (2, .int (-1))]) dX8_bestOrder_64 rfl rfl (fun _ => rfl) (fun x3_64 ex3_64 => ?_)
      obtain rfl : x3_64 = nI (i + 1) := by rw [ex3_64]; exact nI_1 i
      refine z_goto 22 dX8_bestOrder_67 (by decide) ?_
      rw [gSe, if_neg h37, if_pos rfl] at H
      exact H) (by
    refine z_iload_n dX8_bestOrder_22 rfl ?_
    refine z_aload_n dX8_bestOrder_23 rfl ?_
    refine m_getr dX8_bestOrder_24 fX8_21 sh44 rfl ?_
    refine m_callV (As := []) dX8_bestOrder_27 kX8_121 ⟨rfl, rfl⟩ rfl ⟨rfl, rfl⟩ rfl rfl sh49 rfl rfl (c_orders (hc N) hc6) (fun r27 μ27 ν27 hk27 => ?_)
    obtain ⟨rfl, rfl, rfl⟩ := hk27
    refine z_icmp_ge 70 dX8_bestOrder_30 (by decide) (fun h30 => ?_) (fun h30 => absurd (nI_le (a := zFa (zGa (μ 18) (μ 23) s (μ 50) (μ 52) n).1) (b := N) (by omega) (by omega)) h30)
    exact hT _)
  refine z_aload_n dX8_bestOrder_0 rfl ?_
  refine m_callVv (As := []) dX8_bestOrder_1 kX8_70 ⟨rfl, rfl⟩ rfl ⟨rfl, rfl⟩ rfl rfl sh44 rfl rfl c_startSearch (fun μ1 ν1 hk1 => ?_)
  obtain ⟨rfl, rfl⟩ := hk1
  refine z_aload_n dX8_bestOrder_4 rfl ?_
  refine m_getr dX8_bestOrder_5 fX8_21 sh44 rfl ?_
  refine z_aload_n dX8_bestOrder_8 rfl ?_
  refine m_getr dX8_bestOrder_9 fX8_32 sh44 rfl ?_
  refine z_aload_n dX8_bestOrder_12 rfl ?_
  refine m_getr dX8_bestOrder_13 fX8_36 sh44 rfl ?_
  refine z_iload_n dX8_bestOrder_16 rfl ?_
  refine m_callVv (As := [.ref _, .ref _, .int _]) dX8_bestOrder_17 kX8_105 ⟨rfl, rfl⟩ rfl ⟨rfl, rfl⟩ rfl rfl sh49 rfl rfl (c_gather (μ := gSt μ) (gSt_fc.n hn) hz6) (fun μ17 ν17 hk17 => ?_)
  obtain ⟨rfl, rfl⟩ := hk17
  refine z_iconst (v := 0) dX8_bestOrder_20 rfl ?_
  refine z_istore_n (i := 3) (fun y => [(3, .int y), (0, .ref 44), (1, .int s), (2, .int (-1))]) dX8_bestOrder_21 rfl rfl (fun _ => rfl) (fun x9 e9 => ?_)
  subst e9
  exact hL 0 (Nat.zero_le _)
set_option maxRecDepth 100000 in
set_option maxHeartbeats 400000 in
theorem c_bestOrder_n {l : Launch} {G : zG} {μ : Mem} {ν : Lng} {n : Nat} (hn : μ 15 6 = nI n) (hz6 : n ≤ 6) (hsd : zSides μ n) {s : Int32} {N : Nat} (hN : N = zFa (zGa (μ 18) (μ 23) s (μ 50) (μ 52) n).1) {x : Int32} (hx : x < 0 ∨ nI (zGa (μ 18) (μ 23) s (μ 50) (μ 52) n).1 ≤ x) (hne : ¬ x = -1)  : Cm l G mX8_bestOrder [.ref 44, .int s, .int x] μ ν (fun a9 b9 c9 => (-1) = a9 ∧ gSe (fun i M => gOr (zGa (μ 18) (μ 23) s (μ 50) (μ 52) n).1 i M) (fun _ => true) nI n (mGa (gSt μ) (zGa (μ 18) (μ 23) s (μ 50) (μ 52) n).1 (zGa (μ 18) (μ 23) s (μ 50) (μ 52) n).2.1 (zGa (μ 18) (μ 23) s (μ 50) (μ 52) n).2.2) N = b9 ∧ ν = c9) := by
  refine Con.of (by decide) (Nat.le_of_ble_eq_true rfl) ?_
  show Am l G mX8_bestOrder 0 [(0, .ref 44), (1, .int s), (2, .int x)] [] μ ν _
  have f0 : zFc μ (mGa (gSt μ) (zGa (μ 18) (μ 23) s (μ 50) (μ 52) n).1 (zGa (μ 18) (μ 23) s (μ 50) (μ 52) n).2.1 (zGa (μ 18) (μ 23) s (μ 50) (μ 52) n).2.2) := gSt_fc.tr zFc.ga
  have hF : ∀ (i : Nat) (M : Mem), zFc M (gOr (zGa (μ 18) (μ 23) s (μ 50) (μ 52) n).1 i M) := fun i M => gOr_fc
  have f1 : ∀ i, zFc μ (gSe (fun i M => gOr (zGa (μ 18) (μ 23) s (μ 50) (μ 52) n).1 i M) (fun _ => true) nI n (mGa (gSt μ) (zGa (μ 18) (μ 23) s (μ 50) (μ 52) n).1 (zGa (μ 18) (μ 23) s (μ 50) (μ 52) n).2.1 (zGa (μ 18) (μ 23) s (μ 50) (μ 52) n).2.2) i) := fun i => f0.tr (gSe_fc hz6 (f0.sd hsd) hF i)
  have f2 : ∀ i, zFc μ (gOr (zGa (μ 18) (μ 23) s (μ 50) (μ 52) n).1 i (gSe (fun i M => gOr (zGa (μ 18) (μ 23) s (μ 50) (μ 52) n).1 i M) (fun _ => true) nI n (mGa (gSt μ) (zGa (μ 18) (μ 23) s (μ 50) (μ 52) n).1 (zGa (μ 18) (μ 23) s (μ 50) (μ 52) n).2.1 (zGa (μ 18) (μ 23) s (μ 50) (μ 52) n).2.2) i)) := fun i => (f1 i).tr gOr_fc
  have hcn : (zGa (μ 18) (μ 23) s (μ 50) (μ 52) n).1 ≤ n := zGa_le n
  have hc6 : (zGa (μ 18) (μ 23) s (μ 50) (μ 52) n).1 ≤ 6 := by omega
  have e2 : ∀ i q, 44 < q → q ≠ 46 → q ≠ 51 → (gSe (fun i M => gOr (zGa (μ 18) (μ 23) s (μ 50) (μ 52) n).1 i M) (fun _ => true) nI n (mGa (gSt μ) (zGa (μ 18) (μ 23) s (μ 50) (μ 52) n).1 (zGa (μ 18) (μ 23) s (μ 50) (μ 52) n).2.1 (zGa (μ 18) (μ 23) s (μ 50) (μ 52) n).2.2) i) q = (mGa (gSt μ) (zGa (μ 18) (μ 23) s (μ 50) (μ 52) n).1 (zGa (μ 18) (μ 23) s (μ 50) (μ 52) n).2.1 (zGa (μ 18) (μ 23) s (μ 50) (μ 52) n).2.2) q := by
    intro i
    induction i with
    | zero => intro q _ _ _; rfl
    | succ i ih =>
      intro q h1 h2 h3
      rw [gSe]
      split
      · exact ih q h1 h2 h3
      · rw [if_pos rfl, gWeigh_ne hz6 ((f2 i).sd hsd) h1]
        exact (gOr_ne h3 h2).trans (ih q h1 h2 h3)
  have hc : ∀ i, (gSe (fun i M => gOr (zGa (μ 18) (μ 23) s (μ 50) (μ 52) n).1 i M) (fun _ => true) nI n (mGa (gSt μ) (zGa (μ 18) (μ 23) s (μ 50) (μ 52) n).1 (zGa (μ 18) (μ 23) s (μ 50) (μ 52) n).2.1 (zGa (μ 18) (μ 23) s (μ 50) (μ 52) n).2.2) i) 49 3 = nI (zGa (μ 18) (μ 23) s (μ 50) (μ 52) n).1 := fun i => by rw [e2 i 49 (by decide) (by decide) (by decide)]; rfl
  have h52 : ∀ i, (gSe (fun i M => gOr (zGa (μ 18) (μ 23) s (μ 50) (μ 52) n).1 i M) (fun _ => true) nI n (mGa (gSt μ) (zGa (μ 18) (μ 23) s (μ 50) (μ 52) n).1 (zGa (μ 18) (μ 23) s (μ 50) (μ 52) n).2.1 (zGa (μ 18) (μ 23) s (μ 50) (μ 52) n).2.2) i) 52 = (zGa (μ 18) (μ 23) s (μ 50) (μ 52) n).2.2 := fun i => e2 i 52 (by decide) (by decide) (by decide)
  have hin : ∀ i p, p < (zGa (μ 18) (μ 23) s (μ 50) (μ 52) n).1 → ∃ v : Nat, v < 6 ∧ va_cpy ((gSe (fun i M => gOr (zGa (μ 18) (μ 23) s (μ 50) (μ 52) n).1 i M) (fun _ => true) nI n (mGa (gSt μ) (zGa (μ 18) (μ 23) s (μ 50) (μ 52) n).1 (zGa (μ 18) (μ 23) s (μ 50) (μ 52) n).2.1 (zGa (μ 18) (μ 23) s (μ 50) (μ 52) n).2.2) i) 52) ((gSe (fun i M => gOr (zGa (μ 18) (μ 23) s (μ 50) (μ 52) n).1 i M) (fun _ => true) nI n (mGa (gSt μ) (zGa (μ 18) (μ 23) s (μ 50) (μ 52) n).1 (zGa (μ 18) (μ 23) s (μ 50) (μ 52) n).2.1 (zGa (μ 18) (μ 23) s (μ 50) (μ 52) n).2.2) i) 51) 0 0 (zGa (μ 18) (μ 23) s (μ 50) (μ 52) n).1 p = nI v := fun i p hp => by
    unfold va_cpy
    rw [if_pos (by omega), h52 i, show 0 + (p - 0) = p by omega]
    obtain ⟨v, v1, v2⟩ := zGa_in n p hp
    exact ⟨v, by omega, v2⟩
  have hseat : ∀ i, i < zFa (zGa (μ 18) (μ 23) s (μ 50) (μ 52) n).1 → ∀ p, p < (zGa (μ 18) (μ 23) s (μ 50) (μ 52) n).1 → ∃ v : Nat, v < 6 ∧ (zSb (zGa (μ 18) (μ 23) s (μ 50) (μ 52) n).1 i (va_cpy ((gSe (fun i M => gOr (zGa (μ 18) (μ 23) s (μ 50) (μ 52) n).1 i M) (fun _ => true) nI n (mGa (gSt μ) (zGa (μ 18) (μ 23) s (μ 50) (μ 52) n).1 (zGa (μ 18) (μ 23) s (μ 50) (μ 52) n).2.1 (zGa (μ 18) (μ 23) s (μ 50) (μ 52) n).2.2) i) 52) ((gSe (fun i M => gOr (zGa (μ 18) (μ 23) s (μ 50) (μ 52) n).1 i M) (fun _ => true) nI n (mGa (gSt μ) (zGa (μ 18) (μ 23) s (μ 50) (μ 52) n).1 (zGa (μ 18) (μ 23) s (μ 50) (μ 52) n).2.1 (zGa (μ 18) (μ 23) s (μ 50) (μ 52) n).2.2) i) 51) 0 0 (zGa (μ 18) (μ 23) s (μ 50) (μ 52) n).1) (zGa (μ 18) (μ 23) s (μ 50) (μ 52) n).1).2 p = nI v := fun i hi p hp => zSb_in (P := fun x => ∃ v : Nat, v < 6 ∧ x = nI v) hi (hin i) _ (Nat.le_refl _) p hp
  have hfa := zFa_le hc6
  have hT : ∀ xx : Int32, Am l G mX8_bestOrder 70 [(3, .int xx), (0, .ref 44), (1, .int s), (2, .int x)] [] (gSe (fun i M => gOr (zGa (μ 18) (μ 23) s (μ 50) (μ 52) n).1 i M) (fun _ => true) nI n (mGa (gSt μ) (zGa (μ 18) (μ 23) s (μ 50) (μ 52) n).1 (zGa (μ 18) (μ 23) s (μ 50) (μ 52) n).2.1 (zGa (μ 18) (μ 23) s (μ 50) (μ 52) n).2.2) N) ν (fun a9 b9 c9 => (-1) = a9 ∧ gSe (fun i M => gOr (zGa (μ 18) (μ 23) s (μ 50) (μ 52) n).1 i M) (fun _ => true) nI n (mGa (gSt μ) (zGa (μ 18) (μ 23) s (μ 50) (μ 52) n).1 (zGa (μ 18) (μ 23) s (μ 50) (μ 52) n).2.1 (zGa (μ 18) (μ 23) s (μ 50) (μ 52) n).2.2) N = b9 ∧ ν = c9) := fun xx => by
    refine z_iload_n dX8_bestOrder_70 rfl ?_
    refine z_iconst (v := -1) dX8_bestOrder_71 rfl ?_
    refine z_icmp_ne 80 dX8_bestOrder_72 (by decide) (fun h72 => ?_) (fun h72 => absurd h72 hne)
    refine z_iload_n dX8_bestOrder_80 rfl ?_
    refine z_if_lt 95 dX8_bestOrder_81 (by decide) (fun h81 => ?_) (fun h81 => ?_)
    · skip
      refine z_iconst (v := -1) dX8_bestOrder_95 rfl ?_
      refine m_iret dX8_bestOrder_96 rfl rfl ?_
      exact ⟨rfl, rfl, rfl⟩
    · skip
      refine z_iload_n dX8_bestOrder_84 rfl ?_
      refine z_aload_n dX8_bestOrder_85 rfl ?_
      refine m_getr dX8_bestOrder_86 fX8_21 sh44 rfl ?_
      refine m_geti dX8_bestOrder_89 fX8_112 sh49 rfl ?_
      refine z_icmp_lt 97 dX8_bestOrder_92 (by decide) (fun h92 => (zno hx (hc N) h81 h92).elim) (fun h92 => ?_)
      refine z_iconst (v := -1) dX8_bestOrder_95 rfl ?_
      refine m_iret dX8_bestOrder_96 rfl rfl ?_
      exact ⟨rfl, rfl, rfl⟩
  have hL := m_for (l := l) (G := G) (M := mX8_bestOrder) (pc := 22) (ν := ν) (K := (fun a9 b9 c9 => (-1) = a9 ∧ gSe (fun i M => gOr (zGa (μ 18) (μ 23) s (μ 50) (μ 52) n).1 i M) (fun _ => true) nI n (mGa (gSt μ) (zGa (μ 18) (μ 23) s (μ 50) (μ 52) n).1 (zGa (μ 18) (μ 23) s (μ 50) (μ 52) n).2.1 (zGa (μ 18) (μ 23) s (μ 50) (μ 52) n).2.2) N = b9 ∧ ν = c9)) (N := N) (fun i => [(3, .int (nI i)), (0, .ref 44), (1, .int s), (2, .int x)]) (fun i => gSe (fun i M => gOr (zGa (μ 18) (μ 23) s (μ 50) (μ 52) n).1 i M) (fun _ => true) nI n (mGa (gSt μ) (zGa (μ 18) (μ 23) s (μ 50) (μ 52) n).1 (zGa (μ 18) (μ 23) s (μ 50) (μ 52) n).2.1 (zGa (μ 18) (μ 23) s (μ 50) (μ 52) n).2.2) i) (fun i hi H => by
    refine z_iload_n dX8_bestOrder_22 rfl ?_
    refine z_aload_n dX8_bestOrder_23 rfl ?_
    refine m_getr dX8_bestOrder_24 fX8_21 sh44 rfl ?_
    refine m_callV (As := []) dX8_bestOrder_27 kX8_121 ⟨rfl, rfl⟩ rfl ⟨rfl, rfl⟩ rfl rfl sh49 rfl rfl (c_orders (hc i) hc6) (fun r27 μ27 ν27 hk27 => ?_)
    obtain ⟨rfl, rfl, rfl⟩ := hk27
    refine z_icmp_ge 70 dX8_bestOrder_30 (by decide) (fun h30 => absurd h30 (nI_ge (a := i) (b := zFa (zGa (μ 18) (μ 23) s (μ 50) (μ 52) n).1) (by omega) (by omega))) (fun h30 => ?_)
    refine z_aload_n dX8_bestOrder_33 rfl ?_
    refine m_geti dX8_bestOrder_34 fX8_29 sh44 rfl ?_
    refine z_if_le 70 dX8_bestOrder_37 (by decide) (fun h37 => ?_) (fun h37 => ?_)
    · skip
      rw [← gSe_end (Nat.le_of_lt hi) h37]
      exact hT _
    · skip
      refine z_aload_n dX8_bestOrder_40 rfl ?_
      refine m_getr dX8_bestOrder_41 fX8_21 sh44 rfl ?_
      refine z_iload_n dX8_bestOrder_44 rfl ?_
      refine m_callVv (As := [.int _]) dX8_bestOrder_45 kX8_109 ⟨rfl, rfl⟩ rfl ⟨rfl, rfl⟩ rfl rfl sh49 rfl rfl (c_seatBy (c := (zGa (μ 18) (μ 23) s (μ 50) (μ 52) n).1) (m := i) (hc i) hc6 (by omega)) (fun μ45 ν45 hk45 => ?_)
      obtain ⟨rfl, rfl⟩ := hk45
      refine z_aload_n dX8_bestOrder_48 rfl ?_
      refine m_getr dX8_bestOrder_49 fX8_21 sh44 rfl ?_
      refine z_aload_n dX8_bestOrder_52 rfl ?_
      refine m_getr dX8_bestOrder_53 fX8_12 sh44 rfl ?_
      refine m_callVv (As := [.ref _]) dX8_bestOrder_56 kX8_118 ⟨rfl, rfl⟩ rfl ⟨rfl, rfl⟩ rfl rfl sh49 rfl rfl (c_give (c := (zGa (μ 18) (μ 23) s (μ 50) (μ 52) n).1) (hc i) hc6 (fun p hp => by rw [va_up_self]; exact hseat i (by omega) p hp)) (fun μ56 ν56 hk56 => ?_)
      obtain ⟨rfl, rfl⟩ := hk56
      refine z_aload_n dX8_bestOrder_59 rfl ?_
      refine z_iload_n dX8_bestOrder_60 rfl ?_
      refine m_callVv (As := [.int _]) dX8_bestOrder_61 kX8_82 ⟨rfl, rfl⟩ rfl ⟨rfl, rfl⟩ rfl rfl sh44 rfl rfl (c_weigh ((f2 i).n hn) hz6 ((f2 i).sd hsd)) (fun μ61 ν61 hk61 => ?_)
      obtain ⟨rfl, rfl⟩ := hk61
      refine z_iinc (fun y => [(3, .int y), (0, .ref 44), (1, .int s), (2, .int x)]) dX8_bestOrder_64 rfl rfl (fun _ => rfl) (fun x3_64 ex3_64 => ?_)
      obtain rfl : x3_64 = nI (i + 1) := by rw [ex3_64]; exact nI_1 i
      refine z_goto 22 dX8_bestOrder_67 (by decide) ?_
      rw [gSe, if_neg h37, if_pos rfl] at H
      exact H) (by
    refine z_iload_n dX8_bestOrder_22 rfl ?_
    refine z_aload_n dX8_bestOrder_23 rfl ?_
    refine m_getr dX8_bestOrder_24 fX8_21 sh44 rfl ?_
    refine m_callV (As := []) dX8_bestOrder_27 kX8_121 ⟨rfl, rfl⟩ rfl ⟨rfl, rfl⟩ rfl rfl sh49 rfl rfl (c_orders (hc N) hc6) (fun r27 μ27 ν27 hk27 => ?_)
    obtain ⟨rfl, rfl, rfl⟩ := hk27
    refine z_icmp_ge 70 dX8_bestOrder_30 (by decide) (fun h30 => ?_) (fun h30 => absurd (nI_le (a := zFa (zGa (μ 18) (μ 23) s (μ 50) (μ 52) n).1) (b := N) (by omega) (by omega)) h30)
    exact hT _)
  refine z_aload_n dX8_bestOrder_0 rfl ?_
  refine m_callVv (As := []) dX8_bestOrder_1 kX8_70 ⟨rfl, rfl⟩ rfl ⟨rfl, rfl⟩ rfl rfl sh44 rfl rfl c_startSearch (fun μ1 ν1 hk1 => ?_)
  obtain ⟨rfl, rfl⟩ := hk1
  refine z_aload_n dX8_bestOrder_4 rfl ?_
  refine m_getr dX8_bestOrder_5 fX8_21 sh44 rfl ?_
  refine z_aload_n dX8_bestOrder_8 rfl ?_
  refine m_getr dX8_bestOrder_9 fX8_32 sh44 rfl ?_
  refine z_aload_n dX8_bestOrder_12 rfl ?_
  refine m_getr dX8_bestOrder_13 fX8_36 sh44 rfl ?_
  refine z_iload_n dX8_bestOrder_16 rfl ?_
  refine m_callVv (As := [.ref _, .ref _, .int _]) dX8_bestOrder_17 kX8_105 ⟨rfl, rfl⟩ rfl ⟨rfl, rfl⟩ rfl rfl sh49 rfl rfl (c_gather (μ := gSt μ) (gSt_fc.n hn) hz6) (fun μ17 ν17 hk17 => ?_)
  obtain ⟨rfl, rfl⟩ := hk17
  refine z_iconst (v := 0) dX8_bestOrder_20 rfl ?_
  refine z_istore_n (i := 3) (fun y => [(3, .int y), (0, .ref 44), (1, .int s), (2, .int x)]) dX8_bestOrder_21 rfl rfl (fun _ => rfl) (fun x9 e9 => ?_)
  subst e9
  exact hL 0 (Nat.zero_le _)
set_option maxRecDepth 100000 in
set_option maxHeartbeats 400000 in
theorem c_bestOrder_w {l : Launch} {G : zG} {μ : Mem} {ν : Lng} {n : Nat} (hn : μ 15 6 = nI n) (hz6 : n ≤ 6) (hsd : zSides μ n) {s : Int32} {N : Nat} (hN : N = zFa (zGa (μ 18) (μ 23) s (μ 50) (μ 52) n).1) {j fo : Nat} (hj : j < (zGa (μ 18) (μ 23) s (μ 50) (μ 52) n).1) (hfo : gSe (fun i M => gOr (zGa (μ 18) (μ 23) s (μ 50) (μ 52) n).1 i M) (fun _ => true) nI n (mGa (gSt μ) (zGa (μ 18) (μ 23) s (μ 50) (μ 52) n).1 (zGa (μ 18) (μ 23) s (μ 50) (μ 52) n).2.1 (zGa (μ 18) (μ 23) s (μ 50) (μ 52) n).2.2) N 44 5 = nI fo) (hfo2 : fo < zFa (zGa (μ 18) (μ 23) s (μ 50) (μ 52) n).1)  : Cm l G mX8_bestOrder [.ref 44, .int s, .int (nI j)] μ ν (fun a9 b9 c9 => (zSb (zGa (μ 18) (μ 23) s (μ 50) (μ 52) n).1 fo (va_cpy ((gSe (fun i M => gOr (zGa (μ 18) (μ 23) s (μ 50) (μ 52) n).1 i M) (fun _ => true) nI n (mGa (gSt μ) (zGa (μ 18) (μ 23) s (μ 50) (μ 52) n).1 (zGa (μ 18) (μ 23) s (μ 50) (μ 52) n).2.1 (zGa (μ 18) (μ 23) s (μ 50) (μ 52) n).2.2) N) 52) ((gSe (fun i M => gOr (zGa (μ 18) (μ 23) s (μ 50) (μ 52) n).1 i M) (fun _ => true) nI n (mGa (gSt μ) (zGa (μ 18) (μ 23) s (μ 50) (μ 52) n).1 (zGa (μ 18) (μ 23) s (μ 50) (μ 52) n).2.1 (zGa (μ 18) (μ 23) s (μ 50) (μ 52) n).2.2) N) 51) 0 0 (zGa (μ 18) (μ 23) s (μ 50) (μ 52) n).1) (zGa (μ 18) (μ 23) s (μ 50) (μ 52) n).1).2 j = a9 ∧ va_up (gSe (fun i M => gOr (zGa (μ 18) (μ 23) s (μ 50) (μ 52) n).1 i M) (fun _ => true) nI n (mGa (gSt μ) (zGa (μ 18) (μ 23) s (μ 50) (μ 52) n).1 (zGa (μ 18) (μ 23) s (μ 50) (μ 52) n).2.1 (zGa (μ 18) (μ 23) s (μ 50) (μ 52) n).2.2) N) 51 (zSb (zGa (μ 18) (μ 23) s (μ 50) (μ 52) n).1 fo (va_cpy ((gSe (fun i M => gOr (zGa (μ 18) (μ 23) s (μ 50) (μ 52) n).1 i M) (fun _ => true) nI n (mGa (gSt μ) (zGa (μ 18) (μ 23) s (μ 50) (μ 52) n).1 (zGa (μ 18) (μ 23) s (μ 50) (μ 52) n).2.1 (zGa (μ 18) (μ 23) s (μ 50) (μ 52) n).2.2) N) 52) ((gSe (fun i M => gOr (zGa (μ 18) (μ 23) s (μ 50) (μ 52) n).1 i M) (fun _ => true) nI n (mGa (gSt μ) (zGa (μ 18) (μ 23) s (μ 50) (μ 52) n).1 (zGa (μ 18) (μ 23) s (μ 50) (μ 52) n).2.1 (zGa (μ 18) (μ 23) s (μ 50) (μ 52) n).2.2) N) 51) 0 0 (zGa (μ 18) (μ 23) s (μ 50) (μ 52) n).1) (zGa (μ 18) (μ 23) s (μ 50) (μ 52) n).1).2 = b9 ∧ ν = c9) := by
  refine Con.of (by decide) (Nat.le_of_ble_eq_true rfl) ?_
  show Am l G mX8_bestOrder 0 [(0, .ref 44), (1, .int s), (2, .int (nI j))] [] μ ν _
  have f0 : zFc μ (mGa (gSt μ) (zGa (μ 18) (μ 23) s (μ 50) (μ 52) n).1 (zGa (μ 18) (μ 23) s (μ 50) (μ 52) n).2.1 (zGa (μ 18) (μ 23) s (μ 50) (μ 52) n).2.2) := gSt_fc.tr zFc.ga
  have hF : ∀ (i : Nat) (M : Mem), zFc M (gOr (zGa (μ 18) (μ 23) s (μ 50) (μ 52) n).1 i M) := fun i M => gOr_fc
  have f1 : ∀ i, zFc μ (gSe (fun i M => gOr (zGa (μ 18) (μ 23) s (μ 50) (μ 52) n).1 i M) (fun _ => true) nI n (mGa (gSt μ) (zGa (μ 18) (μ 23) s (μ 50) (μ 52) n).1 (zGa (μ 18) (μ 23) s (μ 50) (μ 52) n).2.1 (zGa (μ 18) (μ 23) s (μ 50) (μ 52) n).2.2) i) := fun i => f0.tr (gSe_fc hz6 (f0.sd hsd) hF i)
  have f2 : ∀ i, zFc μ (gOr (zGa (μ 18) (μ 23) s (μ 50) (μ 52) n).1 i (gSe (fun i M => gOr (zGa (μ 18) (μ 23) s (μ 50) (μ 52) n).1 i M) (fun _ => true) nI n (mGa (gSt μ) (zGa (μ 18) (μ 23) s (μ 50) (μ 52) n).1 (zGa (μ 18) (μ 23) s (μ 50) (μ 52) n).2.1 (zGa (μ 18) (μ 23) s (μ 50) (μ 52) n).2.2) i)) := fun i => (f1 i).tr gOr_fc
  have hcn : (zGa (μ 18) (μ 23) s (μ 50) (μ 52) n).1 ≤ n := zGa_le n
  have hc6 : (zGa (μ 18) (μ 23) s (μ 50) (μ 52) n).1 ≤ 6 := by omega
  have e2 : ∀ i q, 44 < q → q ≠ 46 → q ≠ 51 → (gSe (fun i M => gOr (zGa (μ 18) (μ 23) s (μ 50) (μ 52) n).1 i M) (fun _ => true) nI n (mGa (gSt μ) (zGa (μ 18) (μ 23) s (μ 50) (μ 52) n).1 (zGa (μ 18) (μ 23) s (μ 50) (μ 52) n).2.1 (zGa (μ 18) (μ 23) s (μ 50) (μ 52) n).2.2) i) q = (mGa (gSt μ) (zGa (μ 18) (μ 23) s (μ 50) (μ 52) n).1 (zGa (μ 18) (μ 23) s (μ 50) (μ 52) n).2.1 (zGa (μ 18) (μ 23) s (μ 50) (μ 52) n).2.2) q := by
    intro i
    induction i with
    | zero => intro q _ _ _; rfl
    | succ i ih =>
      intro q h1 h2 h3
      rw [gSe]
      split
      · exact ih q h1 h2 h3
      · rw [if_pos rfl, gWeigh_ne hz6 ((f2 i).sd hsd) h1]
        exact (gOr_ne h3 h2).trans (ih q h1 h2 h3)
  have hc : ∀ i, (gSe (fun i M => gOr (zGa (μ 18) (μ 23) s (μ 50) (μ 52) n).1 i M) (fun _ => true) nI n (mGa (gSt μ) (zGa (μ 18) (μ 23) s (μ 50) (μ 52) n).1 (zGa (μ 18) (μ 23) s (μ 50) (μ 52) n).2.1 (zGa (μ 18) (μ 23) s (μ 50) (μ 52) n).2.2) i) 49 3 = nI (zGa (μ 18) (μ 23) s (μ 50) (μ 52) n).1 := fun i => by rw [e2 i 49 (by decide) (by decide) (by decide)]; rfl
  have h52 : ∀ i, (gSe (fun i M => gOr (zGa (μ 18) (μ 23) s (μ 50) (μ 52) n).1 i M) (fun _ => true) nI n (mGa (gSt μ) (zGa (μ 18) (μ 23) s (μ 50) (μ 52) n).1 (zGa (μ 18) (μ 23) s (μ 50) (μ 52) n).2.1 (zGa (μ 18) (μ 23) s (μ 50) (μ 52) n).2.2) i) 52 = (zGa (μ 18) (μ 23) s (μ 50) (μ 52) n).2.2 := fun i => e2 i 52 (by decide) (by decide) (by decide)
  have hin : ∀ i p, p < (zGa (μ 18) (μ 23) s (μ 50) (μ 52) n).1 → ∃ v : Nat, v < 6 ∧ va_cpy ((gSe (fun i M => gOr (zGa (μ 18) (μ 23) s (μ 50) (μ 52) n).1 i M) (fun _ => true) nI n (mGa (gSt μ) (zGa (μ 18) (μ 23) s (μ 50) (μ 52) n).1 (zGa (μ 18) (μ 23) s (μ 50) (μ 52) n).2.1 (zGa (μ 18) (μ 23) s (μ 50) (μ 52) n).2.2) i) 52) ((gSe (fun i M => gOr (zGa (μ 18) (μ 23) s (μ 50) (μ 52) n).1 i M) (fun _ => true) nI n (mGa (gSt μ) (zGa (μ 18) (μ 23) s (μ 50) (μ 52) n).1 (zGa (μ 18) (μ 23) s (μ 50) (μ 52) n).2.1 (zGa (μ 18) (μ 23) s (μ 50) (μ 52) n).2.2) i) 51) 0 0 (zGa (μ 18) (μ 23) s (μ 50) (μ 52) n).1 p = nI v := fun i p hp => by
    unfold va_cpy
    rw [if_pos (by omega), h52 i, show 0 + (p - 0) = p by omega]
    obtain ⟨v, v1, v2⟩ := zGa_in n p hp
    exact ⟨v, by omega, v2⟩
  have hseat : ∀ i, i < zFa (zGa (μ 18) (μ 23) s (μ 50) (μ 52) n).1 → ∀ p, p < (zGa (μ 18) (μ 23) s (μ 50) (μ 52) n).1 → ∃ v : Nat, v < 6 ∧ (zSb (zGa (μ 18) (μ 23) s (μ 50) (μ 52) n).1 i (va_cpy ((gSe (fun i M => gOr (zGa (μ 18) (μ 23) s (μ 50) (μ 52) n).1 i M) (fun _ => true) nI n (mGa (gSt μ) (zGa (μ 18) (μ 23) s (μ 50) (μ 52) n).1 (zGa (μ 18) (μ 23) s (μ 50) (μ 52) n).2.1 (zGa (μ 18) (μ 23) s (μ 50) (μ 52) n).2.2) i) 52) ((gSe (fun i M => gOr (zGa (μ 18) (μ 23) s (μ 50) (μ 52) n).1 i M) (fun _ => true) nI n (mGa (gSt μ) (zGa (μ 18) (μ 23) s (μ 50) (μ 52) n).1 (zGa (μ 18) (μ 23) s (μ 50) (μ 52) n).2.1 (zGa (μ 18) (μ 23) s (μ 50) (μ 52) n).2.2) i) 51) 0 0 (zGa (μ 18) (μ 23) s (μ 50) (μ 52) n).1) (zGa (μ 18) (μ 23) s (μ 50) (μ 52) n).1).2 p = nI v := fun i hi p hp => zSb_in (P := fun x => ∃ v : Nat, v < 6 ∧ x = nI v) hi (hin i) _ (Nat.le_refl _) p hp
  have hfa := zFa_le hc6
  have hT : ∀ xx : Int32, Am l G mX8_bestOrder 70 [(3, .int xx), (0, .ref 44), (1, .int s), (2, .int (nI j))] [] (gSe (fun i M => gOr (zGa (μ 18) (μ 23) s (μ 50) (μ 52) n).1 i M) (fun _ => true) nI n (mGa (gSt μ) (zGa (μ 18) (μ 23) s (μ 50) (μ 52) n).1 (zGa (μ 18) (μ 23) s (μ 50) (μ 52) n).2.1 (zGa (μ 18) (μ 23) s (μ 50) (μ 52) n).2.2) N) ν (fun a9 b9 c9 => (zSb (zGa (μ 18) (μ 23) s (μ 50) (μ 52) n).1 fo (va_cpy ((gSe (fun i M => gOr (zGa (μ 18) (μ 23) s (μ 50) (μ 52) n).1 i M) (fun _ => true) nI n (mGa (gSt μ) (zGa (μ 18) (μ 23) s (μ 50) (μ 52) n).1 (zGa (μ 18) (μ 23) s (μ 50) (μ 52) n).2.1 (zGa (μ 18) (μ 23) s (μ 50) (μ 52) n).2.2) N) 52) ((gSe (fun i M => gOr (zGa (μ 18) (μ 23) s (μ 50) (μ 52) n).1 i M) (fun _ => true) nI n (mGa (gSt μ) (zGa (μ 18) (μ 23) s (μ 50) (μ 52) n).1 (zGa (μ 18) (μ 23) s (μ 50) (μ 52) n).2.1 (zGa (μ 18) (μ 23) s (μ 50) (μ 52) n).2.2) N) 51) 0 0 (zGa (μ 18) (μ 23) s (μ 50) (μ 52) n).1) (zGa (μ 18) (μ 23) s (μ 50) (μ 52) n).1).2 j = a9 ∧ va_up (gSe (fun i M => gOr (zGa (μ 18) (μ 23) s (μ 50) (μ 52) n).1 i M) (fun _ => true) nI n (mGa (gSt μ) (zGa (μ 18) (μ 23) s (μ 50) (μ 52) n).1 (zGa (μ 18) (μ 23) s (μ 50) (μ 52) n).2.1 (zGa (μ 18) (μ 23) s (μ 50) (μ 52) n).2.2) N) 51 (zSb (zGa (μ 18) (μ 23) s (μ 50) (μ 52) n).1 fo (va_cpy ((gSe (fun i M => gOr (zGa (μ 18) (μ 23) s (μ 50) (μ 52) n).1 i M) (fun _ => true) nI n (mGa (gSt μ) (zGa (μ 18) (μ 23) s (μ 50) (μ 52) n).1 (zGa (μ 18) (μ 23) s (μ 50) (μ 52) n).2.1 (zGa (μ 18) (μ 23) s (μ 50) (μ 52) n).2.2) N) 52) ((gSe (fun i M => gOr (zGa (μ 18) (μ 23) s (μ 50) (μ 52) n).1 i M) (fun _ => true) nI n (mGa (gSt μ) (zGa (μ 18) (μ 23) s (μ 50) (μ 52) n).1 (zGa (μ 18) (μ 23) s (μ 50) (μ 52) n).2.1 (zGa (μ 18) (μ 23) s (μ 50) (μ 52) n).2.2) N) 51) 0 0 (zGa (μ 18) (μ 23) s (μ 50) (μ 52) n).1) (zGa (μ 18) (μ 23) s (μ 50) (μ 52) n).1).2 = b9 ∧ ν = c9) := fun xx => by
    refine z_iload_n dX8_bestOrder_70 rfl ?_
    refine z_iconst (v := -1) dX8_bestOrder_71 rfl ?_
    refine z_icmp_ne 80 dX8_bestOrder_72 (by decide) (fun h72 => ?_) (fun h72 => absurd h72 (nI_ne_m1 (by omega)))
    refine z_iload_n dX8_bestOrder_80 rfl ?_
    refine z_if_lt 95 dX8_bestOrder_81 (by decide) (fun h81 => absurd h81 (nI_nlt (a := j) (b := 0) (by omega) (by omega))) (fun h81 => ?_)
    refine z_iload_n dX8_bestOrder_84 rfl ?_
    refine z_aload_n dX8_bestOrder_85 rfl ?_
    refine m_getr dX8_bestOrder_86 fX8_21 sh44 rfl ?_
    refine m_geti dX8_bestOrder_89 fX8_112 sh49 rfl ?_
    refine z_icmp_lt 97 dX8_bestOrder_92 (by decide) (fun h92 => ?_) (fun h92 => absurd (by rw [hc N]; exact nI_lt hj (by omega)) h92)
    refine z_aload_n dX8_bestOrder_97 rfl ?_
    refine m_getr dX8_bestOrder_98 fX8_21 sh44 rfl ?_
    refine z_aload_n dX8_bestOrder_101 rfl ?_
    refine m_geti dX8_bestOrder_102 fX8_25 sh44 rfl ?_
    rw [hfo]
    refine m_callVv (As := [.int _]) dX8_bestOrder_105 kX8_109 ⟨rfl, rfl⟩ rfl ⟨rfl, rfl⟩ rfl rfl sh49 rfl rfl (c_seatBy (c := (zGa (μ 18) (μ 23) s (μ 50) (μ 52) n).1) (m := fo) (hc N) hc6 hfo2) (fun μ105 ν105 hk105 => ?_)
    obtain ⟨rfl, rfl⟩ := hk105
    refine z_aload_n dX8_bestOrder_108 rfl ?_
    refine m_getr dX8_bestOrder_109 fX8_21 sh44 rfl ?_
    refine m_getr dX8_bestOrder_112 fX8_124 sh49 rfl ?_
    refine z_iload_n dX8_bestOrder_115 rfl ?_
    refine m_ialdN (j := j) dX8_bestOrder_116 sh51 rfl (by omega) rfl ?_
    refine m_iret dX8_bestOrder_117 rfl rfl ?_
    exact ⟨congrFun (va_up_self _ _ _).symm j, rfl, rfl⟩
  have hL := m_for (l := l) (G := G) (M := mX8_bestOrder) (pc := 22) (ν := ν) (K := (fun a9 b9 c9 => (zSb (zGa (μ 18) (μ 23) s (μ 50) (μ 52) n).1 fo (va_cpy ((gSe (fun i M => gOr (zGa (μ 18) (μ 23) s (μ 50) (μ 52) n).1 i M) (fun _ => true) nI n (mGa (gSt μ) (zGa (μ 18) (μ 23) s (μ 50) (μ 52) n).1 (zGa (μ 18) (μ 23) s (μ 50) (μ 52) n).2.1 (zGa (μ 18) (μ 23) s (μ 50) (μ 52) n).2.2) N) 52) ((gSe (fun i M => gOr (zGa (μ 18) (μ 23) s (μ 50) (μ 52) n).1 i M) (fun _ => true) nI n (mGa (gSt μ) (zGa (μ 18) (μ 23) s (μ 50) (μ 52) n).1 (zGa (μ 18) (μ 23) s (μ 50) (μ 52) n).2.1 (zGa (μ 18) (μ 23) s (μ 50) (μ 52) n).2.2) N) 51) 0 0 (zGa (μ 18) (μ 23) s (μ 50) (μ 52) n).1) (zGa (μ 18) (μ 23) s (μ 50) (μ 52) n).1).2 j = a9 ∧ va_up (gSe (fun i M => gOr (zGa (μ 18) (μ 23) s (μ 50) (μ 52) n).1 i M) (fun _ => true) nI n (mGa (gSt μ) (zGa (μ 18) (μ 23) s (μ 50) (μ 52) n).1 (zGa (μ 18) (μ 23) s (μ 50) (μ 52) n).2.1 (zGa (μ 18) (μ 23) s (μ 50) (μ 52) n).2.2) N) 51 (zSb (zGa (μ 18) (μ 23) s (μ 50) (μ 52) n).1 fo (va_cpy ((gSe (fun i M => gOr (zGa (μ 18) (μ 23) s (μ 50) (μ 52) n).1 i M) (fun _ => true) nI n (mGa (gSt μ) (zGa (μ 18) (μ 23) s (μ 50) (μ 52) n).1 (zGa (μ 18) (μ 23) s (μ 50) (μ 52) n).2.1 (zGa (μ 18) (μ 23) s (μ 50) (μ 52) n).2.2) N) 52) ((gSe (fun i M => gOr (zGa (μ 18) (μ 23) s (μ 50) (μ 52) n).1 i M) (fun _ => true) nI n (mGa (gSt μ) (zGa (μ 18) (μ 23) s (μ 50) (μ 52) n).1 (zGa (μ 18) (μ 23) s (μ 50) (μ 52) n).2.1 (zGa (μ 18) (μ 23) s (μ 50) (μ 52) n).2.2) N) 51) 0 0 (zGa (μ 18) (μ 23) s (μ 50) (μ 52) n).1) (zGa (μ 18) (μ 23) s (μ 50) (μ 52) n).1).2 = b9 ∧ ν = c9)) (N := N) (fun i => [(3, .int (nI i)), (0, .ref 44), (1, .int s), (2, .int (nI j))]) (fun i => gSe (fun i M => gOr (zGa (μ 18) (μ 23) s (μ 50) (μ 52) n).1 i M) (fun _ => true) nI n (mGa (gSt μ) (zGa (μ 18) (μ 23) s (μ 50) (μ 52) n).1 (zGa (μ 18) (μ 23) s (μ 50) (μ 52) n).2.1 (zGa (μ 18) (μ 23) s (μ 50) (μ 52) n).2.2) i) (fun i hi H => by
    refine z_iload_n dX8_bestOrder_22 rfl ?_
    refine z_aload_n dX8_bestOrder_23 rfl ?_
    refine m_getr dX8_bestOrder_24 fX8_21 sh44 rfl ?_
    refine m_callV (As := []) dX8_bestOrder_27 kX8_121 ⟨rfl, rfl⟩ rfl ⟨rfl, rfl⟩ rfl rfl sh49 rfl rfl (c_orders (hc i) hc6) (fun r27 μ27 ν27 hk27 => ?_)
    obtain ⟨rfl, rfl, rfl⟩ := hk27
    refine z_icmp_ge 70 dX8_bestOrder_30 (by decide) (fun h30 => absurd h30 (nI_ge (a := i) (b := zFa (zGa (μ 18) (μ 23) s (μ 50) (μ 52) n).1) (by omega) (by omega))) (fun h30 => ?_)
    refine z_aload_n dX8_bestOrder_33 rfl ?_
    refine m_geti dX8_bestOrder_34 fX8_29 sh44 rfl ?_
    refine z_if_le 70 dX8_bestOrder_37 (by decide) (fun h37 => ?_) (fun h37 => ?_)
    · skip
      rw [← gSe_end (Nat.le_of_lt hi) h37]
      exact hT _
    · skip
      refine z_aload_n dX8_bestOrder_40 rfl ?_
      refine m_getr dX8_bestOrder_41 fX8_21 sh44 rfl ?_
      refine z_iload_n dX8_bestOrder_44 rfl ?_
      refine m_callVv (As := [.int _]) dX8_bestOrder_45 kX8_109 ⟨rfl, rfl⟩ rfl ⟨rfl, rfl⟩ rfl rfl sh49 rfl rfl (c_seatBy (c := (zGa (μ 18) (μ 23) s (μ 50) (μ 52) n).1) (m := i) (hc i) hc6 (by omega)) (fun μ45 ν45 hk45 => ?_)
      obtain ⟨rfl, rfl⟩ := hk45
      refine z_aload_n dX8_bestOrder_48 rfl ?_
      refine m_getr dX8_bestOrder_49 fX8_21 sh44 rfl ?_
      refine z_aload_n dX8_bestOrder_52 rfl ?_
      refine m_getr dX8_bestOrder_53 fX8_12 sh44 rfl ?_
      refine m_callVv (As := [.ref _]) dX8_bestOrder_56 kX8_118 ⟨rfl, rfl⟩ rfl ⟨rfl, rfl⟩ rfl rfl sh49 rfl rfl (c_give (c := (zGa (μ 18) (μ 23) s (μ 50) (μ 52) n).1) (hc i) hc6 (fun p hp => by rw [va_up_self]; exact hseat i (by omega) p hp)) (fun μ56 ν56 hk56 => ?_)
      obtain ⟨rfl, rfl⟩ := hk56
      refine z_aload_n dX8_bestOrder_59 rfl ?_
      refine z_iload_n dX8_bestOrder_60 rfl ?_
      refine m_callVv (As := [.int _]) dX8_bestOrder_61 kX8_82 ⟨rfl, rfl⟩ rfl ⟨rfl, rfl⟩ rfl rfl sh44 rfl rfl (c_weigh ((f2 i).n hn) hz6 ((f2 i).sd hsd)) (fun μ61 ν61 hk61 => ?_)
      obtain ⟨rfl, rfl⟩ := hk61
      refine z_iinc (fun y => [(3, .int y), (0, .ref 44), (1, .int s), (2, .int (nI j))]) dX8_bestOrder_64 rfl rfl (fun _ => rfl) (fun x3_64 ex3_64 => ?_)
      obtain rfl : x3_64 = nI (i + 1) := by rw [ex3_64]; exact nI_1 i
      refine z_goto 22 dX8_bestOrder_67 (by decide) ?_
      rw [gSe, if_neg h37, if_pos rfl] at H
      exact H) (by
    refine z_iload_n dX8_bestOrder_22 rfl ?_
    refine z_aload_n dX8_bestOrder_23 rfl ?_
    refine m_getr dX8_bestOrder_24 fX8_21 sh44 rfl ?_
    refine m_callV (As := []) dX8_bestOrder_27 kX8_121 ⟨rfl, rfl⟩ rfl ⟨rfl, rfl⟩ rfl rfl sh49 rfl rfl (c_orders (hc N) hc6) (fun r27 μ27 ν27 hk27 => ?_)
    obtain ⟨rfl, rfl, rfl⟩ := hk27
    refine z_icmp_ge 70 dX8_bestOrder_30 (by decide) (fun h30 => ?_) (fun h30 => absurd (nI_le (a := zFa (zGa (μ 18) (μ 23) s (μ 50) (μ 52) n).1) (b := N) (by omega) (by omega)) h30)
    exact hT _)
  refine z_aload_n dX8_bestOrder_0 rfl ?_
  refine m_callVv (As := []) dX8_bestOrder_1 kX8_70 ⟨rfl, rfl⟩ rfl ⟨rfl, rfl⟩ rfl rfl sh44 rfl rfl c_startSearch (fun μ1 ν1 hk1 => ?_)
  obtain ⟨rfl, rfl⟩ := hk1
  refine z_aload_n dX8_bestOrder_4 rfl ?_
  refine m_getr dX8_bestOrder_5 fX8_21 sh44 rfl ?_
  refine z_aload_n dX8_bestOrder_8 rfl ?_
  refine m_getr dX8_bestOrder_9 fX8_32 sh44 rfl ?_
  refine z_aload_n dX8_bestOrder_12 rfl ?_
  refine m_getr dX8_bestOrder_13 fX8_36 sh44 rfl ?_
  refine z_iload_n dX8_bestOrder_16 rfl ?_
  refine m_callVv (As := [.ref _, .ref _, .int _]) dX8_bestOrder_17 kX8_105 ⟨rfl, rfl⟩ rfl ⟨rfl, rfl⟩ rfl rfl sh49 rfl rfl (c_gather (μ := gSt μ) (gSt_fc.n hn) hz6) (fun μ17 ν17 hk17 => ?_)
  obtain ⟨rfl, rfl⟩ := hk17
  refine z_iconst (v := 0) dX8_bestOrder_20 rfl ?_
  refine z_istore_n (i := 3) (fun y => [(3, .int y), (0, .ref 44), (1, .int s), (2, .int (nI j))]) dX8_bestOrder_21 rfl rfl (fun _ => rfl) (fun x9 e9 => ?_)
  subst e9
  exact hL 0 (Nat.zero_le _)
