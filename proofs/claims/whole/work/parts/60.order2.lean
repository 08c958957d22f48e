
theorem zFa_m1 {c : Nat} : zFa (c - 1 + 1) = zFa c := by
  cases c with
  | zero => rfl
  | succ c => rfl
theorem zFr.lay {M : Mem} {f g : Nat → Int32} : zFr M (mLp M f g) := ⟨fun q h _ _ => by unfold mLp; rw [if_neg (by omega), if_neg (by omega)], rfl, rfl, fun j _ _ => rfl, fun j _ => rfl⟩
set_option maxRecDepth 100000 in
set_option maxHeartbeats 400000 in
theorem d_orderIn_c {l : Launch} {G : zG} {s : Int32} {c n N : Nat} (hN : N = zFa c) (hc : c ≤ 6) (hz6 : n ≤ 6) {R : Mem} {ν : Lng} (hpl : ∀ p, p < c → ∃ v : Nat, v < 6 ∧ R 93 p = nI v) (hn : R 66 17 = nI n) (hsd : zSidesM R n) : Am l G mX10_order 22 [(3, .int (nI c)), (0, .ref 66), (1, .int s), (2, .int (-1))] [] R ν (fun a9 b9 c9 => (rOb c n R N).2 = a9 ∧ rCp (rOb c n R N).1 75 91 0 0 21 = b9 ∧ ν = c9) := by
  have hfa : N ≤ 720 := hN ▸ zFa_le hc
  have g1 : ∀ i, i ≤ N → zFr R (rOb c n R i).1 := fun i hi => rOb_fr hc hpl i (by omega)
  have gp : ∀ i, ∀ p, p < c → ∃ v : Nat, v < 6 ∧ (rOb c n R i).1 93 p = nI v := fun i p h => by
    rw [rOb_ne (by decide) (by decide) (by decide) (by unfold zMe; omega)]
    exact hpl p h
  have g2 : ∀ i, i < N → zFr R (rOr c i (rOb c n R i).1) := fun i hi => (g1 i (by omega)).tr (rOr_fr hc (by omega) (gp i))
  have hL := m_for (l := l) (G := G) (M := mX10_order) (pc := 53) (ν := ν) (K := (fun a9 b9 c9 => (rOb c n R N).2 = a9 ∧ rCp (rOb c n R N).1 75 91 0 0 21 = b9 ∧ ν = c9)) (N := N) (fun i => [(6, .int (nI i)), (5, .int ((rOb c n R i).2)), (4, .int (nI N)), (3, .int (nI c)), (0, .ref 66), (1, .int s), (2, .int (-1))]) (fun i => (rOb c n R i).1) (fun i hi0 H0 => by
    have hC0 : rOb c n R (i + 1) = (rCp (rNow (rOr c i (rOb c n R i).1) n) 92 95 0 0 c, (rCost (rNow (rOr c i (rOb c n R i).1) n))) → ∀ k, k ≤ c → Am l G mX10_order 223 [(11, .int (nI k)), (6, .int (nI i)), (5, .int (rCost (rNow (rOr c i (rOb c n R i).1) n))), (4, .int (nI N)), (3, .int (nI c)), (0, .ref 66), (1, .int s), (2, .int (-1))] [] (rCp (rNow (rOr c i (rOb c n R i).1) n) 92 95 0 0 k) ν (fun a9 b9 c9 => (rOb c n R N).2 = a9 ∧ rCp (rOb c n R N).1 75 91 0 0 21 = b9 ∧ ν = c9) := fun e8 => by
      rw [e8] at H0
      have HX := H0
      have hC := m_for (l := l) (G := G) (M := mX10_order) (pc := 223) (ν := ν) (K := (fun a9 b9 c9 => (rOb c n R N).2 = a9 ∧ rCp (rOb c n R N).1 75 91 0 0 21 = b9 ∧ ν = c9)) (N := c) (fun k => [(11, .int (nI k)), (6, .int (nI i)), (5, .int (rCost (rNow (rOr c i (rOb c n R i).1) n))), (4, .int (nI N)), (3, .int (nI c)), (0, .ref 66), (1, .int s), (2, .int (-1))]) (fun k => rCp (rNow (rOr c i (rOb c n R i).1) n) 92 95 0 0 k) (fun k hi H => by
        refine z_iload dX10_order_223 rfl ?_
        refine z_iload_n dX10_order_225 rfl ?_
        refine z_icmp_ge 249 dX10_order_226 (by decide) (fun h226 => absurd h226 (nI_ge hi (by omega))) (fun h226 => ?_)
        refine z_aload_n dX10_order_229 rfl ?_
        refine m_getr dX10_order_230 fX10_90 sh66 rfl ?_
        refine z_iload dX10_order_233 rfl ?_
        refine z_aload_n dX10_order_235 rfl ?_
        refine m_getr dX10_order_236 fX10_99 sh66 rfl ?_
        refine z_iload dX10_order_239 rfl ?_
        refine m_ialdN (j := k) dX10_order_241 sh95 rfl (by omega) rfl ?_
        refine m_iastN (j := k) dX10_order_242 sh92 rfl (by omega) rfl ?_
        refine z_iinc (fun y => [(11, .int y), (6, .int (nI i)), (5, .int (rCost (rNow (rOr c i (rOb c n R i).1) n))), (4, .int (nI N)), (3, .int (nI c)), (0, .ref 66), (1, .int s), (2, .int (-1))]) dX10_order_243 rfl rfl (fun _ => rfl) (fun x11_243 ex11_243 => ?_)
        obtain rfl : x11_243 = nI (k + 1) := by rw [ex11_243]; exact nI_1 k
        refine z_goto 223 dX10_order_246 (by decide) ?_
        rw [show rCp (rNow (rOr c i (rOb c n R i).1) n) 92 95 0 0 (k + 1) = up2 (rCp (rNow (rOr c i (rOb c n R i).1) n) 92 95 0 0 k) 92 (0 + k) (rCp (rNow (rOr c i (rOb c n R i).1) n) 92 95 0 0 k 95 (0 + k)) from rfl, Nat.zero_add] at H
        exact H) (by
        refine z_iload dX10_order_223 rfl ?_
        refine z_iload_n dX10_order_225 rfl ?_
        refine z_icmp_ge 249 dX10_order_226 (by decide) (fun h226 => ?_) (fun h226 => absurd (nI_le (Nat.le_refl c) (by omega)) h226)
        refine z_iinc (fun y => [(6, .int y), (11, .int (nI c)), (5, .int (rCost (rNow (rOr c i (rOb c n R i).1) n))), (4, .int (nI N)), (3, .int (nI c)), (0, .ref 66), (1, .int s), (2, .int (-1))]) dX10_order_249 rfl rfl (fun _ => rfl) (fun x6_249 ex6_249 => ?_)
        obtain rfl : x6_249 = nI (i + 1) := by rw [ex6_249]; exact nI_1 i
        refine z_goto 53 dX10_order_252 (by decide) ?_
        refine z_lv [0, 2, 3, 4, 5, 6, 7] rfl ?_
        exact HX)
      exact hC
    have h197 : ∀ x10 x9 x8 x7 : Int32, Am l G mX10_order 197 [(10, .int x10), (9, .int x9), (8, .int x8), (7, .int x7), (6, .int (nI i)), (5, .int ((rOb c n R i).2)), (4, .int (nI N)), (3, .int (nI c)), (0, .ref 66), (1, .int s), (2, .int (-1))] [] (rOr c i (rOb c n R i).1) ν (fun a9 b9 c9 => (rOb c n R N).2 = a9 ∧ rCp (rOb c n R N).1 75 91 0 0 21 = b9 ∧ ν = c9) := fun x10 x9 x8 x7 => by
      refine z_aload_n dX10_order_197 rfl ?_
      refine m_callV (As := []) dX10_order_198 kX10_223 ⟨rfl, rfl⟩ rfl ⟨rfl, rfl⟩ rfl rfl sh66 rfl rfl (d_cost ((g2 i hi0).n hn) hz6 ((g2 i hi0).sd hsd)) (fun r198 μ198 ν198 hk198 => ?_)
      obtain ⟨rfl, rfl, rfl⟩ := hk198
      refine z_istore (i := 10) (fun y => [(10, .int y), (9, .int x9), (8, .int x8), (7, .int x7), (6, .int (nI i)), (5, .int ((rOb c n R i).2)), (4, .int (nI N)), (3, .int (nI c)), (0, .ref 66), (1, .int s), (2, .int (-1))]) dX10_order_201 rfl (fun _ => rfl) (fun x9 e9 => ?_)
      subst e9
      refine z_iload dX10_order_203 rfl ?_
      refine z_iconst (v := -1) dX10_order_205 rfl ?_
      refine z_icmp_eq 216 dX10_order_206 (by decide) (fun h206 => ?_) (fun h206 => ?_)
      · skip
        refine z_iload dX10_order_216 rfl ?_
        refine z_istore (i := 5) (fun y => [(5, .int y), (10, .int (rCost (rNow (rOr c i (rOb c n R i).1) n))), (9, .int x9), (8, .int x8), (7, .int x7), (6, .int (nI i)), (4, .int (nI N)), (3, .int (nI c)), (0, .ref 66), (1, .int s), (2, .int (-1))]) dX10_order_218 rfl (fun _ => rfl) (fun x9 e9 => ?_)
        subst e9
        refine z_iconst (v := 0) dX10_order_220 rfl ?_
        refine z_istore (i := 11) (fun y => [(11, .int y), (5, .int (rCost (rNow (rOr c i (rOb c n R i).1) n))), (10, .int (rCost (rNow (rOr c i (rOb c n R i).1) n))), (9, .int x9), (8, .int x8), (7, .int x7), (6, .int (nI i)), (4, .int (nI N)), (3, .int (nI c)), (0, .ref 66), (1, .int s), (2, .int (-1))]) dX10_order_221 rfl (fun _ => rfl) (fun x9 e9 => ?_)
        subst e9
        refine z_lv [0, 6, 1, 7, 8, 9, 10, 11] rfl ?_
        exact hC0 (if_pos h206) 0 (Nat.zero_le c)
      · skip
        refine z_iload dX10_order_209 rfl ?_
        refine z_iload dX10_order_211 rfl ?_
        refine z_icmp_ge 249 dX10_order_213 (by decide) (fun h213 => ?_) (fun h213 => ?_)
        · skip
          refine z_iinc (fun y => [(6, .int y), (10, .int (rCost (rNow (rOr c i (rOb c n R i).1) n))), (9, .int x9), (8, .int x8), (7, .int x7), (5, .int ((rOb c n R i).2)), (4, .int (nI N)), (3, .int (nI c)), (0, .ref 66), (1, .int s), (2, .int (-1))]) dX10_order_249 rfl rfl (fun _ => rfl) (fun x6_249 ex6_249 => ?_)
          obtain rfl : x6_249 = nI (i + 1) := by rw [ex6_249]; exact nI_1 i
          refine z_goto 53 dX10_order_252 (by decide) ?_
          refine z_lv [0, 5, 6, 7, 8, 9, 10] rfl ?_
          rw [show rOb c n R (i + 1) = ((rNow (rOr c i (rOb c n R i).1) n), (rOb c n R i).2) from (if_neg h206).trans (if_pos h213)] at H0
          exact H0
        · skip
          refine z_iload dX10_order_216 rfl ?_
          refine z_istore (i := 5) (fun y => [(5, .int y), (10, .int (rCost (rNow (rOr c i (rOb c n R i).1) n))), (9, .int x9), (8, .int x8), (7, .int x7), (6, .int (nI i)), (4, .int (nI N)), (3, .int (nI c)), (0, .ref 66), (1, .int s), (2, .int (-1))]) dX10_order_218 rfl (fun _ => rfl) (fun x9 e9 => ?_)
          subst e9
          refine z_iconst (v := 0) dX10_order_220 rfl ?_
          refine z_istore (i := 11) (fun y => [(11, .int y), (5, .int (rCost (rNow (rOr c i (rOb c n R i).1) n))), (10, .int (rCost (rNow (rOr c i (rOb c n R i).1) n))), (9, .int x9), (8, .int x8), (7, .int x7), (6, .int (nI i)), (4, .int (nI N)), (3, .int (nI c)), (0, .ref 66), (1, .int s), (2, .int (-1))]) dX10_order_221 rfl (fun _ => rfl) (fun x9 e9 => ?_)
          subst e9
          refine z_lv [0, 6, 1, 7, 8, 9, 10, 11] rfl ?_
          exact hC0 ((if_neg h206).trans (if_neg h213)) 0 (Nat.zero_le c)
    refine z_iload dX10_order_53 rfl ?_
    refine z_iload dX10_order_55 rfl ?_
    refine z_icmp_ge 255 dX10_order_57 (by decide) (fun h57 => absurd h57 (nI_ge (a := i) (b := N) hi0 (by omega))) (fun h57 => ?_)
    refine z_iload dX10_order_60 rfl ?_
    refine z_istore (i := 7) (fun y => [(7, .int y), (6, .int (nI i)), (5, .int ((rOb c n R i).2)), (4, .int (nI N)), (3, .int (nI c)), (0, .ref 66), (1, .int s), (2, .int (-1))]) dX10_order_62 rfl (fun _ => rfl) (fun x9 e9 => ?_)
    subst e9
    refine z_iconst (v := 0) dX10_order_64 rfl ?_
    refine z_istore (i := 8) (fun y => [(8, .int y), (7, .int (nI i)), (6, .int (nI i)), (5, .int ((rOb c n R i).2)), (4, .int (nI N)), (3, .int (nI c)), (0, .ref 66), (1, .int s), (2, .int (-1))]) dX10_order_65 rfl (fun _ => rfl) (fun x9 e9 => ?_)
    subst e9
    refine z_iload dX10_order_67 rfl ?_
    refine z_istore (i := 9) (fun y => [(9, .int y), (8, .int 0), (7, .int (nI i)), (6, .int (nI i)), (5, .int ((rOb c n R i).2)), (4, .int (nI N)), (3, .int (nI c)), (0, .ref 66), (1, .int s), (2, .int (-1))]) dX10_order_69 rfl (fun _ => rfl) (fun x9 e9 => ?_)
    subst e9
    refine z_iconst (v := 0) dX10_order_71 rfl ?_
    refine z_istore (i := 10) (fun y => [(10, .int y), (9, .int (nI N)), (8, .int 0), (7, .int (nI i)), (6, .int (nI i)), (5, .int ((rOb c n R i).2)), (4, .int (nI N)), (3, .int (nI c)), (0, .ref 66), (1, .int s), (2, .int (-1))]) dX10_order_72 rfl (fun _ => rfl) (fun x9 e9 => ?_)
    subst e9
    have hr := d_row (l := l) (G := G) (e5 := (rOb c n R i).2) (r4 := nI N) (s1 := s) (w2 := (-1)) hc (i := i) (by omega) (gp i) h197
    rw [← hN] at hr
    exact hr) (by
    refine z_iload dX10_order_53 rfl ?_
    refine z_iload dX10_order_55 rfl ?_
    refine z_icmp_ge 255 dX10_order_57 (by decide) (fun h57 => ?_) (fun h57 => absurd (nI_le (Nat.le_refl N) (by omega)) h57)
    refine z_aload_n dX10_order_255 rfl ?_
    refine m_callVv (As := []) dX10_order_256 kX10_248 ⟨rfl, rfl⟩ rfl ⟨rfl, rfl⟩ rfl rfl sh66 rfl rfl d_release (fun μ256 ν256 hk256 => ?_)
    obtain ⟨rfl, rfl⟩ := hk256
    refine z_iload_n dX10_order_259 rfl ?_
    refine z_iconst (v := -1) dX10_order_260 rfl ?_
    refine z_icmp_ne 269 dX10_order_261 (by decide) (fun h261 => absurd (by decide) h261) (fun h261 => ?_)
    refine z_iload dX10_order_264 rfl ?_
    refine z_goto 290 dX10_order_266 (by decide) ?_
    refine m_iret dX10_order_290 rfl rfl ?_
    exact ⟨rfl, rfl, rfl⟩)
  have hP := m_for (l := l) (G := G) (M := mX10_order) (pc := 28) (ν := ν) (K := (fun a9 b9 c9 => (rOb c n R N).2 = a9 ∧ rCp (rOb c n R N).1 75 91 0 0 21 = b9 ∧ ν = c9)) (N := (c - 1)) (fun i => [(5, .int (nI (i + 2))), (4, .int (nI (zFa (i + 1)))), (3, .int (nI c)), (0, .ref 66), (1, .int s), (2, .int (-1))]) (fun i => R) (fun i hi H => by
    refine z_iload dX10_order_28 rfl ?_
    refine z_iload_n dX10_order_30 rfl ?_
    refine z_icmp_gt 47 dX10_order_31 (by decide) (fun h31 => absurd h31 (nI_nlt (a := c) (b := i + 2) (by omega) (by omega))) (fun h31 => ?_)
    refine z_iload dX10_order_34 rfl ?_
    refine z_iload dX10_order_36 rfl ?_
    refine z_imul dX10_order_38 ?_
    rw [show (nI (zFa (i + 1)) * nI (i + 2)) = nI (zFa (i + 1 + 1)) from (by rw [pk_mul, Nat.mul_comm]; rfl)]
    refine z_istore (i := 4) (fun y => [(4, .int y), (5, .int (nI (i + 2))), (3, .int (nI c)), (0, .ref 66), (1, .int s), (2, .int (-1))]) dX10_order_39 rfl (fun _ => rfl) (fun x9 e9 => ?_)
    subst e9
    refine z_iinc (fun y => [(5, .int y), (4, .int (nI (zFa (i + 1 + 1)))), (3, .int (nI c)), (0, .ref 66), (1, .int s), (2, .int (-1))]) dX10_order_41 rfl rfl (fun _ => rfl) (fun x5_41 ex5_41 => ?_)
    obtain rfl : x5_41 = nI (i + 1 + 2) := by rw [ex5_41]; exact nI_1 (i + 2)
    refine z_goto 28 dX10_order_44 (by decide) ?_
    exact H) (by
    refine z_iload dX10_order_28 rfl ?_
    refine z_iload_n dX10_order_30 rfl ?_
    refine z_icmp_gt 47 dX10_order_31 (by decide) (fun h31 => ?_) (fun h31 => absurd (nI_lt (a := c) (b := c - 1 + 2) (by omega) (by omega)) h31)
    refine z_iconst (v := -1) dX10_order_47 rfl ?_
    refine z_istore (i := 5) (fun y => [(5, .int y), (4, .int (nI (zFa ((c - 1) + 1)))), (3, .int (nI c)), (0, .ref 66), (1, .int s), (2, .int (-1))]) dX10_order_48 rfl (fun _ => rfl) (fun x9 e9 => ?_)
    subst e9
    refine z_iconst (v := 0) dX10_order_50 rfl ?_
    refine z_istore (i := 6) (fun y => [(6, .int y), (5, .int (-1)), (4, .int (nI (zFa ((c - 1) + 1)))), (3, .int (nI c)), (0, .ref 66), (1, .int s), (2, .int (-1))]) dX10_order_51 rfl (fun _ => rfl) (fun x9 e9 => ?_)
    subst e9
    rw [show zFa (c - 1 + 1) = N by rw [hN]; exact zFa_m1]
    exact hL 0 (Nat.zero_le _))
  refine z_iconst (v := 1) dX10_order_22 rfl ?_
  refine z_istore (i := 4) (fun y => [(4, .int y), (3, .int (nI c)), (0, .ref 66), (1, .int s), (2, .int (-1))]) dX10_order_23 rfl (fun _ => rfl) (fun x9 e9 => ?_)
  subst e9
  refine z_iconst (v := 2) dX10_order_25 rfl ?_
  refine z_istore (i := 5) (fun y => [(5, .int y), (4, .int 1), (3, .int (nI c)), (0, .ref 66), (1, .int s), (2, .int (-1))]) dX10_order_26 rfl (fun _ => rfl) (fun x9 e9 => ?_)
  subst e9
  exact hP 0 (Nat.zero_le _)
set_option maxRecDepth 100000 in
set_option maxHeartbeats 400000 in
theorem d_orderIn_n {l : Launch} {G : zG} {s : Int32} {c n N : Nat} (hN : N = zFa c) (hc : c ≤ 6) (hz6 : n ≤ 6) {R : Mem} {ν : Lng} (hpl : ∀ p, p < c → ∃ v : Nat, v < 6 ∧ R 93 p = nI v) (hn : R 66 17 = nI n) (hsd : zSidesM R n) {x : Int32} (hx : x < 0 ∨ nI c ≤ x) (hne : ¬ x = -1) : Am l G mX10_order 22 [(3, .int (nI c)), (0, .ref 66), (1, .int s), (2, .int x)] [] R ν (fun a9 b9 c9 => (-1) = a9 ∧ rCp (rOb c n R N).1 75 91 0 0 21 = b9 ∧ ν = c9) := by
  have hfa : N ≤ 720 := hN ▸ zFa_le hc
  have g1 : ∀ i, i ≤ N → zFr R (rOb c n R i).1 := fun i hi => rOb_fr hc hpl i (by omega)
  have gp : ∀ i, ∀ p, p < c → ∃ v : Nat, v < 6 ∧ (rOb c n R i).1 93 p = nI v := fun i p h => by
    rw [rOb_ne (by decide) (by decide) (by decide) (by unfold zMe; omega)]
    exact hpl p h
  have g2 : ∀ i, i < N → zFr R (rOr c i (rOb c n R i).1) := fun i hi => (g1 i (by omega)).tr (rOr_fr hc (by omega) (gp i))
  have hL := m_for (l := l) (G := G) (M := mX10_order) (pc := 53) (ν := ν) (K := (fun a9 b9 c9 => (-1) = a9 ∧ rCp (rOb c n R N).1 75 91 0 0 21 = b9 ∧ ν = c9)) (N := N) (fun i => [(6, .int (nI i)), (5, .int ((rOb c n R i).2)), (4, .int (nI N)), (3, .int (nI c)), (0, .ref 66), (1, .int s), (2, .int x)]) (fun i => (rOb c n R i).1) (fun i hi0 H0 => by
    have hC0 : rOb c n R (i + 1) = (rCp (rNow (rOr c i (rOb c n R i).1) n) 92 95 0 0 c, (rCost (rNow (rOr c i (rOb c n R i).1) n))) → ∀ k, k ≤ c → Am l G mX10_order 223 [(11, .int (nI k)), (6, .int (nI i)), (5, .int (rCost (rNow (rOr c i (rOb c n R i).1) n))), (4, .int (nI N)), (3, .int (nI c)), (0, .ref 66), (1, .int s), (2, .int x)] [] (rCp (rNow (rOr c i (rOb c n R i).1) n) 92 95 0 0 k) ν (fun a9 b9 c9 => (-1) = a9 ∧ rCp (rOb c n R N).1 75 91 0 0 21 = b9 ∧ ν = c9) := fun e8 => by
      rw [e8] at H0
      have HX := H0
      have hC := m_for (l := l) (G := G) (M := mX10_order) (pc := 223) (ν := ν) (K := (fun a9 b9 c9 => (-1) = a9 ∧ rCp (rOb c n R N).1 75 91 0 0 21 = b9 ∧ ν = c9)) (N := c) (fun k => [(11, .int (nI k)), (6, .int (nI i)), (5, .int (rCost (rNow (rOr c i (rOb c n R i).1) n))), (4, .int (nI N)), (3, .int (nI c)), (0, .ref 66), (1, .int s), (2, .int x)]) (fun k => rCp (rNow (rOr c i (rOb c n R i).1) n) 92 95 0 0 k) (fun k hi H => by
        refine z_iload dX10_order_223 rfl ?_
        refine z_iload_n dX10_order_225 rfl ?_
        refine z_icmp_ge 249 dX10_order_226 (by decide) (fun h226 => absurd h226 (nI_ge hi (by omega))) (fun h226 => ?_)
        refine z_aload_n dX10_order_229 rfl ?_
        refine m_getr dX10_order_230 fX10_90 sh66 rfl ?_
        refine z_iload dX10_order_233 rfl ?_
        refine z_aload_n dX10_order_235 rfl ?_
        refine m_getr dX10_order_236 fX10_99 sh66 rfl ?_
        refine z_iload dX10_order_239 rfl ?_
        refine m_ialdN (j := k) dX10_order_241 sh95 rfl (by omega) rfl ?_
        refine m_iastN (j := k) dX10_order_242 sh92 rfl (by omega) rfl ?_
        refine z_iinc (fun y => [(11, .int y), (6, .int (nI i)), (5, .int (rCost (rNow (rOr c i (rOb c n R i).1) n))), (4, .int (nI N)), (3, .int (nI c)), (0, .ref 66), (1, .int s), (2, .int x)]) dX10_order_243 rfl rfl (fun _ => rfl) (fun x11_243 ex11_243 => ?_)
        obtain rfl : x11_243 = nI (k + 1) := by rw [ex11_243]; exact nI_1 k
        refine z_goto 223 dX10_order_246 (by decide) ?_
        rw [show rCp (rNow (rOr c i (rOb c n R i).1) n) 92 95 0 0 (k + 1) = up2 (rCp (rNow (rOr c i (rOb c n R i).1) n) 92 95 0 0 k) 92 (0 + k) (rCp (rNow (rOr c i (rOb c n R i).1) n) 92 95 0 0 k 95 (0 + k)) from rfl, Nat.zero_add] at H
        exact H) (by
        refine z_iload dX10_order_223 rfl ?_
        refine z_iload_n dX10_order_225 rfl ?_
        refine z_icmp_ge 249 dX10_order_226 (by decide) (fun h226 => ?_) (fun h226 => absurd (nI_le (Nat.le_refl c) (by omega)) h226)
        refine z_iinc (fun y => [(6, .int y), (11, .int (nI c)), (5, .int (rCost (rNow (rOr c i (rOb c n R i).1) n))), (4, .int (nI N)), (3, .int (nI c)), (0, .ref 66), (1, .int s), (2, .int x)]) dX10_order_249 rfl rfl (fun _ => rfl) (fun x6_249 ex6_249 => ?_)
        obtain rfl : x6_249 = nI (i + 1) := by rw [ex6_249]; exact nI_1 i
        refine z_goto 53 dX10_order_252 (by decide) ?_
        refine z_lv [0, 2, 3, 4, 5, 6, 7] rfl ?_
        exact HX)
      exact hC
    have h197 : ∀ x10 x9 x8 x7 : Int32, Am l G mX10_order 197 [(10, .int x10), (9, .int x9), (8, .int x8), (7, .int x7), (6, .int (nI i)), (5, .int ((rOb c n R i).2)), (4, .int (nI N)), (3, .int (nI c)), (0, .ref 66), (1, .int s), (2, .int x)] [] (rOr c i (rOb c n R i).1) ν (fun a9 b9 c9 => (-1) = a9 ∧ rCp (rOb c n R N).1 75 91 0 0 21 = b9 ∧ ν = c9) := fun x10 x9 x8 x7 => by
      refine z_aload_n dX10_order_197 rfl ?_
      refine m_callV (As := []) dX10_order_198 kX10_223 ⟨rfl, rfl⟩ rfl ⟨rfl, rfl⟩ rfl rfl sh66 rfl rfl (d_cost ((g2 i hi0).n hn) hz6 ((g2 i hi0).sd hsd)) (fun r198 μ198 ν198 hk198 => ?_)
      obtain ⟨rfl, rfl, rfl⟩ := hk198
      refine z_istore (i := 10) (fun y => [(10, .int y), (9, .int x9), (8, .int x8), (7, .int x7), (6, .int (nI i)), (5, .int ((rOb c n R i).2)), (4, .int (nI N)), (3, .int (nI c)), (0, .ref 66), (1, .int s), (2, .int x)]) dX10_order_201 rfl (fun _ => rfl) (fun x9 e9 => ?_)
      subst e9
      refine z_iload dX10_order_203 rfl ?_
      refine z_iconst (v := -1) dX10_order_205 rfl ?_
      refine z_icmp_eq 216 dX10_order_206 (by decide) (fun h206 => ?_) (fun h206 => ?_)
      · skip
        refine z_iload dX10_order_216 rfl ?_
        refine z_istore (i := 5) (fun y => [(5, .int y), (10, .int (rCost (rNow (rOr c i (rOb c n R i).1) n))), (9, .int x9), (8, .int x8), (7, .int x7), (6, .int (nI i)), (4, .int (nI N)), (3, .int (nI c)), (0, .ref 66), (1, .int s), (2, .int x)]) dX10_order_218 rfl (fun _ => rfl) (fun x9 e9 => ?_)
        subst e9
        refine z_iconst (v := 0) dX10_order_220 rfl ?_
        refine z_istore (i := 11) (fun y => [(11, .int y), (5, .int (rCost (rNow (rOr c i (rOb c n R i).1) n))), (10, .int (rCost (rNow (rOr c i (rOb c n R i).1) n))), (9, .int x9), (8, .int x8), (7, .int x7), (6, .int (nI i)), (4, .int (nI N)), (3, .int (nI c)), (0, .ref 66), (1, .int s), (2, .int x)]) dX10_order_221 rfl (fun _ => rfl) (fun x9 e9 => ?_)
        subst e9
        refine z_lv [0, 6, 1, 7, 8, 9, 10, 11] rfl ?_
        exact hC0 (if_pos h206) 0 (Nat.zero_le c)
      · skip
        refine z_iload dX10_order_209 rfl ?_
        refine z_iload dX10_order_211 rfl ?_
        refine z_icmp_ge 249 dX10_order_213 (by decide) (fun h213 => ?_) (fun h213 => ?_)
        · skip
          refine z_iinc (fun y => [(6, .int y), (10, .int (rCost (rNow (rOr c i (rOb c n R i).1) n))), (9, .int x9), (8, .int x8), (7, .int x7), (5, .int ((rOb c n R i).2)), (4, .int (nI N)), (3, .int (nI c)), (0, .ref 66), (1, .int s), (2, .int x)]) dX10_order_249 rfl rfl (fun _ => rfl) (fun x6_249 ex6_249 => ?_)
          obtain rfl : x6_249 = nI (i + 1) := by rw [ex6_249]; exact nI_1 i
          refine z_goto 53 dX10_order_252 (by decide) ?_
          refine z_lv [0, 5, 6, 7, 8, 9, 10] rfl ?_
          rw [show rOb c n R (i + 1) = ((rNow (rOr c i (rOb c n R i).1) n), (rOb c n R i).2) from (if_neg h206).trans (if_pos h213)] at H0
          exact H0
        · skip
          refine z_iload dX10_order_216 rfl ?_
          refine z_istore (i := 5) (fun y => [(5, .int y), (10, .int (rCost (rNow (rOr c i (rOb c n R i).1) n))), (9, .int x9), (8, .int x8), (7, .int x7), (6, .int (nI i)), (4, .int (nI N)), (3, .int (nI c)), (0, .ref 66), (1, .int s), (2, .int x)]) dX10_order_218 rfl (fun _ => rfl) (fun x9 e9 => ?_)
          subst e9
          refine z_iconst (v := 0) dX10_order_220 rfl ?_
          refine z_istore (i := 11) (fun y => [(11, .int y), (5, .int (rCost (rNow (rOr c i (rOb c n R i).1) n))), (10, .int (rCost (rNow (rOr c i (rOb c n R i).1) n))), (9, .int x9), (8, .int x8), (7, .int x7), (6, .int (nI i)), (4, .int (nI N)), (3, .int (nI c)), (0, .ref 66), (1, .int s), (2, .int x)]) dX10_order_221 rfl (fun _ => rfl) (fun x9 e9 => ?_)
          subst e9
          refine z_lv [0, 6, 1, 7, 8, 9, 10, 11] rfl ?_
          exact hC0 ((if_neg h206).trans (if_neg h213)) 0 (Nat.zero_le c)
    refine z_iload dX10_order_53 rfl ?_
    refine z_iload dX10_order_55 rfl ?_
    refine z_icmp_ge 255 dX10_order_57 (by decide) (fun h57 => absurd h57 (nI_ge (a := i) (b := N) hi0 (by omega))) (fun h57 => ?_)
    refine z_iload dX10_order_60 rfl ?_
    refine z_istore (i := 7) (fun y => [(7, .int y), (6, .int (nI i)), (5, .int ((rOb c n R i).2)), (4, .int (nI N)), (3, .int (nI c)), (0, .ref 66), (1, .int s), (2, .int x)]) dX10_order_62 rfl (fun _ => rfl) (fun x9 e9 => ?_)
    subst e9
    refine z_iconst (v := 0) dX10_order_64 rfl ?_
    refine z_istore (i := 8) (fun y => [(8, .int y), (7, .int (nI i)), (6, .int (nI i)), (5, .int ((rOb c n R i).2)), (4, .int (nI N)), (3, .int (nI c)), (0, .ref 66), (1, .int s), (2, .int x)]) dX10_order_65 rfl (fun _ => rfl) (fun x9 e9 => ?_)
    subst e9
    refine z_iload dX10_order_67 rfl ?_
    refine z_istore (i := 9) (fun y => [(9, .int y), (8, .int 0), (7, .int (nI i)), (6, .int (nI i)), (5, .int ((rOb c n R i).2)), (4, .int (nI N)), (3, .int (nI c)), (0, .ref 66), (1, .int s), (2, .int x)]) dX10_order_69 rfl (fun _ => rfl) (fun x9 e9 => ?_)
    subst e9
    refine z_iconst (v := 0) dX10_order_71 rfl ?_
    refine z_istore (i := 10) (fun y => [(10, .int y), (9, .int (nI N)), (8, .int 0), (7, .int (nI i)), (6, .int (nI i)), (5, .int ((rOb c n R i).2)), (4, .int (nI N)), (3, .int (nI c)), (0, .ref 66), (1, .int s), (2, .int x)]) dX10_order_72 rfl (fun _ => rfl) (fun x9 e9 => ?_)
    subst e9
    have hr := d_row (l := l) (G := G) (e5 := (rOb c n R i).2) (r4 := nI N) (s1 := s) (w2 := x) hc (i := i) (by omega) (gp i) h197
    rw [← hN] at hr
    exact hr) (by
    refine z_iload dX10_order_53 rfl ?_
    refine z_iload dX10_order_55 rfl ?_
    refine z_icmp_ge 255 dX10_order_57 (by decide) (fun h57 => ?_) (fun h57 => absurd (nI_le (Nat.le_refl N) (by omega)) h57)
    refine z_aload_n dX10_order_255 rfl ?_
    refine m_callVv (As := []) dX10_order_256 kX10_248 ⟨rfl, rfl⟩ rfl ⟨rfl, rfl⟩ rfl rfl sh66 rfl rfl d_release (fun μ256 ν256 hk256 => ?_)
    obtain ⟨rfl, rfl⟩ := hk256
    refine z_iload_n dX10_order_259 rfl ?_
    refine z_iconst (v := -1) dX10_order_260 rfl ?_
    refine z_icmp_ne 269 dX10_order_261 (by decide) (fun h261 => ?_) (fun h261 => absurd h261 hne)
    refine z_iload_n dX10_order_269 rfl ?_
    refine z_iconst (v := 0) dX10_order_270 rfl ?_
    refine z_iload_n dX10_order_271 rfl ?_
    refine z_iconst (v := 1) dX10_order_272 rfl ?_
    refine z_isub dX10_order_273 ?_
    refine m_callS (As := [.int _, .int _, .int _]) dX10_order_274 kX10_108 ⟨rfl, rfl⟩ rfl ⟨rfl, rfl⟩ rfl rfl rfl (c_inF (hx.elim Or.inl (fun h => Or.inr (zprd (by omega) h)))) (fun r274 μ274 ν274 hk274 => ?_)
    obtain ⟨rfl, rfl, rfl⟩ := hk274
    refine z_if_eq 289 dX10_order_277 (by decide) (fun h277 => ?_) (fun h277 => absurd (by decide) h277)
    refine z_iconst (v := -1) dX10_order_289 rfl ?_
    refine m_iret dX10_order_290 rfl rfl ?_
    exact ⟨rfl, rfl, rfl⟩)
  have hP := m_for (l := l) (G := G) (M := mX10_order) (pc := 28) (ν := ν) (K := (fun a9 b9 c9 => (-1) = a9 ∧ rCp (rOb c n R N).1 75 91 0 0 21 = b9 ∧ ν = c9)) (N := (c - 1)) (fun i => [(5, .int (nI (i + 2))), (4, .int (nI (zFa (i + 1)))), (3, .int (nI c)), (0, .ref 66), (1, .int s), (2, .int x)]) (fun i => R) (fun i hi H => by
    refine z_iload dX10_order_28 rfl ?_
    refine z_iload_n dX10_order_30 rfl ?_
    refine z_icmp_gt 47 dX10_order_31 (by decide) (fun h31 => absurd h31 (nI_nlt (a := c) (b := i + 2) (by omega) (by omega))) (fun h31 => ?_)
    refine z_iload dX10_order_34 rfl ?_
    refine z_iload dX10_order_36 rfl ?_
    refine z_imul dX10_order_38 ?_
    rw [show (nI (zFa (i + 1)) * nI (i + 2)) = nI (zFa (i + 1 + 1)) from (by rw [pk_mul, Nat.mul_comm]; rfl)]
    refine z_istore (i := 4) (fun y => [(4, .int y), (5, .int (nI (i + 2))), (3, .int (nI c)), (0, .ref 66), (1, .int s), (2, .int x)]) dX10_order_39 rfl (fun _ => rfl) (fun x9 e9 => ?_)
    subst e9
    refine z_iinc (fun y => [(5, .int y), (4, .int (nI (zFa (i + 1 + 1)))), (3, .int (nI c)), (0, .ref 66), (1, .int s), (2, .int x)]) dX10_order_41 rfl rfl (fun _ => rfl) (fun x5_41 ex5_41 => ?_)
    obtain rfl : x5_41 = nI (i + 1 + 2) := by rw [ex5_41]; exact nI_1 (i + 2)
    refine z_goto 28 dX10_order_44 (by decide) ?_
    exact H) (by
    refine z_iload dX10_order_28 rfl ?_
    refine z_iload_n dX10_order_30 rfl ?_
    refine z_icmp_gt 47 dX10_order_31 (by decide) (fun h31 => ?_) (fun h31 => absurd (nI_lt (a := c) (b := c - 1 + 2) (by omega) (by omega)) h31)
    refine z_iconst (v := -1) dX10_order_47 rfl ?_
    refine z_istore (i := 5) (fun y => [(5, .int y), (4, .int (nI (zFa ((c - 1) + 1)))), (3, .int (nI c)), (0, .ref 66), (1, .int s), (2, .int x)]) dX10_order_48 rfl (fun _ => rfl) (fun x9 e9 => ?_)
    subst e9
    refine z_iconst (v := 0) dX10_order_50 rfl ?_
    refine z_istore (i := 6) (fun y => [(6, .int y), (5, .int (-1)), (4, .int (nI (zFa ((c - 1) + 1)))), (3, .int (nI c)), (0, .ref 66), (1, .int s), (2, .int x)]) dX10_order_51 rfl (fun _ => rfl) (fun x9 e9 => ?_)
    subst e9
    rw [show zFa (c - 1 + 1) = N by rw [hN]; exact zFa_m1]
    exact hL 0 (Nat.zero_le _))
  refine z_iconst (v := 1) dX10_order_22 rfl ?_
  refine z_istore (i := 4) (fun y => [(4, .int y), (3, .int (nI c)), (0, .ref 66), (1, .int s), (2, .int x)]) dX10_order_23 rfl (fun _ => rfl) (fun x9 e9 => ?_)
  subst e9
  refine z_iconst (v := 2) dX10_order_25 rfl ?_
  refine z_istore (i := 5) (fun y => [(5, .int y), (4, .int 1), (3, .int (nI c)), (0, .ref 66), (1, .int s), (2, .int x)]) dX10_order_26 rfl (fun _ => rfl) (fun x9 e9 => ?_)
  subst e9
  exact hP 0 (Nat.zero_le _)
set_option maxRecDepth 100000 in
set_option maxHeartbeats 400000 in
theorem d_orderIn_w {l : Launch} {G : zG} {s : Int32} {c n N : Nat} (hN : N = zFa c) (hc : c ≤ 6) (hz6 : n ≤ 6) {R : Mem} {ν : Lng} (hpl : ∀ p, p < c → ∃ v : Nat, v < 6 ∧ R 93 p = nI v) (hn : R 66 17 = nI n) (hsd : zSidesM R n) {j : Nat} (hj : j < c) : Am l G mX10_order 22 [(3, .int (nI c)), (0, .ref 66), (1, .int s), (2, .int (nI j))] [] R ν (fun a9 b9 c9 => (rOb c n R N).1 92 j = a9 ∧ rCp (rOb c n R N).1 75 91 0 0 21 = b9 ∧ ν = c9) := by
  have hfa : N ≤ 720 := hN ▸ zFa_le hc
  have g1 : ∀ i, i ≤ N → zFr R (rOb c n R i).1 := fun i hi => rOb_fr hc hpl i (by omega)
  have gp : ∀ i, ∀ p, p < c → ∃ v : Nat, v < 6 ∧ (rOb c n R i).1 93 p = nI v := fun i p h => by
    rw [rOb_ne (by decide) (by decide) (by decide) (by unfold zMe; omega)]
    exact hpl p h
  have g2 : ∀ i, i < N → zFr R (rOr c i (rOb c n R i).1) := fun i hi => (g1 i (by omega)).tr (rOr_fr hc (by omega) (gp i))
  have hL := m_for (l := l) (G := G) (M := mX10_order) (pc := 53) (ν := ν) (K := (fun a9 b9 c9 => (rOb c n R N).1 92 j = a9 ∧ rCp (rOb c n R N).1 75 91 0 0 21 = b9 ∧ ν = c9)) (N := N) (fun i => [(6, .int (nI i)), (5, .int ((rOb c n R i).2)), (4, .int (nI N)), (3, .int (nI c)), (0, .ref 66), (1, .int s), (2, .int (nI j))]) (fun i => (rOb c n R i).1) (fun i hi0 H0 => by
    have hC0 : rOb c n R (i + 1) = (rCp (rNow (rOr c i (rOb c n R i).1) n) 92 95 0 0 c, (rCost (rNow (rOr c i (rOb c n R i).1) n))) → ∀ k, k ≤ c → Am l G mX10_order 223 [(11, .int (nI k)), (6, .int (nI i)), (5, .int (rCost (rNow (rOr c i (rOb c n R i).1) n))), (4, .int (nI N)), (3, .int (nI c)), (0, .ref 66), (1, .int s), (2, .int (nI j))] [] (rCp (rNow (rOr c i (rOb c n R i).1) n) 92 95 0 0 k) ν (fun a9 b9 c9 => (rOb c n R N).1 92 j = a9 ∧ rCp (rOb c n R N).1 75 91 0 0 21 = b9 ∧ ν = c9) := fun e8 => by
      rw [e8] at H0
      have HX := H0
      have hC := m_for (l := l) (G := G) (M := mX10_order) (pc := 223) (ν := ν) (K := (fun a9 b9 c9 => (rOb c n R N).1 92 j = a9 ∧ rCp (rOb c n R N).1 75 91 0 0 21 = b9 ∧ ν = c9)) (N := c) (fun k => [(11, .int (nI k)), (6, .int (nI i)), (5, .int (rCost (rNow (rOr c i (rOb c n R i).1) n))), (4, .int (nI N)), (3, .int (nI c)), (0, .ref 66), (1, .int s), (2, .int (nI j))]) (fun k => rCp (rNow (rOr c i (rOb c n R i).1) n) 92 95 0 0 k) (fun k hi H => by
        refine z_iload dX10_order_223 rfl ?_
        refine z_iload_n dX10_order_225 rfl ?_
        refine z_icmp_ge 249 dX10_order_226 (by decide) (fun h226 => absurd h226 (nI_ge hi (by omega))) (fun h226 => ?_)
        refine z_aload_n dX10_order_229 rfl ?_
        refine m_getr dX10_order_230 fX10_90 sh66 rfl ?_
        refine z_iload dX10_order_233 rfl ?_
        refine z_aload_n dX10_order_235 rfl ?_
        refine m_getr dX10_order_236 fX10_99 sh66 rfl ?_
        refine z_iload dX10_order_239 rfl ?_
        refine m_ialdN (j := k) dX10_order_241 sh95 rfl (by omega) rfl ?_
        refine m_iastN (j := k) dX10_order_242 sh92 rfl (by omega) rfl ?_
        refine z_iinc (fun y => [(11, .int y), (6, .int (nI i)), (5, .int (rCost (rNow (rOr c i (rOb c n R i).1) n))), (4, .int (nI N)), (3, .int (nI c)), (0, .ref 66), (1, .int s), (2, .int (nI j))]) dX10_order_243 rfl rfl (fun _ => rfl) (fun x11_243 ex11_243 => ?_)
        obtain rfl : x11_243 = nI (k + 1) := by rw [ex11_243]; exact nI_1 k
        refine z_goto 223 dX10_order_246 (by decide) ?_
        rw [show rCp (rNow (rOr c i (rOb c n R i).1) n) 92 95 0 0 (k + 1) = up2 (rCp (rNow (rOr c i (rOb c n R i).1) n) 92 95 0 0 k) 92 (0 + k) (rCp (rNow (rOr c i (rOb c n R i).1) n) 92 95 0 0 k 95 (0 + k)) from rfl, Nat.zero_add] at H
        exact H) (by
        refine z_iload dX10_order_223 rfl ?_
        refine z_iload_n dX10_order_225 rfl ?_
        refine z_icmp_ge 249 dX10_order_226 (by decide) (fun h226 => ?_) (fun h226 => absurd (nI_le (Nat.le_refl c) (by omega)) h226)
        refine z_iinc (fun y => [(6, .int y), (11, .int (nI c)), (5, .int (rCost (rNow (rOr c i (rOb c n R i).1) n))), (4, .int (nI N)), (3, .int (nI c)), (0, .ref 66), (1, .int s), (2, .int (nI j))]) dX10_order_249 rfl rfl (fun _ => rfl) (fun x6_249 ex6_249 => ?_)
        obtain rfl : x6_249 = nI (i + 1) := by rw [ex6_249]; exact nI_1 i
        refine z_goto 53 dX10_order_252 (by decide) ?_
        refine z_lv [0, 2, 3, 4, 5, 6, 7] rfl ?_
        exact HX)
      exact hC
    have h197 : ∀ x10 x9 x8 x7 : Int32, Am l G mX10_order 197 [(10, .int x10), (9, .int x9), (8, .int x8), (7, .int x7), (6, .int (nI i)), (5, .int ((rOb c n R i).2)), (4, .int (nI N)), (3, .int (nI c)), (0, .ref 66), (1, .int s), (2, .int (nI j))] [] (rOr c i (rOb c n R i).1) ν (fun a9 b9 c9 => (rOb c n R N).1 92 j = a9 ∧ rCp (rOb c n R N).1 75 91 0 0 21 = b9 ∧ ν = c9) := fun x10 x9 x8 x7 => by
      refine z_aload_n dX10_order_197 rfl ?_
      refine m_callV (As := []) dX10_order_198 kX10_223 ⟨rfl, rfl⟩ rfl ⟨rfl, rfl⟩ rfl rfl sh66 rfl rfl (d_cost ((g2 i hi0).n hn) hz6 ((g2 i hi0).sd hsd)) (fun r198 μ198 ν198 hk198 => ?_)
      obtain ⟨rfl, rfl, rfl⟩ := hk198
      refine z_istore (i := 10) (fun y => [(10, .int y), (9, .int x9), (8, .int x8), (7, .int x7), (6, .int (nI i)), (5, .int ((rOb c n R i).2)), (4, .int (nI N)), (3, .int (nI c)), (0, .ref 66), (1, .int s), (2, .int (nI j))]) dX10_order_201 rfl (fun _ => rfl) (fun x9 e9 => ?_)
      subst e9
      refine z_iload dX10_order_203 rfl ?_
      refine z_iconst (v := -1) dX10_order_205 rfl ?_
      refine z_icmp_eq 216 dX10_order_206 (by decide) (fun h206 => ?_) (fun h206 => ?_)
      · skip
        refine z_iload dX10_order_216 rfl ?_
        refine z_istore (i := 5) (fun y => [(5, .int y), (10, .int (rCost (rNow (rOr c i (rOb c n R i).1) n))), (9, .int x9), (8, .int x8), (7, .int x7), (6, .int (nI i)), (4, .int (nI N)), (3, .int (nI c)), (0, .ref 66), (1, .int s), (2, .int (nI j))]) dX10_order_218 rfl (fun _ => rfl) (fun x9 e9 => ?_)
        subst e9
        refine z_iconst (v := 0) dX10_order_220 rfl ?_
        refine z_istore (i := 11) (fun y => [(11, .int y), (5, .int (rCost (rNow (rOr c i (rOb c n R i).1) n))), (10, .int (rCost (rNow (rOr c i (rOb c n R i).1) n))), (9, .int x9), (8, .int x8), (7, .int x7), (6, .int (nI i)), (4, .int (nI N)), (3, .int (nI c)), (0, .ref 66), (1, .int s), (2, .int (nI j))]) dX10_order_221 rfl (fun _ => rfl) (fun x9 e9 => ?_)
        subst e9
        refine z_lv [0, 6, 1, 7, 8, 9, 10, 11] rfl ?_
        exact hC0 (if_pos h206) 0 (Nat.zero_le c)
      · skip
        refine z_iload dX10_order_209 rfl ?_
        refine z_iload dX10_order_211 rfl ?_
        refine z_icmp_ge 249 dX10_order_213 (by decide) (fun h213 => ?_) (fun h213 => ?_)
        · skip
          refine z_iinc (fun y => [(6, .int y), (10, .int (rCost (rNow (rOr c i (rOb c n R i).1) n))), (9, .int x9), (8, .int x8), (7, .int x7), (5, .int ((rOb c n R i).2)), (4, .int (nI N)), (3, .int (nI c)), (0, .ref 66), (1, .int s), (2, .int (nI j))]) dX10_order_249 rfl rfl (fun _ => rfl) (fun x6_249 ex6_249 => ?_)
          obtain rfl : x6_249 = nI (i + 1) := by rw [ex6_249]; exact nI_1 i
          refine z_goto 53 dX10_order_252 (by decide) ?_
          refine z_lv [0, 5, 6, 7, 8, 9, 10] rfl ?_
          rw [show rOb c n R (i + 1) = ((rNow (rOr c i (rOb c n R i).1) n), (rOb c n R i).2) from (if_neg h206).trans (if_pos h213)] at H0
          exact H0
        · skip
          refine z_iload dX10_order_216 rfl ?_
          refine z_istore (i := 5) (fun y => [(5, .int y), (10, .int (rCost (rNow (rOr c i (rOb c n R i).1) n))), (9, .int x9), (8, .int x8), (7, .int x7), (6, .int (nI i)), (4, .int (nI N)), (3, .int (nI c)), (0, .ref 66), (1, .int s), (2, .int (nI j))]) dX10_order_218 rfl (fun _ => rfl) (fun x9 e9 => ?_)
          subst e9
          refine z_iconst (v := 0) dX10_order_220 rfl ?_
          refine z_istore (i := 11) (fun y => [(11, .int y), (5, .int (rCost (rNow (rOr c i (rOb c n R i).1) n))), (10, .int (rCost (rNow (rOr c i (rOb c n R i).1) n))), (9, .int x9), (8, .int x8), (7, .int x7), (6, .int (nI i)), (4, .int (nI N)), (3, .int (nI c)), (0, .ref 66), (1, .int s), (2, .int (nI j))]) dX10_order_221 rfl (fun _ => rfl) (fun x9 e9 => ?_)
          subst e9
          refine z_lv [0, 6, 1, 7, 8, 9, 10, 11] rfl ?_
          exact hC0 ((if_neg h206).trans (if_neg h213)) 0 (Nat.zero_le c)
    refine z_iload dX10_order_53 rfl ?_
    refine z_iload dX10_order_55 rfl ?_
    refine z_icmp_ge 255 dX10_order_57 (by decide) (fun h57 => absurd h57 (nI_ge (a := i) (b := N) hi0 (by omega))) (fun h57 => ?_)
    refine z_iload dX10_order_60 rfl ?_
    refine z_istore (i := 7) (fun y => [(7, .int y), (6, .int (nI i)), (5, .int ((rOb c n R i).2)), (4, .int (nI N)), (3, .int (nI c)), (0, .ref 66), (1, .int s), (2, .int (nI j))]) dX10_order_62 rfl (fun _ => rfl) (fun x9 e9 => ?_)
    subst e9
    refine z_iconst (v := 0) dX10_order_64 rfl ?_
    refine z_istore (i := 8) (fun y => [(8, .int y), (7, .int (nI i)), (6, .int (nI i)), (5, .int ((rOb c n R i).2)), (4, .int (nI N)), (3, .int (nI c)), (0, .ref 66), (1, .int s), (2, .int (nI j))]) dX10_order_65 rfl (fun _ => rfl) (fun x9 e9 => ?_)
    subst e9
    refine z_iload dX10_order_67 rfl ?_
    refine z_istore (i := 9) (fun y => [(9, .int y), (8, .int 0), (7, .int (nI i)), (6, .int (nI i)), (5, .int ((rOb c n R i).2)), (4, .int (nI N)), (3, .int (nI c)), (0, .ref 66), (1, .int s), (2, .int (nI j))]) dX10_order_69 rfl (fun _ => rfl) (fun x9 e9 => ?_)
    subst e9
    refine z_iconst (v := 0) dX10_order_71 rfl ?_
    refine z_istore (i := 10) (fun y => [(10, .int y), (9, .int (nI N)), (8, .int 0), (7, .int (nI i)), (6, .int (nI i)), (5, .int ((rOb c n R i).2)), (4, .int (nI N)), (3, .int (nI c)), (0, .ref 66), (1, .int s), (2, .int (nI j))]) dX10_order_72 rfl (fun _ => rfl) (fun x9 e9 => ?_)
    subst e9
    have hr := d_row (l := l) (G := G) (e5 := (rOb c n R i).2) (r4 := nI N) (s1 := s) (w2 := nI j) hc (i := i) (by omega) (gp i) h197
    rw [← hN] at hr
    exact hr) (by
    refine z_iload dX10_order_53 rfl ?_
    refine z_iload dX10_order_55 rfl ?_
    refine z_icmp_ge 255 dX10_order_57 (by decide) (fun h57 => ?_) (fun h57 => absurd (nI_le (Nat.le_refl N) (by omega)) h57)
    refine z_aload_n dX10_order_255 rfl ?_
    refine m_callVv (As := []) dX10_order_256 kX10_248 ⟨rfl, rfl⟩ rfl ⟨rfl, rfl⟩ rfl rfl sh66 rfl rfl d_release (fun μ256 ν256 hk256 => ?_)
    obtain ⟨rfl, rfl⟩ := hk256
    refine z_iload_n dX10_order_259 rfl ?_
    refine z_iconst (v := -1) dX10_order_260 rfl ?_
    refine z_icmp_ne 269 dX10_order_261 (by decide) (fun h261 => ?_) (fun h261 => absurd h261 (nI_ne_m1 (by omega)))
    refine z_iload_n dX10_order_269 rfl ?_
    refine z_iconst (v := 0) dX10_order_270 rfl ?_
    refine z_iload_n dX10_order_271 rfl ?_
    refine z_iconst (v := 1) dX10_order_272 rfl ?_
    refine z_isub dX10_order_273 ?_
    rw [show (nI c - 1) = nI (c - 1) from zN_mono_pred (by omega)]
    refine m_callS (As := [.int _, .int _, .int _]) dX10_order_274 kX10_108 ⟨rfl, rfl⟩ rfl ⟨rfl, rfl⟩ rfl rfl rfl (c_inT (v := j) (lo := 0) (hi := c - 1) (Nat.zero_le j) (by omega) (by omega)) (fun r274 μ274 ν274 hk274 => ?_)
    obtain ⟨rfl, rfl, rfl⟩ := hk274
    refine z_if_eq 289 dX10_order_277 (by decide) (fun h277 => absurd h277 (by decide)) (fun h277 => ?_)
    refine z_aload_n dX10_order_280 rfl ?_
    refine m_getr dX10_order_281 fX10_90 sh66 rfl ?_
    refine z_iload_n dX10_order_284 rfl ?_
    refine m_ialdN (j := j) dX10_order_285 sh92 rfl (by omega) rfl ?_
    refine z_goto 290 dX10_order_286 (by decide) ?_
    refine m_iret dX10_order_290 rfl rfl ?_
    exact ⟨(by rw [rCp_ne (by decide)]), rfl, rfl⟩)
  have hP := m_for (l := l) (G := G) (M := mX10_order) (pc := 28) (ν := ν) (K := (fun a9 b9 c9 => (rOb c n R N).1 92 j = a9 ∧ rCp (rOb c n R N).1 75 91 0 0 21 = b9 ∧ ν = c9)) (N := (c - 1)) (fun i => [(5, .int (nI (i + 2))), (4, .int (nI (zFa (i + 1)))), (3, .int (nI c)), (0, .ref 66), (1, .int s), (2, .int (nI j))]) (fun i => R) (fun i hi H => by
    refine z_iload dX10_order_28 rfl ?_
    refine z_iload_n dX10_order_30 rfl ?_
    refine z_icmp_gt 47 dX10_order_31 (by decide) (fun h31 => absurd h31 (nI_nlt (a := c) (b := i + 2) (by omega) (by omega))) (fun h31 => ?_)
    refine z_iload dX10_order_34 rfl ?_
    refine z_iload dX10_order_36 rfl ?_
    refine z_imul dX10_order_38 ?_
    rw [show (nI (zFa (i + 1)) * nI (i + 2)) = nI (zFa (i + 1 + 1)) from (by rw [pk_mul, Nat.mul_comm]; rfl)]
    refine z_istore (i := 4) (fun y => [(4, .int y), (5, .int (nI (i + 2))), (3, .int (nI c)), (0, .ref 66), (1, .int s), (2, .int (nI j))]) dX10_order_39 rfl (fun _ => rfl) (fun x9 e9 => ?_)
    subst e9
    refine z_iinc (fun y => [(5, .int y), (4, .int (nI (zFa (i + 1 + 1)))), (3, .int (nI c)), (0, .ref 66), (1, .int s), (2, .int (nI j))]) dX10_order_41 rfl rfl (fun _ => rfl) (fun x5_41 ex5_41 => ?_)
    obtain rfl : x5_41 = nI (i + 1 + 2) := by rw [ex5_41]; exact nI_1 (i + 2)
    refine z_goto 28 dX10_order_44 (by decide) ?_
    exact H) (by
    refine z_iload dX10_order_28 rfl ?_
    refine z_iload_n dX10_order_30 rfl ?_
    refine z_icmp_gt 47 dX10_order_31 (by decide) (fun h31 => ?_) (fun h31 => absurd (nI_lt (a := c) (b := c - 1 + 2) (by omega) (by omega)) h31)
    refine z_iconst (v := -1) dX10_order_47 rfl ?_
    refine z_istore (i := 5) (fun y => [(5, .int y), (4, .int (nI (zFa ((c - 1) + 1)))), (3, .int (nI c)), (0, .ref 66), (1, .int s), (2, .int (nI j))]) dX10_order_48 rfl (fun _ => rfl) (fun x9 e9 => ?_)
    subst e9
    refine z_iconst (v := 0) dX10_order_50 rfl ?_
    refine z_istore (i := 6) (fun y => [(6, .int y), (5, .int (-1)), (4, .int (nI (zFa ((c - 1) + 1)))), (3, .int (nI c)), (0, .ref 66), (1, .int s), (2, .int (nI j))]) dX10_order_51 rfl (fun _ => rfl) (fun x9 e9 => ?_)
    subst e9
    rw [show zFa (c - 1 + 1) = N by rw [hN]; exact zFa_m1]
    exact hL 0 (Nat.zero_le _))
  refine z_iconst (v := 1) dX10_order_22 rfl ?_
  refine z_istore (i := 4) (fun y => [(4, .int y), (3, .int (nI c)), (0, .ref 66), (1, .int s), (2, .int (nI j))]) dX10_order_23 rfl (fun _ => rfl) (fun x9 e9 => ?_)
  subst e9
  refine z_iconst (v := 2) dX10_order_25 rfl ?_
  refine z_istore (i := 5) (fun y => [(5, .int y), (4, .int 1), (3, .int (nI c)), (0, .ref 66), (1, .int s), (2, .int (nI j))]) dX10_order_26 rfl (fun _ => rfl) (fun x9 e9 => ?_)
  subst e9
  exact hP 0 (Nat.zero_le _)
set_option maxRecDepth 100000 in
set_option maxHeartbeats 400000 in
theorem d_order_o {l : Launch} {G : zG} {μ : Mem} {ν : Lng} {v : Int32} (hv : v < 0 ∨ 1 < v) {x : Int32}  : Cm l G mX10_order [.ref 66, .int v, .int x] μ ν (fun a9 b9 c9 => (-1000000002) = a9 ∧ μ = b9 ∧ ν = c9) := by
  refine Con.of (by decide) (Nat.le_of_ble_eq_true rfl) ?_
  show Am l G mX10_order 0 [(0, .ref 66), (1, .int v), (2, .int x)] [] μ ν _
  refine z_iload_n dX10_order_0 rfl ?_
  refine z_iconst (v := 0) dX10_order_1 rfl ?_
  refine z_iconst (v := 1) dX10_order_2 rfl ?_
  refine m_callS (As := [.int _, .int _, .int _]) dX10_order_3 kX10_108 ⟨rfl, rfl⟩ rfl ⟨rfl, rfl⟩ rfl rfl rfl (c_inF hv) (fun r3 μ3 ν3 hk3 => ?_)
  obtain ⟨rfl, rfl, rfl⟩ := hk3
  refine z_if_ne 12 dX10_order_6 (by decide) (fun h6 => absurd (by decide) h6) (fun h6 => ?_)
  refine z_ldc dX10_order_9 cX10_112 ?_
  refine m_iret dX10_order_11 rfl rfl ?_
  exact ⟨rfl, rfl, rfl⟩
set_option maxRecDepth 100000 in
set_option maxHeartbeats 400000 in
theorem d_order_c {l : Launch} {G : zG} {μ : Mem} {ν : Lng} {n : Nat} (hn : μ 66 17 = nI n) (hz6 : n ≤ 6) (hsd : zSidesM μ n) {a c N : Nat} {R : Mem} (ha : a ≤ 1) (hN : N = zFa c) (ec : (zGa ((rCp μ 91 75 0 0 21) 71) ((rCp μ 91 75 0 0 21) 75) (nI a) ((rCp μ 91 75 0 0 21) 94) ((rCp μ 91 75 0 0 21) 93) n).1 = c) (eR : (mLp (rCp μ 91 75 0 0 21) (zGa ((rCp μ 91 75 0 0 21) 71) ((rCp μ 91 75 0 0 21) 75) (nI a) ((rCp μ 91 75 0 0 21) 94) ((rCp μ 91 75 0 0 21) 93) n).2.1 (zGa ((rCp μ 91 75 0 0 21) 71) ((rCp μ 91 75 0 0 21) 75) (nI a) ((rCp μ 91 75 0 0 21) 94) ((rCp μ 91 75 0 0 21) 93) n).2.2) = R)  : Cm l G mX10_order [.ref 66, .int (nI a), .int (-1)] μ ν (fun a9 b9 c9 => (rOb c n R N).2 = a9 ∧ rCp (rOb c n R N).1 75 91 0 0 21 = b9 ∧ ν = c9) := by
  refine Con.of (by decide) (Nat.le_of_ble_eq_true rfl) ?_
  show Am l G mX10_order 0 [(0, .ref 66), (1, .int (nI a)), (2, .int (-1))] [] μ ν _
  have hcn : (zGa ((rCp μ 91 75 0 0 21) 71) ((rCp μ 91 75 0 0 21) 75) (nI a) ((rCp μ 91 75 0 0 21) 94) ((rCp μ 91 75 0 0 21) 93) n).1 ≤ n := zGa_le n
  have hfr : zFr (rCp μ 91 75 0 0 21) (mLp (rCp μ 91 75 0 0 21) (zGa ((rCp μ 91 75 0 0 21) 71) ((rCp μ 91 75 0 0 21) 75) (nI a) ((rCp μ 91 75 0 0 21) 94) ((rCp μ 91 75 0 0 21) 93) n).2.1 (zGa ((rCp μ 91 75 0 0 21) 71) ((rCp μ 91 75 0 0 21) 75) (nI a) ((rCp μ 91 75 0 0 21) 94) ((rCp μ 91 75 0 0 21) 93) n).2.2) := zFr.lay
  have hin : ∀ p, p < c → ∃ v : Nat, v < 6 ∧ R 93 p = nI v := fun p hp => by
    rw [← eR]
    obtain ⟨v, v1, v2⟩ := zGa_in n p (show p < (zGa ((rCp μ 91 75 0 0 21) 71) ((rCp μ 91 75 0 0 21) 75) (nI a) ((rCp μ 91 75 0 0 21) 94) ((rCp μ 91 75 0 0 21) 93) n).1 by omega)
    exact ⟨v, by omega, v2⟩
  refine z_iload_n dX10_order_0 rfl ?_
  refine z_iconst (v := 0) dX10_order_1 rfl ?_
  refine z_iconst (v := 1) dX10_order_2 rfl ?_
  refine m_callS (As := [.int _, .int _, .int _]) dX10_order_3 kX10_108 ⟨rfl, rfl⟩ rfl ⟨rfl, rfl⟩ rfl rfl rfl (c_inT (v := a) (lo := 0) (hi := 1) (Nat.zero_le a) ha (by decide)) (fun r3 μ3 ν3 hk3 => ?_)
  obtain ⟨rfl, rfl, rfl⟩ := hk3
  refine z_if_ne 12 dX10_order_6 (by decide) (fun h6 => ?_) (fun h6 => absurd h6 (by decide))
  refine z_aload_n dX10_order_12 rfl ?_
  refine m_callVv (As := []) dX10_order_13 kX10_245 ⟨rfl, rfl⟩ rfl ⟨rfl, rfl⟩ rfl rfl sh66 rfl rfl d_hold (fun μ13 ν13 hk13 => ?_)
  obtain ⟨rfl, rfl⟩ := hk13
  refine z_aload_n dX10_order_16 rfl ?_
  refine z_iload_n dX10_order_17 rfl ?_
  refine m_callV (As := [.int _]) dX10_order_18 kX10_251 ⟨rfl, rfl⟩ rfl ⟨rfl, rfl⟩ rfl rfl sh66 rfl rfl (d_lay (zFr.holdN hn) hz6) (fun r18 μ18 ν18 hk18 => ?_)
  obtain ⟨rfl, rfl, rfl⟩ := hk18
  refine z_istore_n (i := 3) (fun y => [(3, .int y), (0, .ref 66), (1, .int (nI a)), (2, .int (-1))]) dX10_order_21 rfl rfl (fun _ => rfl) (fun x9 e9 => ?_)
  subst e9
  rw [ec, eR]
  exact d_orderIn_c hN (by omega) hz6 hin (eR ▸ hfr.n (zFr.holdN hn)) (eR ▸ hfr.sd (zFr.holdS hsd))
set_option maxRecDepth 100000 in
set_option maxHeartbeats 400000 in
theorem d_order_n {l : Launch} {G : zG} {μ : Mem} {ν : Lng} {n : Nat} (hn : μ 66 17 = nI n) (hz6 : n ≤ 6) (hsd : zSidesM μ n) {a c N : Nat} {R : Mem} (ha : a ≤ 1) (hN : N = zFa c) (ec : (zGa ((rCp μ 91 75 0 0 21) 71) ((rCp μ 91 75 0 0 21) 75) (nI a) ((rCp μ 91 75 0 0 21) 94) ((rCp μ 91 75 0 0 21) 93) n).1 = c) (eR : (mLp (rCp μ 91 75 0 0 21) (zGa ((rCp μ 91 75 0 0 21) 71) ((rCp μ 91 75 0 0 21) 75) (nI a) ((rCp μ 91 75 0 0 21) 94) ((rCp μ 91 75 0 0 21) 93) n).2.1 (zGa ((rCp μ 91 75 0 0 21) 71) ((rCp μ 91 75 0 0 21) 75) (nI a) ((rCp μ 91 75 0 0 21) 94) ((rCp μ 91 75 0 0 21) 93) n).2.2) = R) {x : Int32} (hx : x < 0 ∨ nI c ≤ x) (hne : ¬ x = -1)  : Cm l G mX10_order [.ref 66, .int (nI a), .int x] μ ν (fun a9 b9 c9 => (-1) = a9 ∧ rCp (rOb c n R N).1 75 91 0 0 21 = b9 ∧ ν = c9) := by
  refine Con.of (by decide) (Nat.le_of_ble_eq_true rfl) ?_
  show Am l G mX10_order 0 [(0, .ref 66), (1, .int (nI a)), (2, .int x)] [] μ ν _
  have hcn : (zGa ((rCp μ 91 75 0 0 21) 71) ((rCp μ 91 75 0 0 21) 75) (nI a) ((rCp μ 91 75 0 0 21) 94) ((rCp μ 91 75 0 0 21) 93) n).1 ≤ n := zGa_le n
  have hfr : zFr (rCp μ 91 75 0 0 21) (mLp (rCp μ 91 75 0 0 21) (zGa ((rCp μ 91 75 0 0 21) 71) ((rCp μ 91 75 0 0 21) 75) (nI a) ((rCp μ 91 75 0 0 21) 94) ((rCp μ 91 75 0 0 21) 93) n).2.1 (zGa ((rCp μ 91 75 0 0 21) 71) ((rCp μ 91 75 0 0 21) 75) (nI a) ((rCp μ 91 75 0 0 21) 94) ((rCp μ 91 75 0 0 21) 93) n).2.2) := zFr.lay
  have hin : ∀ p, p < c → ∃ v : Nat, v < 6 ∧ R 93 p = nI v := fun p hp => by
    rw [← eR]
    obtain ⟨v, v1, v2⟩ := zGa_in n p (show p < (zGa ((rCp μ 91 75 0 0 21) 71) ((rCp μ 91 75 0 0 21) 75) (nI a) ((rCp μ 91 75 0 0 21) 94) ((rCp μ 91 75 0 0 21) 93) n).1 by omega)
    exact ⟨v, by omega, v2⟩
  refine z_iload_n dX10_order_0 rfl ?_
  refine z_iconst (v := 0) dX10_order_1 rfl ?_
  refine z_iconst (v := 1) dX10_order_2 rfl ?_
  refine m_callS (As := [.int _, .int _, .int _]) dX10_order_3 kX10_108 ⟨rfl, rfl⟩ rfl ⟨rfl, rfl⟩ rfl rfl rfl (c_inT (v := a) (lo := 0) (hi := 1) (Nat.zero_le a) ha (by decide)) (fun r3 μ3 ν3 hk3 => ?_)
  obtain ⟨rfl, rfl, rfl⟩ := hk3
  refine z_if_ne 12 dX10_order_6 (by decide) (fun h6 => ?_) (fun h6 => absurd h6 (by decide))
  refine z_aload_n dX10_order_12 rfl ?_
  refine m_callVv (As := []) dX10_order_13 kX10_245 ⟨rfl, rfl⟩ rfl ⟨rfl, rfl⟩ rfl rfl sh66 rfl rfl d_hold (fun μ13 ν13 hk13 => ?_)
  obtain ⟨rfl, rfl⟩ := hk13
  refine z_aload_n dX10_order_16 rfl ?_
  refine z_iload_n dX10_order_17 rfl ?_
  refine m_callV (As := [.int _]) dX10_order_18 kX10_251 ⟨rfl, rfl⟩ rfl ⟨rfl, rfl⟩ rfl rfl sh66 rfl rfl (d_lay (zFr.holdN hn) hz6) (fun r18 μ18 ν18 hk18 => ?_)
  obtain ⟨rfl, rfl, rfl⟩ := hk18
  refine z_istore_n (i := 3) (fun y => [(3, .int y), (0, .ref 66), (1, .int (nI a)), (2, .int x)]) dX10_order_21 rfl rfl (fun _ => rfl) (fun x9 e9 => ?_)
  subst e9
  rw [ec, eR]
  exact d_orderIn_n hN (by omega) hz6 hin (eR ▸ hfr.n (zFr.holdN hn)) (eR ▸ hfr.sd (zFr.holdS hsd)) hx hne
set_option maxRecDepth 100000 in
set_option maxHeartbeats 400000 in
theorem d_order_w {l : Launch} {G : zG} {μ : Mem} {ν : Lng} {n : Nat} (hn : μ 66 17 = nI n) (hz6 : n ≤ 6) (hsd : zSidesM μ n) {a c N : Nat} {R : Mem} (ha : a ≤ 1) (hN : N = zFa c) (ec : (zGa ((rCp μ 91 75 0 0 21) 71) ((rCp μ 91 75 0 0 21) 75) (nI a) ((rCp μ 91 75 0 0 21) 94) ((rCp μ 91 75 0 0 21) 93) n).1 = c) (eR : (mLp (rCp μ 91 75 0 0 21) (zGa ((rCp μ 91 75 0 0 21) 71) ((rCp μ 91 75 0 0 21) 75) (nI a) ((rCp μ 91 75 0 0 21) 94) ((rCp μ 91 75 0 0 21) 93) n).2.1 (zGa ((rCp μ 91 75 0 0 21) 71) ((rCp μ 91 75 0 0 21) 75) (nI a) ((rCp μ 91 75 0 0 21) 94) ((rCp μ 91 75 0 0 21) 93) n).2.2) = R) {j : Nat} (hj : j < c)  : Cm l G mX10_order [.ref 66, .int (nI a), .int (nI j)] μ ν (fun a9 b9 c9 => (rOb c n R N).1 92 j = a9 ∧ rCp (rOb c n R N).1 75 91 0 0 21 = b9 ∧ ν = c9) := by
  refine Con.of (by decide) (Nat.le_of_ble_eq_true rfl) ?_
  show Am l G mX10_order 0 [(0, .ref 66), (1, .int (nI a)), (2, .int (nI j))] [] μ ν _
  have hcn : (zGa ((rCp μ 91 75 0 0 21) 71) ((rCp μ 91 75 0 0 21) 75) (nI a) ((rCp μ 91 75 0 0 21) 94) ((rCp μ 91 75 0 0 21) 93) n).1 ≤ n := zGa_le n
  have hfr : zFr (rCp μ 91 75 0 0 21) (mLp (rCp μ 91 75 0 0 21) (zGa ((rCp μ 91 75 0 0 21) 71) ((rCp μ 91 75 0 0 21) 75) (nI a) ((rCp μ 91 75 0 0 21) 94) ((rCp μ 91 75 0 0 21) 93) n).2.1 (zGa ((rCp μ 91 75 0 0 21) 71) ((rCp μ 91 75 0 0 21) 75) (nI a) ((rCp μ 91 75 0 0 21) 94) ((rCp μ 91 75 0 0 21) 93) n).2.2) := zFr.lay
  have hin : ∀ p, p < c → ∃ v : Nat, v < 6 ∧ R 93 p = nI v := fun p hp => by
    rw [← eR]
    obtain ⟨v, v1, v2⟩ := zGa_in n p (show p < (zGa ((rCp μ 91 75 0 0 21) 71) ((rCp μ 91 75 0 0 21) 75) (nI a) ((rCp μ 91 75 0 0 21) 94) ((rCp μ 91 75 0 0 21) 93) n).1 by omega)
    exact ⟨v, by omega, v2⟩
  refine z_iload_n dX10_order_0 rfl ?_
  refine z_iconst (v := 0) dX10_order_1 rfl ?_
  refine z_iconst (v := 1) dX10_order_2 rfl ?_
  refine m_callS (As := [.int _, .int _, .int _]) dX10_order_3 kX10_108 ⟨rfl, rfl⟩ rfl ⟨rfl, rfl⟩ rfl rfl rfl (c_inT (v := a) (lo := 0) (hi := 1) (Nat.zero_le a) ha (by decide)) (fun r3 μ3 ν3 hk3 => ?_)
  obtain ⟨rfl, rfl, rfl⟩ := hk3
  refine z_if_ne 12 dX10_order_6 (by decide) (fun h6 => ?_) (fun h6 => absurd h6 (by decide))
  refine z_aload_n dX10_order_12 rfl ?_
  refine m_callVv (As := []) dX10_order_13 kX10_245 ⟨rfl, rfl⟩ rfl ⟨rfl, rfl⟩ rfl rfl sh66 rfl rfl d_hold (fun μ13 ν13 hk13 => ?_)
  obtain ⟨rfl, rfl⟩ := hk13
  refine z_aload_n dX10_order_16 rfl ?_
  refine z_iload_n dX10_order_17 rfl ?_
  refine m_callV (As := [.int _]) dX10_order_18 kX10_251 ⟨rfl, rfl⟩ rfl ⟨rfl, rfl⟩ rfl rfl sh66 rfl rfl (d_lay (zFr.holdN hn) hz6) (fun r18 μ18 ν18 hk18 => ?_)
  obtain ⟨rfl, rfl, rfl⟩ := hk18
  refine z_istore_n (i := 3) (fun y => [(3, .int y), (0, .ref 66), (1, .int (nI a)), (2, .int (nI j))]) dX10_order_21 rfl rfl (fun _ => rfl) (fun x9 e9 => ?_)
  subst e9
  rw [ec, eR]
  exact d_orderIn_w hN (by omega) hz6 hin (eR ▸ hfr.n (zFr.holdN hn)) (eR ▸ hfr.sd (zFr.holdS hsd)) hj
