set_option maxRecDepth 100000 in
set_option maxHeartbeats 400000 in
theorem d_readEnd {l : Launch} {G : zG} {R : Mem} {ν : Lng} {K : Int32 → Mem → Lng → Prop} {a : Nat} {t k n f : Int32} (HK : K 1 (mR R a t k n (-1) f) ν) : Am l G mX10_isRead 71 [(1, .int 0), (0, .ref 66)] [] (mR R a t k n (-1) f) ν K := by
  refine z_iload_n dX10_isRead_71 rfl ?_
  refine z_if_eq 238 dX10_isRead_72 (by decide) (fun h72 => ?_) (fun h72 => absurd (by decide) h72)
  refine z_aload_n dX10_isRead_238 rfl ?_
  refine m_geti dX10_isRead_239 fX10_13 sh66 rfl ?_
  rw [mR_6]
  refine z_iconst (v := -1) dX10_isRead_242 rfl ?_
  refine z_icmp_ne 250 dX10_isRead_243 (by decide) (fun h243 => absurd (by decide) h243) (fun h243 => ?_)
  refine z_iconst (v := 1) dX10_isRead_246 rfl ?_
  refine z_goto 251 dX10_isRead_247 (by decide) ?_
  refine m_iret dX10_isRead_251 rfl rfl ?_
  exact HK
set_option maxRecDepth 100000 in
set_option maxHeartbeats 400000 in
theorem d_readBad {l : Launch} {G : zG} {R0 N : Mem} {ν : Lng} {K : Int32 → Mem → Lng → Prop} {p f : Int32} (hb : zBd R0 p f N) (hp : ¬ p = -1) (HK : K 0 N ν) : Am l G mX10_isRead 71 [(1, .int 0), (0, .ref 66)] [] N ν K := by
  refine z_iload_n dX10_isRead_71 rfl ?_
  refine z_if_eq 238 dX10_isRead_72 (by decide) (fun h72 => ?_) (fun h72 => absurd (by decide) h72)
  refine z_aload_n dX10_isRead_238 rfl ?_
  refine m_geti dX10_isRead_239 fX10_13 sh66 rfl ?_
  rw [hb.2.2.1]
  refine z_iconst (v := -1) dX10_isRead_242 rfl ?_
  refine z_icmp_ne 250 dX10_isRead_243 (by decide) (fun h243 => ?_) (fun h243 => absurd h243 hp)
  refine z_iconst (v := 0) dX10_isRead_250 rfl ?_
  refine m_iret dX10_isRead_251 rfl rfl ?_
  exact HK

theorem gIt_a {T : Nat → Int32} {L : Nat} {X : Mem × zCu} (h : zRdi T L X) : ∀ i, (gIt T L X i).2.2.2.1 ≤ L := fun i => (gIt_ri h i).2.2.2
set_option maxRecDepth 100000 in
theorem d_readLoop {l : Launch} {G : zG} {R0 : Mem} {ν : Lng} {K : Int32 → Mem → Lng → Prop} {T : Nat → Int32} {L N : Nat} {X : Mem × zCu} (hX : zRdi T L X) (hN : L ≤ N) (hT0 : ∀ i, i < L → R0 67 i = T i) (hL0 : R0 66 0 = nI L) (hL2 : L ≤ 250) (h255 : ∀ i, i < L → zN (T i) 255)
    (OK : ∀ (R' : Mem) (m' a : Nat) (t k n f : Int32), (gIt T L X N).2.1 = 0 → zDr (gIt T L X N).1 R' m' → zFm R0 R' → K 1 (mR R' a t k n (-1) f) ν)
    (NO : ∀ (N' : Mem), ¬ (gIt T L X N).2.1 = 0 → zBd R0 (gIt T L X N).2.2.1 (gIt T L X N).2.1 N' → K 0 N' ν) :
    ∀ (d i : Nat) (R : Mem) (m : Nat) (t k n f : Int32), i + d = N → (gIt T L X i).2.1 = 0 → i ≤ (gIt T L X i).2.2.2.1 → zDr (gIt T L X i).1 R m → zFm R0 R → Am l G mX10_isRead 71 [(1, .int 1), (0, .ref 66)] [] (mR R (gIt T L X i).2.2.2.1 t k n (-1) f) ν K
  | 0, i, R, m, t, k, n, f, hi, hf, hp, hd, hfm => by
    have ha := gIt_a hX i
    have hb := (zBk_sp (T := T) ha).1
    have nb : ¬ zBk T L (gIt T L X i).2.2.2.1 < L := by omega
    rw [Nat.add_zero] at hi
    refine d_step hT0 hL0 hL2 ha h255 hf hd hfm (fun R' m' t k n f _ q _ _ => absurd q nb) (fun N' q _ => absurd (show (gNx T L ((gIt T L X i).1, (gIt T L X i).2)).2.1 = 0 by rw [gNx_2 (X := ((gIt T L X i).1, (gIt T L X i).2)) hf nb]; exact hf) q) (fun R' a t k n f _ h1 h2 => d_readEnd (OK R' m a t k n f (by rw [← hi]; exact hf) (by rw [← hi]; exact h1) h2))
  | d + 1, i, R, m, t, k, n, f, hi, hf, hp, hd, hfm => by
    have ha := gIt_a hX i
    have hb := zBk_sp (T := T) ha
    have e1 : gIt T L X (i + 1) = gNx T L ((gIt T L X i).1, (gIt T L X i).2) := rfl
    refine d_step hT0 hL0 hL2 ha h255 hf hd hfm (fun R' m' t k n f q1 q2 q3 q4 => ?_) (fun N' q1 q2 => ?_) (fun R' a t k n f q1 q2 q3 => ?_)
    · rw [← e1] at q1 q3 ⊢
      refine d_readLoop hX hN hT0 hL0 hL2 h255 OK NO d (i + 1) R' m' t k n f (by omega) q1 ?_ q3 q4
      rcases (gNx_ri (gIt_ri hX i)).2 with z | z | z
      · have z : (gIt T L X i).2.2.2.1 < (gIt T L X (i + 1)).2.2.2.1 := z
        omega
      · exact absurd q1 z
      · have z : (gIt T L X (i + 1)).2.2.2.1 = L := z
        omega
    · rw [← e1] at q1 q2
      have e2 : gIt T L X N = gIt T L X (i + 1) := gIt_end (by omega) (gNx_0 q1)
      have hb' : zBk T L (gIt T L X i).2.2.2.1 < L := Classical.byContradiction (fun nb => q1 (by rw [e1, gNx_2 (X := ((gIt T L X i).1, (gIt T L X i).2)) hf nb]; exact hf))
      have po := gCl_po (T := T) (L := L) (M := (gIt T L X i).1) (s := ((gIt T L X i).2.1, (gIt T L X i).2.2.1, zBk T L (gIt T L X i).2.2.2.1, (gIt T L X i).2.2.2.2)) (by exact hf) hL2 (by exact hb')
      rw [← gNx_1 (X := ((gIt T L X i).1, (gIt T L X i).2)) hf hb', ← e1] at po
      obtain ⟨x, x1, x2⟩ := po q1
      refine d_readBad q2 (by rw [x2]; exact nI_ne_m1 (by omega)) (NO N' (by rw [e2]; exact q1) (by rw [e2]; exact q2))
    · have e3 : gIt T L X N = gIt T L X (i + 1) := gIt_end (by omega) (gNx_3 ha hf q1)
      have e4 : gIt T L X (i + 1) = ((gIt T L X i).1, ((gIt T L X i).2.1, (gIt T L X i).2.2.1, zBk T L (gIt T L X i).2.2.2.1, (gIt T L X i).2.2.2.2)) := gNx_2 (X := ((gIt T L X i).1, (gIt T L X i).2)) hf q1
      exact d_readEnd (OK R' m a t k n f (by rw [e3, e4]; exact hf) (by rw [e3, e4]; exact q2) q3)

def rR1 (M : Mem) : Nat → Mem
  | 0 => up2 (up2 (up2 (up2 (up2 (up2 (up2 M 66 2 0) 66 8 0) 66 11 0) 66 12 0) 66 13 9) 66 14 0) 66 15 0
  | i + 1 => up2 (up2 (rR1 M i) 69 (2 * i) 2) 69 (2 * i + 1) 3
theorem rR1_fm {M : Mem} : ∀ i, zFm M (rR1 M i)
  | 0 => by
    have h : zFm M M := ⟨fun _ _ _ _ => rfl, fun _ _ => rfl⟩
    exact ((((((h.u6 (by decide)).u6 (by decide)).u6 (by decide)).u6 (by decide)).u6 (by decide)).u6 (by decide)).u6 (by decide)
  | i + 1 => ((rR1_fm i).u9).u9
theorem rR1_66 {M : Mem} {j : Nat} : ∀ i, rR1 M i 66 j = rR1 M 0 66 j
  | 0 => rfl
  | i + 1 => by
    show up2 (up2 (rR1 M i) 69 (2 * i) 2) 69 (2 * i + 1) 3 66 j = _
    rw [up2_ne (show 66 ≠ 69 by decide), up2_ne (show 66 ≠ 69 by decide), rR1_66 i]
theorem rR1_f {M : Mem} {i : Nat} : rR1 M i 66 2 = 0 ∧ rR1 M i 66 8 = 0 ∧ rR1 M i 66 11 = 0 ∧ rR1 M i 66 12 = 0 ∧ rR1 M i 66 13 = 9 ∧ rR1 M i 66 14 = 0 ∧ rR1 M i 66 15 = 0 ∧ rR1 M i 66 6 = M 66 6 := by
  have z : ∀ j, rR1 M i 66 j = rR1 M 0 66 j := fun j => rR1_66 i
  exact ⟨(z 2).trans rfl, (z 8).trans rfl, (z 11).trans rfl, (z 12).trans rfl, (z 13).trans rfl, (z 14).trans rfl, (z 15).trans rfl, (z 6).trans rfl⟩
theorem rR1_dr {M μ : Mem} : zDr (gR0 μ) (rR1 M 2) 0 := by
  obtain ⟨h2, h8, h11, h12, h13, h14, h15, h6⟩ := rR1_f (M := M) (i := 2)
  have e : ∀ q j, q ≠ 1 → gR0 μ q j = fFill (up2 (up2 (up2 (fFill (fFill μ 3 2 2) 4 2 3) 2 6 0) 9 3 0) 9 4 9) 14 2 0 q j := fun q j h => by
    unfold gR0
    rw [up2_ne h, up2_ne h]
  refine ⟨by decide, ?_, h8, fun w hw => absurd hw (Nat.not_lt_zero w), fun a ha => ⟨2, 3, by decide, by decide, by decide, ?_, ?_, ?_, ?_⟩, ⟨0, by decide, h11, fun a ha => ?_⟩, ⟨0, by decide, ?_, h12⟩, ⟨9, by decide, ?_, h13⟩, ?_, ?_⟩
  · rw [e 2 6 (by decide)]
    unfold fFill
    rw [va_up_ne _ _ (by decide), up2_ne (by decide), up2_ne (by decide), up2_same]
    rfl
  · rw [e 3 a (by decide)]
    unfold fFill
    rw [va_up_ne _ _ (by decide), up2_ne (by decide), up2_ne (by decide), up2_ne (by decide), va_up_ne _ _ (by decide), va_up_self, if_pos ha]
    rfl
  · rcases (show a = 0 ∨ a = 1 by omega) with rfl | rfl <;> rfl
  · rw [e 4 a (by decide)]
    unfold fFill
    rw [va_up_ne _ _ (by decide), up2_ne (by decide), up2_ne (by decide), up2_ne (by decide), va_up_self, if_pos ha]
    rfl
  · rcases (show a = 0 ∨ a = 1 by omega) with rfl | rfl <;> rfl
  · rw [e 14 a (by decide)]
    unfold fFill
    rw [va_up_self, if_pos ha]
    rcases (show a = 0 ∨ a = 1 by omega) with rfl | rfl <;> decide
  · rw [e 9 3 (by decide)]
    unfold fFill
    rw [va_up_ne _ _ (by decide), up2_row, if_neg (by decide), up2_same]
    rfl
  · rw [e 9 4 (by decide)]
    unfold fFill
    rw [va_up_ne _ _ (by decide), up2_same]
    rfl
  · rw [h14]
    unfold gR0
    rw [up2_row, if_neg (by decide), up2_same]
  · rw [h15]
    unfold gR0
    rw [up2_same]
set_option maxRecDepth 100000 in
set_option maxHeartbeats 400000 in
theorem d_isRead {l : Launch} {G : zG} {M μ : Mem} {ν : Lng} {K : Int32 → Mem → Lng → Prop} {T : Nat → Int32} {L N : Nat} (hT : μ 13 = T) (hL : μ 1 4 = nI L) (hN : L ≤ N) (hT0 : ∀ i, i < L → M 67 i = T i) (hL0 : M 66 0 = nI L) (h6 : M 66 6 = -1) (hL2 : L ≤ 250) (h255 : ∀ i, i < L → zN (T i) 255)
    (OK : ∀ (R' : Mem) (m' a : Nat) (t k n f : Int32), (gIt T L (gR0 μ, gS0 μ) N).2.1 = 0 → zDr (gIt T L (gR0 μ, gS0 μ) N).1 R' m' → zFm M R' → K 1 (mR R' a t k n (-1) f) ν)
    (NO : ∀ (N' : Mem), ¬ (gIt T L (gR0 μ, gS0 μ) N).2.1 = 0 → zBd M (gIt T L (gR0 μ, gS0 μ) N).2.2.1 (gIt T L (gR0 μ, gS0 μ) N).2.1 N' → K 0 N' ν) : Cm l G mX10_isRead [.ref 66] M ν K := by
  refine Con.of (by decide) (Nat.le_of_ble_eq_true rfl) ?_
  show Am l G mX10_isRead 0 [(0, .ref 66)] [] M ν _
  have hgo := d_readLoop (l := l) (G := G) (ν := ν) (gR0_ri (μ := μ) hT hL) hN hT0 hL0 hL2 h255 OK NO N 0 (rR1 M 2) 0 (rR1 M 2 66 3) (rR1 M 2 66 4) (rR1 M 2 66 5) (rR1 M 2 66 7) (Nat.zero_add N) rfl (Nat.zero_le _) rR1_dr (rR1_fm 2)
  have eS : mR (rR1 M 2) (gIt T L (gR0 μ, gS0 μ) 0).2.2.2.1 (rR1 M 2 66 3) (rR1 M 2 66 4) (rR1 M 2 66 5) (-1) (rR1 M 2 66 7) = rR1 M 2 := by
    have e := mR_self (M := rR1 M 2) (a := 0) rR1_f.1
    rw [rR1_f.2.2.2.2.2.2.2, h6] at e
    exact e
  rw [eS] at hgo
  have hL1 := m_for (l := l) (G := G) (M := mX10_isRead) (pc := 38) (ν := ν) (K := K) (N := 2) (fun i => [(1, .int (nI i)), (0, .ref 66)]) (fun i => rR1 M i) (fun i hi H => by
    refine z_iload_n dX10_isRead_38 rfl ?_
    refine z_iconst (v := 2) dX10_isRead_39 rfl ?_
    refine z_icmp_ge 69 dX10_isRead_40 (by decide) (fun h40 => absurd h40 (nI_ge (a := i) (b := 2) hi (by decide))) (fun h40 => ?_)
    refine z_aload_n dX10_isRead_43 rfl ?_
    refine m_getr dX10_isRead_44 fX10_20 sh66 rfl ?_
    refine z_iconst (v := 2) dX10_isRead_47 rfl ?_
    refine z_iload_n dX10_isRead_48 rfl ?_
    refine z_imul dX10_isRead_49 ?_
    rw [show (2 * nI i) = nI (2 * i) from zv1 (by omega)]
    refine z_iconst (v := 2) dX10_isRead_50 rfl ?_
    refine m_iastN (j := 2 * i) dX10_isRead_51 sh69 rfl (by omega) rfl ?_
    refine z_aload_n dX10_isRead_52 rfl ?_
    refine m_getr dX10_isRead_53 fX10_20 sh66 rfl ?_
    refine z_iconst (v := 2) dX10_isRead_56 rfl ?_
    refine z_iload_n dX10_isRead_57 rfl ?_
    refine z_imul dX10_isRead_58 ?_
    rw [show (2 * nI i) = nI (2 * i) from zv1 (by omega)]
    refine z_iconst (v := 1) dX10_isRead_59 rfl ?_
    refine z_iadd dX10_isRead_60 ?_
    rw [show (nI (2 * i) + 1) = nI (2 * i + 1) from nI_1 _]
    refine z_iconst (v := 3) dX10_isRead_61 rfl ?_
    refine m_iastN (j := 2 * i + 1) dX10_isRead_62 sh69 rfl (by omega) rfl ?_
    refine z_iinc (fun y => [(1, .int y), (0, .ref 66)]) dX10_isRead_63 rfl rfl (fun _ => rfl) (fun x1_63 ex1_63 => ?_)
    obtain rfl : x1_63 = nI (i + 1) := by rw [ex1_63]; exact nI_1 i
    refine z_goto 38 dX10_isRead_66 (by decide) ?_
    exact H) (by
    refine z_iload_n dX10_isRead_38 rfl ?_
    refine z_iconst (v := 2) dX10_isRead_39 rfl ?_
    refine z_icmp_ge 69 dX10_isRead_40 (by decide) (fun h40 => ?_) (fun h40 => absurd (nI_le (a := 2) (b := 2) (by decide) (by decide)) h40)
    refine z_iconst (v := 1) dX10_isRead_69 rfl ?_
    refine z_istore_n (i := 1) (fun y => [(1, .int y), (0, .ref 66)]) dX10_isRead_70 rfl rfl (fun _ => rfl) (fun x9 e9 => ?_)
    subst e9
    exact hgo)
  refine z_aload_n dX10_isRead_0 rfl ?_
  refine z_iconst (v := 0) dX10_isRead_1 rfl ?_
  refine m_puti dX10_isRead_2 fX10_117 (fun q h => by cases h; rfl) rfl rfl sh66 rfl ?_
  refine z_aload_n dX10_isRead_5 rfl ?_
  refine z_iconst (v := 0) dX10_isRead_6 rfl ?_
  refine m_puti dX10_isRead_7 fX10_146 (fun q h => by cases h; rfl) rfl rfl sh66 rfl ?_
  refine z_aload_n dX10_isRead_10 rfl ?_
  refine z_iconst (v := 0) dX10_isRead_11 rfl ?_
  refine m_puti dX10_isRead_12 fX10_143 (fun q h => by cases h; rfl) rfl rfl sh66 rfl ?_
  refine z_aload_n dX10_isRead_15 rfl ?_
  refine z_iconst (v := 0) dX10_isRead_16 rfl ?_
  refine m_puti dX10_isRead_17 fX10_153 (fun q h => by cases h; rfl) rfl rfl sh66 rfl ?_
  refine z_aload_n dX10_isRead_20 rfl ?_
  refine z_bipush (v := 9) dX10_isRead_21 rfl ?_
  refine m_puti dX10_isRead_23 fX10_159 (fun q h => by cases h; rfl) rfl rfl sh66 rfl ?_
  refine z_aload_n dX10_isRead_26 rfl ?_
  refine z_iconst (v := 0) dX10_isRead_27 rfl ?_
  refine m_puti dX10_isRead_28 fX10_149 (fun q h => by cases h; rfl) rfl rfl sh66 rfl ?_
  refine z_aload_n dX10_isRead_31 rfl ?_
  refine z_iconst (v := 0) dX10_isRead_32 rfl ?_
  refine m_puti dX10_isRead_33 fX10_156 (fun q h => by cases h; rfl) rfl rfl sh66 rfl ?_
  refine z_iconst (v := 0) dX10_isRead_36 rfl ?_
  refine z_istore_n (i := 1) (fun y => [(1, .int y), (0, .ref 66)]) dX10_isRead_37 rfl rfl (fun _ => rfl) (fun x9 e9 => ?_)
  subst e9
  exact hL1 0 (by decide)
