
def mR (M : Mem) (a : Nat) (t k n p f : Int32) : Mem := va_up M 66 (fun j => if j = 2 then nI a else if j = 3 then t else if j = 4 then k else if j = 5 then n else if j = 6 then p else if j = 7 then f else M 66 j)
section MR
variable {M : Mem} {a : Nat} {t k n p f : Int32}
theorem mR_2 : mR M a t k n p f 66 2 = nI a := rfl
theorem mR_3 : mR M a t k n p f 66 3 = t := rfl
theorem mR_4 : mR M a t k n p f 66 4 = k := rfl
theorem mR_5 : mR M a t k n p f 66 5 = n := rfl
theorem mR_6 : mR M a t k n p f 66 6 = p := rfl
theorem mR_7 : mR M a t k n p f 66 7 = f := rfl
theorem mR_0 : mR M a t k n p f 66 0 = M 66 0 := rfl
theorem mR_ne {q : Nat} (h : q ≠ 66) : mR M a t k n p f q = M q := va_up_ne _ _ h
theorem mR_row {j : Nat} (h : j < 2 ∨ 7 < j) : mR M a t k n p f 66 j = M 66 j := by
  unfold mR
  rw [va_up_self, if_neg (by omega), if_neg (by omega), if_neg (by omega), if_neg (by omega), if_neg (by omega), if_neg (by omega)]
theorem mR_ext {N : Mem} (h : ∀ q, q ≠ 66 → N q = M q) (h2 : N 66 2 = nI a) (h3 : N 66 3 = t) (h4 : N 66 4 = k) (h5 : N 66 5 = n) (h6 : N 66 6 = p) (h7 : N 66 7 = f) (hr : ∀ j, j < 2 ∨ 7 < j → N 66 j = M 66 j) : N = mR M a t k n p f := by
  funext q j
  by_cases e : q = 66
  · subst e
    rcases (show j = 2 ∨ j = 3 ∨ j = 4 ∨ j = 5 ∨ j = 6 ∨ j = 7 ∨ (j < 2 ∨ 7 < j) by omega) with rfl | rfl | rfl | rfl | rfl | rfl | e
    · exact h2
    · exact h3
    · exact h4
    · exact h5
    · exact h6
    · exact h7
    · rw [mR_row e, hr j e]
  · rw [mR_ne e, h q e]
theorem mR_self (h : M 66 2 = nI a) : mR M a (M 66 3) (M 66 4) (M 66 5) (M 66 6) (M 66 7) = M := (mR_ext (fun _ _ => rfl) h rfl rfl rfl rfl rfl (fun _ _ => rfl)).symm
theorem mR_up {q i : Nat} {v : Int32} (h : q ≠ 66) : up2 (mR M a t k n p f) q i v = mR (up2 M q i v) a t k n p f := by
  refine mR_ext (fun c hc => ?_) ?_ ?_ ?_ ?_ ?_ ?_ (fun j hj => ?_)
  · funext j
    by_cases e : c = q
    · rw [e, up2_row, up2_row, mR_ne h]
    · rw [up2_ne e, up2_ne e, mR_ne hc]
  all_goals rw [up2_ne (Ne.symm h)]
  · rfl
  · rfl
  · rfl
  · rfl
  · rfl
  · rfl
  · rw [up2_ne (Ne.symm h), mR_row hj]
theorem mR_u1 {i : Nat} {v : Int32} (h : i < 2 ∨ 7 < i) : up2 (mR M a t k n p f) 66 i v = mR (up2 M 66 i v) a t k n p f := by
  refine mR_ext (fun c hc => by rw [up2_ne hc, up2_ne hc, mR_ne hc]) ?_ ?_ ?_ ?_ ?_ ?_ (fun j hj => by rw [up2_row, up2_row, mR_row hj])
  all_goals rw [up2_row, if_neg (by omega)]; rfl
theorem mR_u2 {b : Nat} : up2 (mR M a t k n p f) 66 2 (nI b) = mR M b t k n p f := by
  refine mR_ext (fun c hc => by rw [up2_ne hc, mR_ne hc]) ?_ ?_ ?_ ?_ ?_ ?_ (fun j hj => by rw [up2_row, if_neg (by omega), mR_row hj]) <;> rw [up2_row] <;> rfl
theorem mR_u3 {v : Int32} : up2 (mR M a t k n p f) 66 3 v = mR M a v k n p f := by
  refine mR_ext (fun c hc => by rw [up2_ne hc, mR_ne hc]) ?_ ?_ ?_ ?_ ?_ ?_ (fun j hj => by rw [up2_row, if_neg (by omega), mR_row hj]) <;> rw [up2_row] <;> rfl
theorem mR_u4 {v : Int32} : up2 (mR M a t k n p f) 66 4 v = mR M a t v n p f := by
  refine mR_ext (fun c hc => by rw [up2_ne hc, mR_ne hc]) ?_ ?_ ?_ ?_ ?_ ?_ (fun j hj => by rw [up2_row, if_neg (by omega), mR_row hj]) <;> rw [up2_row] <;> rfl
theorem mR_u5 {v : Int32} : up2 (mR M a t k n p f) 66 5 v = mR M a t k v p f := by
  refine mR_ext (fun c hc => by rw [up2_ne hc, mR_ne hc]) ?_ ?_ ?_ ?_ ?_ ?_ (fun j hj => by rw [up2_row, if_neg (by omega), mR_row hj]) <;> rw [up2_row] <;> rfl
theorem mR_u6 {v : Int32} : up2 (mR M a t k n p f) 66 6 v = mR M a t k n v f := by
  refine mR_ext (fun c hc => by rw [up2_ne hc, mR_ne hc]) ?_ ?_ ?_ ?_ ?_ ?_ (fun j hj => by rw [up2_row, if_neg (by omega), mR_row hj]) <;> rw [up2_row] <;> rfl
theorem mR_u7 {v : Int32} : up2 (mR M a t k n p f) 66 7 v = mR M a t k n p v := by
  refine mR_ext (fun c hc => by rw [up2_ne hc, mR_ne hc]) ?_ ?_ ?_ ?_ ?_ ?_ (fun j hj => by rw [up2_row, if_neg (by omega), mR_row hj]) <;> rw [up2_row] <;> rfl
theorem zltR {L b : Nat} (hL : M 66 0 = nI L) (hL2 : L ≤ 250) (hb : b ≤ L) (h : ¬ mR M a t k n p f 66 0 ≤ nI b) : b < L := by
  have e : ¬ M 66 0 ≤ nI b := h
  rw [hL] at e
  exact Nat.lt_of_not_le (fun q => e ((nI_leI (by omega) (by omega)).mpr q))
theorem zgeR {L b : Nat} (hL : M 66 0 = nI L) (hL2 : L ≤ 250) (h : mR M a t k n p f 66 0 ≤ nI b) : ¬ b < L := fun q => by
  have e : M 66 0 ≤ nI b := h
  rw [hL] at e
  exact absurd e (nI_ge q (by omega))
end MR
/-- the number as the reference reads it -/
def zRn (T : Nat → Int32) (b : Nat) : Nat → Int32
  | 0 => 0
  | i + 1 => if i < 3 then 10 * zRn T b i + T (b + i) - 48 else zRn T b i
theorem zRn_eq {T : Nat → Int32} {b : Nat} : ∀ i, i ≤ 3 → (∀ j, j < i → zDi (T (b + j)) = true) → zRn T b i = nI (zVl T b i)
  | 0, _, _ => rfl
  | i + 1, hi, h => by
    have ih := zRn_eq (T := T) (b := b) i (by omega) (fun j hj => h j (by omega))
    obtain ⟨d, d1, d2, d3⟩ := zDi_at (h i (by omega))
    rw [zRn, if_pos (by omega), ih, d2, zVl, d3, show (10 : Int32) = nI 10 from rfl, pk_mul, nI_add, show (48 : Int32) = nI 48 from rfl, pk_sub (by omega)]
    congr 1
    omega
theorem zDi_no {x : Int32} (h : ¬ zDi x = true) : x < 48 ∨ 57 < x := by
  by_cases e : 48 ≤ x
  · exact Or.inr (Int32.not_le.mp (fun q => h (zDi_iff.mpr ⟨e, q⟩)))
  · exact Or.inl (Int32.not_le.mp e)
set_option maxRecDepth 100000 in
set_option maxHeartbeats 400000 in
theorem d_tok_e {l : Launch} {G : zG} {M : Mem} {ν : Lng} {a : Nat} {t k n p f : Int32} {T : Nat → Int32} {L : Nat} (hT : ∀ i, i < L → M 67 i = T i) (hL : M 66 0 = nI L) (hL2 : L ≤ 250) (ha : a ≤ L) (h0 : ¬ zBk T L a < L)  : Cm l G mX10_nextToken [.ref 66] (mR M a t k n p f) ν (fun _ b9 c9 => mR M (zBk T L a) (nI (zBk T L a)) (-2) 0 p f = b9 ∧ ν = c9) := by
  refine Con.of (by decide) (Nat.le_of_ble_eq_true rfl) ?_
  show Am l G mX10_nextToken 0 [(0, .ref 66)] [] (mR M a t k n p f) ν _
  obtain ⟨b1, b2, b3, b4⟩ := zBk_sp (T := T) ha
  obtain ⟨b, hb⟩ : ∃ b, zBk T L a = b := ⟨_, rfl⟩
  rw [hb] at b1 b2 b3 b4
  rw [hb] at h0 ⊢
  have h38 : Am l G mX10_nextToken 38 [(0, .ref 66)] [] (mR M b t k n p f) ν (fun _ b9 c9 => mR M b (nI b) (-2) 0 p f = b9 ∧ ν = c9) := by
    refine z_aload_n dX10_nextToken_38 rfl ?_
    refine z_aload_n dX10_nextToken_39 rfl ?_
    refine m_geti dX10_nextToken_40 fX10_117 sh66 rfl ?_
    rw [mR_2]
    refine m_puti dX10_nextToken_43 fX10_120 (fun q h => by cases h; rfl) rfl rfl sh66 rfl ?_
    rw [mR_u3]
    refine z_aload_n dX10_nextToken_46 rfl ?_
    refine z_iconst (v := 0) dX10_nextToken_47 rfl ?_
    refine m_puti dX10_nextToken_48 fX10_123 (fun q h => by cases h; rfl) rfl rfl sh66 rfl ?_
    rw [mR_u5]
    refine z_aload_n dX10_nextToken_51 rfl ?_
    refine m_geti dX10_nextToken_52 fX10_117 sh66 rfl ?_
    rw [mR_2]
    refine z_aload_n dX10_nextToken_55 rfl ?_
    refine m_geti dX10_nextToken_56 fX10_113 sh66 rfl ?_
    refine z_icmp_ne 71 dX10_nextToken_59 (by decide) (fun h59 => absurd (show nI b = M 66 0 by rw [hL, show b = L by omega]) h59) (fun h59 => ?_)
    refine z_aload_n dX10_nextToken_62 rfl ?_
    refine z_bipush (v := -2) dX10_nextToken_63 rfl ?_
    refine m_puti dX10_nextToken_65 fX10_126 (fun q h => by cases h; rfl) rfl rfl sh66 rfl ?_
    refine z_goto 226 dX10_nextToken_68 (by decide) ?_
    refine m_ret dX10_nextToken_226 rfl ?_
    rw [mR_u4]
    exact ⟨rfl, rfl⟩
  have hS := m_for (l := l) (G := G) (M := mX10_nextToken) (pc := 0) (ν := ν) (K := (fun _ b9 c9 => mR M b (nI b) (-2) 0 p f = b9 ∧ ν = c9)) (N := (b - a)) (fun i => [(0, .ref 66)]) (fun i => mR M (a + i) t k n p f) (fun i hi H => by
    refine z_aload_n dX10_nextToken_0 rfl ?_
    refine m_geti dX10_nextToken_1 fX10_117 sh66 rfl ?_
    rw [mR_2]
    refine z_aload_n dX10_nextToken_4 rfl ?_
    refine m_geti dX10_nextToken_5 fX10_113 sh66 rfl ?_
    refine z_icmp_ge 38 dX10_nextToken_8 (by decide) (fun h8 => absurd (show a + i < L by omega) (zgeR hL hL2 h8)) (fun h8 => ?_)
    refine z_aload_n dX10_nextToken_11 rfl ?_
    refine m_getr dX10_nextToken_12 fX10_7 sh66 rfl ?_
    refine z_aload_n dX10_nextToken_15 rfl ?_
    refine m_geti dX10_nextToken_16 fX10_117 sh66 rfl ?_
    rw [mR_2]
    refine m_ialdN (j := a + i) dX10_nextToken_19 sh67 rfl (by omega) rfl ?_
    rw [mR_ne (show 67 ≠ 66 by decide), hT (a + i) (by omega)]
    refine z_bipush (v := 32) dX10_nextToken_20 rfl ?_
    refine z_icmp_ne 38 dX10_nextToken_22 (by decide) (fun h22 => absurd (b3 (a + i) (by omega) (by omega)) h22) (fun h22 => ?_)
    refine z_aload_n dX10_nextToken_25 rfl ?_
    refine z_dup dX10_nextToken_26 rfl ?_
    refine m_geti dX10_nextToken_27 fX10_117 sh66 rfl ?_
    rw [mR_2]
    refine z_iconst (v := 1) dX10_nextToken_30 rfl ?_
    refine z_iadd dX10_nextToken_31 ?_
    rw [show (nI (a + i) + 1) = nI (a + i + 1) from nI_1 _]
    refine m_puti dX10_nextToken_32 fX10_117 (fun q h => by cases h; rfl) rfl rfl sh66 rfl ?_
    refine z_goto 0 dX10_nextToken_35 (by decide) ?_
    rw [mR_u2]
    exact H) (by
    rw [show a + (b - a) = b by omega]
    refine z_aload_n dX10_nextToken_0 rfl ?_
    refine m_geti dX10_nextToken_1 fX10_117 sh66 rfl ?_
    rw [mR_2]
    refine z_aload_n dX10_nextToken_4 rfl ?_
    refine m_geti dX10_nextToken_5 fX10_113 sh66 rfl ?_
    refine z_icmp_ge 38 dX10_nextToken_8 (by decide) (fun h8 => ?_) (fun h8 => ?_)
    · skip
      exact h38
    · skip
      have hlt9 := zltR hL hL2 b2 h8
      refine z_aload_n dX10_nextToken_11 rfl ?_
      refine m_getr dX10_nextToken_12 fX10_7 sh66 rfl ?_
      refine z_aload_n dX10_nextToken_15 rfl ?_
      refine m_geti dX10_nextToken_16 fX10_117 sh66 rfl ?_
      rw [mR_2]
      refine m_ialdN (j := b) dX10_nextToken_19 sh67 rfl (by omega) rfl ?_
      rw [mR_ne (show 67 ≠ 66 by decide), hT (b) (by omega)]
      refine z_bipush (v := 32) dX10_nextToken_20 rfl ?_
      refine z_icmp_ne 38 dX10_nextToken_22 (by decide) (fun h22 => ?_) (fun h22 => absurd h22 (b4 (zltR hL hL2 b2 h8)))
      exact h38)
  have e0 := hS 0 (Nat.zero_le _)
  exact e0
set_option maxRecDepth 100000 in
set_option maxHeartbeats 400000 in
theorem d_tok_c {l : Launch} {G : zG} {M : Mem} {ν : Lng} {a : Nat} {t k n p f : Int32} {T : Nat → Int32} {L : Nat} (hT : ∀ i, i < L → M 67 i = T i) (hL : M 66 0 = nI L) (hL2 : L ≤ 250) (ha : a ≤ L) (h0 : zBk T L a < L) (h1 : ¬ zDi (T (zBk T L a)) = true)  : Cm l G mX10_nextToken [.ref 66] (mR M a t k n p f) ν (fun _ b9 c9 => mR M (zBk T L a + 1) (nI (zBk T L a)) (T (zBk T L a)) 0 p f = b9 ∧ ν = c9) := by
  refine Con.of (by decide) (Nat.le_of_ble_eq_true rfl) ?_
  show Am l G mX10_nextToken 0 [(0, .ref 66)] [] (mR M a t k n p f) ν _
  obtain ⟨b1, b2, b3, b4⟩ := zBk_sp (T := T) ha
  obtain ⟨b, hb⟩ : ∃ b, zBk T L a = b := ⟨_, rfl⟩
  rw [hb] at b1 b2 b3 b4
  rw [hb] at h0 ⊢
  rw [hb] at h1
  have h38 : Am l G mX10_nextToken 38 [(0, .ref 66)] [] (mR M b t k n p f) ν (fun _ b9 c9 => mR M (b + 1) (nI b) (T b) 0 p f = b9 ∧ ν = c9) := by
    refine z_aload_n dX10_nextToken_38 rfl ?_
    refine z_aload_n dX10_nextToken_39 rfl ?_
    refine m_geti dX10_nextToken_40 fX10_117 sh66 rfl ?_
    rw [mR_2]
    refine m_puti dX10_nextToken_43 fX10_120 (fun q h => by cases h; rfl) rfl rfl sh66 rfl ?_
    rw [mR_u3]
    refine z_aload_n dX10_nextToken_46 rfl ?_
    refine z_iconst (v := 0) dX10_nextToken_47 rfl ?_
    refine m_puti dX10_nextToken_48 fX10_123 (fun q h => by cases h; rfl) rfl rfl sh66 rfl ?_
    rw [mR_u5]
    refine z_aload_n dX10_nextToken_51 rfl ?_
    refine m_geti dX10_nextToken_52 fX10_117 sh66 rfl ?_
    rw [mR_2]
    refine z_aload_n dX10_nextToken_55 rfl ?_
    refine m_geti dX10_nextToken_56 fX10_113 sh66 rfl ?_
    refine z_icmp_ne 71 dX10_nextToken_59 (by decide) (fun h59 => ?_) (fun h59 => absurd (show nI b = M 66 0 from h59) (fun e => zne (a := b) (b := L) (by omega) (by omega) (by omega) (e.trans hL)))
    refine z_aload_n dX10_nextToken_71 rfl ?_
    refine m_getr dX10_nextToken_72 fX10_7 sh66 rfl ?_
    refine z_aload_n dX10_nextToken_75 rfl ?_
    refine m_geti dX10_nextToken_76 fX10_117 sh66 rfl ?_
    rw [mR_2]
    refine m_ialdN (j := b) dX10_nextToken_79 sh67 rfl (by omega) rfl ?_
    rw [mR_ne (show 67 ≠ 66 by decide), hT (b) (by omega)]
    refine z_bipush (v := 48) dX10_nextToken_80 rfl ?_
    refine z_bipush (v := 57) dX10_nextToken_82 rfl ?_
    refine m_callS (As := [.int _, .int _, .int _]) dX10_nextToken_84 kX10_108 ⟨rfl, rfl⟩ rfl ⟨rfl, rfl⟩ rfl rfl rfl (c_inF (zDi_no h1)) (fun r84 μ84 ν84 hk84 => ?_)
    obtain ⟨rfl, rfl, rfl⟩ := hk84
    refine z_if_eq 203 dX10_nextToken_87 (by decide) (fun h87 => ?_) (fun h87 => absurd (by decide) h87)
    refine z_aload_n dX10_nextToken_203 rfl ?_
    refine z_aload_n dX10_nextToken_204 rfl ?_
    refine m_getr dX10_nextToken_205 fX10_7 sh66 rfl ?_
    refine z_aload_n dX10_nextToken_208 rfl ?_
    refine m_geti dX10_nextToken_209 fX10_117 sh66 rfl ?_
    rw [mR_2]
    refine m_ialdN (j := b) dX10_nextToken_212 sh67 rfl (by omega) rfl ?_
    rw [mR_ne (show 67 ≠ 66 by decide), hT (b) (by omega)]
    refine m_puti dX10_nextToken_213 fX10_126 (fun q h => by cases h; rfl) rfl rfl sh66 rfl ?_
    rw [mR_u4]
    refine z_aload_n dX10_nextToken_216 rfl ?_
    refine z_dup dX10_nextToken_217 rfl ?_
    refine m_geti dX10_nextToken_218 fX10_117 sh66 rfl ?_
    rw [mR_2]
    refine z_iconst (v := 1) dX10_nextToken_221 rfl ?_
    refine z_iadd dX10_nextToken_222 ?_
    rw [show (nI b + 1) = nI (b + 1) from nI_1 _]
    refine m_puti dX10_nextToken_223 fX10_117 (fun q h => by cases h; rfl) rfl rfl sh66 rfl ?_
    refine m_ret dX10_nextToken_226 rfl ?_
    rw [mR_u2]
    exact ⟨rfl, rfl⟩
  have hS := m_for (l := l) (G := G) (M := mX10_nextToken) (pc := 0) (ν := ν) (K := (fun _ b9 c9 => mR M (b + 1) (nI b) (T b) 0 p f = b9 ∧ ν = c9)) (N := (b - a)) (fun i => [(0, .ref 66)]) (fun i => mR M (a + i) t k n p f) (fun i hi H => by
    refine z_aload_n dX10_nextToken_0 rfl ?_
    refine m_geti dX10_nextToken_1 fX10_117 sh66 rfl ?_
    rw [mR_2]
    refine z_aload_n dX10_nextToken_4 rfl ?_
    refine m_geti dX10_nextToken_5 fX10_113 sh66 rfl ?_
    refine z_icmp_ge 38 dX10_nextToken_8 (by decide) (fun h8 => absurd (show a + i < L by omega) (zgeR hL hL2 h8)) (fun h8 => ?_)
    refine z_aload_n dX10_nextToken_11 rfl ?_
    refine m_getr dX10_nextToken_12 fX10_7 sh66 rfl ?_
    refine z_aload_n dX10_nextToken_15 rfl ?_
    refine m_geti dX10_nextToken_16 fX10_117 sh66 rfl ?_
    rw [mR_2]
    refine m_ialdN (j := a + i) dX10_nextToken_19 sh67 rfl (by omega) rfl ?_
    rw [mR_ne (show 67 ≠ 66 by decide), hT (a + i) (by omega)]
    refine z_bipush (v := 32) dX10_nextToken_20 rfl ?_
    refine z_icmp_ne 38 dX10_nextToken_22 (by decide) (fun h22 => absurd (b3 (a + i) (by omega) (by omega)) h22) (fun h22 => ?_)
    refine z_aload_n dX10_nextToken_25 rfl ?_
    refine z_dup dX10_nextToken_26 rfl ?_
    refine m_geti dX10_nextToken_27 fX10_117 sh66 rfl ?_
    rw [mR_2]
    refine z_iconst (v := 1) dX10_nextToken_30 rfl ?_
    refine z_iadd dX10_nextToken_31 ?_
    rw [show (nI (a + i) + 1) = nI (a + i + 1) from nI_1 _]
    refine m_puti dX10_nextToken_32 fX10_117 (fun q h => by cases h; rfl) rfl rfl sh66 rfl ?_
    refine z_goto 0 dX10_nextToken_35 (by decide) ?_
    rw [mR_u2]
    exact H) (by
    rw [show a + (b - a) = b by omega]
    refine z_aload_n dX10_nextToken_0 rfl ?_
    refine m_geti dX10_nextToken_1 fX10_117 sh66 rfl ?_
    rw [mR_2]
    refine z_aload_n dX10_nextToken_4 rfl ?_
    refine m_geti dX10_nextToken_5 fX10_113 sh66 rfl ?_
    refine z_icmp_ge 38 dX10_nextToken_8 (by decide) (fun h8 => ?_) (fun h8 => ?_)
    · skip
      exact h38
    · skip
      have hlt9 := zltR hL hL2 b2 h8
      refine z_aload_n dX10_nextToken_11 rfl ?_
      refine m_getr dX10_nextToken_12 fX10_7 sh66 rfl ?_
      refine z_aload_n dX10_nextToken_15 rfl ?_
      refine m_geti dX10_nextToken_16 fX10_117 sh66 rfl ?_
      rw [mR_2]
      refine m_ialdN (j := b) dX10_nextToken_19 sh67 rfl (by omega) rfl ?_
      rw [mR_ne (show 67 ≠ 66 by decide), hT (b) (by omega)]
      refine z_bipush (v := 32) dX10_nextToken_20 rfl ?_
      refine z_icmp_ne 38 dX10_nextToken_22 (by decide) (fun h22 => ?_) (fun h22 => absurd h22 (b4 (zltR hL hL2 b2 h8)))
      exact h38)
  have e0 := hS 0 (Nat.zero_le _)
  exact e0
set_option maxRecDepth 100000 in
set_option maxHeartbeats 400000 in
theorem d_tok_n {l : Launch} {G : zG} {M : Mem} {ν : Lng} {a : Nat} {t k n p f : Int32} {T : Nat → Int32} {L : Nat} (hT : ∀ i, i < L → M 67 i = T i) (hL : M 66 0 = nI L) (hL2 : L ≤ 250) (ha : a ≤ L) (h0 : zBk T L a < L) (h1 : zDi (T (zBk T L a)) = true) (h2 : ¬ 3 < (zEg T L (zBk T L a)) - (zBk T L a))  : Cm l G mX10_nextToken [.ref 66] (mR M a t k n p f) ν (fun _ b9 c9 => mR M (zEg T L (zBk T L a)) (nI (zBk T L a)) (-1) (zRn T (zBk T L a) ((zEg T L (zBk T L a)) - (zBk T L a))) p f = b9 ∧ ν = c9) := by
  refine Con.of (by decide) (Nat.le_of_ble_eq_true rfl) ?_
  show Am l G mX10_nextToken 0 [(0, .ref 66)] [] (mR M a t k n p f) ν _
  obtain ⟨b1, b2, b3, b4⟩ := zBk_sp (T := T) ha
  obtain ⟨b, hb⟩ : ∃ b, zBk T L a = b := ⟨_, rfl⟩
  rw [hb] at b1 b2 b3 b4
  rw [hb] at h0 ⊢
  rw [hb] at h1 h2
  obtain ⟨e, he⟩ : ∃ e, zEg T L b = e := ⟨_, rfl⟩
  obtain ⟨g1, g2, g3, g4⟩ := zEg_sp (T := T) b2
  rw [he] at g1 g2 g3 g4 h2 ⊢
  have gd : ∀ j, j < e - b → zDi (T (b + j)) = true := fun j hj => g3 (b + j) (by omega) (by omega)
  have h177 : Am l G mX10_nextToken 177 [(0, .ref 66)] [] (mR M e (nI b) k (zRn T b (e - b)) p f) ν (fun _ b9 c9 => mR M e (nI b) (-1) (zRn T b (e - b)) p f = b9 ∧ ν = c9) := by
    refine z_aload_n dX10_nextToken_177 rfl ?_
    refine z_aload_n dX10_nextToken_178 rfl ?_
    refine m_geti dX10_nextToken_179 fX10_117 sh66 rfl ?_
    rw [mR_2]
    refine z_aload_n dX10_nextToken_182 rfl ?_
    refine m_geti dX10_nextToken_183 fX10_120 sh66 rfl ?_
    rw [mR_3]
    refine z_isub dX10_nextToken_186 ?_
    rw [show (nI e - nI b) = nI (e - b) from pk_sub (by omega)]
    refine z_iconst (v := 3) dX10_nextToken_187 rfl ?_
    refine z_icmp_le 196 dX10_nextToken_188 (by decide) (fun h188 => ?_) (fun h188 => absurd (nI_le (a := e - b) (b := 3) (by omega) (by decide)) h188)
    refine z_iconst (v := -1) dX10_nextToken_196 rfl ?_
    refine m_puti dX10_nextToken_197 fX10_126 (fun q h => by cases h; rfl) rfl rfl sh66 rfl ?_
    refine z_goto 226 dX10_nextToken_200 (by decide) ?_
    refine m_ret dX10_nextToken_226 rfl ?_
    rw [mR_u4]
    exact ⟨rfl, rfl⟩
  have hD := m_for (l := l) (G := G) (M := mX10_nextToken) (pc := 90) (ν := ν) (K := (fun _ b9 c9 => mR M e (nI b) (-1) (zRn T b (e - b)) p f = b9 ∧ ν = c9)) (N := (e - b)) (fun i => [(0, .ref 66)]) (fun i => mR M (b + i) (nI b) k (zRn T b i) p f) (fun i hi H => by
    obtain ⟨d, d1, d2, -⟩ := zDi_at (gd i hi)
    refine z_aload_n dX10_nextToken_90 rfl ?_
    refine m_geti dX10_nextToken_91 fX10_117 sh66 rfl ?_
    rw [mR_2]
    refine z_aload_n dX10_nextToken_94 rfl ?_
    refine m_geti dX10_nextToken_95 fX10_113 sh66 rfl ?_
    refine z_icmp_ge 177 dX10_nextToken_98 (by decide) (fun h98 => absurd (show b + i < L by omega) (zgeR hL hL2 h98)) (fun h98 => ?_)
    refine z_aload_n dX10_nextToken_101 rfl ?_
    refine m_getr dX10_nextToken_102 fX10_7 sh66 rfl ?_
    refine z_aload_n dX10_nextToken_105 rfl ?_
    refine m_geti dX10_nextToken_106 fX10_117 sh66 rfl ?_
    rw [mR_2]
    refine m_ialdN (j := b + i) dX10_nextToken_109 sh67 rfl (by omega) rfl ?_
    rw [mR_ne (show 67 ≠ 66 by decide), hT (b + i) (by omega), d2]
    refine z_bipush (v := 48) dX10_nextToken_110 rfl ?_
    refine z_bipush (v := 57) dX10_nextToken_112 rfl ?_
    refine m_callS (As := [.int _, .int _, .int _]) dX10_nextToken_114 kX10_108 ⟨rfl, rfl⟩ rfl ⟨rfl, rfl⟩ rfl rfl rfl (c_inT (v := d + 48) (lo := 48) (hi := 57) (by omega) (by omega) (by decide)) (fun r114 μ114 ν114 hk114 => ?_)
    obtain ⟨rfl, rfl, rfl⟩ := hk114
    refine z_if_eq 177 dX10_nextToken_117 (by decide) (fun h117 => absurd h117 (by decide)) (fun h117 => ?_)
    refine z_aload_n dX10_nextToken_120 rfl ?_
    refine z_aload_n dX10_nextToken_121 rfl ?_
    refine m_geti dX10_nextToken_122 fX10_117 sh66 rfl ?_
    rw [mR_2]
    refine z_aload_n dX10_nextToken_125 rfl ?_
    refine m_geti dX10_nextToken_126 fX10_120 sh66 rfl ?_
    rw [mR_3]
    refine z_isub dX10_nextToken_129 ?_
    rw [show (nI (b + i) - nI b) = nI i from (by rw [pk_sub (by omega)]; congr 1; omega)]
    refine z_iconst (v := 3) dX10_nextToken_130 rfl ?_
    refine z_icmp_ge 157 dX10_nextToken_131 (by decide) (fun h131 => ?_) (fun h131 => ?_)
    · skip
      refine z_aload_n dX10_nextToken_157 rfl ?_
      refine m_geti dX10_nextToken_158 fX10_123 sh66 rfl ?_
      rw [mR_5]
      refine m_puti dX10_nextToken_161 fX10_123 (fun q h => by cases h; rfl) rfl rfl sh66 rfl ?_
      rw [mR_u5]
      refine z_aload_n dX10_nextToken_164 rfl ?_
      refine z_dup dX10_nextToken_165 rfl ?_
      refine m_geti dX10_nextToken_166 fX10_117 sh66 rfl ?_
      rw [mR_2]
      refine z_iconst (v := 1) dX10_nextToken_169 rfl ?_
      refine z_iadd dX10_nextToken_170 ?_
      rw [show (nI (b + i) + 1) = nI (b + i + 1) from nI_1 _]
      refine m_puti dX10_nextToken_171 fX10_117 (fun q h => by cases h; rfl) rfl rfl sh66 rfl ?_
      refine z_goto 90 dX10_nextToken_174 (by decide) ?_
      rw [mR_u2]
      first
        | (rw [show zRn T b (i + 1) = zRn T b i from if_neg (fun q => absurd h131 (nI_ge (a := i) (b := 3) q (by decide)))] at H; exact H)
        | (rw [show zRn T b (i + 1) = 10 * zRn T b i + T (b + i) - 48 from if_pos (Nat.lt_of_not_le (fun q => h131 (nI_le (a := 3) (b := i) q (by omega))))] at H; exact H)
    · skip
      refine z_bipush (v := 10) dX10_nextToken_134 rfl ?_
      refine z_aload_n dX10_nextToken_136 rfl ?_
      refine m_geti dX10_nextToken_137 fX10_123 sh66 rfl ?_
      rw [mR_5]
      refine z_imul dX10_nextToken_140 ?_
      refine z_aload_n dX10_nextToken_141 rfl ?_
      refine m_getr dX10_nextToken_142 fX10_7 sh66 rfl ?_
      refine z_aload_n dX10_nextToken_145 rfl ?_
      refine m_geti dX10_nextToken_146 fX10_117 sh66 rfl ?_
      rw [mR_2]
      refine m_ialdN (j := b + i) dX10_nextToken_149 sh67 rfl (by omega) rfl ?_
      rw [mR_ne (show 67 ≠ 66 by decide), hT (b + i) (by omega)]
      refine z_iadd dX10_nextToken_150 ?_
      refine z_bipush (v := 48) dX10_nextToken_151 rfl ?_
      refine z_isub dX10_nextToken_153 ?_
      refine z_goto 161 dX10_nextToken_154 (by decide) ?_
      refine m_puti dX10_nextToken_161 fX10_123 (fun q h => by cases h; rfl) rfl rfl sh66 rfl ?_
      rw [mR_u5]
      refine z_aload_n dX10_nextToken_164 rfl ?_
      refine z_dup dX10_nextToken_165 rfl ?_
      refine m_geti dX10_nextToken_166 fX10_117 sh66 rfl ?_
      rw [mR_2]
      refine z_iconst (v := 1) dX10_nextToken_169 rfl ?_
      refine z_iadd dX10_nextToken_170 ?_
      rw [show (nI (b + i) + 1) = nI (b + i + 1) from nI_1 _]
      refine m_puti dX10_nextToken_171 fX10_117 (fun q h => by cases h; rfl) rfl rfl sh66 rfl ?_
      refine z_goto 90 dX10_nextToken_174 (by decide) ?_
      rw [mR_u2]
      first
        | (rw [show zRn T b (i + 1) = zRn T b i from if_neg (fun q => absurd h131 (nI_ge (a := i) (b := 3) q (by decide)))] at H; exact H)
        | (rw [show zRn T b (i + 1) = 10 * zRn T b i + T (b + i) - 48 from if_pos (Nat.lt_of_not_le (fun q => h131 (nI_le (a := 3) (b := i) q (by omega))))] at H; exact H)) (by
    rw [show b + (e - b) = e by omega]
    refine z_aload_n dX10_nextToken_90 rfl ?_
    refine m_geti dX10_nextToken_91 fX10_117 sh66 rfl ?_
    rw [mR_2]
    refine z_aload_n dX10_nextToken_94 rfl ?_
    refine m_geti dX10_nextToken_95 fX10_113 sh66 rfl ?_
    refine z_icmp_ge 177 dX10_nextToken_98 (by decide) (fun h98 => ?_) (fun h98 => ?_)
    · skip
      exact h177
    · skip
      have hlt9 := zltR hL hL2 g2 h98
      refine z_aload_n dX10_nextToken_101 rfl ?_
      refine m_getr dX10_nextToken_102 fX10_7 sh66 rfl ?_
      refine z_aload_n dX10_nextToken_105 rfl ?_
      refine m_geti dX10_nextToken_106 fX10_117 sh66 rfl ?_
      rw [mR_2]
      refine m_ialdN (j := e) dX10_nextToken_109 sh67 rfl (by omega) rfl ?_
      rw [mR_ne (show 67 ≠ 66 by decide), hT (e) (by omega)]
      refine z_bipush (v := 48) dX10_nextToken_110 rfl ?_
      refine z_bipush (v := 57) dX10_nextToken_112 rfl ?_
      refine m_callS (As := [.int _, .int _, .int _]) dX10_nextToken_114 kX10_108 ⟨rfl, rfl⟩ rfl ⟨rfl, rfl⟩ rfl rfl rfl (c_inF (zDi_no (g4 (zltR hL hL2 g2 h98)))) (fun r114 μ114 ν114 hk114 => ?_)
      obtain ⟨rfl, rfl, rfl⟩ := hk114
      refine z_if_eq 177 dX10_nextToken_117 (by decide) (fun h117 => ?_) (fun h117 => absurd (by decide) h117)
      exact h177)
  have h38 : Am l G mX10_nextToken 38 [(0, .ref 66)] [] (mR M b t k n p f) ν (fun _ b9 c9 => mR M e (nI b) (-1) (zRn T b (e - b)) p f = b9 ∧ ν = c9) := by
    refine z_aload_n dX10_nextToken_38 rfl ?_
    refine z_aload_n dX10_nextToken_39 rfl ?_
    refine m_geti dX10_nextToken_40 fX10_117 sh66 rfl ?_
    rw [mR_2]
    refine m_puti dX10_nextToken_43 fX10_120 (fun q h => by cases h; rfl) rfl rfl sh66 rfl ?_
    rw [mR_u3]
    refine z_aload_n dX10_nextToken_46 rfl ?_
    refine z_iconst (v := 0) dX10_nextToken_47 rfl ?_
    refine m_puti dX10_nextToken_48 fX10_123 (fun q h => by cases h; rfl) rfl rfl sh66 rfl ?_
    rw [mR_u5]
    refine z_aload_n dX10_nextToken_51 rfl ?_
    refine m_geti dX10_nextToken_52 fX10_117 sh66 rfl ?_
    rw [mR_2]
    refine z_aload_n dX10_nextToken_55 rfl ?_
    refine m_geti dX10_nextToken_56 fX10_113 sh66 rfl ?_
    refine z_icmp_ne 71 dX10_nextToken_59 (by decide) (fun h59 => ?_) (fun h59 => absurd (show nI b = M 66 0 from h59) (fun e => zne (a := b) (b := L) (by omega) (by omega) (by omega) (e.trans hL)))
    obtain ⟨d, d1, d2, -⟩ := zDi_at h1
    refine z_aload_n dX10_nextToken_71 rfl ?_
    refine m_getr dX10_nextToken_72 fX10_7 sh66 rfl ?_
    refine z_aload_n dX10_nextToken_75 rfl ?_
    refine m_geti dX10_nextToken_76 fX10_117 sh66 rfl ?_
    rw [mR_2]
    refine m_ialdN (j := b) dX10_nextToken_79 sh67 rfl (by omega) rfl ?_
    rw [mR_ne (show 67 ≠ 66 by decide), hT b (by omega), d2]
    refine z_bipush (v := 48) dX10_nextToken_80 rfl ?_
    refine z_bipush (v := 57) dX10_nextToken_82 rfl ?_
    refine m_callS (As := [.int _, .int _, .int _]) dX10_nextToken_84 kX10_108 ⟨rfl, rfl⟩ rfl ⟨rfl, rfl⟩ rfl rfl rfl (c_inT (v := d + 48) (lo := 48) (hi := 57) (by omega) (by omega) (by decide)) (fun r84 μ84 ν84 hk84 => ?_)
    obtain ⟨rfl, rfl, rfl⟩ := hk84
    refine z_if_eq 203 dX10_nextToken_87 (by decide) (fun h87 => absurd h87 (by decide)) (fun h87 => ?_)
    exact hD 0 (Nat.zero_le _)
  have hS := m_for (l := l) (G := G) (M := mX10_nextToken) (pc := 0) (ν := ν) (K := (fun _ b9 c9 => mR M e (nI b) (-1) (zRn T b (e - b)) p f = b9 ∧ ν = c9)) (N := (b - a)) (fun i => [(0, .ref 66)]) (fun i => mR M (a + i) t k n p f) (fun i hi H => by
    refine z_aload_n dX10_nextToken_0 rfl ?_
    refine m_geti dX10_nextToken_1 fX10_117 sh66 rfl ?_
    rw [mR_2]
    refine z_aload_n dX10_nextToken_4 rfl ?_
    refine m_geti dX10_nextToken_5 fX10_113 sh66 rfl ?_
    refine z_icmp_ge 38 dX10_nextToken_8 (by decide) (fun h8 => absurd (show a + i < L by omega) (zgeR hL hL2 h8)) (fun h8 => ?_)
    refine z_aload_n dX10_nextToken_11 rfl ?_
    refine m_getr dX10_nextToken_12 fX10_7 sh66 rfl ?_
    refine z_aload_n dX10_nextToken_15 rfl ?_
    refine m_geti dX10_nextToken_16 fX10_117 sh66 rfl ?_
    rw [mR_2]
    refine m_ialdN (j := a + i) dX10_nextToken_19 sh67 rfl (by omega) rfl ?_
    rw [mR_ne (show 67 ≠ 66 by decide), hT (a + i) (by omega)]
    refine z_bipush (v := 32) dX10_nextToken_20 rfl ?_
    refine z_icmp_ne 38 dX10_nextToken_22 (by decide) (fun h22 => absurd (b3 (a + i) (by omega) (by omega)) h22) (fun h22 => ?_)
    refine z_aload_n dX10_nextToken_25 rfl ?_
    refine z_dup dX10_nextToken_26 rfl ?_
    refine m_geti dX10_nextToken_27 fX10_117 sh66 rfl ?_
    rw [mR_2]
    refine z_iconst (v := 1) dX10_nextToken_30 rfl ?_
    refine z_iadd dX10_nextToken_31 ?_
    rw [show (nI (a + i) + 1) = nI (a + i + 1) from nI_1 _]
    refine m_puti dX10_nextToken_32 fX10_117 (fun q h => by cases h; rfl) rfl rfl sh66 rfl ?_
    refine z_goto 0 dX10_nextToken_35 (by decide) ?_
    rw [mR_u2]
    exact H) (by
    rw [show a + (b - a) = b by omega]
    refine z_aload_n dX10_nextToken_0 rfl ?_
    refine m_geti dX10_nextToken_1 fX10_117 sh66 rfl ?_
    rw [mR_2]
    refine z_aload_n dX10_nextToken_4 rfl ?_
    refine m_geti dX10_nextToken_5 fX10_113 sh66 rfl ?_
    refine z_icmp_ge 38 dX10_nextToken_8 (by decide) (fun h8 => ?_) (fun h8 => ?_)
    · skip
      exact h38
    · skip
      have hlt9 := zltR hL hL2 b2 h8
      refine z_aload_n dX10_nextToken_11 rfl ?_
      refine m_getr dX10_nextToken_12 fX10_7 sh66 rfl ?_
      refine z_aload_n dX10_nextToken_15 rfl ?_
      refine m_geti dX10_nextToken_16 fX10_117 sh66 rfl ?_
      rw [mR_2]
      refine m_ialdN (j := b) dX10_nextToken_19 sh67 rfl (by omega) rfl ?_
      rw [mR_ne (show 67 ≠ 66 by decide), hT (b) (by omega)]
      refine z_bipush (v := 32) dX10_nextToken_20 rfl ?_
      refine z_icmp_ne 38 dX10_nextToken_22 (by decide) (fun h22 => ?_) (fun h22 => absurd h22 (b4 (zltR hL hL2 b2 h8)))
      exact h38)
  have e0 := hS 0 (Nat.zero_le _)
  exact e0
set_option maxRecDepth 100000 in
set_option maxHeartbeats 400000 in
theorem d_tok_m {l : Launch} {G : zG} {M : Mem} {ν : Lng} {a : Nat} {t k n p f : Int32} {T : Nat → Int32} {L : Nat} (hT : ∀ i, i < L → M 67 i = T i) (hL : M 66 0 = nI L) (hL2 : L ≤ 250) (ha : a ≤ L) (h0 : zBk T L a < L) (h1 : zDi (T (zBk T L a)) = true) (h2 : 3 < (zEg T L (zBk T L a)) - (zBk T L a))  : Cm l G mX10_nextToken [.ref 66] (mR M a t k n p f) ν (fun _ b9 c9 => mR M (zEg T L (zBk T L a)) (nI (zBk T L a)) (-3) (zRn T (zBk T L a) ((zEg T L (zBk T L a)) - (zBk T L a))) p f = b9 ∧ ν = c9) := by
  refine Con.of (by decide) (Nat.le_of_ble_eq_true rfl) ?_
  show Am l G mX10_nextToken 0 [(0, .ref 66)] [] (mR M a t k n p f) ν _
  obtain ⟨b1, b2, b3, b4⟩ := zBk_sp (T := T) ha
  obtain ⟨b, hb⟩ : ∃ b, zBk T L a = b := ⟨_, rfl⟩
  rw [hb] at b1 b2 b3 b4
  rw [hb] at h0 ⊢
  rw [hb] at h1 h2
  obtain ⟨e, he⟩ : ∃ e, zEg T L b = e := ⟨_, rfl⟩
  obtain ⟨g1, g2, g3, g4⟩ := zEg_sp (T := T) b2
  rw [he] at g1 g2 g3 g4 h2 ⊢
  have gd : ∀ j, j < e - b → zDi (T (b + j)) = true := fun j hj => g3 (b + j) (by omega) (by omega)
  have h177 : Am l G mX10_nextToken 177 [(0, .ref 66)] [] (mR M e (nI b) k (zRn T b (e - b)) p f) ν (fun _ b9 c9 => mR M e (nI b) (-3) (zRn T b (e - b)) p f = b9 ∧ ν = c9) := by
    refine z_aload_n dX10_nextToken_177 rfl ?_
    refine z_aload_n dX10_nextToken_178 rfl ?_
    refine m_geti dX10_nextToken_179 fX10_117 sh66 rfl ?_
    rw [mR_2]
    refine z_aload_n dX10_nextToken_182 rfl ?_
    refine m_geti dX10_nextToken_183 fX10_120 sh66 rfl ?_
    rw [mR_3]
    refine z_isub dX10_nextToken_186 ?_
    rw [show (nI e - nI b) = nI (e - b) from pk_sub (by omega)]
    refine z_iconst (v := 3) dX10_nextToken_187 rfl ?_
    refine z_icmp_le 196 dX10_nextToken_188 (by decide) (fun h188 => absurd h188 (nI_ge (a := 3) (b := e - b) (by omega) (by omega))) (fun h188 => ?_)
    refine z_bipush (v := -3) dX10_nextToken_191 rfl ?_
    refine z_goto 197 dX10_nextToken_193 (by decide) ?_
    refine m_puti dX10_nextToken_197 fX10_126 (fun q h => by cases h; rfl) rfl rfl sh66 rfl ?_
    refine z_goto 226 dX10_nextToken_200 (by decide) ?_
    refine m_ret dX10_nextToken_226 rfl ?_
    rw [mR_u4]
    exact ⟨rfl, rfl⟩
  have hD := m_for (l := l) (G := G) (M := mX10_nextToken) (pc := 90) (ν := ν) (K := (fun _ b9 c9 => mR M e (nI b) (-3) (zRn T b (e - b)) p f = b9 ∧ ν = c9)) (N := (e - b)) (fun i => [(0, .ref 66)]) (fun i => mR M (b + i) (nI b) k (zRn T b i) p f) (fun i hi H => by
    obtain ⟨d, d1, d2, -⟩ := zDi_at (gd i hi)
    refine z_aload_n dX10_nextToken_90 rfl ?_
    refine m_geti dX10_nextToken_91 fX10_117 sh66 rfl ?_
    rw [mR_2]
    refine z_aload_n dX10_nextToken_94 rfl ?_
    refine m_geti dX10_nextToken_95 fX10_113 sh66 rfl ?_
    refine z_icmp_ge 177 dX10_nextToken_98 (by decide) (fun h98 => absurd (show b + i < L by omega) (zgeR hL hL2 h98)) (fun h98 => ?_)
    refine z_aload_n dX10_nextToken_101 rfl ?_
    refine m_getr dX10_nextToken_102 fX10_7 sh66 rfl ?_
    refine z_aload_n dX10_nextToken_105 rfl ?_
    refine m_geti dX10_nextToken_106 fX10_117 sh66 rfl ?_
    rw [mR_2]
    refine m_ialdN (j := b + i) dX10_nextToken_109 sh67 rfl (by omega) rfl ?_
    rw [mR_ne (show 67 ≠ 66 by decide), hT (b + i) (by omega), d2]
    refine z_bipush (v := 48) dX10_nextToken_110 rfl ?_
    refine z_bipush (v := 57) dX10_nextToken_112 rfl ?_
    refine m_callS (As := [.int _, .int _, .int _]) dX10_nextToken_114 kX10_108 ⟨rfl, rfl⟩ rfl ⟨rfl, rfl⟩ rfl rfl rfl (c_inT (v := d + 48) (lo := 48) (hi := 57) (by omega) (by omega) (by decide)) (fun r114 μ114 ν114 hk114 => ?_)
    obtain ⟨rfl, rfl, rfl⟩ := hk114
    refine z_if_eq 177 dX10_nextToken_117 (by decide) (fun h117 => absurd h117 (by decide)) (fun h117 => ?_)
    refine z_aload_n dX10_nextToken_120 rfl ?_
    refine z_aload_n dX10_nextToken_121 rfl ?_
    refine m_geti dX10_nextToken_122 fX10_117 sh66 rfl ?_
    rw [mR_2]
    refine z_aload_n dX10_nextToken_125 rfl ?_
    refine m_geti dX10_nextToken_126 fX10_120 sh66 rfl ?_
    rw [mR_3]
    refine z_isub dX10_nextToken_129 ?_
    rw [show (nI (b + i) - nI b) = nI i from (by rw [pk_sub (by omega)]; congr 1; omega)]
    refine z_iconst (v := 3) dX10_nextToken_130 rfl ?_
    refine z_icmp_ge 157 dX10_nextToken_131 (by decide) (fun h131 => ?_) (fun h131 => ?_)
    · skip
      refine z_aload_n dX10_nextToken_157 rfl ?_
      refine m_geti dX10_nextToken_158 fX10_123 sh66 rfl ?_
      rw [mR_5]
      refine m_puti dX10_nextToken_161 fX10_123 (fun q h => by cases h; rfl) rfl rfl sh66 rfl ?_
      rw [mR_u5]
      refine z_aload_n dX10_nextToken_164 rfl ?_
      refine z_dup dX10_nextToken_165 rfl ?_
      refine m_geti dX10_nextToken_166 fX10_117 sh66 rfl ?_
      rw [mR_2]
      refine z_iconst (v := 1) dX10_nextToken_169 rfl ?_
      refine z_iadd dX10_nextToken_170 ?_
      rw [show (nI (b + i) + 1) = nI (b + i + 1) from nI_1 _]
      refine m_puti dX10_nextToken_171 fX10_117 (fun q h => by cases h; rfl) rfl rfl sh66 rfl ?_
      refine z_goto 90 dX10_nextToken_174 (by decide) ?_
      rw [mR_u2]
      first
        | (rw [show zRn T b (i + 1) = zRn T b i from if_neg (fun q => absurd h131 (nI_ge (a := i) (b := 3) q (by decide)))] at H; exact H)
        | (rw [show zRn T b (i + 1) = 10 * zRn T b i + T (b + i) - 48 from if_pos (Nat.lt_of_not_le (fun q => h131 (nI_le (a := 3) (b := i) q (by omega))))] at H; exact H)
    · skip
      refine z_bipush (v := 10) dX10_nextToken_134 rfl ?_
      refine z_aload_n dX10_nextToken_136 rfl ?_
      refine m_geti dX10_nextToken_137 fX10_123 sh66 rfl ?_
      rw [mR_5]
      refine z_imul dX10_nextToken_140 ?_
      refine z_aload_n dX10_nextToken_141 rfl ?_
      refine m_getr dX10_nextToken_142 fX10_7 sh66 rfl ?_
      refine z_aload_n dX10_nextToken_145 rfl ?_
      refine m_geti dX10_nextToken_146 fX10_117 sh66 rfl ?_
      rw [mR_2]
      refine m_ialdN (j := b + i) dX10_nextToken_149 sh67 rfl (by omega) rfl ?_
      rw [mR_ne (show 67 ≠ 66 by decide), hT (b + i) (by omega)]
      refine z_iadd dX10_nextToken_150 ?_
      refine z_bipush (v := 48) dX10_nextToken_151 rfl ?_
      refine z_isub dX10_nextToken_153 ?_
      refine z_goto 161 dX10_nextToken_154 (by decide) ?_
      refine m_puti dX10_nextToken_161 fX10_123 (fun q h => by cases h; rfl) rfl rfl sh66 rfl ?_
      rw [mR_u5]
      refine z_aload_n dX10_nextToken_164 rfl ?_
      refine z_dup dX10_nextToken_165 rfl ?_
      refine m_geti dX10_nextToken_166 fX10_117 sh66 rfl ?_
      rw [mR_2]
      refine z_iconst (v := 1) dX10_nextToken_169 rfl ?_
      refine z_iadd dX10_nextToken_170 ?_
      rw [show (nI (b + i) + 1) = nI (b + i + 1) from nI_1 _]
      refine m_puti dX10_nextToken_171 fX10_117 (fun q h => by cases h; rfl) rfl rfl sh66 rfl ?_
      refine z_goto 90 dX10_nextToken_174 (by decide) ?_
      rw [mR_u2]
      first
        | (rw [show zRn T b (i + 1) = zRn T b i from if_neg (fun q => absurd h131 (nI_ge (a := i) (b := 3) q (by decide)))] at H; exact H)
        | (rw [show zRn T b (i + 1) = 10 * zRn T b i + T (b + i) - 48 from if_pos (Nat.lt_of_not_le (fun q => h131 (nI_le (a := 3) (b := i) q (by omega))))] at H; exact H)) (by
    rw [show b + (e - b) = e by omega]
    refine z_aload_n dX10_nextToken_90 rfl ?_
    refine m_geti dX10_nextToken_91 fX10_117 sh66 rfl ?_
    rw [mR_2]
    refine z_aload_n dX10_nextToken_94 rfl ?_
    refine m_geti dX10_nextToken_95 fX10_113 sh66 rfl ?_
    refine z_icmp_ge 177 dX10_nextToken_98 (by decide) (fun h98 => ?_) (fun h98 => ?_)
    · skip
      exact h177
    · skip
      have hlt9 := zltR hL hL2 g2 h98
      refine z_aload_n dX10_nextToken_101 rfl ?_
      refine m_getr dX10_nextToken_102 fX10_7 sh66 rfl ?_
      refine z_aload_n dX10_nextToken_105 rfl ?_
      refine m_geti dX10_nextToken_106 fX10_117 sh66 rfl ?_
      rw [mR_2]
      refine m_ialdN (j := e) dX10_nextToken_109 sh67 rfl (by omega) rfl ?_
      rw [mR_ne (show 67 ≠ 66 by decide), hT (e) (by omega)]
      refine z_bipush (v := 48) dX10_nextToken_110 rfl ?_
      refine z_bipush (v := 57) dX10_nextToken_112 rfl ?_
      refine m_callS (As := [.int _, .int _, .int _]) dX10_nextToken_114 kX10_108 ⟨rfl, rfl⟩ rfl ⟨rfl, rfl⟩ rfl rfl rfl (c_inF (zDi_no (g4 (zltR hL hL2 g2 h98)))) (fun r114 μ114 ν114 hk114 => ?_)
      obtain ⟨rfl, rfl, rfl⟩ := hk114
      refine z_if_eq 177 dX10_nextToken_117 (by decide) (fun h117 => ?_) (fun h117 => absurd (by decide) h117)
      exact h177)
  have h38 : Am l G mX10_nextToken 38 [(0, .ref 66)] [] (mR M b t k n p f) ν (fun _ b9 c9 => mR M e (nI b) (-3) (zRn T b (e - b)) p f = b9 ∧ ν = c9) := by
    refine z_aload_n dX10_nextToken_38 rfl ?_
    refine z_aload_n dX10_nextToken_39 rfl ?_
    refine m_geti dX10_nextToken_40 fX10_117 sh66 rfl ?_
    rw [mR_2]
    refine m_puti dX10_nextToken_43 fX10_120 (fun q h => by cases h; rfl) rfl rfl sh66 rfl ?_
    rw [mR_u3]
    refine z_aload_n dX10_nextToken_46 rfl ?_
    refine z_iconst (v := 0) dX10_nextToken_47 rfl ?_
    refine m_puti dX10_nextToken_48 fX10_123 (fun q h => by cases h; rfl) rfl rfl sh66 rfl ?_
    rw [mR_u5]
    refine z_aload_n dX10_nextToken_51 rfl ?_
    refine m_geti dX10_nextToken_52 fX10_117 sh66 rfl ?_
    rw [mR_2]
    refine z_aload_n dX10_nextToken_55 rfl ?_
    refine m_geti dX10_nextToken_56 fX10_113 sh66 rfl ?_
    refine z_icmp_ne 71 dX10_nextToken_59 (by decide) (fun h59 => ?_) (fun h59 => absurd (show nI b = M 66 0 from h59) (fun e => zne (a := b) (b := L) (by omega) (by omega) (by omega) (e.trans hL)))
    obtain ⟨d, d1, d2, -⟩ := zDi_at h1
    refine z_aload_n dX10_nextToken_71 rfl ?_
    refine m_getr dX10_nextToken_72 fX10_7 sh66 rfl ?_
    refine z_aload_n dX10_nextToken_75 rfl ?_
    refine m_geti dX10_nextToken_76 fX10_117 sh66 rfl ?_
    rw [mR_2]
    refine m_ialdN (j := b) dX10_nextToken_79 sh67 rfl (by omega) rfl ?_
    rw [mR_ne (show 67 ≠ 66 by decide), hT b (by omega), d2]
    refine z_bipush (v := 48) dX10_nextToken_80 rfl ?_
    refine z_bipush (v := 57) dX10_nextToken_82 rfl ?_
    refine m_callS (As := [.int _, .int _, .int _]) dX10_nextToken_84 kX10_108 ⟨rfl, rfl⟩ rfl ⟨rfl, rfl⟩ rfl rfl rfl (c_inT (v := d + 48) (lo := 48) (hi := 57) (by omega) (by omega) (by decide)) (fun r84 μ84 ν84 hk84 => ?_)
    obtain ⟨rfl, rfl, rfl⟩ := hk84
    refine z_if_eq 203 dX10_nextToken_87 (by decide) (fun h87 => absurd h87 (by decide)) (fun h87 => ?_)
    exact hD 0 (Nat.zero_le _)
  have hS := m_for (l := l) (G := G) (M := mX10_nextToken) (pc := 0) (ν := ν) (K := (fun _ b9 c9 => mR M e (nI b) (-3) (zRn T b (e - b)) p f = b9 ∧ ν = c9)) (N := (b - a)) (fun i => [(0, .ref 66)]) (fun i => mR M (a + i) t k n p f) (fun i hi H => by
    refine z_aload_n dX10_nextToken_0 rfl ?_
    refine m_geti dX10_nextToken_1 fX10_117 sh66 rfl ?_
    rw [mR_2]
    refine z_aload_n dX10_nextToken_4 rfl ?_
    refine m_geti dX10_nextToken_5 fX10_113 sh66 rfl ?_
    refine z_icmp_ge 38 dX10_nextToken_8 (by decide) (fun h8 => absurd (show a + i < L by omega) (zgeR hL hL2 h8)) (fun h8 => ?_)
    refine z_aload_n dX10_nextToken_11 rfl ?_
    refine m_getr dX10_nextToken_12 fX10_7 sh66 rfl ?_
    refine z_aload_n dX10_nextToken_15 rfl ?_
    refine m_geti dX10_nextToken_16 fX10_117 sh66 rfl ?_
    rw [mR_2]
    refine m_ialdN (j := a + i) dX10_nextToken_19 sh67 rfl (by omega) rfl ?_
    rw [mR_ne (show 67 ≠ 66 by decide), hT (a + i) (by omega)]
    refine z_bipush (v := 32) dX10_nextToken_20 rfl ?_
    refine z_icmp_ne 38 dX10_nextToken_22 (by decide) (fun h22 => absurd (b3 (a + i) (by omega) (by omega)) h22) (fun h22 => ?_)
    refine z_aload_n dX10_nextToken_25 rfl ?_
    refine z_dup dX10_nextToken_26 rfl ?_
    refine m_geti dX10_nextToken_27 fX10_117 sh66 rfl ?_
    rw [mR_2]
    refine z_iconst (v := 1) dX10_nextToken_30 rfl ?_
    refine z_iadd dX10_nextToken_31 ?_
    rw [show (nI (a + i) + 1) = nI (a + i + 1) from nI_1 _]
    refine m_puti dX10_nextToken_32 fX10_117 (fun q h => by cases h; rfl) rfl rfl sh66 rfl ?_
    refine z_goto 0 dX10_nextToken_35 (by decide) ?_
    rw [mR_u2]
    exact H) (by
    rw [show a + (b - a) = b by omega]
    refine z_aload_n dX10_nextToken_0 rfl ?_
    refine m_geti dX10_nextToken_1 fX10_117 sh66 rfl ?_
    rw [mR_2]
    refine z_aload_n dX10_nextToken_4 rfl ?_
    refine m_geti dX10_nextToken_5 fX10_113 sh66 rfl ?_
    refine z_icmp_ge 38 dX10_nextToken_8 (by decide) (fun h8 => ?_) (fun h8 => ?_)
    · skip
      exact h38
    · skip
      have hlt9 := zltR hL hL2 b2 h8
      refine z_aload_n dX10_nextToken_11 rfl ?_
      refine m_getr dX10_nextToken_12 fX10_7 sh66 rfl ?_
      refine z_aload_n dX10_nextToken_15 rfl ?_
      refine m_geti dX10_nextToken_16 fX10_117 sh66 rfl ?_
      rw [mR_2]
      refine m_ialdN (j := b) dX10_nextToken_19 sh67 rfl (by omega) rfl ?_
      rw [mR_ne (show 67 ≠ 66 by decide), hT (b) (by omega)]
      refine z_bipush (v := 32) dX10_nextToken_20 rfl ?_
      refine z_icmp_ne 38 dX10_nextToken_22 (by decide) (fun h22 => ?_) (fun h22 => absurd h22 (b4 (zltR hL hL2 b2 h8)))
      exact h38)
  have e0 := hS 0 (Nat.zero_le _)
  exact e0
