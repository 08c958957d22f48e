
theorem zFl_0 {s : zCu} {x z : Int32} (h : s.1 = 0) : zFl s x z = (x, z, s.2.2.1, s.2.2.2) := by unfold zFl; rw [if_pos h]
theorem zNu_1 {T : Nat → Int32} {L lo up : Nat} {s : zCu} (h1 : zBk T L s.2.2.1 < L ∧ zDi (T (zBk T L s.2.2.1)) = true) (h2 : zNk T L (zBk T L s.2.2.1) lo up = true) : zNu T L s lo up = (⟨s.1, s.2.1, zEg T L (zBk T L s.2.2.1), nI (zBk T L s.2.2.1)⟩, zVl T (zBk T L s.2.2.1) (zEg T L (zBk T L s.2.2.1) - zBk T L s.2.2.1)) := by
  unfold zNu
  rw [if_pos h1, if_pos h2]
theorem zNu_2 {T : Nat → Int32} {L lo up : Nat} {s : zCu} (hs : s.1 = 0) (h1 : zBk T L s.2.2.1 < L ∧ zDi (T (zBk T L s.2.2.1)) = true) (h2 : ¬ zNk T L (zBk T L s.2.2.1) lo up = true) : (zNu T L s lo up).1.1 = 2 ∧ (zNu T L s lo up).1.2.1 = nI (zBk T L s.2.2.1) := by
  unfold zNu
  rw [if_pos h1, if_neg h2]
  show (zFl _ _ _).1 = 2 ∧ (zFl _ _ _).2.1 = _
  rw [zFl_0 (by exact hs)]
  exact ⟨rfl, rfl⟩
theorem zNu_3 {T : Nat → Int32} {L lo up : Nat} {s : zCu} (hs : s.1 = 0) (h1 : ¬ (zBk T L s.2.2.1 < L ∧ zDi (T (zBk T L s.2.2.1)) = true)) : (zNu T L s lo up).1.1 = 1 ∧ (zNu T L s lo up).1.2.1 = nI (zBk T L s.2.2.1) := by
  unfold zNu
  rw [if_neg h1]
  show (zFl _ _ _).1 = 1 ∧ (zFl _ _ _).2.1 = _
  rw [zFl_0 (by exact hs)]
  exact ⟨rfl, rfl⟩
theorem zN255 {x : Int32} (h : zN x 255) : ¬ x = -1 ∧ ¬ x = -3 ∧ ¬ x = -2 := by
  obtain ⟨k, k1, rfl⟩ := h
  have h1 : ∀ k, k < 256 → ¬ nI k = -1 ∧ ¬ nI k = -3 ∧ ¬ nI k = -2 := by decide +kernel
  exact h1 k (by omega)
set_option maxRecDepth 100000 in
set_option maxHeartbeats 400000 in
theorem d_fails {l : Launch} {G : zG} {M : Mem} {ν : Lng} {a : Nat} {t k n p f x : Int32}  : Cm l G mX10_fails [.ref 66, .int x] (mR M a t k n p f) ν (fun a9 b9 c9 => (0 : Int32) = a9 ∧ mR M a t k n t x = b9 ∧ ν = c9) := by
  refine Con.of (by decide) (Nat.le_of_ble_eq_true rfl) ?_
  show Am l G mX10_fails 0 [(0, .ref 66), (1, .int x)] [] (mR M a t k n p f) ν _
  refine z_aload_n dX10_fails_0 rfl ?_
  refine z_iload_n dX10_fails_1 rfl ?_
  refine m_puti dX10_fails_2 fX10_129 (fun q h => by cases h; rfl) rfl rfl sh66 rfl ?_
  rw [mR_u7]
  refine z_aload_n dX10_fails_5 rfl ?_
  refine z_aload_n dX10_fails_6 rfl ?_
  refine m_geti dX10_fails_7 fX10_120 sh66 rfl ?_
  rw [mR_3]
  refine m_puti dX10_fails_10 fX10_13 (fun q h => by cases h; rfl) rfl rfl sh66 rfl ?_
  refine z_iconst (v := 0) dX10_fails_13 rfl ?_
  refine m_iret dX10_fails_14 rfl rfl ?_
  rw [mR_u6]
  exact ⟨rfl, rfl, rfl⟩
set_option maxRecDepth 100000 in
set_option maxHeartbeats 400000 in
theorem d_num1 {l : Launch} {G : zG} {M : Mem} {ν : Lng} {s : zCu} {t k n p f : Int32} {T : Nat → Int32} {L : Nat} (hT : ∀ i, i < L → M 67 i = T i) (hL : M 66 0 = nI L) (hL2 : L ≤ 250) (ha : s.2.2.1 ≤ L) {lo up : Nat} (hup : up ≤ 999) (hlo : lo ≤ 999) (h1 : (zBk T L s.2.2.1) < L ∧ zDi (T (zBk T L s.2.2.1)) = true) (h2 : zNk T L (zBk T L s.2.2.1) lo up = true)  : Cm l G mX10_isNumber [.ref 66, .int (nI lo), .int (nI up)] (mR M s.2.2.1 t k n p f) ν (fun a9 b9 c9 => (1 : Int32) = a9 ∧ mR M (zNu T L s lo up).1.2.2.1 (zNu T L s lo up).1.2.2.2 (-1) (nI (zNu T L s lo up).2) p f = b9 ∧ ν = c9) := by
  refine Con.of (by decide) (Nat.le_of_ble_eq_true rfl) ?_
  show Am l G mX10_isNumber 0 [(0, .ref 66), (1, .int (nI lo)), (2, .int (nI up))] [] (mR M s.2.2.1 t k n p f) ν _
  obtain ⟨b1, b2, b3, b4⟩ := zBk_sp (T := T) ha
  obtain ⟨g1, g2, g3, g4⟩ := zEg_sp (T := T) b2
  have gd : ∀ j, j < (zEg T L (zBk T L s.2.2.1)) - (zBk T L s.2.2.1) → zDi (T ((zBk T L s.2.2.1) + j)) = true := fun j hj => g3 ((zBk T L s.2.2.1) + j) (by omega) (by omega)
  have hk := zNk_iff.mp h2
  have eR := zRn_eq (T := T) (b := (zBk T L s.2.2.1)) ((zEg T L (zBk T L s.2.2.1)) - (zBk T L s.2.2.1)) (by omega) gd
  refine z_aload_n dX10_isNumber_0 rfl ?_
  refine m_callVv (As := []) dX10_isNumber_1 kX10_132 ⟨rfl, rfl⟩ rfl ⟨rfl, rfl⟩ rfl rfl sh66 rfl rfl (d_tok_n hT hL hL2 ha h1.1 h1.2 hk.1) (fun μ1 ν1 hk1 => ?_)
  obtain ⟨rfl, rfl⟩ := hk1
  refine z_aload_n dX10_isNumber_4 rfl ?_
  refine m_geti dX10_isNumber_5 fX10_126 sh66 rfl ?_
  rw [mR_4]
  refine z_iconst (v := -1) dX10_isNumber_8 rfl ?_
  refine z_icmp_eq 27 dX10_isNumber_9 (by decide) (fun h9 => ?_) (fun h9 => absurd (by decide) h9)
  refine z_aload_n dX10_isNumber_27 rfl ?_
  refine m_geti dX10_isNumber_28 fX10_126 sh66 rfl ?_
  rw [mR_4]
  refine z_iconst (v := -1) dX10_isNumber_31 rfl ?_
  refine z_icmp_ne 47 dX10_isNumber_32 (by decide) (fun h32 => absurd (by decide) h32) (fun h32 => ?_)
  refine z_aload_n dX10_isNumber_35 rfl ?_
  refine m_geti dX10_isNumber_36 fX10_123 sh66 rfl ?_
  rw [mR_5, eR]
  refine z_iload_n dX10_isNumber_39 rfl ?_
  refine z_iload_n dX10_isNumber_40 rfl ?_
  refine m_callS (As := [.int _, .int _, .int _]) dX10_isNumber_41 kX10_108 ⟨rfl, rfl⟩ rfl ⟨rfl, rfl⟩ rfl rfl rfl (c_inT (v := (zVl T (zBk T L s.2.2.1) ((zEg T L (zBk T L s.2.2.1)) - (zBk T L s.2.2.1)))) (lo := lo) (hi := up) (by omega) (by omega) (by omega)) (fun r41 μ41 ν41 hk41 => ?_)
  obtain ⟨rfl, rfl, rfl⟩ := hk41
  refine z_if_ne 55 dX10_isNumber_44 (by decide) (fun h44 => ?_) (fun h44 => absurd h44 (by decide))
  refine z_iconst (v := 1) dX10_isNumber_55 rfl ?_
  refine z_goto 60 dX10_isNumber_56 (by decide) ?_
  refine m_iret dX10_isNumber_60 rfl rfl ?_
  rw [zNu_1 h1 h2, ← eR]
  exact ⟨rfl, rfl, rfl⟩
set_option maxRecDepth 100000 in
set_option maxHeartbeats 400000 in
theorem d_num0 {l : Launch} {G : zG} {M : Mem} {ν : Lng} {s : zCu} {t k n p f : Int32} {T : Nat → Int32} {L : Nat} (hT : ∀ i, i < L → M 67 i = T i) (hL : M 66 0 = nI L) (hL2 : L ≤ 250) (ha : s.2.2.1 ≤ L) (h255 : ∀ i, i < L → zN (T i) 255) (hs : s.1 = 0) {lo up : Nat} (hup : up ≤ 999) (hlo : lo ≤ 999) (h0 : ¬ (zNu T L s lo up).1.1 = 0)  : Cm l G mX10_isNumber [.ref 66, .int (nI lo), .int (nI up)] (mR M s.2.2.1 t k n p f) ν (fun a9 b9 c9 => (0 : Int32) = a9 ∧ (∃ (a1 : Nat) (t1 k1 n1 : Int32), mR M a1 t1 k1 n1 (zNu T L s lo up).1.2.1 (zNu T L s lo up).1.1 = b9) ∧ ν = c9) := by
  refine Con.of (by decide) (Nat.le_of_ble_eq_true rfl) ?_
  show Am l G mX10_isNumber 0 [(0, .ref 66), (1, .int (nI lo)), (2, .int (nI up))] [] (mR M s.2.2.1 t k n p f) ν _
  obtain ⟨b1, b2, b3, b4⟩ := zBk_sp (T := T) ha
  obtain ⟨g1, g2, g3, g4⟩ := zEg_sp (T := T) b2
  have gd : ∀ j, j < (zEg T L (zBk T L s.2.2.1)) - (zBk T L s.2.2.1) → zDi (T ((zBk T L s.2.2.1) + j)) = true := fun j hj => g3 ((zBk T L s.2.2.1) + j) (by omega) (by omega)
  by_cases c1 : (zBk T L s.2.2.1) < L
  · by_cases c2 : zDi (T (zBk T L s.2.2.1)) = true
    · have c3 : ¬ zNk T L (zBk T L s.2.2.1) lo up = true := fun q => h0 (by rw [zNu_1 ⟨c1, c2⟩ q]; exact hs)
      by_cases c4 : 3 < (zEg T L (zBk T L s.2.2.1)) - (zBk T L s.2.2.1)
      · skip
        refine z_aload_n dX10_isNumber_0 rfl ?_
        refine m_callVv (As := []) dX10_isNumber_1 kX10_132 ⟨rfl, rfl⟩ rfl ⟨rfl, rfl⟩ rfl rfl sh66 rfl rfl (d_tok_m hT hL hL2 ha c1 c2 c4) (fun μ1 ν1 hk1 => ?_)
        obtain ⟨rfl, rfl⟩ := hk1
        refine z_aload_n dX10_isNumber_4 rfl ?_
        refine m_geti dX10_isNumber_5 fX10_126 sh66 rfl ?_
        rw [mR_4]
        refine z_iconst (v := -1) dX10_isNumber_8 rfl ?_
        refine z_icmp_eq 27 dX10_isNumber_9 (by decide) (fun h9 => absurd h9 (by decide)) (fun h9 => ?_)
        refine z_aload_n dX10_isNumber_12 rfl ?_
        refine m_geti dX10_isNumber_13 fX10_126 sh66 rfl ?_
        rw [mR_4]
        refine z_bipush (v := -3) dX10_isNumber_16 rfl ?_
        refine z_icmp_eq 27 dX10_isNumber_18 (by decide) (fun h18 => ?_) (fun h18 => absurd (by decide) h18)
        refine z_aload_n dX10_isNumber_27 rfl ?_
        refine m_geti dX10_isNumber_28 fX10_126 sh66 rfl ?_
        rw [mR_4]
        refine z_iconst (v := -1) dX10_isNumber_31 rfl ?_
        refine z_icmp_ne 47 dX10_isNumber_32 (by decide) (fun h32 => ?_) (fun h32 => absurd h32 (by decide))
        refine z_aload_n dX10_isNumber_47 rfl ?_
        refine z_iconst (v := 2) dX10_isNumber_48 rfl ?_
        refine m_callV (As := [.int _]) dX10_isNumber_49 kX10_135 ⟨rfl, rfl⟩ rfl ⟨rfl, rfl⟩ rfl rfl sh66 rfl rfl d_fails (fun r49 μ49 ν49 hk49 => ?_)
        obtain ⟨rfl, rfl, rfl⟩ := hk49
        refine z_if_eq 59 dX10_isNumber_52 (by decide) (fun h52 => ?_) (fun h52 => absurd (by decide) h52)
        refine z_iconst (v := 0) dX10_isNumber_59 rfl ?_
        refine m_iret dX10_isNumber_60 rfl rfl ?_
        obtain ⟨q1, q2⟩ := zNu_2 (lo := lo) (up := up) hs ⟨c1, c2⟩ c3
        rw [q1, q2]
        exact ⟨rfl, ⟨_, _, _, _, rfl⟩, rfl⟩
      · have eR := zRn_eq (T := T) (b := (zBk T L s.2.2.1)) ((zEg T L (zBk T L s.2.2.1)) - (zBk T L s.2.2.1)) (by omega) gd
        have hv := zVl_lt (T := T) (b := (zBk T L s.2.2.1)) ((zEg T L (zBk T L s.2.2.1)) - (zBk T L s.2.2.1)) gd
        have hp : 10 ^ ((zEg T L (zBk T L s.2.2.1)) - (zBk T L s.2.2.1)) ≤ 10 ^ 3 := Nat.pow_le_pow_right (by decide) (by omega)
        have hb : nI (zVl T (zBk T L s.2.2.1) ((zEg T L (zBk T L s.2.2.1)) - (zBk T L s.2.2.1))) < nI lo ∨ nI up < nI (zVl T (zBk T L s.2.2.1) ((zEg T L (zBk T L s.2.2.1)) - (zBk T L s.2.2.1))) := by
          by_cases c5 : (zVl T (zBk T L s.2.2.1) ((zEg T L (zBk T L s.2.2.1)) - (zBk T L s.2.2.1))) < lo
          · exact Or.inl (nI_lt c5 (by omega))
          · exact Or.inr (nI_lt (Nat.lt_of_not_le (fun q => c3 (zNk_iff.mpr ⟨c4, c5, by omega⟩))) (by omega))
        refine z_aload_n dX10_isNumber_0 rfl ?_
        refine m_callVv (As := []) dX10_isNumber_1 kX10_132 ⟨rfl, rfl⟩ rfl ⟨rfl, rfl⟩ rfl rfl sh66 rfl rfl (d_tok_n hT hL hL2 ha c1 c2 c4) (fun μ1 ν1 hk1 => ?_)
        obtain ⟨rfl, rfl⟩ := hk1
        refine z_aload_n dX10_isNumber_4 rfl ?_
        refine m_geti dX10_isNumber_5 fX10_126 sh66 rfl ?_
        rw [mR_4]
        refine z_iconst (v := -1) dX10_isNumber_8 rfl ?_
        refine z_icmp_eq 27 dX10_isNumber_9 (by decide) (fun h9 => ?_) (fun h9 => absurd (by decide) h9)
        refine z_aload_n dX10_isNumber_27 rfl ?_
        refine m_geti dX10_isNumber_28 fX10_126 sh66 rfl ?_
        rw [mR_4]
        refine z_iconst (v := -1) dX10_isNumber_31 rfl ?_
        refine z_icmp_ne 47 dX10_isNumber_32 (by decide) (fun h32 => absurd (by decide) h32) (fun h32 => ?_)
        refine z_aload_n dX10_isNumber_35 rfl ?_
        refine m_geti dX10_isNumber_36 fX10_123 sh66 rfl ?_
        rw [mR_5, eR]
        refine z_iload_n dX10_isNumber_39 rfl ?_
        refine z_iload_n dX10_isNumber_40 rfl ?_
        refine m_callS (As := [.int _, .int _, .int _]) dX10_isNumber_41 kX10_108 ⟨rfl, rfl⟩ rfl ⟨rfl, rfl⟩ rfl rfl rfl (c_inF hb) (fun r41 μ41 ν41 hk41 => ?_)
        obtain ⟨rfl, rfl, rfl⟩ := hk41
        refine z_if_ne 55 dX10_isNumber_44 (by decide) (fun h44 => absurd (by decide) h44) (fun h44 => ?_)
        refine z_aload_n dX10_isNumber_47 rfl ?_
        refine z_iconst (v := 2) dX10_isNumber_48 rfl ?_
        refine m_callV (As := [.int _]) dX10_isNumber_49 kX10_135 ⟨rfl, rfl⟩ rfl ⟨rfl, rfl⟩ rfl rfl sh66 rfl rfl d_fails (fun r49 μ49 ν49 hk49 => ?_)
        obtain ⟨rfl, rfl, rfl⟩ := hk49
        refine z_if_eq 59 dX10_isNumber_52 (by decide) (fun h52 => ?_) (fun h52 => absurd (by decide) h52)
        refine z_iconst (v := 0) dX10_isNumber_59 rfl ?_
        refine m_iret dX10_isNumber_60 rfl rfl ?_
        obtain ⟨q1, q2⟩ := zNu_2 (lo := lo) (up := up) hs ⟨c1, c2⟩ c3
        rw [q1, q2]
        exact ⟨rfl, ⟨_, _, _, _, rfl⟩, rfl⟩
    · have hx := zN255 (h255 _ c1)
      refine z_aload_n dX10_isNumber_0 rfl ?_
      refine m_callVv (As := []) dX10_isNumber_1 kX10_132 ⟨rfl, rfl⟩ rfl ⟨rfl, rfl⟩ rfl rfl sh66 rfl rfl (d_tok_c hT hL hL2 ha c1 c2) (fun μ1 ν1 hk1 => ?_)
      obtain ⟨rfl, rfl⟩ := hk1
      refine z_aload_n dX10_isNumber_4 rfl ?_
      refine m_geti dX10_isNumber_5 fX10_126 sh66 rfl ?_
      rw [mR_4]
      refine z_iconst (v := -1) dX10_isNumber_8 rfl ?_
      refine z_icmp_eq 27 dX10_isNumber_9 (by decide) (fun h9 => absurd h9 hx.1) (fun h9 => ?_)
      refine z_aload_n dX10_isNumber_12 rfl ?_
      refine m_geti dX10_isNumber_13 fX10_126 sh66 rfl ?_
      rw [mR_4]
      refine z_bipush (v := -3) dX10_isNumber_16 rfl ?_
      refine z_icmp_eq 27 dX10_isNumber_18 (by decide) (fun h18 => absurd h18 hx.2.1) (fun h18 => ?_)
      refine z_aload_n dX10_isNumber_21 rfl ?_
      refine z_iconst (v := 1) dX10_isNumber_22 rfl ?_
      refine m_callV (As := [.int _]) dX10_isNumber_23 kX10_135 ⟨rfl, rfl⟩ rfl ⟨rfl, rfl⟩ rfl rfl sh66 rfl rfl d_fails (fun r23 μ23 ν23 hk23 => ?_)
      obtain ⟨rfl, rfl, rfl⟩ := hk23
      refine m_iret dX10_isNumber_26 rfl rfl ?_
      obtain ⟨q1, q2⟩ := zNu_3 (lo := lo) (up := up) hs (fun q => c2 q.2)
      rw [q1, q2]
      exact ⟨rfl, ⟨_, _, _, _, rfl⟩, rfl⟩
  · skip
    refine z_aload_n dX10_isNumber_0 rfl ?_
    refine m_callVv (As := []) dX10_isNumber_1 kX10_132 ⟨rfl, rfl⟩ rfl ⟨rfl, rfl⟩ rfl rfl sh66 rfl rfl (d_tok_e hT hL hL2 ha c1) (fun μ1 ν1 hk1 => ?_)
    obtain ⟨rfl, rfl⟩ := hk1
    refine z_aload_n dX10_isNumber_4 rfl ?_
    refine m_geti dX10_isNumber_5 fX10_126 sh66 rfl ?_
    rw [mR_4]
    refine z_iconst (v := -1) dX10_isNumber_8 rfl ?_
    refine z_icmp_eq 27 dX10_isNumber_9 (by decide) (fun h9 => absurd h9 (by decide)) (fun h9 => ?_)
    refine z_aload_n dX10_isNumber_12 rfl ?_
    refine m_geti dX10_isNumber_13 fX10_126 sh66 rfl ?_
    rw [mR_4]
    refine z_bipush (v := -3) dX10_isNumber_16 rfl ?_
    refine z_icmp_eq 27 dX10_isNumber_18 (by decide) (fun h18 => absurd h18 (by decide)) (fun h18 => ?_)
    refine z_aload_n dX10_isNumber_21 rfl ?_
    refine z_iconst (v := 1) dX10_isNumber_22 rfl ?_
    refine m_callV (As := [.int _]) dX10_isNumber_23 kX10_135 ⟨rfl, rfl⟩ rfl ⟨rfl, rfl⟩ rfl rfl sh66 rfl rfl d_fails (fun r23 μ23 ν23 hk23 => ?_)
    obtain ⟨rfl, rfl, rfl⟩ := hk23
    refine m_iret dX10_isNumber_26 rfl rfl ?_
    obtain ⟨q1, q2⟩ := zNu_3 (lo := lo) (up := up) hs (fun q => c1 q.1)
    rw [q1, q2]
    exact ⟨rfl, ⟨_, _, _, _, rfl⟩, rfl⟩

theorem zEn_1 {T : Nat → Int32} {L : Nat} {s : zCu} (h1 : zBk T L s.2.2.1 < L ∧ T (zBk T L s.2.2.1) = 59) : zEn T L s = (s.1, s.2.1, zBk T L s.2.2.1 + 1, s.2.2.2) := by
  unfold zEn
  rw [if_pos h1]
theorem zEn_2 {T : Nat → Int32} {L : Nat} {s : zCu} (hs : s.1 = 0) (h1 : ¬ (zBk T L s.2.2.1 < L ∧ T (zBk T L s.2.2.1) = 59)) : (zEn T L s).1 = 1 ∧ (zEn T L s).2.1 = nI (zBk T L s.2.2.1) := by
  unfold zEn
  rw [if_neg h1, zFl_0 (by exact hs)]
  exact ⟨rfl, rfl⟩
set_option maxRecDepth 100000 in
set_option maxHeartbeats 400000 in
theorem d_end1 {l : Launch} {G : zG} {M : Mem} {ν : Lng} {s : zCu} {t k n p f : Int32} {T : Nat → Int32} {L : Nat} (hT : ∀ i, i < L → M 67 i = T i) (hL : M 66 0 = nI L) (hL2 : L ≤ 250) (ha : s.2.2.1 ≤ L) (h1 : (zBk T L s.2.2.1) < L ∧ T (zBk T L s.2.2.1) = 59)  : Cm l G mX10_isEnd [.ref 66] (mR M s.2.2.1 t k n p f) ν (fun a9 b9 c9 => (1 : Int32) = a9 ∧ mR M (zEn T L s).2.2.1 (nI (zBk T L s.2.2.1)) 59 0 p f = b9 ∧ ν = c9) := by
  refine Con.of (by decide) (Nat.le_of_ble_eq_true rfl) ?_
  show Am l G mX10_isEnd 0 [(0, .ref 66)] [] (mR M s.2.2.1 t k n p f) ν _
  have c2 : ¬ zDi (T (zBk T L s.2.2.1)) = true := by rw [h1.2]; decide
  refine z_aload_n dX10_isEnd_0 rfl ?_
  refine m_callVv (As := []) dX10_isEnd_1 kX10_132 ⟨rfl, rfl⟩ rfl ⟨rfl, rfl⟩ rfl rfl sh66 rfl rfl (d_tok_c hT hL hL2 ha h1.1 c2) (fun μ1 ν1 hk1 => ?_)
  obtain ⟨rfl, rfl⟩ := hk1
  refine z_aload_n dX10_isEnd_4 rfl ?_
  refine m_geti dX10_isEnd_5 fX10_126 sh66 rfl ?_
  rw [mR_4, h1.2]
  refine z_bipush (v := 59) dX10_isEnd_8 rfl ?_
  refine z_icmp_eq 21 dX10_isEnd_10 (by decide) (fun h10 => ?_) (fun h10 => absurd (by decide) h10)
  refine z_iconst (v := 1) dX10_isEnd_21 rfl ?_
  refine z_goto 26 dX10_isEnd_22 (by decide) ?_
  refine m_iret dX10_isEnd_26 rfl rfl ?_
  rw [zEn_1 h1]
  exact ⟨rfl, rfl, rfl⟩
set_option maxRecDepth 100000 in
set_option maxHeartbeats 400000 in
theorem d_end0 {l : Launch} {G : zG} {M : Mem} {ν : Lng} {s : zCu} {t k n p f : Int32} {T : Nat → Int32} {L : Nat} (hT : ∀ i, i < L → M 67 i = T i) (hL : M 66 0 = nI L) (hL2 : L ≤ 250) (ha : s.2.2.1 ≤ L) (h255 : ∀ i, i < L → zN (T i) 255) (hs : s.1 = 0) (h0 : ¬ ((zBk T L s.2.2.1) < L ∧ T (zBk T L s.2.2.1) = 59))  : Cm l G mX10_isEnd [.ref 66] (mR M s.2.2.1 t k n p f) ν (fun a9 b9 c9 => (0 : Int32) = a9 ∧ (∃ (a1 : Nat) (t1 k1 n1 : Int32), mR M a1 t1 k1 n1 (zEn T L s).2.1 (zEn T L s).1 = b9) ∧ ν = c9) := by
  refine Con.of (by decide) (Nat.le_of_ble_eq_true rfl) ?_
  show Am l G mX10_isEnd 0 [(0, .ref 66)] [] (mR M s.2.2.1 t k n p f) ν _
  by_cases c1 : (zBk T L s.2.2.1) < L
  · by_cases c2 : zDi (T (zBk T L s.2.2.1)) = true
    · by_cases c4 : 3 < (zEg T L (zBk T L s.2.2.1)) - (zBk T L s.2.2.1)
      · skip
        refine z_aload_n dX10_isEnd_0 rfl ?_
        refine m_callVv (As := []) dX10_isEnd_1 kX10_132 ⟨rfl, rfl⟩ rfl ⟨rfl, rfl⟩ rfl rfl sh66 rfl rfl (d_tok_m hT hL hL2 ha c1 c2 c4) (fun μ1 ν1 hk1 => ?_)
        obtain ⟨rfl, rfl⟩ := hk1
        refine z_aload_n dX10_isEnd_4 rfl ?_
        refine m_geti dX10_isEnd_5 fX10_126 sh66 rfl ?_
        rw [mR_4]
        refine z_bipush (v := 59) dX10_isEnd_8 rfl ?_
        refine z_icmp_eq 21 dX10_isEnd_10 (by decide) (fun h10 => absurd h10 (by decide)) (fun h10 => ?_)
        refine z_aload_n dX10_isEnd_13 rfl ?_
        refine z_iconst (v := 1) dX10_isEnd_14 rfl ?_
        refine m_callV (As := [.int _]) dX10_isEnd_15 kX10_135 ⟨rfl, rfl⟩ rfl ⟨rfl, rfl⟩ rfl rfl sh66 rfl rfl d_fails (fun r15 μ15 ν15 hk15 => ?_)
        obtain ⟨rfl, rfl, rfl⟩ := hk15
        refine z_if_eq 25 dX10_isEnd_18 (by decide) (fun h18 => ?_) (fun h18 => absurd (by decide) h18)
        refine z_iconst (v := 0) dX10_isEnd_25 rfl ?_
        refine m_iret dX10_isEnd_26 rfl rfl ?_
        obtain ⟨q1, q2⟩ := zEn_2 hs h0
        rw [q1, q2]
        exact ⟨rfl, ⟨_, _, _, _, rfl⟩, rfl⟩
      · skip
        refine z_aload_n dX10_isEnd_0 rfl ?_
        refine m_callVv (As := []) dX10_isEnd_1 kX10_132 ⟨rfl, rfl⟩ rfl ⟨rfl, rfl⟩ rfl rfl sh66 rfl rfl (d_tok_n hT hL hL2 ha c1 c2 c4) (fun μ1 ν1 hk1 => ?_)
        obtain ⟨rfl, rfl⟩ := hk1
        refine z_aload_n dX10_isEnd_4 rfl ?_
        refine m_geti dX10_isEnd_5 fX10_126 sh66 rfl ?_
        rw [mR_4]
        refine z_bipush (v := 59) dX10_isEnd_8 rfl ?_
        refine z_icmp_eq 21 dX10_isEnd_10 (by decide) (fun h10 => absurd h10 (by decide)) (fun h10 => ?_)
        refine z_aload_n dX10_isEnd_13 rfl ?_
        refine z_iconst (v := 1) dX10_isEnd_14 rfl ?_
        refine m_callV (As := [.int _]) dX10_isEnd_15 kX10_135 ⟨rfl, rfl⟩ rfl ⟨rfl, rfl⟩ rfl rfl sh66 rfl rfl d_fails (fun r15 μ15 ν15 hk15 => ?_)
        obtain ⟨rfl, rfl, rfl⟩ := hk15
        refine z_if_eq 25 dX10_isEnd_18 (by decide) (fun h18 => ?_) (fun h18 => absurd (by decide) h18)
        refine z_iconst (v := 0) dX10_isEnd_25 rfl ?_
        refine m_iret dX10_isEnd_26 rfl rfl ?_
        obtain ⟨q1, q2⟩ := zEn_2 hs h0
        rw [q1, q2]
        exact ⟨rfl, ⟨_, _, _, _, rfl⟩, rfl⟩
    · skip
      refine z_aload_n dX10_isEnd_0 rfl ?_
      refine m_callVv (As := []) dX10_isEnd_1 kX10_132 ⟨rfl, rfl⟩ rfl ⟨rfl, rfl⟩ rfl rfl sh66 rfl rfl (d_tok_c hT hL hL2 ha c1 c2) (fun μ1 ν1 hk1 => ?_)
      obtain ⟨rfl, rfl⟩ := hk1
      refine z_aload_n dX10_isEnd_4 rfl ?_
      refine m_geti dX10_isEnd_5 fX10_126 sh66 rfl ?_
      rw [mR_4]
      refine z_bipush (v := 59) dX10_isEnd_8 rfl ?_
      refine z_icmp_eq 21 dX10_isEnd_10 (by decide) (fun h10 => absurd h10 (fun q => h0 ⟨c1, q⟩)) (fun h10 => ?_)
      refine z_aload_n dX10_isEnd_13 rfl ?_
      refine z_iconst (v := 1) dX10_isEnd_14 rfl ?_
      refine m_callV (As := [.int _]) dX10_isEnd_15 kX10_135 ⟨rfl, rfl⟩ rfl ⟨rfl, rfl⟩ rfl rfl sh66 rfl rfl d_fails (fun r15 μ15 ν15 hk15 => ?_)
      obtain ⟨rfl, rfl, rfl⟩ := hk15
      refine z_if_eq 25 dX10_isEnd_18 (by decide) (fun h18 => ?_) (fun h18 => absurd (by decide) h18)
      refine z_iconst (v := 0) dX10_isEnd_25 rfl ?_
      refine m_iret dX10_isEnd_26 rfl rfl ?_
      obtain ⟨q1, q2⟩ := zEn_2 hs h0
      rw [q1, q2]
      exact ⟨rfl, ⟨_, _, _, _, rfl⟩, rfl⟩
  · skip
    refine z_aload_n dX10_isEnd_0 rfl ?_
    refine m_callVv (As := []) dX10_isEnd_1 kX10_132 ⟨rfl, rfl⟩ rfl ⟨rfl, rfl⟩ rfl rfl sh66 rfl rfl (d_tok_e hT hL hL2 ha c1) (fun μ1 ν1 hk1 => ?_)
    obtain ⟨rfl, rfl⟩ := hk1
    refine z_aload_n dX10_isEnd_4 rfl ?_
    refine m_geti dX10_isEnd_5 fX10_126 sh66 rfl ?_
    rw [mR_4]
    refine z_bipush (v := 59) dX10_isEnd_8 rfl ?_
    refine z_icmp_eq 21 dX10_isEnd_10 (by decide) (fun h10 => absurd h10 (by decide)) (fun h10 => ?_)
    refine z_aload_n dX10_isEnd_13 rfl ?_
    refine z_iconst (v := 1) dX10_isEnd_14 rfl ?_
    refine m_callV (As := [.int _]) dX10_isEnd_15 kX10_135 ⟨rfl, rfl⟩ rfl ⟨rfl, rfl⟩ rfl rfl sh66 rfl rfl d_fails (fun r15 μ15 ν15 hk15 => ?_)
    obtain ⟨rfl, rfl, rfl⟩ := hk15
    refine z_if_eq 25 dX10_isEnd_18 (by decide) (fun h18 => ?_) (fun h18 => absurd (by decide) h18)
    refine z_iconst (v := 0) dX10_isEnd_25 rfl ?_
    refine m_iret dX10_isEnd_26 rfl rfl ?_
    obtain ⟨q1, q2⟩ := zEn_2 hs h0
    rw [q1, q2]
    exact ⟨rfl, ⟨_, _, _, _, rfl⟩, rfl⟩
