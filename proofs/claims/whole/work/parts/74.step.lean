
section GC
variable {T : Nat → Int32} {L : Nat} {M : Mem} {s : zCu}
theorem gCl_l (h : T s.2.2.1 = 108) : gCl T L M s = (gLe T L s M, zEn T L (zL4 T L s M).1) := by
  unfold gCl
  rw [if_pos h]
theorem gCl_w6 (h : T s.2.2.1 = 119) (h2 : M 2 6 = nI 6) : gCl T L M s = (M, zFl s 3 (nI s.2.2.1)) := by
  unfold gCl
  rw [if_neg (by rw [h]; decide), if_pos h, if_pos h2]
theorem gCl_w {m : Nat} (h : T s.2.2.1 = 119) (h2 : M 2 6 = nI m) (hm : m < 6) : gCl T L M s = (gWt T L (s.1, s.2.1, s.2.2.1 + 1, s.2.2.2) M m, zEn T L (zWn T L (s.1, s.2.1, s.2.2.1 + 1, s.2.2.2) 7)) := by
  unfold gCl
  rw [if_neg (by rw [h]; decide), if_pos h, if_neg (by rw [h2]; exact zne (by omega) (by omega) (by decide)), h2, nI_clamp (show m < 2 ^ 31 by omega)]
theorem gCl_g (h : T s.2.2.1 = 103) : gCl T L M s = (gGl T L s M 9 3 1, zEn T L (zG2 T L s (M 1 9) 1).1) := by
  unfold gCl
  rw [if_neg (by rw [h]; decide), if_neg (by rw [h]; decide), if_pos h]
theorem gCl_n (h : T s.2.2.1 = 110) : gCl T L M s = (gGl T L s M 10 4 9, zEn T L (zG2 T L s (M 1 10) 9).1) := by
  unfold gCl
  rw [if_neg (by rw [h]; decide), if_neg (by rw [h]; decide), if_neg (by rw [h]; decide), if_pos h]
theorem gCl_d (h1 : ¬ T s.2.2.1 = 108) (h2 : ¬ T s.2.2.1 = 119) (h3 : ¬ T s.2.2.1 = 103) (h4 : ¬ T s.2.2.1 = 110) : gCl T L M s = (M, zFl s 1 (nI s.2.2.1)) := by
  unfold gCl
  rw [if_neg h1, if_neg h2, if_neg h3, if_neg h4]
end GC
theorem zlkR {x : Int32} (h0 : ¬ x = -2) (h1 : ¬ x = 103) (h2 : ¬ x = 108) (h3 : ¬ x = 110) (h4 : ¬ x = 119) : Op.lookupswitch.offset [(-2, 49), (103, 100), (108, 54), (110, 123), (119, 77)] 146 x.toInt = 146 := by
  have n : ∀ k : Int32, ¬ x = k → ¬ k.toInt = x.toInt := fun k hk e => hk (Int32.toInt_inj.mp e.symm)
  show (if (-2 : Int32).toInt = x.toInt then (49 : Int) else if (103 : Int32).toInt = x.toInt then 100 else if (108 : Int32).toInt = x.toInt then 54 else if (110 : Int32).toInt = x.toInt then 123 else if (119 : Int32).toInt = x.toInt then 77 else 146) = 146
  rw [if_neg (n (-2) h0), if_neg (n 103 h1), if_neg (n 108 h2), if_neg (n 110 h3), if_neg (n 119 h4)]
theorem zEn_k {T : Nat → Int32} {L : Nat} {s : zCu} (hs : s.1 = 0) (h : (zEn T L s).1 = 0) : zBk T L s.2.2.1 < L ∧ T (zBk T L s.2.2.1) = 59 := Classical.byContradiction (fun q => by
  rw [(zEn_2 hs q).1] at h
  exact absurd h (by decide))
theorem zEn_f {T : Nat → Int32} {L : Nat} {s : zCu} (hs : s.1 = 0) (h : ¬ (zEn T L s).1 = 0) : ¬ (zBk T L s.2.2.1 < L ∧ T (zBk T L s.2.2.1) = 59) := fun q => h (by rw [zEn_1 q]; exact hs)
set_option maxRecDepth 100000 in
set_option maxHeartbeats 400000 in
theorem d_step {l : Launch} {G : zG} {M R R0 : Mem} {s : zCu} {m : Nat} {ν : Lng} {K : Int32 → Mem → Lng → Prop} {t k n f : Int32} {T : Nat → Int32} {L : Nat} (hT0 : ∀ i, i < L → R0 67 i = T i) (hL0 : R0 66 0 = nI L) (hL2 : L ≤ 250) (ha : s.2.2.1 ≤ L) (h255 : ∀ i, i < L → zN (T i) 255) (hs : s.1 = 0) (hd : zDr M R m) (hfm : zFm R0 R)
  (IH : ∀ (R' : Mem) (m' : Nat) (t k n f : Int32), (gNx T L (M, s)).2.1 = 0 → zBk T L s.2.2.1 < L → zDr (gNx T L (M, s)).1 R' m' → zFm R0 R' → Am l G mX10_isRead 71 [(1, .int 1), (0, .ref 66)] [] (mR R' (gNx T L (M, s)).2.2.2.1 t k n (-1) f) ν K)
  (BAD : ∀ (N : Mem), ¬ (gNx T L (M, s)).2.1 = 0 → zBd R0 (gNx T L (M, s)).2.2.1 (gNx T L (M, s)).2.1 N → Am l G mX10_isRead 71 [(1, .int 0), (0, .ref 66)] [] N ν K)
  (END : ∀ (R' : Mem) (a : Nat) (t k n f : Int32), ¬ zBk T L s.2.2.1 < L → zDr M R' m → zFm R0 R' → Am l G mX10_isRead 71 [(1, .int 0), (0, .ref 66)] [] (mR R' a t k n (-1) f) ν K) : Am l G mX10_isRead 71 [(1, .int 1), (0, .ref 66)] [] (mR R s.2.2.1 t k n (-1) f) ν K := by
  have hT : ∀ i, i < L → R 67 i = T i := fun i hi => by rw [hfm.1 67 (by decide) (by decide) (by decide)]; exact hT0 i hi
  have hL : R 66 0 = nI L := by rw [hfm.2 0 (by decide)]; exact hL0
  obtain ⟨b1, b2, b3, b4⟩ := zBk_sp (T := T) ha
  obtain ⟨dm, d2, d8, dw, dl, ⟨x, x4, dx, dxm⟩, dg, dn, d14, d15⟩ := id hd
  by_cases hb : zBk T L s.2.2.1 < L
  · skip
    have eX := gNx_1 (T := T) (L := L) (X := (M, s)) hs hb
    have eX : gNx T L (M, s) = gCl T L M (s.1, s.2.1, zBk T L s.2.2.1, s.2.2.2) := eX
    rw [eX] at IH BAD
    have hsb : (s.1, s.2.1, zBk T L s.2.2.1, s.2.2.2).1 = 0 := hs
    by_cases e1 : T (zBk T L s.2.2.1) = 108
    · have xv : (zL1 T L (s.1, s.2.1, zBk T L s.2.2.1, s.2.2.2)).2 ≤ 1 := (zNu_v (by decide)).2
      have eC := gCl_l (M := M) (L := L) (T := T) (s := (s.1, s.2.1, zBk T L s.2.2.1, s.2.2.2)) (by exact e1)
      rw [eC] at IH BAD
      have hnd : ¬ zDi (T (zBk T L s.2.2.1)) = true := by rw [e1]; decide
      by_cases hk : (zL4 T L (s.1, s.2.1, zBk T L s.2.2.1, s.2.2.2) M).1.1 = 0
      · by_cases he : (zEn T L (zL4 T L (s.1, s.2.1, zBk T L s.2.2.1, s.2.2.2) M).1).1 = 0
        · skip
          refine z_iload_n dX10_isRead_71 rfl ?_
          refine z_if_eq 238 dX10_isRead_72 (by decide) (fun h72 => absurd h72 (by decide)) (fun h72 => ?_)
          refine z_aload_n dX10_isRead_75 rfl ?_
          refine m_callVv (As := []) dX10_isRead_76 kX10_132 ⟨rfl, rfl⟩ rfl ⟨rfl, rfl⟩ rfl rfl sh66 rfl rfl (d_tok_c hT hL hL2 ha hb hnd) (fun μ76 ν76 hk76 => ?_)
          obtain ⟨rfl, rfl⟩ := hk76
          refine z_aload_n dX10_isRead_79 rfl ?_
          refine m_geti dX10_isRead_80 fX10_126 sh66 rfl ?_
          rw [mR_4, e1]
          refine z_lookup 137 dX10_isRead_83 rfl rfl (by decide) ?_
          refine z_aload_n dX10_isRead_137 rfl ?_
          refine m_callV (As := []) dX10_isRead_138 kX10_162 ⟨rfl, rfl⟩ rfl ⟨rfl, rfl⟩ rfl rfl sh66 rfl rfl (d_leaf1 (M := M) (s := (s.1, s.2.1, zBk T L s.2.2.1, s.2.2.2)) hT hL hL2 (by exact hb) h255 hsb x4 dx (dxm _ (by omega)) hk) (fun r138 μ138 ν138 hk138 => ?_)
          obtain ⟨rfl, rfl, rfl⟩ := hk138
          refine z_if_eq 155 dX10_isRead_141 (by decide) (fun h141 => absurd h141 (by decide)) (fun h141 => ?_)
          refine z_aload_n dX10_isRead_144 rfl ?_
          refine m_callV (As := []) dX10_isRead_145 kX10_166 ⟨rfl, rfl⟩ rfl ⟨rfl, rfl⟩ rfl rfl sh66 rfl rfl (d_end1 (T := T) (L := L) (s := (zL4 T L (s.1, s.2.1, zBk T L s.2.2.1, s.2.2.2) M).1) (fun i hi => by (repeat rw [up2_ne (by decide)]); exact hT i hi) (by (repeat first | rw [up2_ne (by decide)] | rw [up2_row, if_neg (by decide)]); exact hL) hL2 (zL4_a (s := (s.1, s.2.1, zBk T L s.2.2.1, s.2.2.2)) (by exact hb)).2 (zEn_k hk he)) (fun r145 μ145 ν145 hk145 => ?_)
          obtain ⟨rfl, rfl, rfl⟩ := hk145
          refine z_if_eq 155 dX10_isRead_148 (by decide) (fun h148 => absurd h148 (by decide)) (fun h148 => ?_)
          refine z_iconst (v := 1) dX10_isRead_151 rfl ?_
          refine z_goto 156 dX10_isRead_152 (by decide) ?_
          refine z_istore_n (i := 1) (fun y => [(1, .int y), (0, .ref 66)]) dX10_isRead_156 rfl rfl (fun _ => rfl) (fun x9 e9 => ?_)
          subst e9
          refine z_goto 71 dX10_isRead_157 (by decide) ?_
          exact IH _ _ _ _ _ _ he hb (hd.leaf x4 dx dxm) (((hfm.u6 (by decide)).u9).u9)
        · skip
          refine z_iload_n dX10_isRead_71 rfl ?_
          refine z_if_eq 238 dX10_isRead_72 (by decide) (fun h72 => absurd h72 (by decide)) (fun h72 => ?_)
          refine z_aload_n dX10_isRead_75 rfl ?_
          refine m_callVv (As := []) dX10_isRead_76 kX10_132 ⟨rfl, rfl⟩ rfl ⟨rfl, rfl⟩ rfl rfl sh66 rfl rfl (d_tok_c hT hL hL2 ha hb hnd) (fun μ76 ν76 hk76 => ?_)
          obtain ⟨rfl, rfl⟩ := hk76
          refine z_aload_n dX10_isRead_79 rfl ?_
          refine m_geti dX10_isRead_80 fX10_126 sh66 rfl ?_
          rw [mR_4, e1]
          refine z_lookup 137 dX10_isRead_83 rfl rfl (by decide) ?_
          refine z_aload_n dX10_isRead_137 rfl ?_
          refine m_callV (As := []) dX10_isRead_138 kX10_162 ⟨rfl, rfl⟩ rfl ⟨rfl, rfl⟩ rfl rfl sh66 rfl rfl (d_leaf1 (M := M) (s := (s.1, s.2.1, zBk T L s.2.2.1, s.2.2.2)) hT hL hL2 (by exact hb) h255 hsb x4 dx (dxm _ (by omega)) hk) (fun r138 μ138 ν138 hk138 => ?_)
          obtain ⟨rfl, rfl, rfl⟩ := hk138
          refine z_if_eq 155 dX10_isRead_141 (by decide) (fun h141 => absurd h141 (by decide)) (fun h141 => ?_)
          refine z_aload_n dX10_isRead_144 rfl ?_
          refine m_callV (As := []) dX10_isRead_145 kX10_166 ⟨rfl, rfl⟩ rfl ⟨rfl, rfl⟩ rfl rfl sh66 rfl rfl (d_end0 (T := T) (L := L) (s := (zL4 T L (s.1, s.2.1, zBk T L s.2.2.1, s.2.2.2) M).1) (fun i hi => by (repeat rw [up2_ne (by decide)]); exact hT i hi) (by (repeat first | rw [up2_ne (by decide)] | rw [up2_row, if_neg (by decide)]); exact hL) hL2 (zL4_a (s := (s.1, s.2.1, zBk T L s.2.2.1, s.2.2.2)) (by exact hb)).2 h255 hk (zEn_f hk he)) (fun r145 μ145 ν145 hk145 => ?_)
          obtain ⟨rfl, ⟨a1, t1, k1, n1, rfl⟩, rfl⟩ := hk145
          refine z_if_eq 155 dX10_isRead_148 (by decide) (fun h148 => ?_) (fun h148 => absurd (by decide) h148)
          refine z_iconst (v := 0) dX10_isRead_155 rfl ?_
          refine z_istore_n (i := 1) (fun y => [(1, .int y), (0, .ref 66)]) dX10_isRead_156 rfl rfl (fun _ => rfl) (fun x9 e9 => ?_)
          subst e9
          refine z_goto 71 dX10_isRead_157 (by decide) ?_
          exact BAD _ he (zBd.mk (((hfm.u6 (by decide)).u9).u9).1 (((hfm.u6 (by decide)).u9).u9).2)
      · have e9 := zEn_st (T := T) (L := L) hk
        rw [e9.1, e9.2] at BAD
        refine z_iload_n dX10_isRead_71 rfl ?_
        refine z_if_eq 238 dX10_isRead_72 (by decide) (fun h72 => absurd h72 (by decide)) (fun h72 => ?_)
        refine z_aload_n dX10_isRead_75 rfl ?_
        refine m_callVv (As := []) dX10_isRead_76 kX10_132 ⟨rfl, rfl⟩ rfl ⟨rfl, rfl⟩ rfl rfl sh66 rfl rfl (d_tok_c hT hL hL2 ha hb hnd) (fun μ76 ν76 hk76 => ?_)
        obtain ⟨rfl, rfl⟩ := hk76
        refine z_aload_n dX10_isRead_79 rfl ?_
        refine m_geti dX10_isRead_80 fX10_126 sh66 rfl ?_
        rw [mR_4, e1]
        refine z_lookup 137 dX10_isRead_83 rfl rfl (by decide) ?_
        refine z_aload_n dX10_isRead_137 rfl ?_
        refine m_callV (As := []) dX10_isRead_138 kX10_162 ⟨rfl, rfl⟩ rfl ⟨rfl, rfl⟩ rfl rfl sh66 rfl rfl (d_leaf0 (M := M) (s := (s.1, s.2.1, zBk T L s.2.2.1, s.2.2.2)) hT hL hL2 (by exact hb) h255 hsb x4 dx (dxm _ (by omega)) hk) (fun r138 μ138 ν138 hk138 => ?_)
        obtain ⟨rfl, hbd, rfl⟩ := hk138
        refine z_if_eq 155 dX10_isRead_141 (by decide) (fun h141 => ?_) (fun h141 => absurd (by decide) h141)
        refine z_iconst (v := 0) dX10_isRead_155 rfl ?_
        refine z_istore_n (i := 1) (fun y => [(1, .int y), (0, .ref 66)]) dX10_isRead_156 rfl rfl (fun _ => rfl) (fun x9 e9 => ?_)
        subst e9
        refine z_goto 71 dX10_isRead_157 (by decide) ?_
        exact BAD _ hk (hbd.tr hfm)
    by_cases e2 : T (zBk T L s.2.2.1) = 119
    · rcases (show m = 6 ∨ m < 6 by omega) with rfl | m6
      · have eC := gCl_w6 (M := M) (L := L) (T := T) (s := (s.1, s.2.1, zBk T L s.2.2.1, s.2.2.2)) (by exact e2) d2
        rw [eC] at BAD
        have hnd : ¬ zDi (T (zBk T L s.2.2.1)) = true := by rw [e2]; decide
        refine z_iload_n dX10_isRead_71 rfl ?_
        refine z_if_eq 238 dX10_isRead_72 (by decide) (fun h72 => absurd h72 (by decide)) (fun h72 => ?_)
        refine z_aload_n dX10_isRead_75 rfl ?_
        refine m_callVv (As := []) dX10_isRead_76 kX10_132 ⟨rfl, rfl⟩ rfl ⟨rfl, rfl⟩ rfl rfl sh66 rfl rfl (d_tok_c hT hL hL2 ha hb hnd) (fun μ76 ν76 hk76 => ?_)
        obtain ⟨rfl, rfl⟩ := hk76
        refine z_aload_n dX10_isRead_79 rfl ?_
        refine m_geti dX10_isRead_80 fX10_126 sh66 rfl ?_
        rw [mR_4, e2]
        refine z_lookup 160 dX10_isRead_83 rfl rfl (by decide) ?_
        refine z_aload_n dX10_isRead_160 rfl ?_
        refine m_callV (As := []) dX10_isRead_161 kX10_169 ⟨rfl, rfl⟩ rfl ⟨rfl, rfl⟩ rfl rfl sh66 rfl rfl (d_wait6 (t := 0) (s := (s.1, s.2.1, zBk T L s.2.2.1, s.2.2.2)) hT hL hL2 (by exact hb) h255 hsb d8) (fun r161 μ161 ν161 hk161 => ?_)
        obtain ⟨rfl, hbd, rfl⟩ := hk161
        refine z_if_eq 178 dX10_isRead_164 (by decide) (fun h164 => ?_) (fun h164 => absurd (by decide) h164)
        refine z_iconst (v := 0) dX10_isRead_178 rfl ?_
        refine z_istore_n (i := 1) (fun y => [(1, .int y), (0, .ref 66)]) dX10_isRead_179 rfl rfl (fun _ => rfl) (fun x9 e9 => ?_)
        subst e9
        refine z_goto 71 dX10_isRead_180 (by decide) ?_
        exact BAD _ (zFl_f (by decide)) (hbd.tr hfm)
      · skip
        have eC := gCl_w (M := M) (L := L) (T := T) (s := (s.1, s.2.1, zBk T L s.2.2.1, s.2.2.2)) (by exact e2) d2 m6
        rw [eC] at IH BAD
        have hnd : ¬ zDi (T (zBk T L s.2.2.1)) = true := by rw [e2]; decide
        by_cases hk : (zWn T L (s.1, s.2.1, zBk T L s.2.2.1 + 1, s.2.2.2) 7).1 = 0
        · by_cases he : (zEn T L (zWn T L (s.1, s.2.1, zBk T L s.2.2.1 + 1, s.2.2.2) 7)).1 = 0
          · skip
            refine z_iload_n dX10_isRead_71 rfl ?_
            refine z_if_eq 238 dX10_isRead_72 (by decide) (fun h72 => absurd h72 (by decide)) (fun h72 => ?_)
            refine z_aload_n dX10_isRead_75 rfl ?_
            refine m_callVv (As := []) dX10_isRead_76 kX10_132 ⟨rfl, rfl⟩ rfl ⟨rfl, rfl⟩ rfl rfl sh66 rfl rfl (d_tok_c hT hL hL2 ha hb hnd) (fun μ76 ν76 hk76 => ?_)
            obtain ⟨rfl, rfl⟩ := hk76
            refine z_aload_n dX10_isRead_79 rfl ?_
            refine m_geti dX10_isRead_80 fX10_126 sh66 rfl ?_
            rw [mR_4, e2]
            refine z_lookup 160 dX10_isRead_83 rfl rfl (by decide) ?_
            refine z_aload_n dX10_isRead_160 rfl ?_
            refine m_callV (As := []) dX10_isRead_161 kX10_169 ⟨rfl, rfl⟩ rfl ⟨rfl, rfl⟩ rfl rfl sh66 rfl rfl (d_wait1 (t := 0) (s := (s.1, s.2.1, zBk T L s.2.2.1, s.2.2.2)) hT hL hL2 (by exact hb) h255 hsb d8 m6 hk) (fun r161 μ161 ν161 hk161 => ?_)
            obtain ⟨rfl, rfl, rfl⟩ := hk161
            refine z_if_eq 178 dX10_isRead_164 (by decide) (fun h164 => absurd h164 (by decide)) (fun h164 => ?_)
            refine z_aload_n dX10_isRead_167 rfl ?_
            refine m_callV (As := []) dX10_isRead_168 kX10_166 ⟨rfl, rfl⟩ rfl ⟨rfl, rfl⟩ rfl rfl sh66 rfl rfl (d_end1 (T := T) (L := L) (s := (zWn T L (s.1, s.2.1, zBk T L s.2.2.1 + 1, s.2.2.2) 7)) (fun i hi => by rw [rWt_ne (by decide) (by decide)]; exact hT i hi) (by rw [rWt_66, if_neg (by decide)]; exact hL) hL2 (zWn_a (s := (s.1, s.2.1, zBk T L s.2.2.1 + 1, s.2.2.2)) (by exact hb) 7).2 (zEn_k hk he)) (fun r168 μ168 ν168 hk168 => ?_)
            obtain ⟨rfl, rfl, rfl⟩ := hk168
            refine z_if_eq 178 dX10_isRead_171 (by decide) (fun h171 => absurd h171 (by decide)) (fun h171 => ?_)
            refine z_iconst (v := 1) dX10_isRead_174 rfl ?_
            refine z_goto 179 dX10_isRead_175 (by decide) ?_
            refine z_istore_n (i := 1) (fun y => [(1, .int y), (0, .ref 66)]) dX10_isRead_179 rfl rfl (fun _ => rfl) (fun x9 e9 => ?_)
            subst e9
            refine z_goto 71 dX10_isRead_180 (by decide) ?_
            exact IH _ _ _ _ _ _ he hb (hd.wait m6) (hfm.wt)
          · skip
            refine z_iload_n dX10_isRead_71 rfl ?_
            refine z_if_eq 238 dX10_isRead_72 (by decide) (fun h72 => absurd h72 (by decide)) (fun h72 => ?_)
            refine z_aload_n dX10_isRead_75 rfl ?_
            refine m_callVv (As := []) dX10_isRead_76 kX10_132 ⟨rfl, rfl⟩ rfl ⟨rfl, rfl⟩ rfl rfl sh66 rfl rfl (d_tok_c hT hL hL2 ha hb hnd) (fun μ76 ν76 hk76 => ?_)
            obtain ⟨rfl, rfl⟩ := hk76
            refine z_aload_n dX10_isRead_79 rfl ?_
            refine m_geti dX10_isRead_80 fX10_126 sh66 rfl ?_
            rw [mR_4, e2]
            refine z_lookup 160 dX10_isRead_83 rfl rfl (by decide) ?_
            refine z_aload_n dX10_isRead_160 rfl ?_
            refine m_callV (As := []) dX10_isRead_161 kX10_169 ⟨rfl, rfl⟩ rfl ⟨rfl, rfl⟩ rfl rfl sh66 rfl rfl (d_wait1 (t := 0) (s := (s.1, s.2.1, zBk T L s.2.2.1, s.2.2.2)) hT hL hL2 (by exact hb) h255 hsb d8 m6 hk) (fun r161 μ161 ν161 hk161 => ?_)
            obtain ⟨rfl, rfl, rfl⟩ := hk161
            refine z_if_eq 178 dX10_isRead_164 (by decide) (fun h164 => absurd h164 (by decide)) (fun h164 => ?_)
            refine z_aload_n dX10_isRead_167 rfl ?_
            refine m_callV (As := []) dX10_isRead_168 kX10_166 ⟨rfl, rfl⟩ rfl ⟨rfl, rfl⟩ rfl rfl sh66 rfl rfl (d_end0 (T := T) (L := L) (s := (zWn T L (s.1, s.2.1, zBk T L s.2.2.1 + 1, s.2.2.2) 7)) (fun i hi => by rw [rWt_ne (by decide) (by decide)]; exact hT i hi) (by rw [rWt_66, if_neg (by decide)]; exact hL) hL2 (zWn_a (s := (s.1, s.2.1, zBk T L s.2.2.1 + 1, s.2.2.2)) (by exact hb) 7).2 h255 hk (zEn_f hk he)) (fun r168 μ168 ν168 hk168 => ?_)
            obtain ⟨rfl, ⟨a1, t1, k1, n1, rfl⟩, rfl⟩ := hk168
            refine z_if_eq 178 dX10_isRead_171 (by decide) (fun h171 => ?_) (fun h171 => absurd (by decide) h171)
            refine z_iconst (v := 0) dX10_isRead_178 rfl ?_
            refine z_istore_n (i := 1) (fun y => [(1, .int y), (0, .ref 66)]) dX10_isRead_179 rfl rfl (fun _ => rfl) (fun x9 e9 => ?_)
            subst e9
            refine z_goto 71 dX10_isRead_180 (by decide) ?_
            exact BAD _ he (zBd.mk (hfm.wt).1 (hfm.wt).2)
        · have e9 := zEn_st (T := T) (L := L) hk
          rw [e9.1, e9.2] at BAD
          refine z_iload_n dX10_isRead_71 rfl ?_
          refine z_if_eq 238 dX10_isRead_72 (by decide) (fun h72 => absurd h72 (by decide)) (fun h72 => ?_)
          refine z_aload_n dX10_isRead_75 rfl ?_
          refine m_callVv (As := []) dX10_isRead_76 kX10_132 ⟨rfl, rfl⟩ rfl ⟨rfl, rfl⟩ rfl rfl sh66 rfl rfl (d_tok_c hT hL hL2 ha hb hnd) (fun μ76 ν76 hk76 => ?_)
          obtain ⟨rfl, rfl⟩ := hk76
          refine z_aload_n dX10_isRead_79 rfl ?_
          refine m_geti dX10_isRead_80 fX10_126 sh66 rfl ?_
          rw [mR_4, e2]
          refine z_lookup 160 dX10_isRead_83 rfl rfl (by decide) ?_
          refine z_aload_n dX10_isRead_160 rfl ?_
          refine m_callV (As := []) dX10_isRead_161 kX10_169 ⟨rfl, rfl⟩ rfl ⟨rfl, rfl⟩ rfl rfl sh66 rfl rfl (d_wait0 (t := 0) (s := (s.1, s.2.1, zBk T L s.2.2.1, s.2.2.2)) hT hL hL2 (by exact hb) h255 hsb d8 m6 hk) (fun r161 μ161 ν161 hk161 => ?_)
          obtain ⟨rfl, hbd, rfl⟩ := hk161
          refine z_if_eq 178 dX10_isRead_164 (by decide) (fun h164 => ?_) (fun h164 => absurd (by decide) h164)
          refine z_iconst (v := 0) dX10_isRead_178 rfl ?_
          refine z_istore_n (i := 1) (fun y => [(1, .int y), (0, .ref 66)]) dX10_isRead_179 rfl rfl (fun _ => rfl) (fun x9 e9 => ?_)
          subst e9
          refine z_goto 71 dX10_isRead_180 (by decide) ?_
          exact BAD _ hk (hbd.tr hfm)
    by_cases e3 : T (zBk T L s.2.2.1) = 103
    · skip
      have eC := gCl_g (M := M) (L := L) (T := T) (s := (s.1, s.2.1, zBk T L s.2.2.1, s.2.2.2)) (by exact e3)
      rw [eC] at IH BAD
      have hnd : ¬ zDi (T (zBk T L s.2.2.1)) = true := by rw [e3]; decide
      by_cases hk : (zG2 T L (s.1, s.2.1, zBk T L s.2.2.1, s.2.2.2) (M 1 9) 1).1.1 = 0
      · by_cases he : (zEn T L (zG2 T L (s.1, s.2.1, zBk T L s.2.2.1, s.2.2.2) (M 1 9) 1).1).1 = 0
        · skip
          refine z_iload_n dX10_isRead_71 rfl ?_
          refine z_if_eq 238 dX10_isRead_72 (by decide) (fun h72 => absurd h72 (by decide)) (fun h72 => ?_)
          refine z_aload_n dX10_isRead_75 rfl ?_
          refine m_callVv (As := []) dX10_isRead_76 kX10_132 ⟨rfl, rfl⟩ rfl ⟨rfl, rfl⟩ rfl rfl sh66 rfl rfl (d_tok_c hT hL hL2 ha hb hnd) (fun μ76 ν76 hk76 => ?_)
          obtain ⟨rfl, rfl⟩ := hk76
          refine z_aload_n dX10_isRead_79 rfl ?_
          refine m_geti dX10_isRead_80 fX10_126 sh66 rfl ?_
          rw [mR_4, e3]
          refine z_lookup 183 dX10_isRead_83 rfl rfl (by decide) ?_
          refine z_aload_n dX10_isRead_183 rfl ?_
          refine m_callV (As := []) dX10_isRead_184 kX10_172 ⟨rfl, rfl⟩ rfl ⟨rfl, rfl⟩ rfl rfl sh66 rfl rfl (d_glass1 (t := 0) (M := M) (s := (s.1, s.2.1, zBk T L s.2.2.1, s.2.2.2)) hT hL hL2 (by exact hb) h255 hsb d14 hk) (fun r184 μ184 ν184 hk184 => ?_)
          obtain ⟨rfl, rfl, rfl⟩ := hk184
          refine z_if_eq 201 dX10_isRead_187 (by decide) (fun h187 => absurd h187 (by decide)) (fun h187 => ?_)
          refine z_aload_n dX10_isRead_190 rfl ?_
          refine m_callV (As := []) dX10_isRead_191 kX10_166 ⟨rfl, rfl⟩ rfl ⟨rfl, rfl⟩ rfl rfl sh66 rfl rfl (d_end1 (T := T) (L := L) (s := (zG2 T L (s.1, s.2.1, zBk T L s.2.2.1, s.2.2.2) (M 1 9) 1).1) (fun i hi => by (repeat rw [up2_ne (by decide)]); exact hT i hi) (by (repeat first | rw [up2_ne (by decide)] | rw [up2_row, if_neg (by decide)]); exact hL) hL2 (zG2_a (s := (s.1, s.2.1, zBk T L s.2.2.1, s.2.2.2)) (by exact hb)).2 (zEn_k hk he)) (fun r191 μ191 ν191 hk191 => ?_)
          obtain ⟨rfl, rfl, rfl⟩ := hk191
          refine z_if_eq 201 dX10_isRead_194 (by decide) (fun h194 => absurd h194 (by decide)) (fun h194 => ?_)
          refine z_iconst (v := 1) dX10_isRead_197 rfl ?_
          refine z_goto 202 dX10_isRead_198 (by decide) ?_
          refine z_istore_n (i := 1) (fun y => [(1, .int y), (0, .ref 66)]) dX10_isRead_202 rfl rfl (fun _ => rfl) (fun x9 e9 => ?_)
          subst e9
          refine z_goto 71 dX10_isRead_203 (by decide) ?_
          exact IH _ _ _ _ _ _ he hb hd.glass ((hfm.u6 (by decide)).u6 (by decide))
        · skip
          refine z_iload_n dX10_isRead_71 rfl ?_
          refine z_if_eq 238 dX10_isRead_72 (by decide) (fun h72 => absurd h72 (by decide)) (fun h72 => ?_)
          refine z_aload_n dX10_isRead_75 rfl ?_
          refine m_callVv (As := []) dX10_isRead_76 kX10_132 ⟨rfl, rfl⟩ rfl ⟨rfl, rfl⟩ rfl rfl sh66 rfl rfl (d_tok_c hT hL hL2 ha hb hnd) (fun μ76 ν76 hk76 => ?_)
          obtain ⟨rfl, rfl⟩ := hk76
          refine z_aload_n dX10_isRead_79 rfl ?_
          refine m_geti dX10_isRead_80 fX10_126 sh66 rfl ?_
          rw [mR_4, e3]
          refine z_lookup 183 dX10_isRead_83 rfl rfl (by decide) ?_
          refine z_aload_n dX10_isRead_183 rfl ?_
          refine m_callV (As := []) dX10_isRead_184 kX10_172 ⟨rfl, rfl⟩ rfl ⟨rfl, rfl⟩ rfl rfl sh66 rfl rfl (d_glass1 (t := 0) (M := M) (s := (s.1, s.2.1, zBk T L s.2.2.1, s.2.2.2)) hT hL hL2 (by exact hb) h255 hsb d14 hk) (fun r184 μ184 ν184 hk184 => ?_)
          obtain ⟨rfl, rfl, rfl⟩ := hk184
          refine z_if_eq 201 dX10_isRead_187 (by decide) (fun h187 => absurd h187 (by decide)) (fun h187 => ?_)
          refine z_aload_n dX10_isRead_190 rfl ?_
          refine m_callV (As := []) dX10_isRead_191 kX10_166 ⟨rfl, rfl⟩ rfl ⟨rfl, rfl⟩ rfl rfl sh66 rfl rfl (d_end0 (T := T) (L := L) (s := (zG2 T L (s.1, s.2.1, zBk T L s.2.2.1, s.2.2.2) (M 1 9) 1).1) (fun i hi => by (repeat rw [up2_ne (by decide)]); exact hT i hi) (by (repeat first | rw [up2_ne (by decide)] | rw [up2_row, if_neg (by decide)]); exact hL) hL2 (zG2_a (s := (s.1, s.2.1, zBk T L s.2.2.1, s.2.2.2)) (by exact hb)).2 h255 hk (zEn_f hk he)) (fun r191 μ191 ν191 hk191 => ?_)
          obtain ⟨rfl, ⟨a1, t1, k1, n1, rfl⟩, rfl⟩ := hk191
          refine z_if_eq 201 dX10_isRead_194 (by decide) (fun h194 => ?_) (fun h194 => absurd (by decide) h194)
          refine z_iconst (v := 0) dX10_isRead_201 rfl ?_
          refine z_istore_n (i := 1) (fun y => [(1, .int y), (0, .ref 66)]) dX10_isRead_202 rfl rfl (fun _ => rfl) (fun x9 e9 => ?_)
          subst e9
          refine z_goto 71 dX10_isRead_203 (by decide) ?_
          exact BAD _ he (zBd.mk ((hfm.u6 (by decide)).u6 (by decide)).1 ((hfm.u6 (by decide)).u6 (by decide)).2)
      · have e9 := zEn_st (T := T) (L := L) hk
        rw [e9.1, e9.2] at BAD
        refine z_iload_n dX10_isRead_71 rfl ?_
        refine z_if_eq 238 dX10_isRead_72 (by decide) (fun h72 => absurd h72 (by decide)) (fun h72 => ?_)
        refine z_aload_n dX10_isRead_75 rfl ?_
        refine m_callVv (As := []) dX10_isRead_76 kX10_132 ⟨rfl, rfl⟩ rfl ⟨rfl, rfl⟩ rfl rfl sh66 rfl rfl (d_tok_c hT hL hL2 ha hb hnd) (fun μ76 ν76 hk76 => ?_)
        obtain ⟨rfl, rfl⟩ := hk76
        refine z_aload_n dX10_isRead_79 rfl ?_
        refine m_geti dX10_isRead_80 fX10_126 sh66 rfl ?_
        rw [mR_4, e3]
        refine z_lookup 183 dX10_isRead_83 rfl rfl (by decide) ?_
        refine z_aload_n dX10_isRead_183 rfl ?_
        refine m_callV (As := []) dX10_isRead_184 kX10_172 ⟨rfl, rfl⟩ rfl ⟨rfl, rfl⟩ rfl rfl sh66 rfl rfl (d_glass0 (t := 0) (M := M) (s := (s.1, s.2.1, zBk T L s.2.2.1, s.2.2.2)) hT hL hL2 (by exact hb) h255 hsb d14 hk) (fun r184 μ184 ν184 hk184 => ?_)
        obtain ⟨rfl, hbd, rfl⟩ := hk184
        refine z_if_eq 201 dX10_isRead_187 (by decide) (fun h187 => ?_) (fun h187 => absurd (by decide) h187)
        refine z_iconst (v := 0) dX10_isRead_201 rfl ?_
        refine z_istore_n (i := 1) (fun y => [(1, .int y), (0, .ref 66)]) dX10_isRead_202 rfl rfl (fun _ => rfl) (fun x9 e9 => ?_)
        subst e9
        refine z_goto 71 dX10_isRead_203 (by decide) ?_
        exact BAD _ hk (hbd.tr hfm)
    by_cases e4 : T (zBk T L s.2.2.1) = 110
    · skip
      have eC := gCl_n (M := M) (L := L) (T := T) (s := (s.1, s.2.1, zBk T L s.2.2.1, s.2.2.2)) (by exact e4)
      rw [eC] at IH BAD
      have hnd : ¬ zDi (T (zBk T L s.2.2.1)) = true := by rw [e4]; decide
      by_cases hk : (zG2 T L (s.1, s.2.1, zBk T L s.2.2.1, s.2.2.2) (M 1 10) 9).1.1 = 0
      · by_cases he : (zEn T L (zG2 T L (s.1, s.2.1, zBk T L s.2.2.1, s.2.2.2) (M 1 10) 9).1).1 = 0
        · skip
          refine z_iload_n dX10_isRead_71 rfl ?_
          refine z_if_eq 238 dX10_isRead_72 (by decide) (fun h72 => absurd h72 (by decide)) (fun h72 => ?_)
          refine z_aload_n dX10_isRead_75 rfl ?_
          refine m_callVv (As := []) dX10_isRead_76 kX10_132 ⟨rfl, rfl⟩ rfl ⟨rfl, rfl⟩ rfl rfl sh66 rfl rfl (d_tok_c hT hL hL2 ha hb hnd) (fun μ76 ν76 hk76 => ?_)
          obtain ⟨rfl, rfl⟩ := hk76
          refine z_aload_n dX10_isRead_79 rfl ?_
          refine m_geti dX10_isRead_80 fX10_126 sh66 rfl ?_
          rw [mR_4, e4]
          refine z_lookup 206 dX10_isRead_83 rfl rfl (by decide) ?_
          refine z_aload_n dX10_isRead_206 rfl ?_
          refine m_callV (As := []) dX10_isRead_207 kX10_175 ⟨rfl, rfl⟩ rfl ⟨rfl, rfl⟩ rfl rfl sh66 rfl rfl (d_noise1 (t := 0) (M := M) (s := (s.1, s.2.1, zBk T L s.2.2.1, s.2.2.2)) hT hL hL2 (by exact hb) h255 hsb d15 hk) (fun r207 μ207 ν207 hk207 => ?_)
          obtain ⟨rfl, rfl, rfl⟩ := hk207
          refine z_if_eq 224 dX10_isRead_210 (by decide) (fun h210 => absurd h210 (by decide)) (fun h210 => ?_)
          refine z_aload_n dX10_isRead_213 rfl ?_
          refine m_callV (As := []) dX10_isRead_214 kX10_166 ⟨rfl, rfl⟩ rfl ⟨rfl, rfl⟩ rfl rfl sh66 rfl rfl (d_end1 (T := T) (L := L) (s := (zG2 T L (s.1, s.2.1, zBk T L s.2.2.1, s.2.2.2) (M 1 10) 9).1) (fun i hi => by (repeat rw [up2_ne (by decide)]); exact hT i hi) (by (repeat first | rw [up2_ne (by decide)] | rw [up2_row, if_neg (by decide)]); exact hL) hL2 (zG2_a (s := (s.1, s.2.1, zBk T L s.2.2.1, s.2.2.2)) (by exact hb)).2 (zEn_k hk he)) (fun r214 μ214 ν214 hk214 => ?_)
          obtain ⟨rfl, rfl, rfl⟩ := hk214
          refine z_if_eq 224 dX10_isRead_217 (by decide) (fun h217 => absurd h217 (by decide)) (fun h217 => ?_)
          refine z_iconst (v := 1) dX10_isRead_220 rfl ?_
          refine z_goto 225 dX10_isRead_221 (by decide) ?_
          refine z_istore_n (i := 1) (fun y => [(1, .int y), (0, .ref 66)]) dX10_isRead_225 rfl rfl (fun _ => rfl) (fun x9 e9 => ?_)
          subst e9
          refine z_goto 71 dX10_isRead_226 (by decide) ?_
          exact IH _ _ _ _ _ _ he hb hd.noise ((hfm.u6 (by decide)).u6 (by decide))
        · skip
          refine z_iload_n dX10_isRead_71 rfl ?_
          refine z_if_eq 238 dX10_isRead_72 (by decide) (fun h72 => absurd h72 (by decide)) (fun h72 => ?_)
          refine z_aload_n dX10_isRead_75 rfl ?_
          refine m_callVv (As := []) dX10_isRead_76 kX10_132 ⟨rfl, rfl⟩ rfl ⟨rfl, rfl⟩ rfl rfl sh66 rfl rfl (d_tok_c hT hL hL2 ha hb hnd) (fun μ76 ν76 hk76 => ?_)
          obtain ⟨rfl, rfl⟩ := hk76
          refine z_aload_n dX10_isRead_79 rfl ?_
          refine m_geti dX10_isRead_80 fX10_126 sh66 rfl ?_
          rw [mR_4, e4]
          refine z_lookup 206 dX10_isRead_83 rfl rfl (by decide) ?_
          refine z_aload_n dX10_isRead_206 rfl ?_
          refine m_callV (As := []) dX10_isRead_207 kX10_175 ⟨rfl, rfl⟩ rfl ⟨rfl, rfl⟩ rfl rfl sh66 rfl rfl (d_noise1 (t := 0) (M := M) (s := (s.1, s.2.1, zBk T L s.2.2.1, s.2.2.2)) hT hL hL2 (by exact hb) h255 hsb d15 hk) (fun r207 μ207 ν207 hk207 => ?_)
          obtain ⟨rfl, rfl, rfl⟩ := hk207
          refine z_if_eq 224 dX10_isRead_210 (by decide) (fun h210 => absurd h210 (by decide)) (fun h210 => ?_)
          refine z_aload_n dX10_isRead_213 rfl ?_
          refine m_callV (As := []) dX10_isRead_214 kX10_166 ⟨rfl, rfl⟩ rfl ⟨rfl, rfl⟩ rfl rfl sh66 rfl rfl (d_end0 (T := T) (L := L) (s := (zG2 T L (s.1, s.2.1, zBk T L s.2.2.1, s.2.2.2) (M 1 10) 9).1) (fun i hi => by (repeat rw [up2_ne (by decide)]); exact hT i hi) (by (repeat first | rw [up2_ne (by decide)] | rw [up2_row, if_neg (by decide)]); exact hL) hL2 (zG2_a (s := (s.1, s.2.1, zBk T L s.2.2.1, s.2.2.2)) (by exact hb)).2 h255 hk (zEn_f hk he)) (fun r214 μ214 ν214 hk214 => ?_)
          obtain ⟨rfl, ⟨a1, t1, k1, n1, rfl⟩, rfl⟩ := hk214
          refine z_if_eq 224 dX10_isRead_217 (by decide) (fun h217 => ?_) (fun h217 => absurd (by decide) h217)
          refine z_iconst (v := 0) dX10_isRead_224 rfl ?_
          refine z_istore_n (i := 1) (fun y => [(1, .int y), (0, .ref 66)]) dX10_isRead_225 rfl rfl (fun _ => rfl) (fun x9 e9 => ?_)
          subst e9
          refine z_goto 71 dX10_isRead_226 (by decide) ?_
          exact BAD _ he (zBd.mk ((hfm.u6 (by decide)).u6 (by decide)).1 ((hfm.u6 (by decide)).u6 (by decide)).2)
      · have e9 := zEn_st (T := T) (L := L) hk
        rw [e9.1, e9.2] at BAD
        refine z_iload_n dX10_isRead_71 rfl ?_
        refine z_if_eq 238 dX10_isRead_72 (by decide) (fun h72 => absurd h72 (by decide)) (fun h72 => ?_)
        refine z_aload_n dX10_isRead_75 rfl ?_
        refine m_callVv (As := []) dX10_isRead_76 kX10_132 ⟨rfl, rfl⟩ rfl ⟨rfl, rfl⟩ rfl rfl sh66 rfl rfl (d_tok_c hT hL hL2 ha hb hnd) (fun μ76 ν76 hk76 => ?_)
        obtain ⟨rfl, rfl⟩ := hk76
        refine z_aload_n dX10_isRead_79 rfl ?_
        refine m_geti dX10_isRead_80 fX10_126 sh66 rfl ?_
        rw [mR_4, e4]
        refine z_lookup 206 dX10_isRead_83 rfl rfl (by decide) ?_
        refine z_aload_n dX10_isRead_206 rfl ?_
        refine m_callV (As := []) dX10_isRead_207 kX10_175 ⟨rfl, rfl⟩ rfl ⟨rfl, rfl⟩ rfl rfl sh66 rfl rfl (d_noise0 (t := 0) (M := M) (s := (s.1, s.2.1, zBk T L s.2.2.1, s.2.2.2)) hT hL hL2 (by exact hb) h255 hsb d15 hk) (fun r207 μ207 ν207 hk207 => ?_)
        obtain ⟨rfl, hbd, rfl⟩ := hk207
        refine z_if_eq 224 dX10_isRead_210 (by decide) (fun h210 => ?_) (fun h210 => absurd (by decide) h210)
        refine z_iconst (v := 0) dX10_isRead_224 rfl ?_
        refine z_istore_n (i := 1) (fun y => [(1, .int y), (0, .ref 66)]) dX10_isRead_225 rfl rfl (fun _ => rfl) (fun x9 e9 => ?_)
        subst e9
        refine z_goto 71 dX10_isRead_226 (by decide) ?_
        exact BAD _ hk (hbd.tr hfm)
    have eC := gCl_d (M := M) (L := L) (T := T) (s := (s.1, s.2.1, zBk T L s.2.2.1, s.2.2.2)) (by exact e1) (by exact e2) (by exact e3) (by exact e4)
    rw [eC, zFl_0 hsb] at BAD
    by_cases hnd : zDi (T (zBk T L s.2.2.1)) = true
    · by_cases c4 : 3 < zEg T L (zBk T L s.2.2.1) - (zBk T L s.2.2.1)
      · skip
        refine z_iload_n dX10_isRead_71 rfl ?_
        refine z_if_eq 238 dX10_isRead_72 (by decide) (fun h72 => absurd h72 (by decide)) (fun h72 => ?_)
        refine z_aload_n dX10_isRead_75 rfl ?_
        refine m_callVv (As := []) dX10_isRead_76 kX10_132 ⟨rfl, rfl⟩ rfl ⟨rfl, rfl⟩ rfl rfl sh66 rfl rfl (d_tok_m hT hL hL2 ha hb hnd c4) (fun μ76 ν76 hk76 => ?_)
        obtain ⟨rfl, rfl⟩ := hk76
        refine z_aload_n dX10_isRead_79 rfl ?_
        refine m_geti dX10_isRead_80 fX10_126 sh66 rfl ?_
        rw [mR_4]
        refine z_lookup 229 dX10_isRead_83 rfl rfl (by decide) ?_
        refine z_aload_n dX10_isRead_229 rfl ?_
        refine z_iconst (v := 1) dX10_isRead_230 rfl ?_
        refine m_callV (As := [.int _]) dX10_isRead_231 kX10_135 ⟨rfl, rfl⟩ rfl ⟨rfl, rfl⟩ rfl rfl sh66 rfl rfl d_fails (fun r231 μ231 ν231 hk231 => ?_)
        obtain ⟨rfl, rfl, rfl⟩ := hk231
        refine z_istore_n (i := 1) (fun y => [(1, .int y), (0, .ref 66)]) dX10_isRead_234 rfl rfl (fun _ => rfl) (fun x9 e9 => ?_)
        subst e9
        refine z_goto 71 dX10_isRead_235 (by decide) ?_
        exact BAD _ (show ¬ (1 : Int32) = 0 by decide) (zBd.mk hfm.1 hfm.2)
      · skip
        refine z_iload_n dX10_isRead_71 rfl ?_
        refine z_if_eq 238 dX10_isRead_72 (by decide) (fun h72 => absurd h72 (by decide)) (fun h72 => ?_)
        refine z_aload_n dX10_isRead_75 rfl ?_
        refine m_callVv (As := []) dX10_isRead_76 kX10_132 ⟨rfl, rfl⟩ rfl ⟨rfl, rfl⟩ rfl rfl sh66 rfl rfl (d_tok_n hT hL hL2 ha hb hnd c4) (fun μ76 ν76 hk76 => ?_)
        obtain ⟨rfl, rfl⟩ := hk76
        refine z_aload_n dX10_isRead_79 rfl ?_
        refine m_geti dX10_isRead_80 fX10_126 sh66 rfl ?_
        rw [mR_4]
        refine z_lookup 229 dX10_isRead_83 rfl rfl (by decide) ?_
        refine z_aload_n dX10_isRead_229 rfl ?_
        refine z_iconst (v := 1) dX10_isRead_230 rfl ?_
        refine m_callV (As := [.int _]) dX10_isRead_231 kX10_135 ⟨rfl, rfl⟩ rfl ⟨rfl, rfl⟩ rfl rfl sh66 rfl rfl d_fails (fun r231 μ231 ν231 hk231 => ?_)
        obtain ⟨rfl, rfl, rfl⟩ := hk231
        refine z_istore_n (i := 1) (fun y => [(1, .int y), (0, .ref 66)]) dX10_isRead_234 rfl rfl (fun _ => rfl) (fun x9 e9 => ?_)
        subst e9
        refine z_goto 71 dX10_isRead_235 (by decide) ?_
        exact BAD _ (show ¬ (1 : Int32) = 0 by decide) (zBd.mk hfm.1 hfm.2)
    · have hx := zN255 (h255 _ hb)
      refine z_iload_n dX10_isRead_71 rfl ?_
      refine z_if_eq 238 dX10_isRead_72 (by decide) (fun h72 => absurd h72 (by decide)) (fun h72 => ?_)
      refine z_aload_n dX10_isRead_75 rfl ?_
      refine m_callVv (As := []) dX10_isRead_76 kX10_132 ⟨rfl, rfl⟩ rfl ⟨rfl, rfl⟩ rfl rfl sh66 rfl rfl (d_tok_c hT hL hL2 ha hb hnd) (fun μ76 ν76 hk76 => ?_)
      obtain ⟨rfl, rfl⟩ := hk76
      refine z_aload_n dX10_isRead_79 rfl ?_
      refine m_geti dX10_isRead_80 fX10_126 sh66 rfl ?_
      rw [mR_4]
      refine z_lookup 229 dX10_isRead_83 rfl (zlkR hx.2.2 e3 e1 e4 e2) (by decide) ?_
      refine z_aload_n dX10_isRead_229 rfl ?_
      refine z_iconst (v := 1) dX10_isRead_230 rfl ?_
      refine m_callV (As := [.int _]) dX10_isRead_231 kX10_135 ⟨rfl, rfl⟩ rfl ⟨rfl, rfl⟩ rfl rfl sh66 rfl rfl d_fails (fun r231 μ231 ν231 hk231 => ?_)
      obtain ⟨rfl, rfl, rfl⟩ := hk231
      refine z_istore_n (i := 1) (fun y => [(1, .int y), (0, .ref 66)]) dX10_isRead_234 rfl rfl (fun _ => rfl) (fun x9 e9 => ?_)
      subst e9
      refine z_goto 71 dX10_isRead_235 (by decide) ?_
      exact BAD _ (show ¬ (1 : Int32) = 0 by decide) (zBd.mk hfm.1 hfm.2)
  · skip
    refine z_iload_n dX10_isRead_71 rfl ?_
    refine z_if_eq 238 dX10_isRead_72 (by decide) (fun h72 => absurd h72 (by decide)) (fun h72 => ?_)
    refine z_aload_n dX10_isRead_75 rfl ?_
    refine m_callVv (As := []) dX10_isRead_76 kX10_132 ⟨rfl, rfl⟩ rfl ⟨rfl, rfl⟩ rfl rfl sh66 rfl rfl (d_tok_e hT hL hL2 ha hb) (fun μ76 ν76 hk76 => ?_)
    obtain ⟨rfl, rfl⟩ := hk76
    refine z_aload_n dX10_isRead_79 rfl ?_
    refine m_geti dX10_isRead_80 fX10_126 sh66 rfl ?_
    rw [mR_4]
    refine z_lookup 132 dX10_isRead_83 rfl rfl (by decide) ?_
    refine z_iconst (v := 0) dX10_isRead_132 rfl ?_
    refine z_istore_n (i := 1) (fun y => [(1, .int y), (0, .ref 66)]) dX10_isRead_133 rfl rfl (fun _ => rfl) (fun x9 e9 => ?_)
    subst e9
    refine z_goto 71 dX10_isRead_134 (by decide) ?_
    exact END _ _ _ _ _ _ hb hd hfm
