set_option maxRecDepth 100000 in
set_option maxHeartbeats 400000 in
theorem d_find {l : Launch} {G : zG} {k10 u9 f7 i6 e5 r4 c3 s1 w2 : Int32} {met q : Nat} (hm : met < 64) (hq : q < 9) {μ : Mem} {ν : Lng} {K : Int32 → Mem → Lng → Prop} (H : ∀ x : Int32, Am l G mX10_order 149 [(12, .int (nI q)), (11, .int x), (10, .int k10), (9, .int u9), (8, .int (nI met)), (7, .int f7), (6, .int i6), (5, .int e5), (4, .int r4), (3, .int c3), (0, .ref 66), (1, .int s1), (2, .int w2)] [] μ ν K) : ∀ (u p skip : Nat), p + u = 6 → skip < 1000 → zFi met u p skip = q → Am l G mX10_order 106 [(12, .int (nI p)), (11, .int (nI skip)), (10, .int k10), (9, .int u9), (8, .int (nI met)), (7, .int f7), (6, .int i6), (5, .int e5), (4, .int r4), (3, .int c3), (0, .ref 66), (1, .int s1), (2, .int w2)] [] μ ν K
  | 0, p, skip, _, _, hz => absurd (show (9 : Nat) = q from hz) (by omega)
  | u + 1, p, skip, hp, hs, hz => by
    refine z_iload dX10_order_106 rfl ?_
    refine z_iload dX10_order_108 rfl ?_
    refine z_ishr dX10_order_110 ?_
    refine z_iconst (v := 1) dX10_order_111 rfl ?_
    refine z_iand dX10_order_112 ?_
    rw [show ((nI met >>> (nI p &&& 31)) &&& 1) = nI ((met >>> p) % 2) from zbit hm (by omega)]
    refine z_iconst (v := 1) dX10_order_113 rfl ?_
    refine z_icmp_eq 122 dX10_order_114 (by decide) (fun h114 => ?_) (fun h114 => ?_)
    · skip
      refine z_iload dX10_order_122 rfl ?_
      refine z_iload dX10_order_124 rfl ?_
      refine z_iload dX10_order_126 rfl ?_
      refine z_ishr dX10_order_128 ?_
      refine z_iconst (v := 1) dX10_order_129 rfl ?_
      refine z_iand dX10_order_130 ?_
      rw [show ((nI met >>> (nI p &&& 31)) &&& 1) = nI ((met >>> p) % 2) from zbit hm (by omega)]
      refine z_iconst (v := 1) dX10_order_131 rfl ?_
      refine z_icmp_ne 139 dX10_order_132 (by decide) (fun h132 => ?_) (fun h132 => ?_)
      · skip
        refine z_iconst (v := 1) dX10_order_139 rfl ?_
        refine z_isub dX10_order_140 ?_
        refine z_istore (i := 11) (fun y => [(11, .int y), (12, .int (nI p)), (10, .int k10), (9, .int u9), (8, .int (nI met)), (7, .int f7), (6, .int i6), (5, .int e5), (4, .int r4), (3, .int c3), (0, .ref 66), (1, .int s1), (2, .int w2)]) dX10_order_141 rfl (fun _ => rfl) (fun x9 e9 => ?_)
        subst e9
        refine z_iinc (fun y => [(12, .int y), (11, .int (nI skip - 1)), (10, .int k10), (9, .int u9), (8, .int (nI met)), (7, .int f7), (6, .int i6), (5, .int e5), (4, .int r4), (3, .int c3), (0, .ref 66), (1, .int s1), (2, .int w2)]) dX10_order_143 rfl rfl (fun _ => rfl) (fun x12_143 ex12_143 => ?_)
        obtain rfl : x12_143 = nI (p + 1) := by rw [ex12_143]; exact nI_1 p
        refine z_goto 106 dX10_order_146 (by decide) ?_
        first
          | exact absurd h114 h132
          | exact absurd h132 h114
          | (rw [Int32.sub_zero]; refine d_find hm hq H u (p + 1) skip (by omega) hs ?_; rw [zFi, if_pos (zb1 h114)] at hz; exact hz)
          | (obtain ⟨s2, rfl⟩ : ∃ s2, skip = s2 + 1 := by
              cases skip with
              | zero => exact absurd (show nI 0 ≤ 0 by decide) h119
              | succ s2 => exact ⟨s2, rfl⟩
             rw [nI_pred]
             refine d_find hm hq H u (p + 1) s2 (by omega) (by omega) ?_
             rw [zFi, if_neg (zb0 h114), if_pos (by omega)] at hz
             exact hz)
      · skip
        refine z_iconst (v := 0) dX10_order_135 rfl ?_
        refine z_goto 140 dX10_order_136 (by decide) ?_
        refine z_isub dX10_order_140 ?_
        refine z_istore (i := 11) (fun y => [(11, .int y), (12, .int (nI p)), (10, .int k10), (9, .int u9), (8, .int (nI met)), (7, .int f7), (6, .int i6), (5, .int e5), (4, .int r4), (3, .int c3), (0, .ref 66), (1, .int s1), (2, .int w2)]) dX10_order_141 rfl (fun _ => rfl) (fun x9 e9 => ?_)
        subst e9
        refine z_iinc (fun y => [(12, .int y), (11, .int (nI skip - 0)), (10, .int k10), (9, .int u9), (8, .int (nI met)), (7, .int f7), (6, .int i6), (5, .int e5), (4, .int r4), (3, .int c3), (0, .ref 66), (1, .int s1), (2, .int w2)]) dX10_order_143 rfl rfl (fun _ => rfl) (fun x12_143 ex12_143 => ?_)
        obtain rfl : x12_143 = nI (p + 1) := by rw [ex12_143]; exact nI_1 p
        refine z_goto 106 dX10_order_146 (by decide) ?_
        first
          | exact absurd h114 h132
          | exact absurd h132 h114
          | (rw [Int32.sub_zero]; refine d_find hm hq H u (p + 1) skip (by omega) hs ?_; rw [zFi, if_pos (zb1 h114)] at hz; exact hz)
          | (obtain ⟨s2, rfl⟩ : ∃ s2, skip = s2 + 1 := by
              cases skip with
              | zero => exact absurd (show nI 0 ≤ 0 by decide) h119
              | succ s2 => exact ⟨s2, rfl⟩
             rw [nI_pred]
             refine d_find hm hq H u (p + 1) s2 (by omega) (by omega) ?_
             rw [zFi, if_neg (zb0 h114), if_pos (by omega)] at hz
             exact hz)
    · skip
      refine z_iload dX10_order_117 rfl ?_
      refine z_if_le 149 dX10_order_119 (by decide) (fun h119 => ?_) (fun h119 => ?_)
      · skip
        have e0 : skip = 0 := by
          cases skip with
          | zero => rfl
          | succ s2 => exact absurd h119 (nI_nle (by omega) (by omega))
        rw [zFi, if_neg (zb0 h114), if_neg (by omega)] at hz
        subst hz
        exact H _
      · skip
        refine z_iload dX10_order_122 rfl ?_
        refine z_iload dX10_order_124 rfl ?_
        refine z_iload dX10_order_126 rfl ?_
        refine z_ishr dX10_order_128 ?_
        refine z_iconst (v := 1) dX10_order_129 rfl ?_
        refine z_iand dX10_order_130 ?_
        rw [show ((nI met >>> (nI p &&& 31)) &&& 1) = nI ((met >>> p) % 2) from zbit hm (by omega)]
        refine z_iconst (v := 1) dX10_order_131 rfl ?_
        refine z_icmp_ne 139 dX10_order_132 (by decide) (fun h132 => ?_) (fun h132 => ?_)
        · skip
          refine z_iconst (v := 1) dX10_order_139 rfl ?_
          refine z_isub dX10_order_140 ?_
          refine z_istore (i := 11) (fun y => [(11, .int y), (12, .int (nI p)), (10, .int k10), (9, .int u9), (8, .int (nI met)), (7, .int f7), (6, .int i6), (5, .int e5), (4, .int r4), (3, .int c3), (0, .ref 66), (1, .int s1), (2, .int w2)]) dX10_order_141 rfl (fun _ => rfl) (fun x9 e9 => ?_)
          subst e9
          refine z_iinc (fun y => [(12, .int y), (11, .int (nI skip - 1)), (10, .int k10), (9, .int u9), (8, .int (nI met)), (7, .int f7), (6, .int i6), (5, .int e5), (4, .int r4), (3, .int c3), (0, .ref 66), (1, .int s1), (2, .int w2)]) dX10_order_143 rfl rfl (fun _ => rfl) (fun x12_143 ex12_143 => ?_)
          obtain rfl : x12_143 = nI (p + 1) := by rw [ex12_143]; exact nI_1 p
          refine z_goto 106 dX10_order_146 (by decide) ?_
          first
            | exact absurd h114 h132
            | exact absurd h132 h114
            | (rw [Int32.sub_zero]; refine d_find hm hq H u (p + 1) skip (by omega) hs ?_; rw [zFi, if_pos (zb1 h114)] at hz; exact hz)
            | (obtain ⟨s2, rfl⟩ : ∃ s2, skip = s2 + 1 := by
                cases skip with
                | zero => exact absurd (show nI 0 ≤ 0 by decide) h119
                | succ s2 => exact ⟨s2, rfl⟩
               rw [nI_pred]
               refine d_find hm hq H u (p + 1) s2 (by omega) (by omega) ?_
               rw [zFi, if_neg (zb0 h114), if_pos (by omega)] at hz
               exact hz)
        · skip
          refine z_iconst (v := 0) dX10_order_135 rfl ?_
          refine z_goto 140 dX10_order_136 (by decide) ?_
          refine z_isub dX10_order_140 ?_
          refine z_istore (i := 11) (fun y => [(11, .int y), (12, .int (nI p)), (10, .int k10), (9, .int u9), (8, .int (nI met)), (7, .int f7), (6, .int i6), (5, .int e5), (4, .int r4), (3, .int c3), (0, .ref 66), (1, .int s1), (2, .int w2)]) dX10_order_141 rfl (fun _ => rfl) (fun x9 e9 => ?_)
          subst e9
          refine z_iinc (fun y => [(12, .int y), (11, .int (nI skip - 0)), (10, .int k10), (9, .int u9), (8, .int (nI met)), (7, .int f7), (6, .int i6), (5, .int e5), (4, .int r4), (3, .int c3), (0, .ref 66), (1, .int s1), (2, .int w2)]) dX10_order_143 rfl rfl (fun _ => rfl) (fun x12_143 ex12_143 => ?_)
          obtain rfl : x12_143 = nI (p + 1) := by rw [ex12_143]; exact nI_1 p
          refine z_goto 106 dX10_order_146 (by decide) ?_
          first
            | exact absurd h114 h132
            | exact absurd h132 h114
            | (rw [Int32.sub_zero]; refine d_find hm hq H u (p + 1) skip (by omega) hs ?_; rw [zFi, if_pos (zb1 h114)] at hz; exact hz)
            | (obtain ⟨s2, rfl⟩ : ∃ s2, skip = s2 + 1 := by
                cases skip with
                | zero => exact absurd (show nI 0 ≤ 0 by decide) h119
                | succ s2 => exact ⟨s2, rfl⟩
               rw [nI_pred]
               refine d_find hm hq H u (p + 1) s2 (by omega) (by omega) ?_
               rw [zFi, if_neg (zb0 h114), if_pos (by omega)] at hz
               exact hz)
set_option maxRecDepth 100000 in
set_option maxHeartbeats 400000 in
theorem d_row {l : Launch} {G : zG} {e5 r4 s1 w2 : Int32} {c i : Nat} (hc : c ≤ 6) (hi6 : i < zFa c) {M : Mem} (hpl : ∀ p, p < c → ∃ v : Nat, v < 6 ∧ M 93 p = nI v) {ν : Lng} {K : Int32 → Mem → Lng → Prop} (HE : ∀ x10 x9 x8 x7 : Int32, Am l G mX10_order 197 [(10, .int x10), (9, .int x9), (8, .int x8), (7, .int x7), (6, .int (nI i)), (5, .int e5), (4, .int r4), (3, .int (nI c)), (0, .ref 66), (1, .int s1), (2, .int w2)] [] (rOr c i M) ν K) : Am l G mX10_order 74 [(10, .int (nI 0)), (9, .int (nI (zFa c))), (8, .int (nI 0)), (7, .int (nI i)), (6, .int (nI i)), (5, .int e5), (4, .int r4), (3, .int (nI c)), (0, .ref 66), (1, .int s1), (2, .int w2)] [] M ν K := by
  have hfa := zFa_le hc
  have hL := m_for (l := l) (G := G) (M := mX10_order) (pc := 74) (ν := ν) (K := K) (N := c) (fun k => [(10, .int (nI k)), (9, .int (nI (zFa (c - k)))), (8, .int (nI (zMt c i k))), (7, .int (nI (zLfo c i k))), (6, .int (nI i)), (5, .int e5), (4, .int r4), (3, .int (nI c)), (0, .ref 66), (1, .int s1), (2, .int w2)]) (fun k => (va_up (va_up M 95 (zTk (M 95) (fun k => M 93 (zPx c i k)) k)) 75 (zGt (M 75) (fun k => M 93 (zPx c i k)) (M 94) k))) (fun k hi H => by
    obtain ⟨hn1, hn2, hn3⟩ := zNum hc hi6 hi
    have hlt := zLfo_lt hi6 k (by omega)
    have hf1 := zFa_le (j := c - k) (by omega)
    have hf2 := zFa_le (j := c - (k + 1)) (by omega)
    have hf3 := zFa_pos (c - (k + 1))
    have hdl : (zLfo c i k / zFa (c - (k + 1))) ≤ zLfo c i k := Nat.div_le_self _ _
    obtain ⟨v, v1, v2⟩ := hpl _ hn2
    have eS : (fun k => M 93 (zPx c i k)) k = nI v := v2
    have h149 : ∀ x11 : Int32, Am l G mX10_order 149 [(12, .int (nI (zPx c i k))), (11, .int x11), (10, .int (nI k)), (9, .int (nI (zFa (c - (k + 1))))), (8, .int (nI (zMt c i k))), (7, .int (nI (zLfo c i k % zFa (c - (k + 1))))), (6, .int (nI i)), (5, .int e5), (4, .int r4), (3, .int (nI c)), (0, .ref 66), (1, .int s1), (2, .int w2)] [] (va_up (va_up M 95 (zTk (M 95) (fun k => M 93 (zPx c i k)) k)) 75 (zGt (M 75) (fun k => M 93 (zPx c i k)) (M 94) k)) ν K := fun x11 => by
      refine z_iload dX10_order_149 rfl ?_
      refine z_iconst (v := 1) dX10_order_151 rfl ?_
      refine z_iload dX10_order_152 rfl ?_
      refine z_ishl dX10_order_154 ?_
      refine z_ior dX10_order_155 ?_
      rw [show (nI (zMt c i k) ||| (1 <<< (nI (zPx c i k) &&& 31))) = nI (zMt c i (k + 1)) from zbor hn3 (by omega)]
      refine z_istore (i := 8) (fun y => [(8, .int y), (12, .int (nI (zPx c i k))), (11, .int x11), (10, .int (nI k)), (9, .int (nI (zFa (c - (k + 1))))), (7, .int (nI (zLfo c i k % zFa (c - (k + 1))))), (6, .int (nI i)), (5, .int e5), (4, .int r4), (3, .int (nI c)), (0, .ref 66), (1, .int s1), (2, .int w2)]) dX10_order_156 rfl (fun _ => rfl) (fun x9 e9 => ?_)
      subst e9
      refine z_aload_n dX10_order_158 rfl ?_
      refine m_getr dX10_order_159 fX10_38 sh66 rfl ?_
      refine z_aload_n dX10_order_162 rfl ?_
      refine m_getr dX10_order_163 fX10_93 sh66 rfl ?_
      refine z_iload dX10_order_166 rfl ?_
      refine m_ialdN (j := zPx c i k) dX10_order_168 sh93 rfl (by omega) rfl ?_
      rw [va_up_ne _ _ (show 93 ≠ 75 by decide), va_up_ne _ _ (show 93 ≠ 95 by decide), v2]
      refine z_aload_n dX10_order_169 rfl ?_
      refine m_getr dX10_order_170 fX10_96 sh66 rfl ?_
      refine z_iload dX10_order_173 rfl ?_
      refine m_ialdN (j := k) dX10_order_175 sh94 rfl (by omega) rfl ?_
      rw [va_up_ne _ _ (show 94 ≠ 75 by decide), va_up_ne _ _ (show 94 ≠ 95 by decide)]
      refine m_iastN (j := v) dX10_order_176 sh75 rfl (by omega) rfl ?_
      refine z_aload_n dX10_order_177 rfl ?_
      refine m_getr dX10_order_178 fX10_99 sh66 rfl ?_
      refine z_iload dX10_order_181 rfl ?_
      refine z_aload_n dX10_order_183 rfl ?_
      refine m_getr dX10_order_184 fX10_93 sh66 rfl ?_
      refine z_iload dX10_order_187 rfl ?_
      refine m_ialdN (j := zPx c i k) dX10_order_189 sh93 rfl (by omega) rfl ?_
      rw [up2_ne (show 93 ≠ 75 by decide), va_up_ne _ _ (show 93 ≠ 75 by decide), va_up_ne _ _ (show 93 ≠ 95 by decide), v2]
      refine m_iastN (j := k) dX10_order_190 sh95 rfl (by omega) rfl ?_
      refine z_iinc (fun y => [(10, .int y), (8, .int (nI (zMt c i (k + 1)))), (12, .int (nI (zPx c i k))), (11, .int x11), (9, .int (nI (zFa (c - (k + 1))))), (7, .int (nI (zLfo c i k % zFa (c - (k + 1))))), (6, .int (nI i)), (5, .int e5), (4, .int r4), (3, .int (nI c)), (0, .ref 66), (1, .int s1), (2, .int w2)]) dX10_order_191 rfl rfl (fun _ => rfl) (fun x10_191 ex10_191 => ?_)
      obtain rfl : x10_191 = nI (k + 1) := by rw [ex10_191]; exact nI_1 k
      refine z_goto 74 dX10_order_194 (by decide) ?_
      refine z_lv [0, 4, 1, 5, 6, 7, 8, 9, 10, 11, 12] rfl ?_
      rw [mOr]
      rw [show zTk (M 95) (fun k => M 93 (zPx c i k)) (k + 1) = zu (zTk (M 95) (fun k => M 93 (zPx c i k)) k) k (nI v) by rw [zTk, v2], show zGt (M 75) (fun k => M 93 (zPx c i k)) (M 94) (k + 1) = zu (zGt (M 75) (fun k => M 93 (zPx c i k)) (M 94) k) v (M 94 k) by rw [zGt, v2, nI_clamp (show v < 2 ^ 31 by omega)]] at H
      exact H
    refine z_iload dX10_order_74 rfl ?_
    refine z_iload_n dX10_order_76 rfl ?_
    refine z_icmp_ge 197 dX10_order_77 (by decide) (fun h77 => absurd h77 (nI_ge hi (by omega))) (fun h77 => ?_)
    refine z_iload dX10_order_80 rfl ?_
    refine z_iload_n dX10_order_82 rfl ?_
    refine z_iload dX10_order_83 rfl ?_
    refine z_isub dX10_order_85 ?_
    rw [show (nI c - nI k) = nI (c - k) from pk_sub (by omega)]
    refine z_idiv dX10_order_86 (nI_ne0 (show 0 < c - k by omega) (by omega)) ?_
    rw [show (nI (zFa (c - k)) / nI (c - k)) = nI (zFa (c - (k + 1))) from zFa_step hi hc]
    refine z_istore (i := 9) (fun y => [(9, .int y), (10, .int (nI k)), (8, .int (nI (zMt c i k))), (7, .int (nI (zLfo c i k))), (6, .int (nI i)), (5, .int e5), (4, .int r4), (3, .int (nI c)), (0, .ref 66), (1, .int s1), (2, .int w2)]) dX10_order_87 rfl (fun _ => rfl) (fun x9 e9 => ?_)
    subst e9
    refine z_iload dX10_order_89 rfl ?_
    refine z_iload dX10_order_91 rfl ?_
    refine z_idiv dX10_order_93 (nI_ne0 hf3 (by omega)) ?_
    rw [show (nI (zLfo c i k) / nI (zFa (c - (k + 1)))) = nI (zLfo c i k / zFa (c - (k + 1))) from pk_div (by omega) hf3 (by omega)]
    refine z_istore (i := 11) (fun y => [(11, .int y), (9, .int (nI (zFa (c - (k + 1))))), (10, .int (nI k)), (8, .int (nI (zMt c i k))), (7, .int (nI (zLfo c i k))), (6, .int (nI i)), (5, .int e5), (4, .int r4), (3, .int (nI c)), (0, .ref 66), (1, .int s1), (2, .int w2)]) dX10_order_94 rfl (fun _ => rfl) (fun x9 e9 => ?_)
    subst e9
    refine z_iload dX10_order_96 rfl ?_
    refine z_iload dX10_order_98 rfl ?_
    refine z_irem dX10_order_100 (nI_ne0 hf3 (by omega)) ?_
    rw [show (nI (zLfo c i k) - nI (zLfo c i k) / nI (zFa (c - (k + 1))) * nI (zFa (c - (k + 1)))) = nI (zLfo c i k % zFa (c - (k + 1))) from pk_rem (by omega) hf3 (by omega)]
    refine z_istore (i := 7) (fun y => [(7, .int y), (11, .int (nI (zLfo c i k / zFa (c - (k + 1))))), (9, .int (nI (zFa (c - (k + 1))))), (10, .int (nI k)), (8, .int (nI (zMt c i k))), (6, .int (nI i)), (5, .int e5), (4, .int r4), (3, .int (nI c)), (0, .ref 66), (1, .int s1), (2, .int w2)]) dX10_order_101 rfl (fun _ => rfl) (fun x9 e9 => ?_)
    subst e9
    refine z_iconst (v := 0) dX10_order_103 rfl ?_
    refine z_istore (i := 12) (fun y => [(12, .int y), (7, .int (nI (zLfo c i k % zFa (c - (k + 1))))), (11, .int (nI (zLfo c i k / zFa (c - (k + 1))))), (9, .int (nI (zFa (c - (k + 1))))), (10, .int (nI k)), (8, .int (nI (zMt c i k))), (6, .int (nI i)), (5, .int e5), (4, .int r4), (3, .int (nI c)), (0, .ref 66), (1, .int s1), (2, .int w2)]) dX10_order_104 rfl (fun _ => rfl) (fun x9 e9 => ?_)
    subst e9
    refine z_lv [0, 2, 4, 3, 5, 1, 6, 7, 8, 9, 10, 11, 12] rfl ?_
    exact d_find hn3 (show zPx c i k < 9 by omega) h149 6 0 (zLfo c i k / zFa (c - (k + 1))) (by omega) (by omega) rfl) (by
    refine z_iload dX10_order_74 rfl ?_
    refine z_iload_n dX10_order_76 rfl ?_
    refine z_icmp_ge 197 dX10_order_77 (by decide) (fun h77 => ?_) (fun h77 => absurd (nI_le (Nat.le_refl c) (by omega)) h77)
    exact HE _ _ _ _)
  have e0 := hL 0 (Nat.zero_le c)
  rw [show va_up (va_up M 95 (zTk (M 95) (fun k => M 93 (zPx c i k)) 0)) 75 (zGt (M 75) (fun k => M 93 (zPx c i k)) (M 94) 0) = M from (va_same (va_up_ne _ _ (by decide))).trans (va_same rfl)] at e0
  exact e0
