
def rWs (N : Mem) (D : Nat → Int32) : Nat → Mem
  | 0 => N
  | w + 1 => up2 (up2 (up2 (up2 (up2 (up2 (up2 (rWs N D w) 71 w (D (7 * w))) 75 w (D (7 * w + 1))) 72 w (D (7 * w + 2))) 73 w (D (7 * w + 3))) 75 (12 + w) (D (7 * w + 4))) 75 (6 + w) (D (7 * w + 5))) 74 w (D (7 * w + 6))
theorem rWs_ne {N : Mem} {D : Nat → Int32} {q : Nat} (h : q < 71 ∨ 75 < q) : ∀ w, rWs N D w q = N q
  | 0 => rfl
  | w + 1 => by rw [rWs, up2_ne (by omega), up2_ne (by omega), up2_ne (by omega), up2_ne (by omega), up2_ne (by omega), up2_ne (by omega), up2_ne (by omega), rWs_ne h w]
theorem rWs_71 {N : Mem} {D : Nat → Int32} {w : Nat} : ∀ i, rWs N D i 71 w = if w < i then D (7 * w) else N 71 w
  | 0 => by rw [rWs, if_neg (by omega)]
  | i + 1 => by
    rw [rWs]
    rw [up2_ne (by decide), up2_ne (by decide), up2_ne (by decide), up2_ne (by decide), up2_ne (by decide), up2_ne (by decide), up2_row, rWs_71 i]
    by_cases e : w = i
    · rw [if_pos e, if_pos (by omega), e]
    · rw [if_neg e]
      by_cases e2 : w < i
      · rw [if_pos e2, if_pos (by omega)]
      · rw [if_neg e2, if_neg (by omega)]
theorem rWs_72 {N : Mem} {D : Nat → Int32} {w : Nat} : ∀ i, rWs N D i 72 w = if w < i then D (7 * w + 2) else N 72 w
  | 0 => by rw [rWs, if_neg (by omega)]
  | i + 1 => by
    rw [rWs]
    rw [up2_ne (by decide), up2_ne (by decide), up2_ne (by decide), up2_ne (by decide), up2_row, up2_ne (by decide), up2_ne (by decide), rWs_72 i]
    by_cases e : w = i
    · rw [if_pos e, if_pos (by omega), e]
    · rw [if_neg e]
      by_cases e2 : w < i
      · rw [if_pos e2, if_pos (by omega)]
      · rw [if_neg e2, if_neg (by omega)]
theorem rWs_73 {N : Mem} {D : Nat → Int32} {w : Nat} : ∀ i, rWs N D i 73 w = if w < i then D (7 * w + 3) else N 73 w
  | 0 => by rw [rWs, if_neg (by omega)]
  | i + 1 => by
    rw [rWs]
    rw [up2_ne (by decide), up2_ne (by decide), up2_ne (by decide), up2_row, up2_ne (by decide), up2_ne (by decide), up2_ne (by decide), rWs_73 i]
    by_cases e : w = i
    · rw [if_pos e, if_pos (by omega), e]
    · rw [if_neg e]
      by_cases e2 : w < i
      · rw [if_pos e2, if_pos (by omega)]
      · rw [if_neg e2, if_neg (by omega)]
theorem rWs_74 {N : Mem} {D : Nat → Int32} {w : Nat} : ∀ i, rWs N D i 74 w = if w < i then D (7 * w + 6) else N 74 w
  | 0 => by rw [rWs, if_neg (by omega)]
  | i + 1 => by
    rw [rWs]
    rw [up2_row, up2_ne (by decide), up2_ne (by decide), up2_ne (by decide), up2_ne (by decide), up2_ne (by decide), up2_ne (by decide), rWs_74 i]
    by_cases e : w = i
    · rw [if_pos e, if_pos (by omega), e]
    · rw [if_neg e]
      by_cases e2 : w < i
      · rw [if_pos e2, if_pos (by omega)]
      · rw [if_neg e2, if_neg (by omega)]
theorem rWs_75 {N : Mem} {D : Nat → Int32} {j : Nat} : ∀ i, i ≤ 6 → rWs N D i 75 j = if j < i then D (7 * j + 1) else if 6 ≤ j ∧ j < 6 + i then D (7 * (j - 6) + 5) else if 12 ≤ j ∧ j < 12 + i then D (7 * (j - 12) + 4) else N 75 j
  | 0, _ => by rw [rWs, if_neg (by omega), if_neg (by omega), if_neg (by omega)]
  | i + 1, hi => by
    rw [rWs]
    rw [up2_ne (by decide), up2_row, up2_row, up2_ne (by decide), up2_ne (by decide), up2_row, up2_ne (by decide), rWs_75 i (by omega)]
    by_cases e1 : j = 6 + i
    · rw [if_pos e1, if_neg (by omega), if_pos (by omega), e1, show 6 + i - 6 = i by omega]
    rw [if_neg e1]
    by_cases e2 : j = 12 + i
    · rw [if_pos e2, if_neg (by omega), if_neg (by omega), if_pos (by omega), e2, show 12 + i - 12 = i by omega]
    rw [if_neg e2]
    by_cases e3 : j = i
    · rw [if_pos e3, if_pos (by omega), e3]
    rw [if_neg e3]
    by_cases c1 : j < i
    · rw [if_pos c1, if_pos (by omega)]
    rw [if_neg c1, if_neg (show ¬ j < i + 1 by omega)]
    by_cases c2 : 6 ≤ j ∧ j < 6 + i
    · rw [if_pos c2, if_pos (by omega)]
    rw [if_neg c2, if_neg (show ¬ (6 ≤ j ∧ j < 6 + (i + 1)) by omega)]
    by_cases c3 : 12 ≤ j ∧ j < 12 + i
    · rw [if_pos c3, if_pos (by omega)]
    rw [if_neg c3, if_neg (show ¬ (12 ≤ j ∧ j < 12 + (i + 1)) by omega)]
/-- the house told: all of it -/
def rHs (N : Mem) (D : Nat → Int32) (m : Nat) (g z : Int32) : Mem := up2 (up2 (up2 (up2 (up2 (rWs (up2 (rCp N 70 69 0 0 4) 66 17 (nI m)) D m) 75 18 g) 75 19 z) 66 45 0) 77 0 0) 77 1 0
set_option maxRecDepth 100000 in
set_option maxHeartbeats 400000 in
theorem d_houseTail {l : Launch} {G : zG} {M R : Mem} {ν : Lng} {K : Int32 → Mem → Lng → Prop} {a m : Nat} {t k n f : Int32} (hd : zDr M R m) (HK : K (nI m) (rHs (up2 (mR R a t k n (-1) f) 66 0 0) (R 68) m (R 66 12) (R 66 13)) ν) : Am l G mX10_house 27 [(1, .int 1), (0, .ref 66)] [] (up2 (mR R a t k n (-1) f) 66 0 0) ν K := by
  obtain ⟨dm, d2, d8, -⟩ := hd
  have hm17 : ∀ i, rWs (up2 (rCp (up2 (mR R a t k n (-1) f) 66 0 0) 70 69 0 0 4) 66 17 (nI m)) (R 68) i 66 17 = nI m := fun i => by rw [rWs_ne (by decide), up2_same]
  have h68 : ∀ i, rWs (up2 (rCp (up2 (mR R a t k n (-1) f) 66 0 0) 70 69 0 0 4) 66 17 (nI m)) (R 68) i 68 = R 68 := fun i => by
    rw [rWs_ne (by decide), up2_ne (by decide), rCp_ne (by decide), up2_ne (by decide), mR_ne (by decide)]
  have h8 : rCp (up2 (mR R a t k n (-1) f) 66 0 0) 70 69 0 0 4 66 8 = nI m := by
    rw [rCp_ne (by decide), up2_row, if_neg (by decide), mR_row (by decide)]; exact d8
  have hg : ∀ i j, 7 < j → j < 17 → rWs (up2 (rCp (up2 (mR R a t k n (-1) f) 66 0 0) 70 69 0 0 4) 66 17 (nI m)) (R 68) i 66 j = R 66 j := fun i j h1 h2 => by
    rw [rWs_ne (by decide), up2_row, if_neg (by omega), rCp_ne (by decide), up2_row, if_neg (by omega), mR_row (by omega)]
  have hW := m_for (l := l) (G := G) (M := mX10_house) (pc := 62) (ν := ν) (K := K) (N := m) (fun i => [(2, .int (nI i)), (1, .int 1), (0, .ref 66)]) (fun i => (rWs (up2 (rCp (up2 (mR R a t k n (-1) f) 66 0 0) 70 69 0 0 4) 66 17 (nI m)) (R 68) i)) (fun i hi H => by
    refine z_iload_n dX10_house_62 rfl ?_
    refine z_aload_n dX10_house_63 rfl ?_
    refine m_geti dX10_house_64 fX10_105 sh66 rfl ?_
    refine z_icmp_ge 200 dX10_house_67 (by decide) (fun h67 => absurd (hm17 i ▸ h67) (nI_ge hi (by omega))) (fun h67 => ?_)
    refine z_aload_n dX10_house_70 rfl ?_
    refine m_getr dX10_house_71 fX10_26 sh66 rfl ?_
    refine z_iload_n dX10_house_74 rfl ?_
    refine z_aload_n dX10_house_75 rfl ?_
    refine m_getr dX10_house_76 fX10_17 sh66 rfl ?_
    refine z_bipush (v := 7) dX10_house_79 rfl ?_
    refine z_iload_n dX10_house_81 rfl ?_
    refine z_imul dX10_house_82 ?_
    rw [show (7 * nI i) = nI (7 * i) from pk_mul 7 i]
    refine m_ialdN (j := 7 * i) dX10_house_83 sh68 rfl (by omega) rfl ?_
    refine m_iastN (j := i) dX10_house_84 sh71 rfl (by omega) rfl ?_
    refine z_aload_n dX10_house_85 rfl ?_
    refine m_getr dX10_house_86 fX10_38 sh66 rfl ?_
    refine z_iload_n dX10_house_89 rfl ?_
    refine z_aload_n dX10_house_90 rfl ?_
    refine m_getr dX10_house_91 fX10_17 sh66 rfl ?_
    refine z_bipush (v := 7) dX10_house_94 rfl ?_
    refine z_iload_n dX10_house_96 rfl ?_
    refine z_imul dX10_house_97 ?_
    rw [show (7 * nI i) = nI (7 * i) from pk_mul 7 i]
    refine z_iconst (v := 1) dX10_house_98 rfl ?_
    refine z_iadd dX10_house_99 ?_
    rw [show (nI (7 * i) + 1) = nI (7 * i + 1) from nI_add _ 1]
    refine m_ialdN (j := 7 * i + 1) dX10_house_100 sh68 rfl (by omega) rfl ?_
    refine m_iastN (j := i) dX10_house_101 sh75 rfl (by omega) rfl ?_
    refine z_aload_n dX10_house_102 rfl ?_
    refine m_getr dX10_house_103 fX10_29 sh66 rfl ?_
    refine z_iload_n dX10_house_106 rfl ?_
    refine z_aload_n dX10_house_107 rfl ?_
    refine m_getr dX10_house_108 fX10_17 sh66 rfl ?_
    refine z_bipush (v := 7) dX10_house_111 rfl ?_
    refine z_iload_n dX10_house_113 rfl ?_
    refine z_imul dX10_house_114 ?_
    rw [show (7 * nI i) = nI (7 * i) from pk_mul 7 i]
    refine z_iconst (v := 2) dX10_house_115 rfl ?_
    refine z_iadd dX10_house_116 ?_
    rw [show (nI (7 * i) + 2) = nI (7 * i + 2) from nI_add _ 2]
    refine m_ialdN (j := 7 * i + 2) dX10_house_117 sh68 rfl (by omega) rfl ?_
    refine m_iastN (j := i) dX10_house_118 sh72 rfl (by omega) rfl ?_
    refine z_aload_n dX10_house_119 rfl ?_
    refine m_getr dX10_house_120 fX10_32 sh66 rfl ?_
    refine z_iload_n dX10_house_123 rfl ?_
    refine z_aload_n dX10_house_124 rfl ?_
    refine m_getr dX10_house_125 fX10_17 sh66 rfl ?_
    refine z_bipush (v := 7) dX10_house_128 rfl ?_
    refine z_iload_n dX10_house_130 rfl ?_
    refine z_imul dX10_house_131 ?_
    rw [show (7 * nI i) = nI (7 * i) from pk_mul 7 i]
    refine z_iconst (v := 3) dX10_house_132 rfl ?_
    refine z_iadd dX10_house_133 ?_
    rw [show (nI (7 * i) + 3) = nI (7 * i + 3) from nI_add _ 3]
    refine m_ialdN (j := 7 * i + 3) dX10_house_134 sh68 rfl (by omega) rfl ?_
    refine m_iastN (j := i) dX10_house_135 sh73 rfl (by omega) rfl ?_
    refine z_aload_n dX10_house_136 rfl ?_
    refine m_getr dX10_house_137 fX10_38 sh66 rfl ?_
    refine z_bipush (v := 12) dX10_house_140 rfl ?_
    refine z_iload_n dX10_house_142 rfl ?_
    refine z_iadd dX10_house_143 ?_
    rw [show (12 + nI i) = nI (12 + i) from z6a 12 i]
    refine z_aload_n dX10_house_144 rfl ?_
    refine m_getr dX10_house_145 fX10_17 sh66 rfl ?_
    refine z_bipush (v := 7) dX10_house_148 rfl ?_
    refine z_iload_n dX10_house_150 rfl ?_
    refine z_imul dX10_house_151 ?_
    rw [show (7 * nI i) = nI (7 * i) from pk_mul 7 i]
    refine z_iconst (v := 4) dX10_house_152 rfl ?_
    refine z_iadd dX10_house_153 ?_
    rw [show (nI (7 * i) + 4) = nI (7 * i + 4) from nI_add _ 4]
    refine m_ialdN (j := 7 * i + 4) dX10_house_154 sh68 rfl (by omega) rfl ?_
    refine m_iastN (j := (12 + i)) dX10_house_155 sh75 rfl (by omega) rfl ?_
    refine z_aload_n dX10_house_156 rfl ?_
    refine m_getr dX10_house_157 fX10_38 sh66 rfl ?_
    refine z_bipush (v := 6) dX10_house_160 rfl ?_
    refine z_iload_n dX10_house_162 rfl ?_
    refine z_iadd dX10_house_163 ?_
    rw [show (6 + nI i) = nI (6 + i) from z6a 6 i]
    refine z_aload_n dX10_house_164 rfl ?_
    refine m_getr dX10_house_165 fX10_17 sh66 rfl ?_
    refine z_bipush (v := 7) dX10_house_168 rfl ?_
    refine z_iload_n dX10_house_170 rfl ?_
    refine z_imul dX10_house_171 ?_
    rw [show (7 * nI i) = nI (7 * i) from pk_mul 7 i]
    refine z_iconst (v := 5) dX10_house_172 rfl ?_
    refine z_iadd dX10_house_173 ?_
    rw [show (nI (7 * i) + 5) = nI (7 * i + 5) from nI_add _ 5]
    refine m_ialdN (j := 7 * i + 5) dX10_house_174 sh68 rfl (by omega) rfl ?_
    refine m_iastN (j := (6 + i)) dX10_house_175 sh75 rfl (by omega) rfl ?_
    refine z_aload_n dX10_house_176 rfl ?_
    refine m_getr dX10_house_177 fX10_35 sh66 rfl ?_
    refine z_iload_n dX10_house_180 rfl ?_
    refine z_aload_n dX10_house_181 rfl ?_
    refine m_getr dX10_house_182 fX10_17 sh66 rfl ?_
    refine z_bipush (v := 7) dX10_house_185 rfl ?_
    refine z_iload_n dX10_house_187 rfl ?_
    refine z_imul dX10_house_188 ?_
    rw [show (7 * nI i) = nI (7 * i) from pk_mul 7 i]
    refine z_bipush (v := 6) dX10_house_189 rfl ?_
    refine z_iadd dX10_house_191 ?_
    rw [show (nI (7 * i) + 6) = nI (7 * i + 6) from nI_add _ 6]
    refine m_ialdN (j := 7 * i + 6) dX10_house_192 sh68 rfl (by omega) rfl ?_
    refine m_iastN (j := i) dX10_house_193 sh74 rfl (by omega) rfl ?_
    refine z_iinc (fun y => [(2, .int y), (1, .int 1), (0, .ref 66)]) dX10_house_194 rfl rfl (fun _ => rfl) (fun x2_194 ex2_194 => ?_)
    obtain rfl : x2_194 = nI (i + 1) := by rw [ex2_194]; exact nI_1 i
    refine z_goto 62 dX10_house_197 (by decide) ?_
    simp only [up2_ne (show (68 : Nat) ≠ 71 by decide), up2_ne (show (68 : Nat) ≠ 72 by decide), up2_ne (show (68 : Nat) ≠ 73 by decide), up2_ne (show (68 : Nat) ≠ 74 by decide), up2_ne (show (68 : Nat) ≠ 75 by decide), h68 i]
    exact H) (by
    refine z_iload_n dX10_house_62 rfl ?_
    refine z_aload_n dX10_house_63 rfl ?_
    refine m_geti dX10_house_64 fX10_105 sh66 rfl ?_
    refine z_icmp_ge 200 dX10_house_67 (by decide) (fun h67 => ?_) (fun h67 => absurd (by rw [hm17]; exact nI_le (Nat.le_refl m) (by omega)) h67)
    refine z_aload_n dX10_house_200 rfl ?_
    refine m_getr dX10_house_201 fX10_38 sh66 rfl ?_
    refine z_bipush (v := 18) dX10_house_204 rfl ?_
    refine z_aload_n dX10_house_206 rfl ?_
    refine m_geti dX10_house_207 fX10_153 sh66 rfl ?_
    rw [hg m 12 (by decide) (by decide)]
    refine m_iastN (j := 18) dX10_house_210 sh75 (by decide) (by decide) rfl ?_
    refine z_aload_n dX10_house_211 rfl ?_
    refine m_getr dX10_house_212 fX10_38 sh66 rfl ?_
    refine z_bipush (v := 19) dX10_house_215 rfl ?_
    refine z_aload_n dX10_house_217 rfl ?_
    refine m_geti dX10_house_218 fX10_159 sh66 rfl ?_
    rw [up2_ne (show 66 ≠ 75 by decide), hg m 13 (by decide) (by decide)]
    refine m_iastN (j := 19) dX10_house_221 sh75 (by decide) (by decide) rfl ?_
    refine z_aload_n dX10_house_222 rfl ?_
    refine z_iconst (v := 0) dX10_house_223 rfl ?_
    refine m_puti dX10_house_224 fX10_181 (fun q h => by cases h; rfl) rfl rfl sh66 rfl ?_
    refine z_aload_n dX10_house_227 rfl ?_
    refine m_getr dX10_house_228 fX10_44 sh66 rfl ?_
    refine z_iconst (v := 0) dX10_house_231 rfl ?_
    refine z_iconst (v := 0) dX10_house_232 rfl ?_
    refine m_zastN (j := 0) dX10_house_233 sh77 (by decide) (by decide) rfl rfl ?_
    refine z_aload_n dX10_house_234 rfl ?_
    refine m_getr dX10_house_235 fX10_44 sh66 rfl ?_
    refine z_iconst (v := 1) dX10_house_238 rfl ?_
    refine z_iconst (v := 0) dX10_house_239 rfl ?_
    refine m_zastN (j := 1) dX10_house_240 sh77 (by decide) (by decide) rfl rfl ?_
    refine z_aload_n dX10_house_241 rfl ?_
    refine m_geti dX10_house_242 fX10_105 sh66 rfl ?_
    rw [up2_ne (show 66 ≠ 77 by decide), up2_ne (show 66 ≠ 77 by decide), up2_row, if_neg (show ¬ 17 = 45 by decide), up2_ne (show 66 ≠ 75 by decide), up2_ne (show 66 ≠ 75 by decide), hm17]
    refine m_iret dX10_house_245 rfl rfl ?_
    exact HK)
  have hC := m_for (l := l) (G := G) (M := mX10_house) (pc := 29) (ν := ν) (K := K) (N := 4) (fun i => [(2, .int (nI i)), (1, .int 1), (0, .ref 66)]) (fun i => rCp (up2 (mR R a t k n (-1) f) 66 0 0) 70 69 0 0 i) (fun i hi H => by
    refine z_iload_n dX10_house_29 rfl ?_
    refine z_iconst (v := 4) dX10_house_30 rfl ?_
    refine z_icmp_ge 52 dX10_house_31 (by decide) (fun h31 => absurd h31 (nI_ge (a := i) (b := 4) hi (by decide))) (fun h31 => ?_)
    refine z_aload_n dX10_house_34 rfl ?_
    refine m_getr dX10_house_35 fX10_23 sh66 rfl ?_
    refine z_iload_n dX10_house_38 rfl ?_
    refine z_aload_n dX10_house_39 rfl ?_
    refine m_getr dX10_house_40 fX10_20 sh66 rfl ?_
    refine z_iload_n dX10_house_43 rfl ?_
    refine m_ialdN (j := i) dX10_house_44 sh69 rfl (by omega) rfl ?_
    refine m_iastN (j := i) dX10_house_45 sh70 rfl (by omega) rfl ?_
    refine z_iinc (fun y => [(2, .int y), (1, .int 1), (0, .ref 66)]) dX10_house_46 rfl rfl (fun _ => rfl) (fun x2_46 ex2_46 => ?_)
    obtain rfl : x2_46 = nI (i + 1) := by rw [ex2_46]; exact nI_1 i
    refine z_goto 29 dX10_house_49 (by decide) ?_
    rw [show rCp (up2 (mR R a t k n (-1) f) 66 0 0) 70 69 0 0 (i + 1) = up2 (rCp (up2 (mR R a t k n (-1) f) 66 0 0) 70 69 0 0 i) 70 (0 + i) (rCp (up2 (mR R a t k n (-1) f) 66 0 0) 70 69 0 0 i 69 (0 + i)) from rfl, Nat.zero_add] at H
    exact H) (by
    refine z_iload_n dX10_house_29 rfl ?_
    refine z_iconst (v := 4) dX10_house_30 rfl ?_
    refine z_icmp_ge 52 dX10_house_31 (by decide) (fun h31 => ?_) (fun h31 => absurd (nI_le (a := 4) (b := 4) (by decide) (by decide)) h31)
    refine z_aload_n dX10_house_52 rfl ?_
    refine z_aload_n dX10_house_53 rfl ?_
    refine m_geti dX10_house_54 fX10_146 sh66 rfl ?_
    rw [h8]
    refine m_puti dX10_house_57 fX10_105 (fun q h => by cases h; rfl) rfl rfl sh66 rfl ?_
    refine z_iconst (v := 0) dX10_house_60 rfl ?_
    refine z_istore_n (i := 2) (fun y => [(2, .int y), (1, .int 1), (0, .ref 66)]) dX10_house_61 rfl rfl (fun _ => rfl) (fun x9 e9 => ?_)
    subst e9
    exact hW 0 (Nat.zero_le _))
  refine z_iconst (v := 0) dX10_house_27 rfl ?_
  refine z_istore_n (i := 2) (fun y => [(2, .int y), (1, .int 1), (0, .ref 66)]) dX10_house_28 rfl rfl (fun _ => rfl) (fun x9 e9 => ?_)
  subst e9
  exact hC 0 (by decide)
set_option maxRecDepth 100000 in
set_option maxHeartbeats 400000 in
theorem d_house0 {l : Launch} {G : zG} {M μ : Mem} {ν : Lng} {T : Nat → Int32} {L N : Nat} (hT : μ 13 = T) (hL : μ 1 4 = nI L) (hN : L ≤ N) (hT0 : ∀ i, i < L → M 67 i = T i) (hL0 : M 66 0 = nI L) (hL2 : L ≤ 250) (h255 : ∀ i, i < L → zN (T i) 255) {K : Int32 → Mem → Lng → Prop} (hf : ¬ (gIt T L (gR0 μ, gS0 μ) N).2.1 = 0) (HK : ∀ N' : Mem, zBd (up2 M 66 6 (-1)) (gIt T L (gR0 μ, gS0 μ) N).2.2.1 (gIt T L (gR0 μ, gS0 μ) N).2.1 N' → K ((-10) - (gIt T L (gR0 μ, gS0 μ) N).2.1) (up2 N' 66 0 0) ν) : Cm l G mX10_house [.ref 66] M ν K := by
  refine Con.of (by decide) (Nat.le_of_ble_eq_true rfl) ?_
  show Am l G mX10_house 0 [(0, .ref 66)] [] M ν _
  refine z_aload_n dX10_house_0 rfl ?_
  refine z_iconst (v := -1) dX10_house_1 rfl ?_
  refine m_puti dX10_house_2 fX10_13 (fun q h => by cases h; rfl) rfl rfl sh66 rfl ?_
  refine z_aload_n dX10_house_5 rfl ?_
  refine m_callV (As := []) dX10_house_6 kX10_178 ⟨rfl, rfl⟩ rfl ⟨rfl, rfl⟩ rfl rfl sh66 rfl rfl (d_isRead (K := fun a9 b9 c9 => (0 : Int32) = a9 ∧ zBd (up2 M 66 6 (-1)) (gIt T L (gR0 μ, gS0 μ) N).2.2.1 (gIt T L (gR0 μ, gS0 μ) N).2.1 b9 ∧ ν = c9) hT hL hN (fun i hi => by rw [up2_ne (by decide)]; exact hT0 i hi) (by rw [up2_row, if_neg (by decide)]; exact hL0) (up2_same _ _ _ _) hL2 h255 (fun R' m' a t k n f q _ _ => absurd q hf) (fun N' _ q => ⟨rfl, q, rfl⟩)) (fun r6 μ6 ν6 hk6 => ?_)
  obtain ⟨rfl, hbd, rfl⟩ := hk6
  refine z_istore_n (i := 1) (fun y => [(1, .int y), (0, .ref 66)]) dX10_house_9 rfl rfl (fun _ => rfl) (fun x9 e9 => ?_)
  subst e9
  refine z_aload_n dX10_house_10 rfl ?_
  refine z_iconst (v := 0) dX10_house_11 rfl ?_
  refine m_puti dX10_house_12 fX10_113 (fun q h => by cases h; rfl) rfl rfl sh66 rfl ?_
  refine z_iload_n dX10_house_15 rfl ?_
  refine z_if_ne 27 dX10_house_16 (by decide) (fun h16 => absurd (by decide) h16) (fun h16 => ?_)
  refine z_bipush (v := -10) dX10_house_19 rfl ?_
  refine z_aload_n dX10_house_21 rfl ?_
  refine m_geti dX10_house_22 fX10_129 sh66 rfl ?_
  rw [up2_row, if_neg (show ¬ 7 = 0 by decide), hbd.2.2.2]
  refine z_isub dX10_house_25 ?_
  refine m_iret dX10_house_26 rfl rfl ?_
  exact HK _ hbd
set_option maxRecDepth 100000 in
set_option maxHeartbeats 400000 in
theorem d_house1 {l : Launch} {G : zG} {M μ : Mem} {ν : Lng} {T : Nat → Int32} {L N : Nat} (hT : μ 13 = T) (hL : μ 1 4 = nI L) (hN : L ≤ N) (hT0 : ∀ i, i < L → M 67 i = T i) (hL0 : M 66 0 = nI L) (hL2 : L ≤ 250) (h255 : ∀ i, i < L → zN (T i) 255) {K : Int32 → Mem → Lng → Prop} (hf : (gIt T L (gR0 μ, gS0 μ) N).2.1 = 0) (HK : ∀ (R' : Mem) (m' a : Nat) (t k n f : Int32), zDr (gIt T L (gR0 μ, gS0 μ) N).1 R' m' → zFm (up2 M 66 6 (-1)) R' → K (nI m') (rHs (up2 (mR R' a t k n (-1) f) 66 0 0) (R' 68) m' (R' 66 12) (R' 66 13)) ν) : Cm l G mX10_house [.ref 66] M ν K := by
  refine Con.of (by decide) (Nat.le_of_ble_eq_true rfl) ?_
  show Am l G mX10_house 0 [(0, .ref 66)] [] M ν _
  refine z_aload_n dX10_house_0 rfl ?_
  refine z_iconst (v := -1) dX10_house_1 rfl ?_
  refine m_puti dX10_house_2 fX10_13 (fun q h => by cases h; rfl) rfl rfl sh66 rfl ?_
  refine z_aload_n dX10_house_5 rfl ?_
  refine m_callV (As := []) dX10_house_6 kX10_178 ⟨rfl, rfl⟩ rfl ⟨rfl, rfl⟩ rfl rfl sh66 rfl rfl (d_isRead (K := fun a9 b9 c9 => (1 : Int32) = a9 ∧ (∃ (R' : Mem) (m' a : Nat) (t k n f : Int32), zDr (gIt T L (gR0 μ, gS0 μ) N).1 R' m' ∧ zFm (up2 M 66 6 (-1)) R' ∧ mR R' a t k n (-1) f = b9) ∧ ν = c9) hT hL hN (fun i hi => by rw [up2_ne (by decide)]; exact hT0 i hi) (by rw [up2_row, if_neg (by decide)]; exact hL0) (up2_same _ _ _ _) hL2 h255 (fun R' m' a t k n f _ q1 q2 => ⟨rfl, ⟨R', m', a, t, k, n, f, q1, q2, rfl⟩, rfl⟩) (fun N' q _ => absurd hf q)) (fun r6 μ6 ν6 hk6 => ?_)
  obtain ⟨rfl, ⟨R', m', a, t, k, n, f, q1, q2, rfl⟩, rfl⟩ := hk6
  refine z_istore_n (i := 1) (fun y => [(1, .int y), (0, .ref 66)]) dX10_house_9 rfl rfl (fun _ => rfl) (fun x9 e9 => ?_)
  subst e9
  refine z_aload_n dX10_house_10 rfl ?_
  refine z_iconst (v := 0) dX10_house_11 rfl ?_
  refine m_puti dX10_house_12 fX10_113 (fun q h => by cases h; rfl) rfl rfl sh66 rfl ?_
  refine z_iload_n dX10_house_15 rfl ?_
  refine z_if_ne 27 dX10_house_16 (by decide) (fun h16 => ?_) (fun h16 => absurd h16 (by decide))
  exact d_houseTail q1 (HK R' m' a t k n f q1 q2)
