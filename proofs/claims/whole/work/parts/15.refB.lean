set_option maxRecDepth 100000 in
set_option maxHeartbeats 400000 in
theorem c_goThroughM {l : Launch} {G : zG} {μ : Mem} {ν : Lng} {w lf s : Nat} (hw : w < 6) (hl : lf < 2) (hsd : μ 71 w = nI s) (hs : s < 2) {t : Int32}  : Cm l G mX10_goThrough [.ref 66, .int (nI w), .int (nI lf), .int t] μ ν (fun _ b9 c9 => rThrough μ w lf s t = b9 ∧ ν = c9) := by
  refine Con.of (by decide) (Nat.le_of_ble_eq_true rfl) ?_
  show Am l G mX10_goThrough 0 [(0, .ref 66), (1, .int (nI w)), (2, .int (nI lf)), (3, .int t)] [] μ ν _
  refine z_aload_n dX10_goThrough_0 rfl ?_
  refine m_getr dX10_goThrough_1 fX10_26 sh66 rfl ?_
  refine z_iload_n dX10_goThrough_4 rfl ?_
  refine m_ialdN (j := w) dX10_goThrough_5 sh71 rfl (by omega) rfl ?_
  rw [hsd]
  refine z_istore (i := 4) (fun y => [(4, .int y), (0, .ref 66), (1, .int (nI w)), (2, .int (nI lf)), (3, .int t)]) dX10_goThrough_6 rfl (fun _ => rfl) (fun x9 e9 => ?_)
  subst e9
  refine z_aload_n dX10_goThrough_8 rfl ?_
  refine z_iload_n dX10_goThrough_9 rfl ?_
  refine z_iload_n dX10_goThrough_10 rfl ?_
  refine m_callV (As := [.int _, .int _]) dX10_goThrough_11 kX10_198 ⟨rfl, rfl⟩ rfl ⟨rfl, rfl⟩ rfl rfl sh66 rfl rfl (c_swing hl) (fun r11 μ11 ν11 hk11 => ?_)
  obtain ⟨rfl, rfl, rfl⟩ := hk11
  refine z_istore (i := 5) (fun y => [(5, .int y), (4, .int (nI s)), (0, .ref 66), (1, .int (nI w)), (2, .int (nI lf)), (3, .int t)]) dX10_goThrough_14 rfl (fun _ => rfl) (fun x9 e9 => ?_)
  subst e9
  refine z_aload_n dX10_goThrough_16 rfl ?_
  refine z_iload_n dX10_goThrough_17 rfl ?_
  refine z_iload dX10_goThrough_18 rfl ?_
  refine z_iload_n dX10_goThrough_20 rfl ?_
  refine m_callV (As := [.int _, .int _, .int _]) dX10_goThrough_21 kX10_184 ⟨rfl, rfl⟩ rfl ⟨rfl, rfl⟩ rfl rfl sh66 rfl rfl (c_isBusy hl hs) (fun r21 μ21 ν21 hk21 => ?_)
  obtain ⟨rfl, rfl, rfl⟩ := hk21
  refine z_if_ne 33 dX10_goThrough_24 (by decide) (fun h24 => ?_) (fun h24 => ?_)
  · skip
    refine z_iconst (v := 1) dX10_goThrough_33 rfl ?_
    refine z_goto 38 dX10_goThrough_34 (by decide) ?_
    refine z_istore (i := 6) (fun y => [(6, .int y), (5, .int (rSwing μ lf t)), (4, .int (nI s)), (0, .ref 66), (1, .int (nI w)), (2, .int (nI lf)), (3, .int t)]) dX10_goThrough_38 rfl (fun _ => rfl) (fun x6_38 ex6_38 => ?_)
    refine z_iload dX10_goThrough_40 rfl ?_
    refine z_if_eq 74 dX10_goThrough_42 (by decide) (fun h42 => ?_) (fun h42 => ?_)
    · skip
      refine z_iload_n dX10_goThrough_74 rfl ?_
      refine z_iload dX10_goThrough_75 rfl ?_
      refine z_icmp_ne 84 dX10_goThrough_77 (by decide) (fun h77 => ?_) (fun h77 => ?_)
      · skip
        refine z_iconst (v := 2) dX10_goThrough_84 rfl ?_
        refine z_istore (i := 7) (fun y => [(7, .int y), (6, .int x6_38), (5, .int (rSwing μ lf t)), (4, .int (nI s)), (0, .ref 66), (1, .int (nI w)), (2, .int (nI lf)), (3, .int t)]) dX10_goThrough_85 rfl (fun _ => rfl) (fun x7_85 ex7_85 => ?_)
        refine z_aload_n dX10_goThrough_87 rfl ?_
        refine m_getr dX10_goThrough_88 fX10_48 sh66 rfl ?_
        refine z_iload_n dX10_goThrough_91 rfl ?_
        refine z_aload_n dX10_goThrough_92 rfl ?_
        refine m_getr dX10_goThrough_93 fX10_48 sh66 rfl ?_
        refine z_iload_n dX10_goThrough_96 rfl ?_
        refine m_ialdN (j := w) dX10_goThrough_97 sh78 rfl (by omega) rfl ?_
        refine z_iload dX10_goThrough_98 rfl ?_
        refine z_icmp_le 112 dX10_goThrough_100 (by decide) (fun h100 => ?_) (fun h100 => ?_)
        · skip
          refine z_iload dX10_goThrough_112 rfl ?_
          refine m_iastN (j := w) dX10_goThrough_114 sh78 rfl (by omega) rfl ?_
          refine z_iload dX10_goThrough_115 rfl ?_
          refine z_iconst (v := 3) dX10_goThrough_117 rfl ?_
          refine z_icmp_ne 133 dX10_goThrough_118 (by decide) (fun h118 => ?_) (fun h118 => ?_)
          · skip
            refine z_aload_n dX10_goThrough_133 rfl ?_
            refine m_getr dX10_goThrough_134 fX10_72 sh66 rfl ?_
            refine z_iload_n dX10_goThrough_137 rfl ?_
            refine z_iload_n dX10_goThrough_138 rfl ?_
            refine m_iastN (j := lf) dX10_goThrough_139 sh86 rfl (by omega) rfl ?_
            refine z_aload_n dX10_goThrough_140 rfl ?_
            refine m_getr dX10_goThrough_141 fX10_75 sh66 rfl ?_
            refine z_iload_n dX10_goThrough_144 rfl ?_
            refine z_aload_n dX10_goThrough_145 rfl ?_
            refine m_getr dX10_goThrough_146 fX10_38 sh66 rfl ?_
            refine z_bipush (v := 12) dX10_goThrough_149 rfl ?_
            refine z_iload_n dX10_goThrough_151 rfl ?_
            refine z_iadd dX10_goThrough_152 ?_
            rw [show (12 + nI w) = nI (12 + w) from z6a 12 w]
            refine m_ialdN (j := (12 + w)) dX10_goThrough_153 sh75 rfl (by omega) rfl ?_
            refine m_iastN (j := lf) dX10_goThrough_154 sh87 rfl (by omega) rfl ?_
            refine z_aload_n dX10_goThrough_155 rfl ?_
            refine m_getr dX10_goThrough_156 fX10_81 sh66 rfl ?_
            refine z_iload_n dX10_goThrough_159 rfl ?_
            refine z_dup2 dX10_goThrough_160 rfl rfl ?_
            refine m_ialdN (j := lf) dX10_goThrough_161 sh89 rfl (by omega) rfl ?_
            refine z_iconst (v := 1) dX10_goThrough_162 rfl ?_
            refine z_iadd dX10_goThrough_163 ?_
            refine m_iastN (j := lf) dX10_goThrough_164 sh89 rfl (by omega) rfl ?_
            refine z_aload_n dX10_goThrough_165 rfl ?_
            refine z_iload_n dX10_goThrough_166 rfl ?_
            refine z_iload dX10_goThrough_167 rfl ?_
            refine z_iload_n dX10_goThrough_169 rfl ?_
            refine z_iload_n dX10_goThrough_170 rfl ?_
            refine z_aload_n dX10_goThrough_171 rfl ?_
            refine m_getr dX10_goThrough_172 fX10_29 sh66 rfl ?_
            refine z_iload_n dX10_goThrough_175 rfl ?_
            refine m_ialdN (j := w) dX10_goThrough_176 sh72 rfl (by omega) rfl ?_
            refine z_iadd dX10_goThrough_177 ?_
            refine m_callVv (As := [.int _, .int _, .int _, .int _]) dX10_goThrough_178 kX10_194 ⟨rfl, rfl⟩ rfl ⟨rfl, rfl⟩ rfl rfl sh66 rfl rfl (c_widen hl hs) (fun μ178 ν178 hk178 => ?_)
            obtain ⟨rfl, rfl⟩ := hk178
            refine z_aload_n dX10_goThrough_181 rfl ?_
            refine m_getr dX10_goThrough_182 fX10_51 sh66 rfl ?_
            refine z_iload_n dX10_goThrough_185 rfl ?_
            refine z_iload_n dX10_goThrough_186 rfl ?_
            refine m_iastN (j := w) dX10_goThrough_187 sh79 rfl (by omega) rfl ?_
            refine z_aload_n dX10_goThrough_188 rfl ?_
            refine m_getr dX10_goThrough_189 fX10_54 sh66 rfl ?_
            refine z_iload_n dX10_goThrough_192 rfl ?_
            refine z_iload_n dX10_goThrough_193 rfl ?_
            refine z_aload_n dX10_goThrough_194 rfl ?_
            refine m_getr dX10_goThrough_195 fX10_29 sh66 rfl ?_
            refine z_iload_n dX10_goThrough_198 rfl ?_
            refine m_ialdN (j := w) dX10_goThrough_199 sh72 rfl (by omega) rfl ?_
            refine z_iadd dX10_goThrough_200 ?_
            refine m_iastN (j := w) dX10_goThrough_201 sh80 rfl (by omega) rfl ?_
            refine m_ret dX10_goThrough_202 rfl ?_
            first | exact (h42 ex6_38).elim | exact absurd (ex6_38.symm.trans h42) (by decide) | exact ⟨by subst_vars; simp only [rThrough, rPass, rKicked, if_neg h24, if_pos h42, if_neg h77, if_pos h100, if_neg h118], rfl⟩
          · skip
            refine z_aload_n dX10_goThrough_121 rfl ?_
            refine m_getr dX10_goThrough_122 fX10_48 sh66 rfl ?_
            refine z_iload_n dX10_goThrough_125 rfl ?_
            refine z_iconst (v := 5) dX10_goThrough_126 rfl ?_
            refine m_iastN (j := w) dX10_goThrough_127 sh78 rfl (by omega) rfl ?_
            refine z_aload_n dX10_goThrough_128 rfl ?_
            refine z_iload_n dX10_goThrough_129 rfl ?_
            refine m_callVv (As := [.int _]) dX10_goThrough_130 kX10_190 ⟨rfl, rfl⟩ rfl ⟨rfl, rfl⟩ rfl rfl sh66 rfl rfl (c_lose hw) (fun μ130 ν130 hk130 => ?_)
            obtain ⟨rfl, rfl⟩ := hk130
            refine z_aload_n dX10_goThrough_133 rfl ?_
            refine m_getr dX10_goThrough_134 fX10_72 sh66 rfl ?_
            refine z_iload_n dX10_goThrough_137 rfl ?_
            refine z_iload_n dX10_goThrough_138 rfl ?_
            refine m_iastN (j := lf) dX10_goThrough_139 sh86 rfl (by omega) rfl ?_
            refine z_aload_n dX10_goThrough_140 rfl ?_
            refine m_getr dX10_goThrough_141 fX10_75 sh66 rfl ?_
            refine z_iload_n dX10_goThrough_144 rfl ?_
            refine z_aload_n dX10_goThrough_145 rfl ?_
            refine m_getr dX10_goThrough_146 fX10_38 sh66 rfl ?_
            refine z_bipush (v := 12) dX10_goThrough_149 rfl ?_
            refine z_iload_n dX10_goThrough_151 rfl ?_
            refine z_iadd dX10_goThrough_152 ?_
            rw [show (12 + nI w) = nI (12 + w) from z6a 12 w]
            refine m_ialdN (j := (12 + w)) dX10_goThrough_153 sh75 rfl (by omega) rfl ?_
            refine m_iastN (j := lf) dX10_goThrough_154 sh87 rfl (by omega) rfl ?_
            refine z_aload_n dX10_goThrough_155 rfl ?_
            refine m_getr dX10_goThrough_156 fX10_81 sh66 rfl ?_
            refine z_iload_n dX10_goThrough_159 rfl ?_
            refine z_dup2 dX10_goThrough_160 rfl rfl ?_
            refine m_ialdN (j := lf) dX10_goThrough_161 sh89 rfl (by omega) rfl ?_
            refine z_iconst (v := 1) dX10_goThrough_162 rfl ?_
            refine z_iadd dX10_goThrough_163 ?_
            refine m_iastN (j := lf) dX10_goThrough_164 sh89 rfl (by omega) rfl ?_
            refine z_aload_n dX10_goThrough_165 rfl ?_
            refine z_iload_n dX10_goThrough_166 rfl ?_
            refine z_iload dX10_goThrough_167 rfl ?_
            refine z_iload_n dX10_goThrough_169 rfl ?_
            refine z_iload_n dX10_goThrough_170 rfl ?_
            refine z_aload_n dX10_goThrough_171 rfl ?_
            refine m_getr dX10_goThrough_172 fX10_29 sh66 rfl ?_
            refine z_iload_n dX10_goThrough_175 rfl ?_
            refine m_ialdN (j := w) dX10_goThrough_176 sh72 rfl (by omega) rfl ?_
            refine z_iadd dX10_goThrough_177 ?_
            refine m_callVv (As := [.int _, .int _, .int _, .int _]) dX10_goThrough_178 kX10_194 ⟨rfl, rfl⟩ rfl ⟨rfl, rfl⟩ rfl rfl sh66 rfl rfl (c_widen hl hs) (fun μ178 ν178 hk178 => ?_)
            obtain ⟨rfl, rfl⟩ := hk178
            refine z_aload_n dX10_goThrough_181 rfl ?_
            refine m_getr dX10_goThrough_182 fX10_51 sh66 rfl ?_
            refine z_iload_n dX10_goThrough_185 rfl ?_
            refine z_iload_n dX10_goThrough_186 rfl ?_
            refine m_iastN (j := w) dX10_goThrough_187 sh79 rfl (by omega) rfl ?_
            refine z_aload_n dX10_goThrough_188 rfl ?_
            refine m_getr dX10_goThrough_189 fX10_54 sh66 rfl ?_
            refine z_iload_n dX10_goThrough_192 rfl ?_
            refine z_iload_n dX10_goThrough_193 rfl ?_
            refine z_aload_n dX10_goThrough_194 rfl ?_
            refine m_getr dX10_goThrough_195 fX10_29 sh66 rfl ?_
            refine z_iload_n dX10_goThrough_198 rfl ?_
            refine m_ialdN (j := w) dX10_goThrough_199 sh72 rfl (by omega) rfl ?_
            refine z_iadd dX10_goThrough_200 ?_
            refine m_iastN (j := w) dX10_goThrough_201 sh80 rfl (by omega) rfl ?_
            refine m_ret dX10_goThrough_202 rfl ?_
            first | exact (h42 ex6_38).elim | exact absurd (ex6_38.symm.trans h42) (by decide) | exact ⟨by subst_vars; simp only [rThrough, rPass, rKicked, if_neg h24, if_pos h42, if_neg h77, if_pos h100, if_pos h118], rfl⟩
        · skip
          refine z_aload_n dX10_goThrough_103 rfl ?_
          refine m_getr dX10_goThrough_104 fX10_48 sh66 rfl ?_
          refine z_iload_n dX10_goThrough_107 rfl ?_
          refine m_ialdN (j := w) dX10_goThrough_108 sh78 rfl (by omega) rfl ?_
          refine z_goto 114 dX10_goThrough_109 (by decide) ?_
          refine m_iastN (j := w) dX10_goThrough_114 sh78 rfl (by omega) rfl ?_
          refine z_iload dX10_goThrough_115 rfl ?_
          refine z_iconst (v := 3) dX10_goThrough_117 rfl ?_
          refine z_icmp_ne 133 dX10_goThrough_118 (by decide) (fun h118 => ?_) (fun h118 => ?_)
          · skip
            refine z_aload_n dX10_goThrough_133 rfl ?_
            refine m_getr dX10_goThrough_134 fX10_72 sh66 rfl ?_
            refine z_iload_n dX10_goThrough_137 rfl ?_
            refine z_iload_n dX10_goThrough_138 rfl ?_
            refine m_iastN (j := lf) dX10_goThrough_139 sh86 rfl (by omega) rfl ?_
            refine z_aload_n dX10_goThrough_140 rfl ?_
            refine m_getr dX10_goThrough_141 fX10_75 sh66 rfl ?_
            refine z_iload_n dX10_goThrough_144 rfl ?_
            refine z_aload_n dX10_goThrough_145 rfl ?_
            refine m_getr dX10_goThrough_146 fX10_38 sh66 rfl ?_
            refine z_bipush (v := 12) dX10_goThrough_149 rfl ?_
            refine z_iload_n dX10_goThrough_151 rfl ?_
            refine z_iadd dX10_goThrough_152 ?_
            rw [show (12 + nI w) = nI (12 + w) from z6a 12 w]
            refine m_ialdN (j := (12 + w)) dX10_goThrough_153 sh75 rfl (by omega) rfl ?_
            refine m_iastN (j := lf) dX10_goThrough_154 sh87 rfl (by omega) rfl ?_
            refine z_aload_n dX10_goThrough_155 rfl ?_
            refine m_getr dX10_goThrough_156 fX10_81 sh66 rfl ?_
            refine z_iload_n dX10_goThrough_159 rfl ?_
            refine z_dup2 dX10_goThrough_160 rfl rfl ?_
            refine m_ialdN (j := lf) dX10_goThrough_161 sh89 rfl (by omega) rfl ?_
            refine z_iconst (v := 1) dX10_goThrough_162 rfl ?_
            refine z_iadd dX10_goThrough_163 ?_
            refine m_iastN (j := lf) dX10_goThrough_164 sh89 rfl (by omega) rfl ?_
            refine z_aload_n dX10_goThrough_165 rfl ?_
            refine z_iload_n dX10_goThrough_166 rfl ?_
            refine z_iload dX10_goThrough_167 rfl ?_
            refine z_iload_n dX10_goThrough_169 rfl ?_
            refine z_iload_n dX10_goThrough_170 rfl ?_
            refine z_aload_n dX10_goThrough_171 rfl ?_
            refine m_getr dX10_goThrough_172 fX10_29 sh66 rfl ?_
            refine z_iload_n dX10_goThrough_175 rfl ?_
            refine m_ialdN (j := w) dX10_goThrough_176 sh72 rfl (by omega) rfl ?_
            refine z_iadd dX10_goThrough_177 ?_
            refine m_callVv (As := [.int _, .int _, .int _, .int _]) dX10_goThrough_178 kX10_194 ⟨rfl, rfl⟩ rfl ⟨rfl, rfl⟩ rfl rfl sh66 rfl rfl (c_widen hl hs) (fun μ178 ν178 hk178 => ?_)
            obtain ⟨rfl, rfl⟩ := hk178
            refine z_aload_n dX10_goThrough_181 rfl ?_
            refine m_getr dX10_goThrough_182 fX10_51 sh66 rfl ?_
            refine z_iload_n dX10_goThrough_185 rfl ?_
            refine z_iload_n dX10_goThrough_186 rfl ?_
            refine m_iastN (j := w) dX10_goThrough_187 sh79 rfl (by omega) rfl ?_
            refine z_aload_n dX10_goThrough_188 rfl ?_
            refine m_getr dX10_goThrough_189 fX10_54 sh66 rfl ?_
            refine z_iload_n dX10_goThrough_192 rfl ?_
            refine z_iload_n dX10_goThrough_193 rfl ?_
            refine z_aload_n dX10_goThrough_194 rfl ?_
            refine m_getr dX10_goThrough_195 fX10_29 sh66 rfl ?_
            refine z_iload_n dX10_goThrough_198 rfl ?_
            refine m_ialdN (j := w) dX10_goThrough_199 sh72 rfl (by omega) rfl ?_
            refine z_iadd dX10_goThrough_200 ?_
            refine m_iastN (j := w) dX10_goThrough_201 sh80 rfl (by omega) rfl ?_
            refine m_ret dX10_goThrough_202 rfl ?_
            first | exact (h42 ex6_38).elim | exact absurd (ex6_38.symm.trans h42) (by decide) | exact ⟨by subst_vars; simp only [rThrough, rPass, rKicked, if_neg h24, if_pos h42, if_neg h77, if_neg h100, if_neg h118], rfl⟩
          · skip
            refine z_aload_n dX10_goThrough_121 rfl ?_
            refine m_getr dX10_goThrough_122 fX10_48 sh66 rfl ?_
            refine z_iload_n dX10_goThrough_125 rfl ?_
            refine z_iconst (v := 5) dX10_goThrough_126 rfl ?_
            refine m_iastN (j := w) dX10_goThrough_127 sh78 rfl (by omega) rfl ?_
            refine z_aload_n dX10_goThrough_128 rfl ?_
            refine z_iload_n dX10_goThrough_129 rfl ?_
            refine m_callVv (As := [.int _]) dX10_goThrough_130 kX10_190 ⟨rfl, rfl⟩ rfl ⟨rfl, rfl⟩ rfl rfl sh66 rfl rfl (c_lose hw) (fun μ130 ν130 hk130 => ?_)
            obtain ⟨rfl, rfl⟩ := hk130
            refine z_aload_n dX10_goThrough_133 rfl ?_
            refine m_getr dX10_goThrough_134 fX10_72 sh66 rfl ?_
            refine z_iload_n dX10_goThrough_137 rfl ?_
            refine z_iload_n dX10_goThrough_138 rfl ?_
            refine m_iastN (j := lf) dX10_goThrough_139 sh86 rfl (by omega) rfl ?_
            refine z_aload_n dX10_goThrough_140 rfl ?_
            refine m_getr dX10_goThrough_141 fX10_75 sh66 rfl ?_
            refine z_iload_n dX10_goThrough_144 rfl ?_
            refine z_aload_n dX10_goThrough_145 rfl ?_
            refine m_getr dX10_goThrough_146 fX10_38 sh66 rfl ?_
            refine z_bipush (v := 12) dX10_goThrough_149 rfl ?_
            refine z_iload_n dX10_goThrough_151 rfl ?_
            refine z_iadd dX10_goThrough_152 ?_
            rw [show (12 + nI w) = nI (12 + w) from z6a 12 w]
            refine m_ialdN (j := (12 + w)) dX10_goThrough_153 sh75 rfl (by omega) rfl ?_
            refine m_iastN (j := lf) dX10_goThrough_154 sh87 rfl (by omega) rfl ?_
            refine z_aload_n dX10_goThrough_155 rfl ?_
            refine m_getr dX10_goThrough_156 fX10_81 sh66 rfl ?_
            refine z_iload_n dX10_goThrough_159 rfl ?_
            refine z_dup2 dX10_goThrough_160 rfl rfl ?_
            refine m_ialdN (j := lf) dX10_goThrough_161 sh89 rfl (by omega) rfl ?_
            refine z_iconst (v := 1) dX10_goThrough_162 rfl ?_
            refine z_iadd dX10_goThrough_163 ?_
            refine m_iastN (j := lf) dX10_goThrough_164 sh89 rfl (by omega) rfl ?_
            refine z_aload_n dX10_goThrough_165 rfl ?_
            refine z_iload_n dX10_goThrough_166 rfl ?_
            refine z_iload dX10_goThrough_167 rfl ?_
            refine z_iload_n dX10_goThrough_169 rfl ?_
            refine z_iload_n dX10_goThrough_170 rfl ?_
            refine z_aload_n dX10_goThrough_171 rfl ?_
            refine m_getr dX10_goThrough_172 fX10_29 sh66 rfl ?_
            refine z_iload_n dX10_goThrough_175 rfl ?_
            refine m_ialdN (j := w) dX10_goThrough_176 sh72 rfl (by omega) rfl ?_
            refine z_iadd dX10_goThrough_177 ?_
            refine m_callVv (As := [.int _, .int _, .int _, .int _]) dX10_goThrough_178 kX10_194 ⟨rfl, rfl⟩ rfl ⟨rfl, rfl⟩ rfl rfl sh66 rfl rfl (c_widen hl hs) (fun μ178 ν178 hk178 => ?_)
            obtain ⟨rfl, rfl⟩ := hk178
            refine z_aload_n dX10_goThrough_181 rfl ?_
            refine m_getr dX10_goThrough_182 fX10_51 sh66 rfl ?_
            refine z_iload_n dX10_goThrough_185 rfl ?_
            refine z_iload_n dX10_goThrough_186 rfl ?_
            refine m_iastN (j := w) dX10_goThrough_187 sh79 rfl (by omega) rfl ?_
            refine z_aload_n dX10_goThrough_188 rfl ?_
            refine m_getr dX10_goThrough_189 fX10_54 sh66 rfl ?_
            refine z_iload_n dX10_goThrough_192 rfl ?_
            refine z_iload_n dX10_goThrough_193 rfl ?_
            refine z_aload_n dX10_goThrough_194 rfl ?_
            refine m_getr dX10_goThrough_195 fX10_29 sh66 rfl ?_
            refine z_iload_n dX10_goThrough_198 rfl ?_
            refine m_ialdN (j := w) dX10_goThrough_199 sh72 rfl (by omega) rfl ?_
            refine z_iadd dX10_goThrough_200 ?_
            refine m_iastN (j := w) dX10_goThrough_201 sh80 rfl (by omega) rfl ?_
            refine m_ret dX10_goThrough_202 rfl ?_
            first | exact (h42 ex6_38).elim | exact absurd (ex6_38.symm.trans h42) (by decide) | exact ⟨by subst_vars; simp only [rThrough, rPass, rKicked, if_neg h24, if_pos h42, if_neg h77, if_neg h100, if_pos h118], rfl⟩
      · skip
        refine z_iconst (v := 0) dX10_goThrough_80 rfl ?_
        refine z_goto 85 dX10_goThrough_81 (by decide) ?_
        refine z_istore (i := 7) (fun y => [(7, .int y), (6, .int x6_38), (5, .int (rSwing μ lf t)), (4, .int (nI s)), (0, .ref 66), (1, .int (nI w)), (2, .int (nI lf)), (3, .int t)]) dX10_goThrough_85 rfl (fun _ => rfl) (fun x7_85 ex7_85 => ?_)
        refine z_aload_n dX10_goThrough_87 rfl ?_
        refine m_getr dX10_goThrough_88 fX10_48 sh66 rfl ?_
        refine z_iload_n dX10_goThrough_91 rfl ?_
        refine z_aload_n dX10_goThrough_92 rfl ?_
        refine m_getr dX10_goThrough_93 fX10_48 sh66 rfl ?_
        refine z_iload_n dX10_goThrough_96 rfl ?_
        refine m_ialdN (j := w) dX10_goThrough_97 sh78 rfl (by omega) rfl ?_
        refine z_iload dX10_goThrough_98 rfl ?_
        refine z_icmp_le 112 dX10_goThrough_100 (by decide) (fun h100 => ?_) (fun h100 => ?_)
        · skip
          refine z_iload dX10_goThrough_112 rfl ?_
          refine m_iastN (j := w) dX10_goThrough_114 sh78 rfl (by omega) rfl ?_
          refine z_iload dX10_goThrough_115 rfl ?_
          refine z_iconst (v := 3) dX10_goThrough_117 rfl ?_
          refine z_icmp_ne 133 dX10_goThrough_118 (by decide) (fun h118 => ?_) (fun h118 => ?_)
          · skip
            refine z_aload_n dX10_goThrough_133 rfl ?_
            refine m_getr dX10_goThrough_134 fX10_72 sh66 rfl ?_
            refine z_iload_n dX10_goThrough_137 rfl ?_
            refine z_iload_n dX10_goThrough_138 rfl ?_
            refine m_iastN (j := lf) dX10_goThrough_139 sh86 rfl (by omega) rfl ?_
            refine z_aload_n dX10_goThrough_140 rfl ?_
            refine m_getr dX10_goThrough_141 fX10_75 sh66 rfl ?_
            refine z_iload_n dX10_goThrough_144 rfl ?_
            refine z_aload_n dX10_goThrough_145 rfl ?_
            refine m_getr dX10_goThrough_146 fX10_38 sh66 rfl ?_
            refine z_bipush (v := 12) dX10_goThrough_149 rfl ?_
            refine z_iload_n dX10_goThrough_151 rfl ?_
            refine z_iadd dX10_goThrough_152 ?_
            rw [show (12 + nI w) = nI (12 + w) from z6a 12 w]
            refine m_ialdN (j := (12 + w)) dX10_goThrough_153 sh75 rfl (by omega) rfl ?_
            refine m_iastN (j := lf) dX10_goThrough_154 sh87 rfl (by omega) rfl ?_
            refine z_aload_n dX10_goThrough_155 rfl ?_
            refine m_getr dX10_goThrough_156 fX10_81 sh66 rfl ?_
            refine z_iload_n dX10_goThrough_159 rfl ?_
            refine z_dup2 dX10_goThrough_160 rfl rfl ?_
            refine m_ialdN (j := lf) dX10_goThrough_161 sh89 rfl (by omega) rfl ?_
            refine z_iconst (v := 1) dX10_goThrough_162 rfl ?_
            refine z_iadd dX10_goThrough_163 ?_
            refine m_iastN (j := lf) dX10_goThrough_164 sh89 rfl (by omega) rfl ?_
            refine z_aload_n dX10_goThrough_165 rfl ?_
            refine z_iload_n dX10_goThrough_166 rfl ?_
            refine z_iload dX10_goThrough_167 rfl ?_
            refine z_iload_n dX10_goThrough_169 rfl ?_
            refine z_iload_n dX10_goThrough_170 rfl ?_
            refine z_aload_n dX10_goThrough_171 rfl ?_
            refine m_getr dX10_goThrough_172 fX10_29 sh66 rfl ?_
            refine z_iload_n dX10_goThrough_175 rfl ?_
            refine m_ialdN (j := w) dX10_goThrough_176 sh72 rfl (by omega) rfl ?_
            refine z_iadd dX10_goThrough_177 ?_
            refine m_callVv (As := [.int _, .int _, .int _, .int _]) dX10_goThrough_178 kX10_194 ⟨rfl, rfl⟩ rfl ⟨rfl, rfl⟩ rfl rfl sh66 rfl rfl (c_widen hl hs) (fun μ178 ν178 hk178 => ?_)
            obtain ⟨rfl, rfl⟩ := hk178
            refine z_aload_n dX10_goThrough_181 rfl ?_
            refine m_getr dX10_goThrough_182 fX10_51 sh66 rfl ?_
            refine z_iload_n dX10_goThrough_185 rfl ?_
            refine z_iload_n dX10_goThrough_186 rfl ?_
            refine m_iastN (j := w) dX10_goThrough_187 sh79 rfl (by omega) rfl ?_
            refine z_aload_n dX10_goThrough_188 rfl ?_
            refine m_getr dX10_goThrough_189 fX10_54 sh66 rfl ?_
            refine z_iload_n dX10_goThrough_192 rfl ?_
            refine z_iload_n dX10_goThrough_193 rfl ?_
            refine z_aload_n dX10_goThrough_194 rfl ?_
            refine m_getr dX10_goThrough_195 fX10_29 sh66 rfl ?_
            refine z_iload_n dX10_goThrough_198 rfl ?_
            refine m_ialdN (j := w) dX10_goThrough_199 sh72 rfl (by omega) rfl ?_
            refine z_iadd dX10_goThrough_200 ?_
            refine m_iastN (j := w) dX10_goThrough_201 sh80 rfl (by omega) rfl ?_
            refine m_ret dX10_goThrough_202 rfl ?_
            first | exact (h42 ex6_38).elim | exact absurd (ex6_38.symm.trans h42) (by decide) | exact ⟨by subst_vars; simp only [rThrough, rPass, rKicked, if_neg h24, if_pos h42, if_pos h77, if_pos h100, if_neg h118], rfl⟩
          · skip
            refine z_aload_n dX10_goThrough_121 rfl ?_
            refine m_getr dX10_goThrough_122 fX10_48 sh66 rfl ?_
            refine z_iload_n dX10_goThrough_125 rfl ?_
            refine z_iconst (v := 5) dX10_goThrough_126 rfl ?_
            refine m_iastN (j := w) dX10_goThrough_127 sh78 rfl (by omega) rfl ?_
            refine z_aload_n dX10_goThrough_128 rfl ?_
            refine z_iload_n dX10_goThrough_129 rfl ?_
            refine m_callVv (As := [.int _]) dX10_goThrough_130 kX10_190 ⟨rfl, rfl⟩ rfl ⟨rfl, rfl⟩ rfl rfl sh66 rfl rfl (c_lose hw) (fun μ130 ν130 hk130 => ?_)
            obtain ⟨rfl, rfl⟩ := hk130
            refine z_aload_n dX10_goThrough_133 rfl ?_
            refine m_getr dX10_goThrough_134 fX10_72 sh66 rfl ?_
            refine z_iload_n dX10_goThrough_137 rfl ?_
            refine z_iload_n dX10_goThrough_138 rfl ?_
            refine m_iastN (j := lf) dX10_goThrough_139 sh86 rfl (by omega) rfl ?_
            refine z_aload_n dX10_goThrough_140 rfl ?_
            refine m_getr dX10_goThrough_141 fX10_75 sh66 rfl ?_
            refine z_iload_n dX10_goThrough_144 rfl ?_
            refine z_aload_n dX10_goThrough_145 rfl ?_
            refine m_getr dX10_goThrough_146 fX10_38 sh66 rfl ?_
            refine z_bipush (v := 12) dX10_goThrough_149 rfl ?_
            refine z_iload_n dX10_goThrough_151 rfl ?_
            refine z_iadd dX10_goThrough_152 ?_
            rw [show (12 + nI w) = nI (12 + w) from z6a 12 w]
            refine m_ialdN (j := (12 + w)) dX10_goThrough_153 sh75 rfl (by omega) rfl ?_
            refine m_iastN (j := lf) dX10_goThrough_154 sh87 rfl (by omega) rfl ?_
            refine z_aload_n dX10_goThrough_155 rfl ?_
            refine m_getr dX10_goThrough_156 fX10_81 sh66 rfl ?_
            refine z_iload_n dX10_goThrough_159 rfl ?_
            refine z_dup2 dX10_goThrough_160 rfl rfl ?_
            refine m_ialdN (j := lf) dX10_goThrough_161 sh89 rfl (by omega) rfl ?_
            refine z_iconst (v := 1) dX10_goThrough_162 rfl ?_
            refine z_iadd dX10_goThrough_163 ?_
            refine m_iastN (j := lf) dX10_goThrough_164 sh89 rfl (by omega) rfl ?_
            refine z_aload_n dX10_goThrough_165 rfl ?_
            refine z_iload_n dX10_goThrough_166 rfl ?_
            refine z_iload dX10_goThrough_167 rfl ?_
            refine z_iload_n dX10_goThrough_169 rfl ?_
            refine z_iload_n dX10_goThrough_170 rfl ?_
            refine z_aload_n dX10_goThrough_171 rfl ?_
            refine m_getr dX10_goThrough_172 fX10_29 sh66 rfl ?_
            refine z_iload_n dX10_goThrough_175 rfl ?_
            refine m_ialdN (j := w) dX10_goThrough_176 sh72 rfl (by omega) rfl ?_
            refine z_iadd dX10_goThrough_177 ?_
            refine m_callVv (As := [.int _, .int _, .int _, .int _]) dX10_goThrough_178 kX10_194 ⟨rfl, rfl⟩ rfl ⟨rfl, rfl⟩ rfl rfl sh66 rfl rfl (c_widen hl hs) (fun μ178 ν178 hk178 => ?_)
            obtain ⟨rfl, rfl⟩ := hk178
            refine z_aload_n dX10_goThrough_181 rfl ?_
            refine m_getr dX10_goThrough_182 fX10_51 sh66 rfl ?_
            refine z_iload_n dX10_goThrough_185 rfl ?_
            refine z_iload_n dX10_goThrough_186 rfl ?_
            refine m_iastN (j := w) dX10_goThrough_187 sh79 rfl (by omega) rfl ?_
            refine z_aload_n dX10_goThrough_188 rfl ?_
            refine m_getr dX10_goThrough_189 fX10_54 sh66 rfl ?_
            refine z_iload_n dX10_goThrough_192 rfl ?_
            refine z_iload_n dX10_goThrough_193 rfl ?_
            refine z_aload_n dX10_goThrough_194 rfl ?_
            refine m_getr dX10_goThrough_195 fX10_29 sh66 rfl ?_
            refine z_iload_n dX10_goThrough_198 rfl ?_
            refine m_ialdN (j := w) dX10_goThrough_199 sh72 rfl (by omega) rfl ?_
            refine z_iadd dX10_goThrough_200 ?_
            refine m_iastN (j := w) dX10_goThrough_201 sh80 rfl (by omega) rfl ?_
            refine m_ret dX10_goThrough_202 rfl ?_
            first | exact (h42 ex6_38).elim | exact absurd (ex6_38.symm.trans h42) (by decide) | exact ⟨by subst_vars; simp only [rThrough, rPass, rKicked, if_neg h24, if_pos h42, if_pos h77, if_pos h100, if_pos h118], rfl⟩
        · skip
          refine z_aload_n dX10_goThrough_103 rfl ?_
          refine m_getr dX10_goThrough_104 fX10_48 sh66 rfl ?_
          refine z_iload_n dX10_goThrough_107 rfl ?_
          refine m_ialdN (j := w) dX10_goThrough_108 sh78 rfl (by omega) rfl ?_
          refine z_goto 114 dX10_goThrough_109 (by decide) ?_
          refine m_iastN (j := w) dX10_goThrough_114 sh78 rfl (by omega) rfl ?_
          refine z_iload dX10_goThrough_115 rfl ?_
          refine z_iconst (v := 3) dX10_goThrough_117 rfl ?_
          refine z_icmp_ne 133 dX10_goThrough_118 (by decide) (fun h118 => ?_) (fun h118 => ?_)
          · skip
            refine z_aload_n dX10_goThrough_133 rfl ?_
            refine m_getr dX10_goThrough_134 fX10_72 sh66 rfl ?_
            refine z_iload_n dX10_goThrough_137 rfl ?_
            refine z_iload_n dX10_goThrough_138 rfl ?_
            refine m_iastN (j := lf) dX10_goThrough_139 sh86 rfl (by omega) rfl ?_
            refine z_aload_n dX10_goThrough_140 rfl ?_
            refine m_getr dX10_goThrough_141 fX10_75 sh66 rfl ?_
            refine z_iload_n dX10_goThrough_144 rfl ?_
            refine z_aload_n dX10_goThrough_145 rfl ?_
            refine m_getr dX10_goThrough_146 fX10_38 sh66 rfl ?_
            refine z_bipush (v := 12) dX10_goThrough_149 rfl ?_
            refine z_iload_n dX10_goThrough_151 rfl ?_
            refine z_iadd dX10_goThrough_152 ?_
            rw [show (12 + nI w) = nI (12 + w) from z6a 12 w]
            refine m_ialdN (j := (12 + w)) dX10_goThrough_153 sh75 rfl (by omega) rfl ?_
            refine m_iastN (j := lf) dX10_goThrough_154 sh87 rfl (by omega) rfl ?_
            refine z_aload_n dX10_goThrough_155 rfl ?_
            refine m_getr dX10_goThrough_156 fX10_81 sh66 rfl ?_
            refine z_iload_n dX10_goThrough_159 rfl ?_
            refine z_dup2 dX10_goThrough_160 rfl rfl ?_
            refine m_ialdN (j := lf) dX10_goThrough_161 sh89 rfl (by omega) rfl ?_
            refine z_iconst (v := 1) dX10_goThrough_162 rfl ?_
            refine z_iadd dX10_goThrough_163 ?_
            refine m_iastN (j := lf) dX10_goThrough_164 sh89 rfl (by omega) rfl ?_
            refine z_aload_n dX10_goThrough_165 rfl ?_
            refine z_iload_n dX10_goThrough_166 rfl ?_
            refine z_iload dX10_goThrough_167 rfl ?_
            refine z_iload_n dX10_goThrough_169 rfl ?_
            refine z_iload_n dX10_goThrough_170 rfl ?_
            refine z_aload_n dX10_goThrough_171 rfl ?_
            refine m_getr dX10_goThrough_172 fX10_29 sh66 rfl ?_
            refine z_iload_n dX10_goThrough_175 rfl ?_
            refine m_ialdN (j := w) dX10_goThrough_176 sh72 rfl (by omega) rfl ?_
            refine z_iadd dX10_goThrough_177 ?_
            refine m_callVv (As := [.int _, .int _, .int _, .int _]) dX10_goThrough_178 kX10_194 ⟨rfl, rfl⟩ rfl ⟨rfl, rfl⟩ rfl rfl sh66 rfl rfl (c_widen hl hs) (fun μ178 ν178 hk178 => ?_)
            obtain ⟨rfl, rfl⟩ := hk178
            refine z_aload_n dX10_goThrough_181 rfl ?_
            refine m_getr dX10_goThrough_182 fX10_51 sh66 rfl ?_
            refine z_iload_n dX10_goThrough_185 rfl ?_
            refine z_iload_n dX10_goThrough_186 rfl ?_
            refine m_iastN (j := w) dX10_goThrough_187 sh79 rfl (by omega) rfl ?_
            refine z_aload_n dX10_goThrough_188 rfl ?_
            refine m_getr dX10_goThrough_189 fX10_54 sh66 rfl ?_
            refine z_iload_n dX10_goThrough_192 rfl ?_
            refine z_iload_n dX10_goThrough_193 rfl ?_
            refine z_aload_n dX10_goThrough_194 rfl ?_
            refine m_getr dX10_goThrough_195 fX10_29 sh66 rfl ?_
            refine z_iload_n dX10_goThrough_198 rfl ?_
            refine m_ialdN (j := w) dX10_goThrough_199 sh72 rfl (by omega) rfl ?_
            refine z_iadd dX10_goThrough_200 ?_
            refine m_iastN (j := w) dX10_goThrough_201 sh80 rfl (by omega) rfl ?_
            refine m_ret dX10_goThrough_202 rfl ?_
            first | exact (h42 ex6_38).elim | exact absurd (ex6_38.symm.trans h42) (by decide) | exact ⟨by subst_vars; simp only [rThrough, rPass, rKicked, if_neg h24, if_pos h42, if_pos h77, if_neg h100, if_neg h118], rfl⟩
          · skip
            refine z_aload_n dX10_goThrough_121 rfl ?_
            refine m_getr dX10_goThrough_122 fX10_48 sh66 rfl ?_
            refine z_iload_n dX10_goThrough_125 rfl ?_
            refine z_iconst (v := 5) dX10_goThrough_126 rfl ?_
            refine m_iastN (j := w) dX10_goThrough_127 sh78 rfl (by omega) rfl ?_
            refine z_aload_n dX10_goThrough_128 rfl ?_
            refine z_iload_n dX10_goThrough_129 rfl ?_
            refine m_callVv (As := [.int _]) dX10_goThrough_130 kX10_190 ⟨rfl, rfl⟩ rfl ⟨rfl, rfl⟩ rfl rfl sh66 rfl rfl (c_lose hw) (fun μ130 ν130 hk130 => ?_)
            obtain ⟨rfl, rfl⟩ := hk130
            refine z_aload_n dX10_goThrough_133 rfl ?_
            refine m_getr dX10_goThrough_134 fX10_72 sh66 rfl ?_
            refine z_iload_n dX10_goThrough_137 rfl ?_
            refine z_iload_n dX10_goThrough_138 rfl ?_
            refine m_iastN (j := lf) dX10_goThrough_139 sh86 rfl (by omega) rfl ?_
            refine z_aload_n dX10_goThrough_140 rfl ?_
            refine m_getr dX10_goThrough_141 fX10_75 sh66 rfl ?_
            refine z_iload_n dX10_goThrough_144 rfl ?_
            refine z_aload_n dX10_goThrough_145 rfl ?_
            refine m_getr dX10_goThrough_146 fX10_38 sh66 rfl ?_
            refine z_bipush (v := 12) dX10_goThrough_149 rfl ?_
            refine z_iload_n dX10_goThrough_151 rfl ?_
            refine z_iadd dX10_goThrough_152 ?_
            rw [show (12 + nI w) = nI (12 + w) from z6a 12 w]
            refine m_ialdN (j := (12 + w)) dX10_goThrough_153 sh75 rfl (by omega) rfl ?_
            refine m_iastN (j := lf) dX10_goThrough_154 sh87 rfl (by omega) rfl ?_
            refine z_aload_n dX10_goThrough_155 rfl ?_
            refine m_getr dX10_goThrough_156 fX10_81 sh66 rfl ?_
            refine z_iload_n dX10_goThrough_159 rfl ?_
            refine z_dup2 dX10_goThrough_160 rfl rfl ?_
            refine m_ialdN (j := lf) dX10_goThrough_161 sh89 rfl (by omega) rfl ?_
            refine z_iconst (v := 1) dX10_goThrough_162 rfl ?_
            refine z_iadd dX10_goThrough_163 ?_
            refine m_iastN (j := lf) dX10_goThrough_164 sh89 rfl (by omega) rfl ?_
            refine z_aload_n dX10_goThrough_165 rfl ?_
            refine z_iload_n dX10_goThrough_166 rfl ?_
            refine z_iload dX10_goThrough_167 rfl ?_
            refine z_iload_n dX10_goThrough_169 rfl ?_
            refine z_iload_n dX10_goThrough_170 rfl ?_
            refine z_aload_n dX10_goThrough_171 rfl ?_
            refine m_getr dX10_goThrough_172 fX10_29 sh66 rfl ?_
            refine z_iload_n dX10_goThrough_175 rfl ?_
            refine m_ialdN (j := w) dX10_goThrough_176 sh72 rfl (by omega) rfl ?_
            refine z_iadd dX10_goThrough_177 ?_
            refine m_callVv (As := [.int _, .int _, .int _, .int _]) dX10_goThrough_178 kX10_194 ⟨rfl, rfl⟩ rfl ⟨rfl, rfl⟩ rfl rfl sh66 rfl rfl (c_widen hl hs) (fun μ178 ν178 hk178 => ?_)
            obtain ⟨rfl, rfl⟩ := hk178
            refine z_aload_n dX10_goThrough_181 rfl ?_
            refine m_getr dX10_goThrough_182 fX10_51 sh66 rfl ?_
            refine z_iload_n dX10_goThrough_185 rfl ?_
            refine z_iload_n dX10_goThrough_186 rfl ?_
            refine m_iastN (j := w) dX10_goThrough_187 sh79 rfl (by omega) rfl ?_
            refine z_aload_n dX10_goThrough_188 rfl ?_
            refine m_getr dX10_goThrough_189 fX10_54 sh66 rfl ?_
            refine z_iload_n dX10_goThrough_192 rfl ?_
            refine z_iload_n dX10_goThrough_193 rfl ?_
            refine z_aload_n dX10_goThrough_194 rfl ?_
            refine m_getr dX10_goThrough_195 fX10_29 sh66 rfl ?_
            refine z_iload_n dX10_goThrough_198 rfl ?_
            refine m_ialdN (j := w) dX10_goThrough_199 sh72 rfl (by omega) rfl ?_
            refine z_iadd dX10_goThrough_200 ?_
            refine m_iastN (j := w) dX10_goThrough_201 sh80 rfl (by omega) rfl ?_
            refine m_ret dX10_goThrough_202 rfl ?_
            first | exact (h42 ex6_38).elim | exact absurd (ex6_38.symm.trans h42) (by decide) | exact ⟨by subst_vars; simp only [rThrough, rPass, rKicked, if_neg h24, if_pos h42, if_pos h77, if_neg h100, if_pos h118], rfl⟩
    · skip
      refine z_aload_n dX10_goThrough_45 rfl ?_
      refine m_getr dX10_goThrough_46 fX10_48 sh66 rfl ?_
      refine z_iload_n dX10_goThrough_49 rfl ?_
      refine z_aload_n dX10_goThrough_50 rfl ?_
      refine m_getr dX10_goThrough_51 fX10_48 sh66 rfl ?_
      refine z_iload_n dX10_goThrough_54 rfl ?_
      refine m_ialdN (j := w) dX10_goThrough_55 sh78 rfl (by omega) rfl ?_
      refine z_iconst (v := 1) dX10_goThrough_56 rfl ?_
      refine z_icmp_le 69 dX10_goThrough_57 (by decide) (fun h57 => ?_) (fun h57 => ?_)
      · skip
        refine z_iconst (v := 1) dX10_goThrough_69 rfl ?_
        refine m_iastN (j := w) dX10_goThrough_70 sh78 rfl (by omega) rfl ?_
        refine z_goto 165 dX10_goThrough_71 (by decide) ?_
        refine z_aload_n dX10_goThrough_165 rfl ?_
        refine z_iload_n dX10_goThrough_166 rfl ?_
        refine z_iload dX10_goThrough_167 rfl ?_
        refine z_iload_n dX10_goThrough_169 rfl ?_
        refine z_iload_n dX10_goThrough_170 rfl ?_
        refine z_aload_n dX10_goThrough_171 rfl ?_
        refine m_getr dX10_goThrough_172 fX10_29 sh66 rfl ?_
        refine z_iload_n dX10_goThrough_175 rfl ?_
        refine m_ialdN (j := w) dX10_goThrough_176 sh72 rfl (by omega) rfl ?_
        refine z_iadd dX10_goThrough_177 ?_
        refine m_callVv (As := [.int _, .int _, .int _, .int _]) dX10_goThrough_178 kX10_194 ⟨rfl, rfl⟩ rfl ⟨rfl, rfl⟩ rfl rfl sh66 rfl rfl (c_widen hl hs) (fun μ178 ν178 hk178 => ?_)
        obtain ⟨rfl, rfl⟩ := hk178
        refine z_aload_n dX10_goThrough_181 rfl ?_
        refine m_getr dX10_goThrough_182 fX10_51 sh66 rfl ?_
        refine z_iload_n dX10_goThrough_185 rfl ?_
        refine z_iload_n dX10_goThrough_186 rfl ?_
        refine m_iastN (j := w) dX10_goThrough_187 sh79 rfl (by omega) rfl ?_
        refine z_aload_n dX10_goThrough_188 rfl ?_
        refine m_getr dX10_goThrough_189 fX10_54 sh66 rfl ?_
        refine z_iload_n dX10_goThrough_192 rfl ?_
        refine z_iload_n dX10_goThrough_193 rfl ?_
        refine z_aload_n dX10_goThrough_194 rfl ?_
        refine m_getr dX10_goThrough_195 fX10_29 sh66 rfl ?_
        refine z_iload_n dX10_goThrough_198 rfl ?_
        refine m_ialdN (j := w) dX10_goThrough_199 sh72 rfl (by omega) rfl ?_
        refine z_iadd dX10_goThrough_200 ?_
        refine m_iastN (j := w) dX10_goThrough_201 sh80 rfl (by omega) rfl ?_
        refine m_ret dX10_goThrough_202 rfl ?_
        first | exact (h42 ex6_38).elim | exact absurd (ex6_38.symm.trans h42) (by decide) | exact ⟨by subst_vars; simp only [rThrough, rPass, rKicked, if_neg h24, if_neg h42, if_pos h57], rfl⟩
      · skip
        refine z_aload_n dX10_goThrough_60 rfl ?_
        refine m_getr dX10_goThrough_61 fX10_48 sh66 rfl ?_
        refine z_iload_n dX10_goThrough_64 rfl ?_
        refine m_ialdN (j := w) dX10_goThrough_65 sh78 rfl (by omega) rfl ?_
        refine z_goto 70 dX10_goThrough_66 (by decide) ?_
        refine m_iastN (j := w) dX10_goThrough_70 sh78 rfl (by omega) rfl ?_
        refine z_goto 165 dX10_goThrough_71 (by decide) ?_
        refine z_aload_n dX10_goThrough_165 rfl ?_
        refine z_iload_n dX10_goThrough_166 rfl ?_
        refine z_iload dX10_goThrough_167 rfl ?_
        refine z_iload_n dX10_goThrough_169 rfl ?_
        refine z_iload_n dX10_goThrough_170 rfl ?_
        refine z_aload_n dX10_goThrough_171 rfl ?_
        refine m_getr dX10_goThrough_172 fX10_29 sh66 rfl ?_
        refine z_iload_n dX10_goThrough_175 rfl ?_
        refine m_ialdN (j := w) dX10_goThrough_176 sh72 rfl (by omega) rfl ?_
        refine z_iadd dX10_goThrough_177 ?_
        refine m_callVv (As := [.int _, .int _, .int _, .int _]) dX10_goThrough_178 kX10_194 ⟨rfl, rfl⟩ rfl ⟨rfl, rfl⟩ rfl rfl sh66 rfl rfl (c_widen hl hs) (fun μ178 ν178 hk178 => ?_)
        obtain ⟨rfl, rfl⟩ := hk178
        refine z_aload_n dX10_goThrough_181 rfl ?_
        refine m_getr dX10_goThrough_182 fX10_51 sh66 rfl ?_
        refine z_iload_n dX10_goThrough_185 rfl ?_
        refine z_iload_n dX10_goThrough_186 rfl ?_
        refine m_iastN (j := w) dX10_goThrough_187 sh79 rfl (by omega) rfl ?_
        refine z_aload_n dX10_goThrough_188 rfl ?_
        refine m_getr dX10_goThrough_189 fX10_54 sh66 rfl ?_
        refine z_iload_n dX10_goThrough_192 rfl ?_
        refine z_iload_n dX10_goThrough_193 rfl ?_
        refine z_aload_n dX10_goThrough_194 rfl ?_
        refine m_getr dX10_goThrough_195 fX10_29 sh66 rfl ?_
        refine z_iload_n dX10_goThrough_198 rfl ?_
        refine m_ialdN (j := w) dX10_goThrough_199 sh72 rfl (by omega) rfl ?_
        refine z_iadd dX10_goThrough_200 ?_
        refine m_iastN (j := w) dX10_goThrough_201 sh80 rfl (by omega) rfl ?_
        refine m_ret dX10_goThrough_202 rfl ?_
        first | exact (h42 ex6_38).elim | exact absurd (ex6_38.symm.trans h42) (by decide) | exact ⟨by subst_vars; simp only [rThrough, rPass, rKicked, if_neg h24, if_neg h42, if_neg h57], rfl⟩
  · skip
    refine z_iload dX10_goThrough_27 rfl ?_
    refine z_iconst (v := 2) dX10_goThrough_29 rfl ?_
    refine z_icmp_ne 37 dX10_goThrough_30 (by decide) (fun h30 => ?_) (fun h30 => ?_)
    · skip
      refine z_iconst (v := 0) dX10_goThrough_37 rfl ?_
      refine z_istore (i := 6) (fun y => [(6, .int y), (5, .int (rSwing μ lf t)), (4, .int (nI s)), (0, .ref 66), (1, .int (nI w)), (2, .int (nI lf)), (3, .int t)]) dX10_goThrough_38 rfl (fun _ => rfl) (fun x6_38 ex6_38 => ?_)
      refine z_iload dX10_goThrough_40 rfl ?_
      refine z_if_eq 74 dX10_goThrough_42 (by decide) (fun h42 => ?_) (fun h42 => ?_)
      · skip
        refine z_iload_n dX10_goThrough_74 rfl ?_
        refine z_iload dX10_goThrough_75 rfl ?_
        refine z_icmp_ne 84 dX10_goThrough_77 (by decide) (fun h77 => ?_) (fun h77 => ?_)
        · skip
          refine z_iconst (v := 2) dX10_goThrough_84 rfl ?_
          refine z_istore (i := 7) (fun y => [(7, .int y), (6, .int x6_38), (5, .int (rSwing μ lf t)), (4, .int (nI s)), (0, .ref 66), (1, .int (nI w)), (2, .int (nI lf)), (3, .int t)]) dX10_goThrough_85 rfl (fun _ => rfl) (fun x7_85 ex7_85 => ?_)
          refine z_aload_n dX10_goThrough_87 rfl ?_
          refine m_getr dX10_goThrough_88 fX10_48 sh66 rfl ?_
          refine z_iload_n dX10_goThrough_91 rfl ?_
          refine z_aload_n dX10_goThrough_92 rfl ?_
          refine m_getr dX10_goThrough_93 fX10_48 sh66 rfl ?_
          refine z_iload_n dX10_goThrough_96 rfl ?_
          refine m_ialdN (j := w) dX10_goThrough_97 sh78 rfl (by omega) rfl ?_
          refine z_iload dX10_goThrough_98 rfl ?_
          refine z_icmp_le 112 dX10_goThrough_100 (by decide) (fun h100 => ?_) (fun h100 => ?_)
          · skip
            refine z_iload dX10_goThrough_112 rfl ?_
            refine m_iastN (j := w) dX10_goThrough_114 sh78 rfl (by omega) rfl ?_
            refine z_iload dX10_goThrough_115 rfl ?_
            refine z_iconst (v := 3) dX10_goThrough_117 rfl ?_
            refine z_icmp_ne 133 dX10_goThrough_118 (by decide) (fun h118 => ?_) (fun h118 => ?_)
            · skip
              refine z_aload_n dX10_goThrough_133 rfl ?_
              refine m_getr dX10_goThrough_134 fX10_72 sh66 rfl ?_
              refine z_iload_n dX10_goThrough_137 rfl ?_
              refine z_iload_n dX10_goThrough_138 rfl ?_
              refine m_iastN (j := lf) dX10_goThrough_139 sh86 rfl (by omega) rfl ?_
              refine z_aload_n dX10_goThrough_140 rfl ?_
              refine m_getr dX10_goThrough_141 fX10_75 sh66 rfl ?_
              refine z_iload_n dX10_goThrough_144 rfl ?_
              refine z_aload_n dX10_goThrough_145 rfl ?_
              refine m_getr dX10_goThrough_146 fX10_38 sh66 rfl ?_
              refine z_bipush (v := 12) dX10_goThrough_149 rfl ?_
              refine z_iload_n dX10_goThrough_151 rfl ?_
              refine z_iadd dX10_goThrough_152 ?_
              rw [show (12 + nI w) = nI (12 + w) from z6a 12 w]
              refine m_ialdN (j := (12 + w)) dX10_goThrough_153 sh75 rfl (by omega) rfl ?_
              refine m_iastN (j := lf) dX10_goThrough_154 sh87 rfl (by omega) rfl ?_
              refine z_aload_n dX10_goThrough_155 rfl ?_
              refine m_getr dX10_goThrough_156 fX10_81 sh66 rfl ?_
              refine z_iload_n dX10_goThrough_159 rfl ?_
              refine z_dup2 dX10_goThrough_160 rfl rfl ?_
              refine m_ialdN (j := lf) dX10_goThrough_161 sh89 rfl (by omega) rfl ?_
              refine z_iconst (v := 1) dX10_goThrough_162 rfl ?_
              refine z_iadd dX10_goThrough_163 ?_
              refine m_iastN (j := lf) dX10_goThrough_164 sh89 rfl (by omega) rfl ?_
              refine z_aload_n dX10_goThrough_165 rfl ?_
              refine z_iload_n dX10_goThrough_166 rfl ?_
              refine z_iload dX10_goThrough_167 rfl ?_
              refine z_iload_n dX10_goThrough_169 rfl ?_
              refine z_iload_n dX10_goThrough_170 rfl ?_
              refine z_aload_n dX10_goThrough_171 rfl ?_
              refine m_getr dX10_goThrough_172 fX10_29 sh66 rfl ?_
              refine z_iload_n dX10_goThrough_175 rfl ?_
              refine m_ialdN (j := w) dX10_goThrough_176 sh72 rfl (by omega) rfl ?_
              refine z_iadd dX10_goThrough_177 ?_
              refine m_callVv (As := [.int _, .int _, .int _, .int _]) dX10_goThrough_178 kX10_194 ⟨rfl, rfl⟩ rfl ⟨rfl, rfl⟩ rfl rfl sh66 rfl rfl (c_widen hl hs) (fun μ178 ν178 hk178 => ?_)
              obtain ⟨rfl, rfl⟩ := hk178
              refine z_aload_n dX10_goThrough_181 rfl ?_
              refine m_getr dX10_goThrough_182 fX10_51 sh66 rfl ?_
              refine z_iload_n dX10_goThrough_185 rfl ?_
              refine z_iload_n dX10_goThrough_186 rfl ?_
              refine m_iastN (j := w) dX10_goThrough_187 sh79 rfl (by omega) rfl ?_
              refine z_aload_n dX10_goThrough_188 rfl ?_
              refine m_getr dX10_goThrough_189 fX10_54 sh66 rfl ?_
              refine z_iload_n dX10_goThrough_192 rfl ?_
              refine z_iload_n dX10_goThrough_193 rfl ?_
              refine z_aload_n dX10_goThrough_194 rfl ?_
              refine m_getr dX10_goThrough_195 fX10_29 sh66 rfl ?_
              refine z_iload_n dX10_goThrough_198 rfl ?_
              refine m_ialdN (j := w) dX10_goThrough_199 sh72 rfl (by omega) rfl ?_
              refine z_iadd dX10_goThrough_200 ?_
              refine m_iastN (j := w) dX10_goThrough_201 sh80 rfl (by omega) rfl ?_
              refine m_ret dX10_goThrough_202 rfl ?_
              first | exact (h42 ex6_38).elim | exact absurd (ex6_38.symm.trans h42) (by decide) | exact ⟨by subst_vars; simp only [rThrough, rPass, rKicked, if_pos h24, if_neg h30, if_pos h42, if_neg h77, if_pos h100, if_neg h118], rfl⟩
            · skip
              refine z_aload_n dX10_goThrough_121 rfl ?_
              refine m_getr dX10_goThrough_122 fX10_48 sh66 rfl ?_
              refine z_iload_n dX10_goThrough_125 rfl ?_
              refine z_iconst (v := 5) dX10_goThrough_126 rfl ?_
              refine m_iastN (j := w) dX10_goThrough_127 sh78 rfl (by omega) rfl ?_
              refine z_aload_n dX10_goThrough_128 rfl ?_
              refine z_iload_n dX10_goThrough_129 rfl ?_
              refine m_callVv (As := [.int _]) dX10_goThrough_130 kX10_190 ⟨rfl, rfl⟩ rfl ⟨rfl, rfl⟩ rfl rfl sh66 rfl rfl (c_lose hw) (fun μ130 ν130 hk130 => ?_)
              obtain ⟨rfl, rfl⟩ := hk130
              refine z_aload_n dX10_goThrough_133 rfl ?_
              refine m_getr dX10_goThrough_134 fX10_72 sh66 rfl ?_
              refine z_iload_n dX10_goThrough_137 rfl ?_
              refine z_iload_n dX10_goThrough_138 rfl ?_
              refine m_iastN (j := lf) dX10_goThrough_139 sh86 rfl (by omega) rfl ?_
              refine z_aload_n dX10_goThrough_140 rfl ?_
              refine m_getr dX10_goThrough_141 fX10_75 sh66 rfl ?_
              refine z_iload_n dX10_goThrough_144 rfl ?_
              refine z_aload_n dX10_goThrough_145 rfl ?_
              refine m_getr dX10_goThrough_146 fX10_38 sh66 rfl ?_
              refine z_bipush (v := 12) dX10_goThrough_149 rfl ?_
              refine z_iload_n dX10_goThrough_151 rfl ?_
              refine z_iadd dX10_goThrough_152 ?_
              rw [show (12 + nI w) = nI (12 + w) from z6a 12 w]
              refine m_ialdN (j := (12 + w)) dX10_goThrough_153 sh75 rfl (by omega) rfl ?_
              refine m_iastN (j := lf) dX10_goThrough_154 sh87 rfl (by omega) rfl ?_
              refine z_aload_n dX10_goThrough_155 rfl ?_
              refine m_getr dX10_goThrough_156 fX10_81 sh66 rfl ?_
              refine z_iload_n dX10_goThrough_159 rfl ?_
              refine z_dup2 dX10_goThrough_160 rfl rfl ?_
              refine m_ialdN (j := lf) dX10_goThrough_161 sh89 rfl (by omega) rfl ?_
              refine z_iconst (v := 1) dX10_goThrough_162 rfl ?_
              refine z_iadd dX10_goThrough_163 ?_
              refine m_iastN (j := lf) dX10_goThrough_164 sh89 rfl (by omega) rfl ?_
              refine z_aload_n dX10_goThrough_165 rfl ?_
              refine z_iload_n dX10_goThrough_166 rfl ?_
              refine z_iload dX10_goThrough_167 rfl ?_
              refine z_iload_n dX10_goThrough_169 rfl ?_
              refine z_iload_n dX10_goThrough_170 rfl ?_
              refine z_aload_n dX10_goThrough_171 rfl ?_
              refine m_getr dX10_goThrough_172 fX10_29 sh66 rfl ?_
              refine z_iload_n dX10_goThrough_175 rfl ?_
              refine m_ialdN (j := w) dX10_goThrough_176 sh72 rfl (by omega) rfl ?_
              refine z_iadd dX10_goThrough_177 ?_
              refine m_callVv (As := [.int _, .int _, .int _, .int _]) dX10_goThrough_178 kX10_194 ⟨rfl, rfl⟩ rfl ⟨rfl, rfl⟩ rfl rfl sh66 rfl rfl (c_widen hl hs) (fun μ178 ν178 hk178 => ?_)
              obtain ⟨rfl, rfl⟩ := hk178
              refine z_aload_n dX10_goThrough_181 rfl ?_
              refine m_getr dX10_goThrough_182 fX10_51 sh66 rfl ?_
              refine z_iload_n dX10_goThrough_185 rfl ?_
              refine z_iload_n dX10_goThrough_186 rfl ?_
              refine m_iastN (j := w) dX10_goThrough_187 sh79 rfl (by omega) rfl ?_
              refine z_aload_n dX10_goThrough_188 rfl ?_
              refine m_getr dX10_goThrough_189 fX10_54 sh66 rfl ?_
              refine z_iload_n dX10_goThrough_192 rfl ?_
              refine z_iload_n dX10_goThrough_193 rfl ?_
              refine z_aload_n dX10_goThrough_194 rfl ?_
              refine m_getr dX10_goThrough_195 fX10_29 sh66 rfl ?_
              refine z_iload_n dX10_goThrough_198 rfl ?_
              refine m_ialdN (j := w) dX10_goThrough_199 sh72 rfl (by omega) rfl ?_
              refine z_iadd dX10_goThrough_200 ?_
              refine m_iastN (j := w) dX10_goThrough_201 sh80 rfl (by omega) rfl ?_
              refine m_ret dX10_goThrough_202 rfl ?_
              first | exact (h42 ex6_38).elim | exact absurd (ex6_38.symm.trans h42) (by decide) | exact ⟨by subst_vars; simp only [rThrough, rPass, rKicked, if_pos h24, if_neg h30, if_pos h42, if_neg h77, if_pos h100, if_pos h118], rfl⟩
          · skip
            refine z_aload_n dX10_goThrough_103 rfl ?_
            refine m_getr dX10_goThrough_104 fX10_48 sh66 rfl ?_
            refine z_iload_n dX10_goThrough_107 rfl ?_
            refine m_ialdN (j := w) dX10_goThrough_108 sh78 rfl (by omega) rfl ?_
            refine z_goto 114 dX10_goThrough_109 (by decide) ?_
            refine m_iastN (j := w) dX10_goThrough_114 sh78 rfl (by omega) rfl ?_
            refine z_iload dX10_goThrough_115 rfl ?_
            refine z_iconst (v := 3) dX10_goThrough_117 rfl ?_
            refine z_icmp_ne 133 dX10_goThrough_118 (by decide) (fun h118 => ?_) (fun h118 => ?_)
            · skip
              refine z_aload_n dX10_goThrough_133 rfl ?_
              refine m_getr dX10_goThrough_134 fX10_72 sh66 rfl ?_
              refine z_iload_n dX10_goThrough_137 rfl ?_
              refine z_iload_n dX10_goThrough_138 rfl ?_
              refine m_iastN (j := lf) dX10_goThrough_139 sh86 rfl (by omega) rfl ?_
              refine z_aload_n dX10_goThrough_140 rfl ?_
              refine m_getr dX10_goThrough_141 fX10_75 sh66 rfl ?_
              refine z_iload_n dX10_goThrough_144 rfl ?_
              refine z_aload_n dX10_goThrough_145 rfl ?_
              refine m_getr dX10_goThrough_146 fX10_38 sh66 rfl ?_
              refine z_bipush (v := 12) dX10_goThrough_149 rfl ?_
              refine z_iload_n dX10_goThrough_151 rfl ?_
              refine z_iadd dX10_goThrough_152 ?_
              rw [show (12 + nI w) = nI (12 + w) from z6a 12 w]
              refine m_ialdN (j := (12 + w)) dX10_goThrough_153 sh75 rfl (by omega) rfl ?_
              refine m_iastN (j := lf) dX10_goThrough_154 sh87 rfl (by omega) rfl ?_
              refine z_aload_n dX10_goThrough_155 rfl ?_
              refine m_getr dX10_goThrough_156 fX10_81 sh66 rfl ?_
              refine z_iload_n dX10_goThrough_159 rfl ?_
              refine z_dup2 dX10_goThrough_160 rfl rfl ?_
              refine m_ialdN (j := lf) dX10_goThrough_161 sh89 rfl (by omega) rfl ?_
              refine z_iconst (v := 1) dX10_goThrough_162 rfl ?_
              refine z_iadd dX10_goThrough_163 ?_
              refine m_iastN (j := lf) dX10_goThrough_164 sh89 rfl (by omega) rfl ?_
              refine z_aload_n dX10_goThrough_165 rfl ?_
              refine z_iload_n dX10_goThrough_166 rfl ?_
              refine z_iload dX10_goThrough_167 rfl ?_
              refine z_iload_n dX10_goThrough_169 rfl ?_
              refine z_iload_n dX10_goThrough_170 rfl ?_
              refine z_aload_n dX10_goThrough_171 rfl ?_
              refine m_getr dX10_goThrough_172 fX10_29 sh66 rfl ?_
              refine z_iload_n dX10_goThrough_175 rfl ?_
              refine m_ialdN (j := w) dX10_goThrough_176 sh72 rfl (by omega) rfl ?_
              refine z_iadd dX10_goThrough_177 ?_
              refine m_callVv (As := [.int _, .int _, .int _, .int _]) dX10_goThrough_178 kX10_194 ⟨rfl, rfl⟩ rfl ⟨rfl, rfl⟩ rfl rfl sh66 rfl rfl (c_widen hl hs) (fun μ178 ν178 hk178 => ?_)
              obtain ⟨rfl, rfl⟩ := hk178
              refine z_aload_n dX10_goThrough_181 rfl ?_
              refine m_getr dX10_goThrough_182 fX10_51 sh66 rfl ?_
              refine z_iload_n dX10_goThrough_185 rfl ?_
              refine z_iload_n dX10_goThrough_186 rfl ?_
              refine m_iastN (j := w) dX10_goThrough_187 sh79 rfl (by omega) rfl ?_
              refine z_aload_n dX10_goThrough_188 rfl ?_
              refine m_getr dX10_goThrough_189 fX10_54 sh66 rfl ?_
              refine z_iload_n dX10_goThrough_192 rfl ?_
              refine z_iload_n dX10_goThrough_193 rfl ?_
              refine z_aload_n dX10_goThrough_194 rfl ?_
              refine m_getr dX10_goThrough_195 fX10_29 sh66 rfl ?_
              refine z_iload_n dX10_goThrough_198 rfl ?_
              refine m_ialdN (j := w) dX10_goThrough_199 sh72 rfl (by omega) rfl ?_
              refine z_iadd dX10_goThrough_200 ?_
              refine m_iastN (j := w) dX10_goThrough_201 sh80 rfl (by omega) rfl ?_
              refine m_ret dX10_goThrough_202 rfl ?_
              first | exact (h42 ex6_38).elim | exact absurd (ex6_38.symm.trans h42) (by decide) | exact ⟨by subst_vars; simp only [rThrough, rPass, rKicked, if_pos h24, if_neg h30, if_pos h42, if_neg h77, if_neg h100, if_neg h118], rfl⟩
            · skip
              refine z_aload_n dX10_goThrough_121 rfl ?_
              refine m_getr dX10_goThrough_122 fX10_48 sh66 rfl ?_
              refine z_iload_n dX10_goThrough_125 rfl ?_
              refine z_iconst (v := 5) dX10_goThrough_126 rfl ?_
              refine m_iastN (j := w) dX10_goThrough_127 sh78 rfl (by omega) rfl ?_
              refine z_aload_n dX10_goThrough_128 rfl ?_
              refine z_iload_n dX10_goThrough_129 rfl ?_
              refine m_callVv (As := [.int _]) dX10_goThrough_130 kX10_190 ⟨rfl, rfl⟩ rfl ⟨rfl, rfl⟩ rfl rfl sh66 rfl rfl (c_lose hw) (fun μ130 ν130 hk130 => ?_)
              obtain ⟨rfl, rfl⟩ := hk130
              refine z_aload_n dX10_goThrough_133 rfl ?_
              refine m_getr dX10_goThrough_134 fX10_72 sh66 rfl ?_
              refine z_iload_n dX10_goThrough_137 rfl ?_
              refine z_iload_n dX10_goThrough_138 rfl ?_
              refine m_iastN (j := lf) dX10_goThrough_139 sh86 rfl (by omega) rfl ?_
              refine z_aload_n dX10_goThrough_140 rfl ?_
              refine m_getr dX10_goThrough_141 fX10_75 sh66 rfl ?_
              refine z_iload_n dX10_goThrough_144 rfl ?_
              refine z_aload_n dX10_goThrough_145 rfl ?_
              refine m_getr dX10_goThrough_146 fX10_38 sh66 rfl ?_
              refine z_bipush (v := 12) dX10_goThrough_149 rfl ?_
              refine z_iload_n dX10_goThrough_151 rfl ?_
              refine z_iadd dX10_goThrough_152 ?_
              rw [show (12 + nI w) = nI (12 + w) from z6a 12 w]
              refine m_ialdN (j := (12 + w)) dX10_goThrough_153 sh75 rfl (by omega) rfl ?_
              refine m_iastN (j := lf) dX10_goThrough_154 sh87 rfl (by omega) rfl ?_
              refine z_aload_n dX10_goThrough_155 rfl ?_
              refine m_getr dX10_goThrough_156 fX10_81 sh66 rfl ?_
              refine z_iload_n dX10_goThrough_159 rfl ?_
              refine z_dup2 dX10_goThrough_160 rfl rfl ?_
              refine m_ialdN (j := lf) dX10_goThrough_161 sh89 rfl (by omega) rfl ?_
              refine z_iconst (v := 1) dX10_goThrough_162 rfl ?_
              refine z_iadd dX10_goThrough_163 ?_
              refine m_iastN (j := lf) dX10_goThrough_164 sh89 rfl (by omega) rfl ?_
              refine z_aload_n dX10_goThrough_165 rfl ?_
              refine z_iload_n dX10_goThrough_166 rfl ?_
              refine z_iload dX10_goThrough_167 rfl ?_
              refine z_iload_n dX10_goThrough_169 rfl ?_
              refine z_iload_n dX10_goThrough_170 rfl ?_
              refine z_aload_n dX10_goThrough_171 rfl ?_
              refine m_getr dX10_goThrough_172 fX10_29 sh66 rfl ?_
              refine z_iload_n dX10_goThrough_175 rfl ?_
              refine m_ialdN (j := w) dX10_goThrough_176 sh72 rfl (by omega) rfl ?_
              refine z_iadd dX10_goThrough_177 ?_
              refine m_callVv (As := [.int _, .int _, .int _, .int _]) dX10_goThrough_178 kX10_194 ⟨rfl, rfl⟩ rfl ⟨rfl, rfl⟩ rfl rfl sh66 rfl rfl (c_widen hl hs) (fun μ178 ν178 hk178 => ?_)
              obtain ⟨rfl, rfl⟩ := hk178
              refine z_aload_n dX10_goThrough_181 rfl ?_
              refine m_getr dX10_goThrough_182 fX10_51 sh66 rfl ?_
              refine z_iload_n dX10_goThrough_185 rfl ?_
              refine z_iload_n dX10_goThrough_186 rfl ?_
              refine m_iastN (j := w) dX10_goThrough_187 sh79 rfl (by omega) rfl ?_
              refine z_aload_n dX10_goThrough_188 rfl ?_
              refine m_getr dX10_goThrough_189 fX10_54 sh66 rfl ?_
              refine z_iload_n dX10_goThrough_192 rfl ?_
              refine z_iload_n dX10_goThrough_193 rfl ?_
              refine z_aload_n dX10_goThrough_194 rfl ?_
              refine m_getr dX10_goThrough_195 fX10_29 sh66 rfl ?_
              refine z_iload_n dX10_goThrough_198 rfl ?_
              refine m_ialdN (j := w) dX10_goThrough_199 sh72 rfl (by omega) rfl ?_
              refine z_iadd dX10_goThrough_200 ?_
              refine m_iastN (j := w) dX10_goThrough_201 sh80 rfl (by omega) rfl ?_
              refine m_ret dX10_goThrough_202 rfl ?_
              first | exact (h42 ex6_38).elim | exact absurd (ex6_38.symm.trans h42) (by decide) | exact ⟨by subst_vars; simp only [rThrough, rPass, rKicked, if_pos h24, if_neg h30, if_pos h42, if_neg h77, if_neg h100, if_pos h118], rfl⟩
        · skip
          refine z_iconst (v := 0) dX10_goThrough_80 rfl ?_
          refine z_goto 85 dX10_goThrough_81 (by decide) ?_
          refine z_istore (i := 7) (fun y => [(7, .int y), (6, .int x6_38), (5, .int (rSwing μ lf t)), (4, .int (nI s)), (0, .ref 66), (1, .int (nI w)), (2, .int (nI lf)), (3, .int t)]) dX10_goThrough_85 rfl (fun _ => rfl) (fun x7_85 ex7_85 => ?_)
          refine z_aload_n dX10_goThrough_87 rfl ?_
          refine m_getr dX10_goThrough_88 fX10_48 sh66 rfl ?_
          refine z_iload_n dX10_goThrough_91 rfl ?_
          refine z_aload_n dX10_goThrough_92 rfl ?_
          refine m_getr dX10_goThrough_93 fX10_48 sh66 rfl ?_
          refine z_iload_n dX10_goThrough_96 rfl ?_
          refine m_ialdN (j := w) dX10_goThrough_97 sh78 rfl (by omega) rfl ?_
          refine z_iload dX10_goThrough_98 rfl ?_
          refine z_icmp_le 112 dX10_goThrough_100 (by decide) (fun h100 => ?_) (fun h100 => ?_)
          · skip
            refine z_iload dX10_goThrough_112 rfl ?_
            refine m_iastN (j := w) dX10_goThrough_114 sh78 rfl (by omega) rfl ?_
            refine z_iload dX10_goThrough_115 rfl ?_
            refine z_iconst (v := 3) dX10_goThrough_117 rfl ?_
            refine z_icmp_ne 133 dX10_goThrough_118 (by decide) (fun h118 => ?_) (fun h118 => ?_)
            · skip
              refine z_aload_n dX10_goThrough_133 rfl ?_
              refine m_getr dX10_goThrough_134 fX10_72 sh66 rfl ?_
              refine z_iload_n dX10_goThrough_137 rfl ?_
              refine z_iload_n dX10_goThrough_138 rfl ?_
              refine m_iastN (j := lf) dX10_goThrough_139 sh86 rfl (by omega) rfl ?_
              refine z_aload_n dX10_goThrough_140 rfl ?_
              refine m_getr dX10_goThrough_141 fX10_75 sh66 rfl ?_
              refine z_iload_n dX10_goThrough_144 rfl ?_
              refine z_aload_n dX10_goThrough_145 rfl ?_
              refine m_getr dX10_goThrough_146 fX10_38 sh66 rfl ?_
              refine z_bipush (v := 12) dX10_goThrough_149 rfl ?_
              refine z_iload_n dX10_goThrough_151 rfl ?_
              refine z_iadd dX10_goThrough_152 ?_
              rw [show (12 + nI w) = nI (12 + w) from z6a 12 w]
              refine m_ialdN (j := (12 + w)) dX10_goThrough_153 sh75 rfl (by omega) rfl ?_
              refine m_iastN (j := lf) dX10_goThrough_154 sh87 rfl (by omega) rfl ?_
              refine z_aload_n dX10_goThrough_155 rfl ?_
              refine m_getr dX10_goThrough_156 fX10_81 sh66 rfl ?_
              refine z_iload_n dX10_goThrough_159 rfl ?_
              refine z_dup2 dX10_goThrough_160 rfl rfl ?_
              refine m_ialdN (j := lf) dX10_goThrough_161 sh89 rfl (by omega) rfl ?_
              refine z_iconst (v := 1) dX10_goThrough_162 rfl ?_
              refine z_iadd dX10_goThrough_163 ?_
              refine m_iastN (j := lf) dX10_goThrough_164 sh89 rfl (by omega) rfl ?_
              refine z_aload_n dX10_goThrough_165 rfl ?_
              refine z_iload_n dX10_goThrough_166 rfl ?_
              refine z_iload dX10_goThrough_167 rfl ?_
              refine z_iload_n dX10_goThrough_169 rfl ?_
              refine z_iload_n dX10_goThrough_170 rfl ?_
              refine z_aload_n dX10_goThrough_171 rfl ?_
              refine m_getr dX10_goThrough_172 fX10_29 sh66 rfl ?_
              refine z_iload_n dX10_goThrough_175 rfl ?_
              refine m_ialdN (j := w) dX10_goThrough_176 sh72 rfl (by omega) rfl ?_
              refine z_iadd dX10_goThrough_177 ?_
              refine m_callVv (As := [.int _, .int _, .int _, .int _]) dX10_goThrough_178 kX10_194 ⟨rfl, rfl⟩ rfl ⟨rfl, rfl⟩ rfl rfl sh66 rfl rfl (c_widen hl hs) (fun μ178 ν178 hk178 => ?_)
              obtain ⟨rfl, rfl⟩ := hk178
              refine z_aload_n dX10_goThrough_181 rfl ?_
              refine m_getr dX10_goThrough_182 fX10_51 sh66 rfl ?_
              refine z_iload_n dX10_goThrough_185 rfl ?_
              refine z_iload_n dX10_goThrough_186 rfl ?_
              refine m_iastN (j := w) dX10_goThrough_187 sh79 rfl (by omega) rfl ?_
              refine z_aload_n dX10_goThrough_188 rfl ?_
              refine m_getr dX10_goThrough_189 fX10_54 sh66 rfl ?_
              refine z_iload_n dX10_goThrough_192 rfl ?_
              refine z_iload_n dX10_goThrough_193 rfl ?_
              refine z_aload_n dX10_goThrough_194 rfl ?_
              refine m_getr dX10_goThrough_195 fX10_29 sh66 rfl ?_
              refine z_iload_n dX10_goThrough_198 rfl ?_
              refine m_ialdN (j := w) dX10_goThrough_199 sh72 rfl (by omega) rfl ?_
              refine z_iadd dX10_goThrough_200 ?_
              refine m_iastN (j := w) dX10_goThrough_201 sh80 rfl (by omega) rfl ?_
              refine m_ret dX10_goThrough_202 rfl ?_
              first | exact (h42 ex6_38).elim | exact absurd (ex6_38.symm.trans h42) (by decide) | exact ⟨by subst_vars; simp only [rThrough, rPass, rKicked, if_pos h24, if_neg h30, if_pos h42, if_pos h77, if_pos h100, if_neg h118], rfl⟩
            · skip
              refine z_aload_n dX10_goThrough_121 rfl ?_
              refine m_getr dX10_goThrough_122 fX10_48 sh66 rfl ?_
              refine z_iload_n dX10_goThrough_125 rfl ?_
              refine z_iconst (v := 5) dX10_goThrough_126 rfl ?_
              refine m_iastN (j := w) dX10_goThrough_127 sh78 rfl (by omega) rfl ?_
              refine z_aload_n dX10_goThrough_128 rfl ?_
              refine z_iload_n dX10_goThrough_129 rfl ?_
              refine m_callVv (As := [.int _]) dX10_goThrough_130 kX10_190 ⟨rfl, rfl⟩ rfl ⟨rfl, rfl⟩ rfl rfl sh66 rfl rfl (c_lose hw) (fun μ130 ν130 hk130 => ?_)
              obtain ⟨rfl, rfl⟩ := hk130
              refine z_aload_n dX10_goThrough_133 rfl ?_
              refine m_getr dX10_goThrough_134 fX10_72 sh66 rfl ?_
              refine z_iload_n dX10_goThrough_137 rfl ?_
              refine z_iload_n dX10_goThrough_138 rfl ?_
              refine m_iastN (j := lf) dX10_goThrough_139 sh86 rfl (by omega) rfl ?_
              refine z_aload_n dX10_goThrough_140 rfl ?_
              refine m_getr dX10_goThrough_141 fX10_75 sh66 rfl ?_
              refine z_iload_n dX10_goThrough_144 rfl ?_
              refine z_aload_n dX10_goThrough_145 rfl ?_
              refine m_getr dX10_goThrough_146 fX10_38 sh66 rfl ?_
              refine z_bipush (v := 12) dX10_goThrough_149 rfl ?_
              refine z_iload_n dX10_goThrough_151 rfl ?_
              refine z_iadd dX10_goThrough_152 ?_
              rw [show (12 + nI w) = nI (12 + w) from z6a 12 w]
              refine m_ialdN (j := (12 + w)) dX10_goThrough_153 sh75 rfl (by omega) rfl ?_
              refine m_iastN (j := lf) dX10_goThrough_154 sh87 rfl (by omega) rfl ?_
              refine z_aload_n dX10_goThrough_155 rfl ?_
              refine m_getr dX10_goThrough_156 fX10_81 sh66 rfl ?_
              refine z_iload_n dX10_goThrough_159 rfl ?_
              refine z_dup2 dX10_goThrough_160 rfl rfl ?_
              refine m_ialdN (j := lf) dX10_goThrough_161 sh89 rfl (by omega) rfl ?_
              refine z_iconst (v := 1) dX10_goThrough_162 rfl ?_
              refine z_iadd dX10_goThrough_163 ?_
              refine m_iastN (j := lf) dX10_goThrough_164 sh89 rfl (by omega) rfl ?_
              refine z_aload_n dX10_goThrough_165 rfl ?_
              refine z_iload_n dX10_goThrough_166 rfl ?_
              refine z_iload dX10_goThrough_167 rfl ?_
              refine z_iload_n dX10_goThrough_169 rfl ?_
              refine z_iload_n dX10_goThrough_170 rfl ?_
              refine z_aload_n dX10_goThrough_171 rfl ?_
              refine m_getr dX10_goThrough_172 fX10_29 sh66 rfl ?_
              refine z_iload_n dX10_goThrough_175 rfl ?_
              refine m_ialdN (j := w) dX10_goThrough_176 sh72 rfl (by omega) rfl ?_
              refine z_iadd dX10_goThrough_177 ?_
              refine m_callVv (As := [.int _, .int _, .int _, .int _]) dX10_goThrough_178 kX10_194 ⟨rfl, rfl⟩ rfl ⟨rfl, rfl⟩ rfl rfl sh66 rfl rfl (c_widen hl hs) (fun μ178 ν178 hk178 => ?_)
              obtain ⟨rfl, rfl⟩ := hk178
              refine z_aload_n dX10_goThrough_181 rfl ?_
              refine m_getr dX10_goThrough_182 fX10_51 sh66 rfl ?_
              refine z_iload_n dX10_goThrough_185 rfl ?_
              refine z_iload_n dX10_goThrough_186 rfl ?_
              refine m_iastN (j := w) dX10_goThrough_187 sh79 rfl (by omega) rfl ?_
              refine z_aload_n dX10_goThrough_188 rfl ?_
              refine m_getr dX10_goThrough_189 fX10_54 sh66 rfl ?_
              refine z_iload_n dX10_goThrough_192 rfl ?_
              refine z_iload_n dX10_goThrough_193 rfl ?_
              refine z_aload_n dX10_goThrough_194 rfl ?_
              refine m_getr dX10_goThrough_195 fX10_29 sh66 rfl ?_
              refine z_iload_n dX10_goThrough_198 rfl ?_
              refine m_ialdN (j := w) dX10_goThrough_199 sh72 rfl (by omega) rfl ?_
              refine z_iadd dX10_goThrough_200 ?_
              refine m_iastN (j := w) dX10_goThrough_201 sh80 rfl (by omega) rfl ?_
              refine m_ret dX10_goThrough_202 rfl ?_
              first | exact (h42 ex6_38).elim | exact absurd (ex6_38.symm.trans h42) (by decide) | exact ⟨by subst_vars; simp only [rThrough, rPass, rKicked, if_pos h24, if_neg h30, if_pos h42, if_pos h77, if_pos h100, if_pos h118], rfl⟩
          · skip
            refine z_aload_n dX10_goThrough_103 rfl ?_
            refine m_getr dX10_goThrough_104 fX10_48 sh66 rfl ?_
            refine z_iload_n dX10_goThrough_107 rfl ?_
            refine m_ialdN (j := w) dX10_goThrough_108 sh78 rfl (by omega) rfl ?_
            refine z_goto 114 dX10_goThrough_109 (by decide) ?_
            refine m_iastN (j := w) dX10_goThrough_114 sh78 rfl (by omega) rfl ?_
            refine z_iload dX10_goThrough_115 rfl ?_
            refine z_iconst (v := 3) dX10_goThrough_117 rfl ?_
            refine z_icmp_ne 133 dX10_goThrough_118 (by decide) (fun h118 => ?_) (fun h118 => ?_)
            · skip
              refine z_aload_n dX10_goThrough_133 rfl ?_
              refine m_getr dX10_goThrough_134 fX10_72 sh66 rfl ?_
              refine z_iload_n dX10_goThrough_137 rfl ?_
              refine z_iload_n dX10_goThrough_138 rfl ?_
              refine m_iastN (j := lf) dX10_goThrough_139 sh86 rfl (by omega) rfl ?_
              refine z_aload_n dX10_goThrough_140 rfl ?_
              refine m_getr dX10_goThrough_141 fX10_75 sh66 rfl ?_
              refine z_iload_n dX10_goThrough_144 rfl ?_
              refine z_aload_n dX10_goThrough_145 rfl ?_
              refine m_getr dX10_goThrough_146 fX10_38 sh66 rfl ?_
              refine z_bipush (v := 12) dX10_goThrough_149 rfl ?_
              refine z_iload_n dX10_goThrough_151 rfl ?_
              refine z_iadd dX10_goThrough_152 ?_
              rw [show (12 + nI w) = nI (12 + w) from z6a 12 w]
              refine m_ialdN (j := (12 + w)) dX10_goThrough_153 sh75 rfl (by omega) rfl ?_
              refine m_iastN (j := lf) dX10_goThrough_154 sh87 rfl (by omega) rfl ?_
              refine z_aload_n dX10_goThrough_155 rfl ?_
              refine m_getr dX10_goThrough_156 fX10_81 sh66 rfl ?_
              refine z_iload_n dX10_goThrough_159 rfl ?_
              refine z_dup2 dX10_goThrough_160 rfl rfl ?_
              refine m_ialdN (j := lf) dX10_goThrough_161 sh89 rfl (by omega) rfl ?_
              refine z_iconst (v := 1) dX10_goThrough_162 rfl ?_
              refine z_iadd dX10_goThrough_163 ?_
              refine m_iastN (j := lf) dX10_goThrough_164 sh89 rfl (by omega) rfl ?_
              refine z_aload_n dX10_goThrough_165 rfl ?_
              refine z_iload_n dX10_goThrough_166 rfl ?_
              refine z_iload dX10_goThrough_167 rfl ?_
              refine z_iload_n dX10_goThrough_169 rfl ?_
              refine z_iload_n dX10_goThrough_170 rfl ?_
              refine z_aload_n dX10_goThrough_171 rfl ?_
              refine m_getr dX10_goThrough_172 fX10_29 sh66 rfl ?_
              refine z_iload_n dX10_goThrough_175 rfl ?_
              refine m_ialdN (j := w) dX10_goThrough_176 sh72 rfl (by omega) rfl ?_
              refine z_iadd dX10_goThrough_177 ?_
              refine m_callVv (As := [.int _, .int _, .int _, .int _]) dX10_goThrough_178 kX10_194 ⟨rfl, rfl⟩ rfl ⟨rfl, rfl⟩ rfl rfl sh66 rfl rfl (c_widen hl hs) (fun μ178 ν178 hk178 => ?_)
              obtain ⟨rfl, rfl⟩ := hk178
              refine z_aload_n dX10_goThrough_181 rfl ?_
              refine m_getr dX10_goThrough_182 fX10_51 sh66 rfl ?_
              refine z_iload_n dX10_goThrough_185 rfl ?_
              refine z_iload_n dX10_goThrough_186 rfl ?_
              refine m_iastN (j := w) dX10_goThrough_187 sh79 rfl (by omega) rfl ?_
              refine z_aload_n dX10_goThrough_188 rfl ?_
              refine m_getr dX10_goThrough_189 fX10_54 sh66 rfl ?_
              refine z_iload_n dX10_goThrough_192 rfl ?_
              refine z_iload_n dX10_goThrough_193 rfl ?_
              refine z_aload_n dX10_goThrough_194 rfl ?_
              refine m_getr dX10_goThrough_195 fX10_29 sh66 rfl ?_
              refine z_iload_n dX10_goThrough_198 rfl ?_
              refine m_ialdN (j := w) dX10_goThrough_199 sh72 rfl (by omega) rfl ?_
              refine z_iadd dX10_goThrough_200 ?_
              refine m_iastN (j := w) dX10_goThrough_201 sh80 rfl (by omega) rfl ?_
              refine m_ret dX10_goThrough_202 rfl ?_
              first | exact (h42 ex6_38).elim | exact absurd (ex6_38.symm.trans h42) (by decide) | exact ⟨by subst_vars; simp only [rThrough, rPass, rKicked, if_pos h24, if_neg h30, if_pos h42, if_pos h77, if_neg h100, if_neg h118], rfl⟩
            · skip
              refine z_aload_n dX10_goThrough_121 rfl ?_
              refine m_getr dX10_goThrough_122 fX10_48 sh66 rfl ?_
              refine z_iload_n dX10_goThrough_125 rfl ?_
              refine z_iconst (v := 5) dX10_goThrough_126 rfl ?_
              refine m_iastN (j := w) dX10_goThrough_127 sh78 rfl (by omega) rfl ?_
              refine z_aload_n dX10_goThrough_128 rfl ?_
              refine z_iload_n dX10_goThrough_129 rfl ?_
              refine m_callVv (As := [.int _]) dX10_goThrough_130 kX10_190 ⟨rfl, rfl⟩ rfl ⟨rfl, rfl⟩ rfl rfl sh66 rfl rfl (c_lose hw) (fun μ130 ν130 hk130 => ?_)
              obtain ⟨rfl, rfl⟩ := hk130
              refine z_aload_n dX10_goThrough_133 rfl ?_
              refine m_getr dX10_goThrough_134 fX10_72 sh66 rfl ?_
              refine z_iload_n dX10_goThrough_137 rfl ?_
              refine z_iload_n dX10_goThrough_138 rfl ?_
              refine m_iastN (j := lf) dX10_goThrough_139 sh86 rfl (by omega) rfl ?_
              refine z_aload_n dX10_goThrough_140 rfl ?_
              refine m_getr dX10_goThrough_141 fX10_75 sh66 rfl ?_
              refine z_iload_n dX10_goThrough_144 rfl ?_
              refine z_aload_n dX10_goThrough_145 rfl ?_
              refine m_getr dX10_goThrough_146 fX10_38 sh66 rfl ?_
              refine z_bipush (v := 12) dX10_goThrough_149 rfl ?_
              refine z_iload_n dX10_goThrough_151 rfl ?_
              refine z_iadd dX10_goThrough_152 ?_
              rw [show (12 + nI w) = nI (12 + w) from z6a 12 w]
              refine m_ialdN (j := (12 + w)) dX10_goThrough_153 sh75 rfl (by omega) rfl ?_
              refine m_iastN (j := lf) dX10_goThrough_154 sh87 rfl (by omega) rfl ?_
              refine z_aload_n dX10_goThrough_155 rfl ?_
              refine m_getr dX10_goThrough_156 fX10_81 sh66 rfl ?_
              refine z_iload_n dX10_goThrough_159 rfl ?_
              refine z_dup2 dX10_goThrough_160 rfl rfl ?_
              refine m_ialdN (j := lf) dX10_goThrough_161 sh89 rfl (by omega) rfl ?_
              refine z_iconst (v := 1) dX10_goThrough_162 rfl ?_
              refine z_iadd dX10_goThrough_163 ?_
              refine m_iastN (j := lf) dX10_goThrough_164 sh89 rfl (by omega) rfl ?_
              refine z_aload_n dX10_goThrough_165 rfl ?_
              refine z_iload_n dX10_goThrough_166 rfl ?_
              refine z_iload dX10_goThrough_167 rfl ?_
              refine z_iload_n dX10_goThrough_169 rfl ?_
              refine z_iload_n dX10_goThrough_170 rfl ?_
              refine z_aload_n dX10_goThrough_171 rfl ?_
              refine m_getr dX10_goThrough_172 fX10_29 sh66 rfl ?_
              refine z_iload_n dX10_goThrough_175 rfl ?_
              refine m_ialdN (j := w) dX10_goThrough_176 sh72 rfl (by omega) rfl ?_
              refine z_iadd dX10_goThrough_177 ?_
              refine m_callVv (As := [.int _, .int _, .int _, .int _]) dX10_goThrough_178 kX10_194 ⟨rfl, rfl⟩ rfl ⟨rfl, rfl⟩ rfl rfl sh66 rfl rfl (c_widen hl hs) (fun μ178 ν178 hk178 => ?_)
              obtain ⟨rfl, rfl⟩ := hk178
              refine z_aload_n dX10_goThrough_181 rfl ?_
              refine m_getr dX10_goThrough_182 fX10_51 sh66 rfl ?_
              refine z_iload_n dX10_goThrough_185 rfl ?_
              refine z_iload_n dX10_goThrough_186 rfl ?_
              refine m_iastN (j := w) dX10_goThrough_187 sh79 rfl (by omega) rfl ?_
              refine z_aload_n dX10_goThrough_188 rfl ?_
              refine m_getr dX10_goThrough_189 fX10_54 sh66 rfl ?_
              refine z_iload_n dX10_goThrough_192 rfl ?_
              refine z_iload_n dX10_goThrough_193 rfl ?_
              refine z_aload_n dX10_goThrough_194 rfl ?_
              refine m_getr dX10_goThrough_195 fX10_29 sh66 rfl ?_
              refine z_iload_n dX10_goThrough_198 rfl ?_
              refine m_ialdN (j := w) dX10_goThrough_199 sh72 rfl (by omega) rfl ?_
              refine z_iadd dX10_goThrough_200 ?_
              refine m_iastN (j := w) dX10_goThrough_201 sh80 rfl (by omega) rfl ?_
              refine m_ret dX10_goThrough_202 rfl ?_
              first | exact (h42 ex6_38).elim | exact absurd (ex6_38.symm.trans h42) (by decide) | exact ⟨by subst_vars; simp only [rThrough, rPass, rKicked, if_pos h24, if_neg h30, if_pos h42, if_pos h77, if_neg h100, if_pos h118], rfl⟩
      · skip
        refine z_aload_n dX10_goThrough_45 rfl ?_
        refine m_getr dX10_goThrough_46 fX10_48 sh66 rfl ?_
        refine z_iload_n dX10_goThrough_49 rfl ?_
        refine z_aload_n dX10_goThrough_50 rfl ?_
        refine m_getr dX10_goThrough_51 fX10_48 sh66 rfl ?_
        refine z_iload_n dX10_goThrough_54 rfl ?_
        refine m_ialdN (j := w) dX10_goThrough_55 sh78 rfl (by omega) rfl ?_
        refine z_iconst (v := 1) dX10_goThrough_56 rfl ?_
        refine z_icmp_le 69 dX10_goThrough_57 (by decide) (fun h57 => ?_) (fun h57 => ?_)
        · skip
          refine z_iconst (v := 1) dX10_goThrough_69 rfl ?_
          refine m_iastN (j := w) dX10_goThrough_70 sh78 rfl (by omega) rfl ?_
          refine z_goto 165 dX10_goThrough_71 (by decide) ?_
          refine z_aload_n dX10_goThrough_165 rfl ?_
          refine z_iload_n dX10_goThrough_166 rfl ?_
          refine z_iload dX10_goThrough_167 rfl ?_
          refine z_iload_n dX10_goThrough_169 rfl ?_
          refine z_iload_n dX10_goThrough_170 rfl ?_
          refine z_aload_n dX10_goThrough_171 rfl ?_
          refine m_getr dX10_goThrough_172 fX10_29 sh66 rfl ?_
          refine z_iload_n dX10_goThrough_175 rfl ?_
          refine m_ialdN (j := w) dX10_goThrough_176 sh72 rfl (by omega) rfl ?_
          refine z_iadd dX10_goThrough_177 ?_
          refine m_callVv (As := [.int _, .int _, .int _, .int _]) dX10_goThrough_178 kX10_194 ⟨rfl, rfl⟩ rfl ⟨rfl, rfl⟩ rfl rfl sh66 rfl rfl (c_widen hl hs) (fun μ178 ν178 hk178 => ?_)
          obtain ⟨rfl, rfl⟩ := hk178
          refine z_aload_n dX10_goThrough_181 rfl ?_
          refine m_getr dX10_goThrough_182 fX10_51 sh66 rfl ?_
          refine z_iload_n dX10_goThrough_185 rfl ?_
          refine z_iload_n dX10_goThrough_186 rfl ?_
          refine m_iastN (j := w) dX10_goThrough_187 sh79 rfl (by omega) rfl ?_
          refine z_aload_n dX10_goThrough_188 rfl ?_
          refine m_getr dX10_goThrough_189 fX10_54 sh66 rfl ?_
          refine z_iload_n dX10_goThrough_192 rfl ?_
          refine z_iload_n dX10_goThrough_193 rfl ?_
          refine z_aload_n dX10_goThrough_194 rfl ?_
          refine m_getr dX10_goThrough_195 fX10_29 sh66 rfl ?_
          refine z_iload_n dX10_goThrough_198 rfl ?_
          refine m_ialdN (j := w) dX10_goThrough_199 sh72 rfl (by omega) rfl ?_
          refine z_iadd dX10_goThrough_200 ?_
          refine m_iastN (j := w) dX10_goThrough_201 sh80 rfl (by omega) rfl ?_
          refine m_ret dX10_goThrough_202 rfl ?_
          first | exact (h42 ex6_38).elim | exact absurd (ex6_38.symm.trans h42) (by decide) | exact ⟨by subst_vars; simp only [rThrough, rPass, rKicked, if_pos h24, if_neg h30, if_neg h42, if_pos h57], rfl⟩
        · skip
          refine z_aload_n dX10_goThrough_60 rfl ?_
          refine m_getr dX10_goThrough_61 fX10_48 sh66 rfl ?_
          refine z_iload_n dX10_goThrough_64 rfl ?_
          refine m_ialdN (j := w) dX10_goThrough_65 sh78 rfl (by omega) rfl ?_
          refine z_goto 70 dX10_goThrough_66 (by decide) ?_
          refine m_iastN (j := w) dX10_goThrough_70 sh78 rfl (by omega) rfl ?_
          refine z_goto 165 dX10_goThrough_71 (by decide) ?_
          refine z_aload_n dX10_goThrough_165 rfl ?_
          refine z_iload_n dX10_goThrough_166 rfl ?_
          refine z_iload dX10_goThrough_167 rfl ?_
          refine z_iload_n dX10_goThrough_169 rfl ?_
          refine z_iload_n dX10_goThrough_170 rfl ?_
          refine z_aload_n dX10_goThrough_171 rfl ?_
          refine m_getr dX10_goThrough_172 fX10_29 sh66 rfl ?_
          refine z_iload_n dX10_goThrough_175 rfl ?_
          refine m_ialdN (j := w) dX10_goThrough_176 sh72 rfl (by omega) rfl ?_
          refine z_iadd dX10_goThrough_177 ?_
          refine m_callVv (As := [.int _, .int _, .int _, .int _]) dX10_goThrough_178 kX10_194 ⟨rfl, rfl⟩ rfl ⟨rfl, rfl⟩ rfl rfl sh66 rfl rfl (c_widen hl hs) (fun μ178 ν178 hk178 => ?_)
          obtain ⟨rfl, rfl⟩ := hk178
          refine z_aload_n dX10_goThrough_181 rfl ?_
          refine m_getr dX10_goThrough_182 fX10_51 sh66 rfl ?_
          refine z_iload_n dX10_goThrough_185 rfl ?_
          refine z_iload_n dX10_goThrough_186 rfl ?_
          refine m_iastN (j := w) dX10_goThrough_187 sh79 rfl (by omega) rfl ?_
          refine z_aload_n dX10_goThrough_188 rfl ?_
          refine m_getr dX10_goThrough_189 fX10_54 sh66 rfl ?_
          refine z_iload_n dX10_goThrough_192 rfl ?_
          refine z_iload_n dX10_goThrough_193 rfl ?_
          refine z_aload_n dX10_goThrough_194 rfl ?_
          refine m_getr dX10_goThrough_195 fX10_29 sh66 rfl ?_
          refine z_iload_n dX10_goThrough_198 rfl ?_
          refine m_ialdN (j := w) dX10_goThrough_199 sh72 rfl (by omega) rfl ?_
          refine z_iadd dX10_goThrough_200 ?_
          refine m_iastN (j := w) dX10_goThrough_201 sh80 rfl (by omega) rfl ?_
          refine m_ret dX10_goThrough_202 rfl ?_
          first | exact (h42 ex6_38).elim | exact absurd (ex6_38.symm.trans h42) (by decide) | exact ⟨by subst_vars; simp only [rThrough, rPass, rKicked, if_pos h24, if_neg h30, if_neg h42, if_neg h57], rfl⟩
    · skip
      refine z_iconst (v := 1) dX10_goThrough_33 rfl ?_
      refine z_goto 38 dX10_goThrough_34 (by decide) ?_
      refine z_istore (i := 6) (fun y => [(6, .int y), (5, .int (rSwing μ lf t)), (4, .int (nI s)), (0, .ref 66), (1, .int (nI w)), (2, .int (nI lf)), (3, .int t)]) dX10_goThrough_38 rfl (fun _ => rfl) (fun x6_38 ex6_38 => ?_)
      refine z_iload dX10_goThrough_40 rfl ?_
      refine z_if_eq 74 dX10_goThrough_42 (by decide) (fun h42 => ?_) (fun h42 => ?_)
      · skip
        refine z_iload_n dX10_goThrough_74 rfl ?_
        refine z_iload dX10_goThrough_75 rfl ?_
        refine z_icmp_ne 84 dX10_goThrough_77 (by decide) (fun h77 => ?_) (fun h77 => ?_)
        · skip
          refine z_iconst (v := 2) dX10_goThrough_84 rfl ?_
          refine z_istore (i := 7) (fun y => [(7, .int y), (6, .int x6_38), (5, .int (rSwing μ lf t)), (4, .int (nI s)), (0, .ref 66), (1, .int (nI w)), (2, .int (nI lf)), (3, .int t)]) dX10_goThrough_85 rfl (fun _ => rfl) (fun x7_85 ex7_85 => ?_)
          refine z_aload_n dX10_goThrough_87 rfl ?_
          refine m_getr dX10_goThrough_88 fX10_48 sh66 rfl ?_
          refine z_iload_n dX10_goThrough_91 rfl ?_
          refine z_aload_n dX10_goThrough_92 rfl ?_
          refine m_getr dX10_goThrough_93 fX10_48 sh66 rfl ?_
          refine z_iload_n dX10_goThrough_96 rfl ?_
          refine m_ialdN (j := w) dX10_goThrough_97 sh78 rfl (by omega) rfl ?_
          refine z_iload dX10_goThrough_98 rfl ?_
          refine z_icmp_le 112 dX10_goThrough_100 (by decide) (fun h100 => ?_) (fun h100 => ?_)
          · skip
            refine z_iload dX10_goThrough_112 rfl ?_
            refine m_iastN (j := w) dX10_goThrough_114 sh78 rfl (by omega) rfl ?_
            refine z_iload dX10_goThrough_115 rfl ?_
            refine z_iconst (v := 3) dX10_goThrough_117 rfl ?_
            refine z_icmp_ne 133 dX10_goThrough_118 (by decide) (fun h118 => ?_) (fun h118 => ?_)
            · skip
              refine z_aload_n dX10_goThrough_133 rfl ?_
              refine m_getr dX10_goThrough_134 fX10_72 sh66 rfl ?_
              refine z_iload_n dX10_goThrough_137 rfl ?_
              refine z_iload_n dX10_goThrough_138 rfl ?_
              refine m_iastN (j := lf) dX10_goThrough_139 sh86 rfl (by omega) rfl ?_
              refine z_aload_n dX10_goThrough_140 rfl ?_
              refine m_getr dX10_goThrough_141 fX10_75 sh66 rfl ?_
              refine z_iload_n dX10_goThrough_144 rfl ?_
              refine z_aload_n dX10_goThrough_145 rfl ?_
              refine m_getr dX10_goThrough_146 fX10_38 sh66 rfl ?_
              refine z_bipush (v := 12) dX10_goThrough_149 rfl ?_
              refine z_iload_n dX10_goThrough_151 rfl ?_
              refine z_iadd dX10_goThrough_152 ?_
              rw [show (12 + nI w) = nI (12 + w) from z6a 12 w]
              refine m_ialdN (j := (12 + w)) dX10_goThrough_153 sh75 rfl (by omega) rfl ?_
              refine m_iastN (j := lf) dX10_goThrough_154 sh87 rfl (by omega) rfl ?_
              refine z_aload_n dX10_goThrough_155 rfl ?_
              refine m_getr dX10_goThrough_156 fX10_81 sh66 rfl ?_
              refine z_iload_n dX10_goThrough_159 rfl ?_
              refine z_dup2 dX10_goThrough_160 rfl rfl ?_
              refine m_ialdN (j := lf) dX10_goThrough_161 sh89 rfl (by omega) rfl ?_
              refine z_iconst (v := 1) dX10_goThrough_162 rfl ?_
              refine z_iadd dX10_goThrough_163 ?_
              refine m_iastN (j := lf) dX10_goThrough_164 sh89 rfl (by omega) rfl ?_
              refine z_aload_n dX10_goThrough_165 rfl ?_
              refine z_iload_n dX10_goThrough_166 rfl ?_
              refine z_iload dX10_goThrough_167 rfl ?_
              refine z_iload_n dX10_goThrough_169 rfl ?_
              refine z_iload_n dX10_goThrough_170 rfl ?_
              refine z_aload_n dX10_goThrough_171 rfl ?_
              refine m_getr dX10_goThrough_172 fX10_29 sh66 rfl ?_
              refine z_iload_n dX10_goThrough_175 rfl ?_
              refine m_ialdN (j := w) dX10_goThrough_176 sh72 rfl (by omega) rfl ?_
              refine z_iadd dX10_goThrough_177 ?_
              refine m_callVv (As := [.int _, .int _, .int _, .int _]) dX10_goThrough_178 kX10_194 ⟨rfl, rfl⟩ rfl ⟨rfl, rfl⟩ rfl rfl sh66 rfl rfl (c_widen hl hs) (fun μ178 ν178 hk178 => ?_)
              obtain ⟨rfl, rfl⟩ := hk178
              refine z_aload_n dX10_goThrough_181 rfl ?_
              refine m_getr dX10_goThrough_182 fX10_51 sh66 rfl ?_
              refine z_iload_n dX10_goThrough_185 rfl ?_
              refine z_iload_n dX10_goThrough_186 rfl ?_
              refine m_iastN (j := w) dX10_goThrough_187 sh79 rfl (by omega) rfl ?_
              refine z_aload_n dX10_goThrough_188 rfl ?_
              refine m_getr dX10_goThrough_189 fX10_54 sh66 rfl ?_
              refine z_iload_n dX10_goThrough_192 rfl ?_
              refine z_iload_n dX10_goThrough_193 rfl ?_
              refine z_aload_n dX10_goThrough_194 rfl ?_
              refine m_getr dX10_goThrough_195 fX10_29 sh66 rfl ?_
              refine z_iload_n dX10_goThrough_198 rfl ?_
              refine m_ialdN (j := w) dX10_goThrough_199 sh72 rfl (by omega) rfl ?_
              refine z_iadd dX10_goThrough_200 ?_
              refine m_iastN (j := w) dX10_goThrough_201 sh80 rfl (by omega) rfl ?_
              refine m_ret dX10_goThrough_202 rfl ?_
              first | exact (h42 ex6_38).elim | exact absurd (ex6_38.symm.trans h42) (by decide) | exact ⟨by subst_vars; simp only [rThrough, rPass, rKicked, if_pos h24, if_pos h30, if_pos h42, if_neg h77, if_pos h100, if_neg h118], rfl⟩
            · skip
              refine z_aload_n dX10_goThrough_121 rfl ?_
              refine m_getr dX10_goThrough_122 fX10_48 sh66 rfl ?_
              refine z_iload_n dX10_goThrough_125 rfl ?_
              refine z_iconst (v := 5) dX10_goThrough_126 rfl ?_
              refine m_iastN (j := w) dX10_goThrough_127 sh78 rfl (by omega) rfl ?_
              refine z_aload_n dX10_goThrough_128 rfl ?_
              refine z_iload_n dX10_goThrough_129 rfl ?_
              refine m_callVv (As := [.int _]) dX10_goThrough_130 kX10_190 ⟨rfl, rfl⟩ rfl ⟨rfl, rfl⟩ rfl rfl sh66 rfl rfl (c_lose hw) (fun μ130 ν130 hk130 => ?_)
              obtain ⟨rfl, rfl⟩ := hk130
              refine z_aload_n dX10_goThrough_133 rfl ?_
              refine m_getr dX10_goThrough_134 fX10_72 sh66 rfl ?_
              refine z_iload_n dX10_goThrough_137 rfl ?_
              refine z_iload_n dX10_goThrough_138 rfl ?_
              refine m_iastN (j := lf) dX10_goThrough_139 sh86 rfl (by omega) rfl ?_
              refine z_aload_n dX10_goThrough_140 rfl ?_
              refine m_getr dX10_goThrough_141 fX10_75 sh66 rfl ?_
              refine z_iload_n dX10_goThrough_144 rfl ?_
              refine z_aload_n dX10_goThrough_145 rfl ?_
              refine m_getr dX10_goThrough_146 fX10_38 sh66 rfl ?_
              refine z_bipush (v := 12) dX10_goThrough_149 rfl ?_
              refine z_iload_n dX10_goThrough_151 rfl ?_
              refine z_iadd dX10_goThrough_152 ?_
              rw [show (12 + nI w) = nI (12 + w) from z6a 12 w]
              refine m_ialdN (j := (12 + w)) dX10_goThrough_153 sh75 rfl (by omega) rfl ?_
              refine m_iastN (j := lf) dX10_goThrough_154 sh87 rfl (by omega) rfl ?_
              refine z_aload_n dX10_goThrough_155 rfl ?_
              refine m_getr dX10_goThrough_156 fX10_81 sh66 rfl ?_
              refine z_iload_n dX10_goThrough_159 rfl ?_
              refine z_dup2 dX10_goThrough_160 rfl rfl ?_
              refine m_ialdN (j := lf) dX10_goThrough_161 sh89 rfl (by omega) rfl ?_
              refine z_iconst (v := 1) dX10_goThrough_162 rfl ?_
              refine z_iadd dX10_goThrough_163 ?_
              refine m_iastN (j := lf) dX10_goThrough_164 sh89 rfl (by omega) rfl ?_
              refine z_aload_n dX10_goThrough_165 rfl ?_
              refine z_iload_n dX10_goThrough_166 rfl ?_
              refine z_iload dX10_goThrough_167 rfl ?_
              refine z_iload_n dX10_goThrough_169 rfl ?_
              refine z_iload_n dX10_goThrough_170 rfl ?_
              refine z_aload_n dX10_goThrough_171 rfl ?_
              refine m_getr dX10_goThrough_172 fX10_29 sh66 rfl ?_
              refine z_iload_n dX10_goThrough_175 rfl ?_
              refine m_ialdN (j := w) dX10_goThrough_176 sh72 rfl (by omega) rfl ?_
              refine z_iadd dX10_goThrough_177 ?_
              refine m_callVv (As := [.int _, .int _, .int _, .int _]) dX10_goThrough_178 kX10_194 ⟨rfl, rfl⟩ rfl ⟨rfl, rfl⟩ rfl rfl sh66 rfl rfl (c_widen hl hs) (fun μ178 ν178 hk178 => ?_)
              obtain ⟨rfl, rfl⟩ := hk178
              refine z_aload_n dX10_goThrough_181 rfl ?_
              refine m_getr dX10_goThrough_182 fX10_51 sh66 rfl ?_
              refine z_iload_n dX10_goThrough_185 rfl ?_
              refine z_iload_n dX10_goThrough_186 rfl ?_
              refine m_iastN (j := w) dX10_goThrough_187 sh79 rfl (by omega) rfl ?_
              refine z_aload_n dX10_goThrough_188 rfl ?_
              refine m_getr dX10_goThrough_189 fX10_54 sh66 rfl ?_
              refine z_iload_n dX10_goThrough_192 rfl ?_
              refine z_iload_n dX10_goThrough_193 rfl ?_
              refine z_aload_n dX10_goThrough_194 rfl ?_
              refine m_getr dX10_goThrough_195 fX10_29 sh66 rfl ?_
              refine z_iload_n dX10_goThrough_198 rfl ?_
              refine m_ialdN (j := w) dX10_goThrough_199 sh72 rfl (by omega) rfl ?_
              refine z_iadd dX10_goThrough_200 ?_
              refine m_iastN (j := w) dX10_goThrough_201 sh80 rfl (by omega) rfl ?_
              refine m_ret dX10_goThrough_202 rfl ?_
              first | exact (h42 ex6_38).elim | exact absurd (ex6_38.symm.trans h42) (by decide) | exact ⟨by subst_vars; simp only [rThrough, rPass, rKicked, if_pos h24, if_pos h30, if_pos h42, if_neg h77, if_pos h100, if_pos h118], rfl⟩
          · skip
            refine z_aload_n dX10_goThrough_103 rfl ?_
            refine m_getr dX10_goThrough_104 fX10_48 sh66 rfl ?_
            refine z_iload_n dX10_goThrough_107 rfl ?_
            refine m_ialdN (j := w) dX10_goThrough_108 sh78 rfl (by omega) rfl ?_
            refine z_goto 114 dX10_goThrough_109 (by decide) ?_
            refine m_iastN (j := w) dX10_goThrough_114 sh78 rfl (by omega) rfl ?_
            refine z_iload dX10_goThrough_115 rfl ?_
            refine z_iconst (v := 3) dX10_goThrough_117 rfl ?_
            refine z_icmp_ne 133 dX10_goThrough_118 (by decide) (fun h118 => ?_) (fun h118 => ?_)
            · skip
              refine z_aload_n dX10_goThrough_133 rfl ?_
              refine m_getr dX10_goThrough_134 fX10_72 sh66 rfl ?_
              refine z_iload_n dX10_goThrough_137 rfl ?_
              refine z_iload_n dX10_goThrough_138 rfl ?_
              refine m_iastN (j := lf) dX10_goThrough_139 sh86 rfl (by omega) rfl ?_
              refine z_aload_n dX10_goThrough_140 rfl ?_
              refine m_getr dX10_goThrough_141 fX10_75 sh66 rfl ?_
              refine z_iload_n dX10_goThrough_144 rfl ?_
              refine z_aload_n dX10_goThrough_145 rfl ?_
              refine m_getr dX10_goThrough_146 fX10_38 sh66 rfl ?_
              refine z_bipush (v := 12) dX10_goThrough_149 rfl ?_
              refine z_iload_n dX10_goThrough_151 rfl ?_
              refine z_iadd dX10_goThrough_152 ?_
              rw [show (12 + nI w) = nI (12 + w) from z6a 12 w]
              refine m_ialdN (j := (12 + w)) dX10_goThrough_153 sh75 rfl (by omega) rfl ?_
              refine m_iastN (j := lf) dX10_goThrough_154 sh87 rfl (by omega) rfl ?_
              refine z_aload_n dX10_goThrough_155 rfl ?_
              refine m_getr dX10_goThrough_156 fX10_81 sh66 rfl ?_
              refine z_iload_n dX10_goThrough_159 rfl ?_
              refine z_dup2 dX10_goThrough_160 rfl rfl ?_
              refine m_ialdN (j := lf) dX10_goThrough_161 sh89 rfl (by omega) rfl ?_
              refine z_iconst (v := 1) dX10_goThrough_162 rfl ?_
              refine z_iadd dX10_goThrough_163 ?_
              refine m_iastN (j := lf) dX10_goThrough_164 sh89 rfl (by omega) rfl ?_
              refine z_aload_n dX10_goThrough_165 rfl ?_
              refine z_iload_n dX10_goThrough_166 rfl ?_
              refine z_iload dX10_goThrough_167 rfl ?_
              refine z_iload_n dX10_goThrough_169 rfl ?_
              refine z_iload_n dX10_goThrough_170 rfl ?_
              refine z_aload_n dX10_goThrough_171 rfl ?_
              refine m_getr dX10_goThrough_172 fX10_29 sh66 rfl ?_
              refine z_iload_n dX10_goThrough_175 rfl ?_
              refine m_ialdN (j := w) dX10_goThrough_176 sh72 rfl (by omega) rfl ?_
              refine z_iadd dX10_goThrough_177 ?_
              refine m_callVv (As := [.int _, .int _, .int _, .int _]) dX10_goThrough_178 kX10_194 ⟨rfl, rfl⟩ rfl ⟨rfl, rfl⟩ rfl rfl sh66 rfl rfl (c_widen hl hs) (fun μ178 ν178 hk178 => ?_)
              obtain ⟨rfl, rfl⟩ := hk178
              refine z_aload_n dX10_goThrough_181 rfl ?_
              refine m_getr dX10_goThrough_182 fX10_51 sh66 rfl ?_
              refine z_iload_n dX10_goThrough_185 rfl ?_
              refine z_iload_n dX10_goThrough_186 rfl ?_
              refine m_iastN (j := w) dX10_goThrough_187 sh79 rfl (by omega) rfl ?_
              refine z_aload_n dX10_goThrough_188 rfl ?_
              refine m_getr dX10_goThrough_189 fX10_54 sh66 rfl ?_
              refine z_iload_n dX10_goThrough_192 rfl ?_
              refine z_iload_n dX10_goThrough_193 rfl ?_
              refine z_aload_n dX10_goThrough_194 rfl ?_
              refine m_getr dX10_goThrough_195 fX10_29 sh66 rfl ?_
              refine z_iload_n dX10_goThrough_198 rfl ?_
              refine m_ialdN (j := w) dX10_goThrough_199 sh72 rfl (by omega) rfl ?_
              refine z_iadd dX10_goThrough_200 ?_
              refine m_iastN (j := w) dX10_goThrough_201 sh80 rfl (by omega) rfl ?_
              refine m_ret dX10_goThrough_202 rfl ?_
              first | exact (h42 ex6_38).elim | exact absurd (ex6_38.symm.trans h42) (by decide) | exact ⟨by subst_vars; simp only [rThrough, rPass, rKicked, if_pos h24, if_pos h30, if_pos h42, if_neg h77, if_neg h100, if_neg h118], rfl⟩
            · skip
              refine z_aload_n dX10_goThrough_121 rfl ?_
              refine m_getr dX10_goThrough_122 fX10_48 sh66 rfl ?_
              refine z_iload_n dX10_goThrough_125 rfl ?_
              refine z_iconst (v := 5) dX10_goThrough_126 rfl ?_
              refine m_iastN (j := w) dX10_goThrough_127 sh78 rfl (by omega) rfl ?_
              refine z_aload_n dX10_goThrough_128 rfl ?_
              refine z_iload_n dX10_goThrough_129 rfl ?_
              refine m_callVv (As := [.int _]) dX10_goThrough_130 kX10_190 ⟨rfl, rfl⟩ rfl ⟨rfl, rfl⟩ rfl rfl sh66 rfl rfl (c_lose hw) (fun μ130 ν130 hk130 => ?_)
              obtain ⟨rfl, rfl⟩ := hk130
              refine z_aload_n dX10_goThrough_133 rfl ?_
              refine m_getr dX10_goThrough_134 fX10_72 sh66 rfl ?_
              refine z_iload_n dX10_goThrough_137 rfl ?_
              refine z_iload_n dX10_goThrough_138 rfl ?_
              refine m_iastN (j := lf) dX10_goThrough_139 sh86 rfl (by omega) rfl ?_
              refine z_aload_n dX10_goThrough_140 rfl ?_
              refine m_getr dX10_goThrough_141 fX10_75 sh66 rfl ?_
              refine z_iload_n dX10_goThrough_144 rfl ?_
              refine z_aload_n dX10_goThrough_145 rfl ?_
              refine m_getr dX10_goThrough_146 fX10_38 sh66 rfl ?_
              refine z_bipush (v := 12) dX10_goThrough_149 rfl ?_
              refine z_iload_n dX10_goThrough_151 rfl ?_
              refine z_iadd dX10_goThrough_152 ?_
              rw [show (12 + nI w) = nI (12 + w) from z6a 12 w]
              refine m_ialdN (j := (12 + w)) dX10_goThrough_153 sh75 rfl (by omega) rfl ?_
              refine m_iastN (j := lf) dX10_goThrough_154 sh87 rfl (by omega) rfl ?_
              refine z_aload_n dX10_goThrough_155 rfl ?_
              refine m_getr dX10_goThrough_156 fX10_81 sh66 rfl ?_
              refine z_iload_n dX10_goThrough_159 rfl ?_
              refine z_dup2 dX10_goThrough_160 rfl rfl ?_
              refine m_ialdN (j := lf) dX10_goThrough_161 sh89 rfl (by omega) rfl ?_
              refine z_iconst (v := 1) dX10_goThrough_162 rfl ?_
              refine z_iadd dX10_goThrough_163 ?_
              refine m_iastN (j := lf) dX10_goThrough_164 sh89 rfl (by omega) rfl ?_
              refine z_aload_n dX10_goThrough_165 rfl ?_
              refine z_iload_n dX10_goThrough_166 rfl ?_
              refine z_iload dX10_goThrough_167 rfl ?_
              refine z_iload_n dX10_goThrough_169 rfl ?_
              refine z_iload_n dX10_goThrough_170 rfl ?_
              refine z_aload_n dX10_goThrough_171 rfl ?_
              refine m_getr dX10_goThrough_172 fX10_29 sh66 rfl ?_
              refine z_iload_n dX10_goThrough_175 rfl ?_
              refine m_ialdN (j := w) dX10_goThrough_176 sh72 rfl (by omega) rfl ?_
              refine z_iadd dX10_goThrough_177 ?_
              refine m_callVv (As := [.int _, .int _, .int _, .int _]) dX10_goThrough_178 kX10_194 ⟨rfl, rfl⟩ rfl ⟨rfl, rfl⟩ rfl rfl sh66 rfl rfl (c_widen hl hs) (fun μ178 ν178 hk178 => ?_)
              obtain ⟨rfl, rfl⟩ := hk178
              refine z_aload_n dX10_goThrough_181 rfl ?_
              refine m_getr dX10_goThrough_182 fX10_51 sh66 rfl ?_
              refine z_iload_n dX10_goThrough_185 rfl ?_
              refine z_iload_n dX10_goThrough_186 rfl ?_
              refine m_iastN (j := w) dX10_goThrough_187 sh79 rfl (by omega) rfl ?_
              refine z_aload_n dX10_goThrough_188 rfl ?_
              refine m_getr dX10_goThrough_189 fX10_54 sh66 rfl ?_
              refine z_iload_n dX10_goThrough_192 rfl ?_
              refine z_iload_n dX10_goThrough_193 rfl ?_
              refine z_aload_n dX10_goThrough_194 rfl ?_
              refine m_getr dX10_goThrough_195 fX10_29 sh66 rfl ?_
              refine z_iload_n dX10_goThrough_198 rfl ?_
              refine m_ialdN (j := w) dX10_goThrough_199 sh72 rfl (by omega) rfl ?_
              refine z_iadd dX10_goThrough_200 ?_
              refine m_iastN (j := w) dX10_goThrough_201 sh80 rfl (by omega) rfl ?_
              refine m_ret dX10_goThrough_202 rfl ?_
              first | exact (h42 ex6_38).elim | exact absurd (ex6_38.symm.trans h42) (by decide) | exact ⟨by subst_vars; simp only [rThrough, rPass, rKicked, if_pos h24, if_pos h30, if_pos h42, if_neg h77, if_neg h100, if_pos h118], rfl⟩
        · skip
          refine z_iconst (v := 0) dX10_goThrough_80 rfl ?_
          refine z_goto 85 dX10_goThrough_81 (by decide) ?_
          refine z_istore (i := 7) (fun y => [(7, .int y), (6, .int x6_38), (5, .int (rSwing μ lf t)), (4, .int (nI s)), (0, .ref 66), (1, .int (nI w)), (2, .int (nI lf)), (3, .int t)]) dX10_goThrough_85 rfl (fun _ => rfl) (fun x7_85 ex7_85 => ?_)
          refine z_aload_n dX10_goThrough_87 rfl ?_
          refine m_getr dX10_goThrough_88 fX10_48 sh66 rfl ?_
          refine z_iload_n dX10_goThrough_91 rfl ?_
          refine z_aload_n dX10_goThrough_92 rfl ?_
          refine m_getr dX10_goThrough_93 fX10_48 sh66 rfl ?_
          refine z_iload_n dX10_goThrough_96 rfl ?_
          refine m_ialdN (j := w) dX10_goThrough_97 sh78 rfl (by omega) rfl ?_
          refine z_iload dX10_goThrough_98 rfl ?_
          refine z_icmp_le 112 dX10_goThrough_100 (by decide) (fun h100 => ?_) (fun h100 => ?_)
          · skip
            refine z_iload dX10_goThrough_112 rfl ?_
            refine m_iastN (j := w) dX10_goThrough_114 sh78 rfl (by omega) rfl ?_
            refine z_iload dX10_goThrough_115 rfl ?_
            refine z_iconst (v := 3) dX10_goThrough_117 rfl ?_
            refine z_icmp_ne 133 dX10_goThrough_118 (by decide) (fun h118 => ?_) (fun h118 => ?_)
            · skip
              refine z_aload_n dX10_goThrough_133 rfl ?_
              refine m_getr dX10_goThrough_134 fX10_72 sh66 rfl ?_
              refine z_iload_n dX10_goThrough_137 rfl ?_
              refine z_iload_n dX10_goThrough_138 rfl ?_
              refine m_iastN (j := lf) dX10_goThrough_139 sh86 rfl (by omega) rfl ?_
              refine z_aload_n dX10_goThrough_140 rfl ?_
              refine m_getr dX10_goThrough_141 fX10_75 sh66 rfl ?_
              refine z_iload_n dX10_goThrough_144 rfl ?_
              refine z_aload_n dX10_goThrough_145 rfl ?_
              refine m_getr dX10_goThrough_146 fX10_38 sh66 rfl ?_
              refine z_bipush (v := 12) dX10_goThrough_149 rfl ?_
              refine z_iload_n dX10_goThrough_151 rfl ?_
              refine z_iadd dX10_goThrough_152 ?_
              rw [show (12 + nI w) = nI (12 + w) from z6a 12 w]
              refine m_ialdN (j := (12 + w)) dX10_goThrough_153 sh75 rfl (by omega) rfl ?_
              refine m_iastN (j := lf) dX10_goThrough_154 sh87 rfl (by omega) rfl ?_
              refine z_aload_n dX10_goThrough_155 rfl ?_
              refine m_getr dX10_goThrough_156 fX10_81 sh66 rfl ?_
              refine z_iload_n dX10_goThrough_159 rfl ?_
              refine z_dup2 dX10_goThrough_160 rfl rfl ?_
              refine m_ialdN (j := lf) dX10_goThrough_161 sh89 rfl (by omega) rfl ?_
              refine z_iconst (v := 1) dX10_goThrough_162 rfl ?_
              refine z_iadd dX10_goThrough_163 ?_
              refine m_iastN (j := lf) dX10_goThrough_164 sh89 rfl (by omega) rfl ?_
              refine z_aload_n dX10_goThrough_165 rfl ?_
              refine z_iload_n dX10_goThrough_166 rfl ?_
              refine z_iload dX10_goThrough_167 rfl ?_
              refine z_iload_n dX10_goThrough_169 rfl ?_
              refine z_iload_n dX10_goThrough_170 rfl ?_
              refine z_aload_n dX10_goThrough_171 rfl ?_
              refine m_getr dX10_goThrough_172 fX10_29 sh66 rfl ?_
              refine z_iload_n dX10_goThrough_175 rfl ?_
              refine m_ialdN (j := w) dX10_goThrough_176 sh72 rfl (by omega) rfl ?_
              refine z_iadd dX10_goThrough_177 ?_
              refine m_callVv (As := [.int _, .int _, .int _, .int _]) dX10_goThrough_178 kX10_194 ⟨rfl, rfl⟩ rfl ⟨rfl, rfl⟩ rfl rfl sh66 rfl rfl (c_widen hl hs) (fun μ178 ν178 hk178 => ?_)
              obtain ⟨rfl, rfl⟩ := hk178
              refine z_aload_n dX10_goThrough_181 rfl ?_
              refine m_getr dX10_goThrough_182 fX10_51 sh66 rfl ?_
              refine z_iload_n dX10_goThrough_185 rfl ?_
              refine z_iload_n dX10_goThrough_186 rfl ?_
              refine m_iastN (j := w) dX10_goThrough_187 sh79 rfl (by omega) rfl ?_
              refine z_aload_n dX10_goThrough_188 rfl ?_
              refine m_getr dX10_goThrough_189 fX10_54 sh66 rfl ?_
              refine z_iload_n dX10_goThrough_192 rfl ?_
              refine z_iload_n dX10_goThrough_193 rfl ?_
              refine z_aload_n dX10_goThrough_194 rfl ?_
              refine m_getr dX10_goThrough_195 fX10_29 sh66 rfl ?_
              refine z_iload_n dX10_goThrough_198 rfl ?_
              refine m_ialdN (j := w) dX10_goThrough_199 sh72 rfl (by omega) rfl ?_
              refine z_iadd dX10_goThrough_200 ?_
              refine m_iastN (j := w) dX10_goThrough_201 sh80 rfl (by omega) rfl ?_
              refine m_ret dX10_goThrough_202 rfl ?_
              first | exact (h42 ex6_38).elim | exact absurd (ex6_38.symm.trans h42) (by decide) | exact ⟨by subst_vars; simp only [rThrough, rPass, rKicked, if_pos h24, if_pos h30, if_pos h42, if_pos h77, if_pos h100, if_neg h118], rfl⟩
            · skip
              refine z_aload_n dX10_goThrough_121 rfl ?_
              refine m_getr dX10_goThrough_122 fX10_48 sh66 rfl ?_
              refine z_iload_n dX10_goThrough_125 rfl ?_
              refine z_iconst (v := 5) dX10_goThrough_126 rfl ?_
              refine m_iastN (j := w) dX10_goThrough_127 sh78 rfl (by omega) rfl ?_
              refine z_aload_n dX10_goThrough_128 rfl ?_
              refine z_iload_n dX10_goThrough_129 rfl ?_
              refine m_callVv (As := [.int _]) dX10_goThrough_130 kX10_190 ⟨rfl, rfl⟩ rfl ⟨rfl, rfl⟩ rfl rfl sh66 rfl rfl (c_lose hw) (fun μ130 ν130 hk130 => ?_)
              obtain ⟨rfl, rfl⟩ := hk130
              refine z_aload_n dX10_goThrough_133 rfl ?_
              refine m_getr dX10_goThrough_134 fX10_72 sh66 rfl ?_
              refine z_iload_n dX10_goThrough_137 rfl ?_
              refine z_iload_n dX10_goThrough_138 rfl ?_
              refine m_iastN (j := lf) dX10_goThrough_139 sh86 rfl (by omega) rfl ?_
              refine z_aload_n dX10_goThrough_140 rfl ?_
              refine m_getr dX10_goThrough_141 fX10_75 sh66 rfl ?_
              refine z_iload_n dX10_goThrough_144 rfl ?_
              refine z_aload_n dX10_goThrough_145 rfl ?_
              refine m_getr dX10_goThrough_146 fX10_38 sh66 rfl ?_
              refine z_bipush (v := 12) dX10_goThrough_149 rfl ?_
              refine z_iload_n dX10_goThrough_151 rfl ?_
              refine z_iadd dX10_goThrough_152 ?_
              rw [show (12 + nI w) = nI (12 + w) from z6a 12 w]
              refine m_ialdN (j := (12 + w)) dX10_goThrough_153 sh75 rfl (by omega) rfl ?_
              refine m_iastN (j := lf) dX10_goThrough_154 sh87 rfl (by omega) rfl ?_
              refine z_aload_n dX10_goThrough_155 rfl ?_
              refine m_getr dX10_goThrough_156 fX10_81 sh66 rfl ?_
              refine z_iload_n dX10_goThrough_159 rfl ?_
              refine z_dup2 dX10_goThrough_160 rfl rfl ?_
              refine m_ialdN (j := lf) dX10_goThrough_161 sh89 rfl (by omega) rfl ?_
              refine z_iconst (v := 1) dX10_goThrough_162 rfl ?_
              refine z_iadd dX10_goThrough_163 ?_
              refine m_iastN (j := lf) dX10_goThrough_164 sh89 rfl (by omega) rfl ?_
              refine z_aload_n dX10_goThrough_165 rfl ?_
              refine z_iload_n dX10_goThrough_166 rfl ?_
              refine z_iload dX10_goThrough_167 rfl ?_
              refine z_iload_n dX10_goThrough_169 rfl ?_
              refine z_iload_n dX10_goThrough_170 rfl ?_
              refine z_aload_n dX10_goThrough_171 rfl ?_
              refine m_getr dX10_goThrough_172 fX10_29 sh66 rfl ?_
              refine z_iload_n dX10_goThrough_175 rfl ?_
              refine m_ialdN (j := w) dX10_goThrough_176 sh72 rfl (by omega) rfl ?_
              refine z_iadd dX10_goThrough_177 ?_
              refine m_callVv (As := [.int _, .int _, .int _, .int _]) dX10_goThrough_178 kX10_194 ⟨rfl, rfl⟩ rfl ⟨rfl, rfl⟩ rfl rfl sh66 rfl rfl (c_widen hl hs) (fun μ178 ν178 hk178 => ?_)
              obtain ⟨rfl, rfl⟩ := hk178
              refine z_aload_n dX10_goThrough_181 rfl ?_
              refine m_getr dX10_goThrough_182 fX10_51 sh66 rfl ?_
              refine z_iload_n dX10_goThrough_185 rfl ?_
              refine z_iload_n dX10_goThrough_186 rfl ?_
              refine m_iastN (j := w) dX10_goThrough_187 sh79 rfl (by omega) rfl ?_
              refine z_aload_n dX10_goThrough_188 rfl ?_
              refine m_getr dX10_goThrough_189 fX10_54 sh66 rfl ?_
              refine z_iload_n dX10_goThrough_192 rfl ?_
              refine z_iload_n dX10_goThrough_193 rfl ?_
              refine z_aload_n dX10_goThrough_194 rfl ?_
              refine m_getr dX10_goThrough_195 fX10_29 sh66 rfl ?_
              refine z_iload_n dX10_goThrough_198 rfl ?_
              refine m_ialdN (j := w) dX10_goThrough_199 sh72 rfl (by omega) rfl ?_
              refine z_iadd dX10_goThrough_200 ?_
              refine m_iastN (j := w) dX10_goThrough_201 sh80 rfl (by omega) rfl ?_
              refine m_ret dX10_goThrough_202 rfl ?_
              first | exact (h42 ex6_38).elim | exact absurd (ex6_38.symm.trans h42) (by decide) | exact ⟨by subst_vars; simp only [rThrough, rPass, rKicked, if_pos h24, if_pos h30, if_pos h42, if_pos h77, if_pos h100, if_pos h118], rfl⟩
          · skip
            refine z_aload_n dX10_goThrough_103 rfl ?_
            refine m_getr dX10_goThrough_104 fX10_48 sh66 rfl ?_
            refine z_iload_n dX10_goThrough_107 rfl ?_
            refine m_ialdN (j := w) dX10_goThrough_108 sh78 rfl (by omega) rfl ?_
            refine z_goto 114 dX10_goThrough_109 (by decide) ?_
            refine m_iastN (j := w) dX10_goThrough_114 sh78 rfl (by omega) rfl ?_
            refine z_iload dX10_goThrough_115 rfl ?_
            refine z_iconst (v := 3) dX10_goThrough_117 rfl ?_
            refine z_icmp_ne 133 dX10_goThrough_118 (by decide) (fun h118 => ?_) (fun h118 => ?_)
            · skip
              refine z_aload_n dX10_goThrough_133 rfl ?_
              refine m_getr dX10_goThrough_134 fX10_72 sh66 rfl ?_
              refine z_iload_n dX10_goThrough_137 rfl ?_
              refine z_iload_n dX10_goThrough_138 rfl ?_
              refine m_iastN (j := lf) dX10_goThrough_139 sh86 rfl (by omega) rfl ?_
              refine z_aload_n dX10_goThrough_140 rfl ?_
              refine m_getr dX10_goThrough_141 fX10_75 sh66 rfl ?_
              refine z_iload_n dX10_goThrough_144 rfl ?_
              refine z_aload_n dX10_goThrough_145 rfl ?_
              refine m_getr dX10_goThrough_146 fX10_38 sh66 rfl ?_
              refine z_bipush (v := 12) dX10_goThrough_149 rfl ?_
              refine z_iload_n dX10_goThrough_151 rfl ?_
              refine z_iadd dX10_goThrough_152 ?_
              rw [show (12 + nI w) = nI (12 + w) from z6a 12 w]
              refine m_ialdN (j := (12 + w)) dX10_goThrough_153 sh75 rfl (by omega) rfl ?_
              refine m_iastN (j := lf) dX10_goThrough_154 sh87 rfl (by omega) rfl ?_
              refine z_aload_n dX10_goThrough_155 rfl ?_
              refine m_getr dX10_goThrough_156 fX10_81 sh66 rfl ?_
              refine z_iload_n dX10_goThrough_159 rfl ?_
              refine z_dup2 dX10_goThrough_160 rfl rfl ?_
              refine m_ialdN (j := lf) dX10_goThrough_161 sh89 rfl (by omega) rfl ?_
              refine z_iconst (v := 1) dX10_goThrough_162 rfl ?_
              refine z_iadd dX10_goThrough_163 ?_
              refine m_iastN (j := lf) dX10_goThrough_164 sh89 rfl (by omega) rfl ?_
              refine z_aload_n dX10_goThrough_165 rfl ?_
              refine z_iload_n dX10_goThrough_166 rfl ?_
              refine z_iload dX10_goThrough_167 rfl ?_
              refine z_iload_n dX10_goThrough_169 rfl ?_
              refine z_iload_n dX10_goThrough_170 rfl ?_
              refine z_aload_n dX10_goThrough_171 rfl ?_
              refine m_getr dX10_goThrough_172 fX10_29 sh66 rfl ?_
              refine z_iload_n dX10_goThrough_175 rfl ?_
              refine m_ialdN (j := w) dX10_goThrough_176 sh72 rfl (by omega) rfl ?_
              refine z_iadd dX10_goThrough_177 ?_
              refine m_callVv (As := [.int _, .int _, .int _, .int _]) dX10_goThrough_178 kX10_194 ⟨rfl, rfl⟩ rfl ⟨rfl, rfl⟩ rfl rfl sh66 rfl rfl (c_widen hl hs) (fun μ178 ν178 hk178 => ?_)
              obtain ⟨rfl, rfl⟩ := hk178
              refine z_aload_n dX10_goThrough_181 rfl ?_
              refine m_getr dX10_goThrough_182 fX10_51 sh66 rfl ?_
              refine z_iload_n dX10_goThrough_185 rfl ?_
              refine z_iload_n dX10_goThrough_186 rfl ?_
              refine m_iastN (j := w) dX10_goThrough_187 sh79 rfl (by omega) rfl ?_
              refine z_aload_n dX10_goThrough_188 rfl ?_
              refine m_getr dX10_goThrough_189 fX10_54 sh66 rfl ?_
              refine z_iload_n dX10_goThrough_192 rfl ?_
              refine z_iload_n dX10_goThrough_193 rfl ?_
              refine z_aload_n dX10_goThrough_194 rfl ?_
              refine m_getr dX10_goThrough_195 fX10_29 sh66 rfl ?_
              refine z_iload_n dX10_goThrough_198 rfl ?_
              refine m_ialdN (j := w) dX10_goThrough_199 sh72 rfl (by omega) rfl ?_
              refine z_iadd dX10_goThrough_200 ?_
              refine m_iastN (j := w) dX10_goThrough_201 sh80 rfl (by omega) rfl ?_
              refine m_ret dX10_goThrough_202 rfl ?_
              first | exact (h42 ex6_38).elim | exact absurd (ex6_38.symm.trans h42) (by decide) | exact ⟨by subst_vars; simp only [rThrough, rPass, rKicked, if_pos h24, if_pos h30, if_pos h42, if_pos h77, if_neg h100, if_neg h118], rfl⟩
            · skip
              refine z_aload_n dX10_goThrough_121 rfl ?_
              refine m_getr dX10_goThrough_122 fX10_48 sh66 rfl ?_
              refine z_iload_n dX10_goThrough_125 rfl ?_
              refine z_iconst (v := 5) dX10_goThrough_126 rfl ?_
              refine m_iastN (j := w) dX10_goThrough_127 sh78 rfl (by omega) rfl ?_
              refine z_aload_n dX10_goThrough_128 rfl ?_
              refine z_iload_n dX10_goThrough_129 rfl ?_
              refine m_callVv (As := [.int _]) dX10_goThrough_130 kX10_190 ⟨rfl, rfl⟩ rfl ⟨rfl, rfl⟩ rfl rfl sh66 rfl rfl (c_lose hw) (fun μ130 ν130 hk130 => ?_)
              obtain ⟨rfl, rfl⟩ := hk130
              refine z_aload_n dX10_goThrough_133 rfl ?_
              refine m_getr dX10_goThrough_134 fX10_72 sh66 rfl ?_
              refine z_iload_n dX10_goThrough_137 rfl ?_
              refine z_iload_n dX10_goThrough_138 rfl ?_
              refine m_iastN (j := lf) dX10_goThrough_139 sh86 rfl (by omega) rfl ?_
              refine z_aload_n dX10_goThrough_140 rfl ?_
              refine m_getr dX10_goThrough_141 fX10_75 sh66 rfl ?_
              refine z_iload_n dX10_goThrough_144 rfl ?_
              refine z_aload_n dX10_goThrough_145 rfl ?_
              refine m_getr dX10_goThrough_146 fX10_38 sh66 rfl ?_
              refine z_bipush (v := 12) dX10_goThrough_149 rfl ?_
              refine z_iload_n dX10_goThrough_151 rfl ?_
              refine z_iadd dX10_goThrough_152 ?_
              rw [show (12 + nI w) = nI (12 + w) from z6a 12 w]
              refine m_ialdN (j := (12 + w)) dX10_goThrough_153 sh75 rfl (by omega) rfl ?_
              refine m_iastN (j := lf) dX10_goThrough_154 sh87 rfl (by omega) rfl ?_
              refine z_aload_n dX10_goThrough_155 rfl ?_
              refine m_getr dX10_goThrough_156 fX10_81 sh66 rfl ?_
              refine z_iload_n dX10_goThrough_159 rfl ?_
              refine z_dup2 dX10_goThrough_160 rfl rfl ?_
              refine m_ialdN (j := lf) dX10_goThrough_161 sh89 rfl (by omega) rfl ?_
              refine z_iconst (v := 1) dX10_goThrough_162 rfl ?_
              refine z_iadd dX10_goThrough_163 ?_
              refine m_iastN (j := lf) dX10_goThrough_164 sh89 rfl (by omega) rfl ?_
              refine z_aload_n dX10_goThrough_165 rfl ?_
              refine z_iload_n dX10_goThrough_166 rfl ?_
              refine z_iload dX10_goThrough_167 rfl ?_
              refine z_iload_n dX10_goThrough_169 rfl ?_
              refine z_iload_n dX10_goThrough_170 rfl ?_
              refine z_aload_n dX10_goThrough_171 rfl ?_
              refine m_getr dX10_goThrough_172 fX10_29 sh66 rfl ?_
              refine z_iload_n dX10_goThrough_175 rfl ?_
              refine m_ialdN (j := w) dX10_goThrough_176 sh72 rfl (by omega) rfl ?_
              refine z_iadd dX10_goThrough_177 ?_
              refine m_callVv (As := [.int _, .int _, .int _, .int _]) dX10_goThrough_178 kX10_194 ⟨rfl, rfl⟩ rfl ⟨rfl, rfl⟩ rfl rfl sh66 rfl rfl (c_widen hl hs) (fun μ178 ν178 hk178 => ?_)
              obtain ⟨rfl, rfl⟩ := hk178
              refine z_aload_n dX10_goThrough_181 rfl ?_
              refine m_getr dX10_goThrough_182 fX10_51 sh66 rfl ?_
              refine z_iload_n dX10_goThrough_185 rfl ?_
              refine z_iload_n dX10_goThrough_186 rfl ?_
              refine m_iastN (j := w) dX10_goThrough_187 sh79 rfl (by omega) rfl ?_
              refine z_aload_n dX10_goThrough_188 rfl ?_
              refine m_getr dX10_goThrough_189 fX10_54 sh66 rfl ?_
              refine z_iload_n dX10_goThrough_192 rfl ?_
              refine z_iload_n dX10_goThrough_193 rfl ?_
              refine z_aload_n dX10_goThrough_194 rfl ?_
              refine m_getr dX10_goThrough_195 fX10_29 sh66 rfl ?_
              refine z_iload_n dX10_goThrough_198 rfl ?_
              refine m_ialdN (j := w) dX10_goThrough_199 sh72 rfl (by omega) rfl ?_
              refine z_iadd dX10_goThrough_200 ?_
              refine m_iastN (j := w) dX10_goThrough_201 sh80 rfl (by omega) rfl ?_
              refine m_ret dX10_goThrough_202 rfl ?_
              first | exact (h42 ex6_38).elim | exact absurd (ex6_38.symm.trans h42) (by decide) | exact ⟨by subst_vars; simp only [rThrough, rPass, rKicked, if_pos h24, if_pos h30, if_pos h42, if_pos h77, if_neg h100, if_pos h118], rfl⟩
      · skip
        refine z_aload_n dX10_goThrough_45 rfl ?_
        refine m_getr dX10_goThrough_46 fX10_48 sh66 rfl ?_
        refine z_iload_n dX10_goThrough_49 rfl ?_
        refine z_aload_n dX10_goThrough_50 rfl ?_
        refine m_getr dX10_goThrough_51 fX10_48 sh66 rfl ?_
        refine z_iload_n dX10_goThrough_54 rfl ?_
        refine m_ialdN (j := w) dX10_goThrough_55 sh78 rfl (by omega) rfl ?_
        refine z_iconst (v := 1) dX10_goThrough_56 rfl ?_
        refine z_icmp_le 69 dX10_goThrough_57 (by decide) (fun h57 => ?_) (fun h57 => ?_)
        · skip
          refine z_iconst (v := 1) dX10_goThrough_69 rfl ?_
          refine m_iastN (j := w) dX10_goThrough_70 sh78 rfl (by omega) rfl ?_
          refine z_goto 165 dX10_goThrough_71 (by decide) ?_
          refine z_aload_n dX10_goThrough_165 rfl ?_
          refine z_iload_n dX10_goThrough_166 rfl ?_
          refine z_iload dX10_goThrough_167 rfl ?_
          refine z_iload_n dX10_goThrough_169 rfl ?_
          refine z_iload_n dX10_goThrough_170 rfl ?_
          refine z_aload_n dX10_goThrough_171 rfl ?_
          refine m_getr dX10_goThrough_172 fX10_29 sh66 rfl ?_
          refine z_iload_n dX10_goThrough_175 rfl ?_
          refine m_ialdN (j := w) dX10_goThrough_176 sh72 rfl (by omega) rfl ?_
          refine z_iadd dX10_goThrough_177 ?_
          refine m_callVv (As := [.int _, .int _, .int _, .int _]) dX10_goThrough_178 kX10_194 ⟨rfl, rfl⟩ rfl ⟨rfl, rfl⟩ rfl rfl sh66 rfl rfl (c_widen hl hs) (fun μ178 ν178 hk178 => ?_)
          obtain ⟨rfl, rfl⟩ := hk178
          refine z_aload_n dX10_goThrough_181 rfl ?_
          refine m_getr dX10_goThrough_182 fX10_51 sh66 rfl ?_
          refine z_iload_n dX10_goThrough_185 rfl ?_
          refine z_iload_n dX10_goThrough_186 rfl ?_
          refine m_iastN (j := w) dX10_goThrough_187 sh79 rfl (by omega) rfl ?_
          refine z_aload_n dX10_goThrough_188 rfl ?_
          refine m_getr dX10_goThrough_189 fX10_54 sh66 rfl ?_
          refine z_iload_n dX10_goThrough_192 rfl ?_
          refine z_iload_n dX10_goThrough_193 rfl ?_
          refine z_aload_n dX10_goThrough_194 rfl ?_
          refine m_getr dX10_goThrough_195 fX10_29 sh66 rfl ?_
          refine z_iload_n dX10_goThrough_198 rfl ?_
          refine m_ialdN (j := w) dX10_goThrough_199 sh72 rfl (by omega) rfl ?_
          refine z_iadd dX10_goThrough_200 ?_
          refine m_iastN (j := w) dX10_goThrough_201 sh80 rfl (by omega) rfl ?_
          refine m_ret dX10_goThrough_202 rfl ?_
          first | exact (h42 ex6_38).elim | exact absurd (ex6_38.symm.trans h42) (by decide) | exact ⟨by subst_vars; simp only [rThrough, rPass, rKicked, if_pos h24, if_pos h30, if_neg h42, if_pos h57], rfl⟩
        · skip
          refine z_aload_n dX10_goThrough_60 rfl ?_
          refine m_getr dX10_goThrough_61 fX10_48 sh66 rfl ?_
          refine z_iload_n dX10_goThrough_64 rfl ?_
          refine m_ialdN (j := w) dX10_goThrough_65 sh78 rfl (by omega) rfl ?_
          refine z_goto 70 dX10_goThrough_66 (by decide) ?_
          refine m_iastN (j := w) dX10_goThrough_70 sh78 rfl (by omega) rfl ?_
          refine z_goto 165 dX10_goThrough_71 (by decide) ?_
          refine z_aload_n dX10_goThrough_165 rfl ?_
          refine z_iload_n dX10_goThrough_166 rfl ?_
          refine z_iload dX10_goThrough_167 rfl ?_
          refine z_iload_n dX10_goThrough_169 rfl ?_
          refine z_iload_n dX10_goThrough_170 rfl ?_
          refine z_aload_n dX10_goThrough_171 rfl ?_
          refine m_getr dX10_goThrough_172 fX10_29 sh66 rfl ?_
          refine z_iload_n dX10_goThrough_175 rfl ?_
          refine m_ialdN (j := w) dX10_goThrough_176 sh72 rfl (by omega) rfl ?_
          refine z_iadd dX10_goThrough_177 ?_
          refine m_callVv (As := [.int _, .int _, .int _, .int _]) dX10_goThrough_178 kX10_194 ⟨rfl, rfl⟩ rfl ⟨rfl, rfl⟩ rfl rfl sh66 rfl rfl (c_widen hl hs) (fun μ178 ν178 hk178 => ?_)
          obtain ⟨rfl, rfl⟩ := hk178
          refine z_aload_n dX10_goThrough_181 rfl ?_
          refine m_getr dX10_goThrough_182 fX10_51 sh66 rfl ?_
          refine z_iload_n dX10_goThrough_185 rfl ?_
          refine z_iload_n dX10_goThrough_186 rfl ?_
          refine m_iastN (j := w) dX10_goThrough_187 sh79 rfl (by omega) rfl ?_
          refine z_aload_n dX10_goThrough_188 rfl ?_
          refine m_getr dX10_goThrough_189 fX10_54 sh66 rfl ?_
          refine z_iload_n dX10_goThrough_192 rfl ?_
          refine z_iload_n dX10_goThrough_193 rfl ?_
          refine z_aload_n dX10_goThrough_194 rfl ?_
          refine m_getr dX10_goThrough_195 fX10_29 sh66 rfl ?_
          refine z_iload_n dX10_goThrough_198 rfl ?_
          refine m_ialdN (j := w) dX10_goThrough_199 sh72 rfl (by omega) rfl ?_
          refine z_iadd dX10_goThrough_200 ?_
          refine m_iastN (j := w) dX10_goThrough_201 sh80 rfl (by omega) rfl ?_
          refine m_ret dX10_goThrough_202 rfl ?_
          first | exact (h42 ex6_38).elim | exact absurd (ex6_38.symm.trans h42) (by decide) | exact ⟨by subst_vars; simp only [rThrough, rPass, rKicked, if_pos h24, if_pos h30, if_neg h42, if_neg h57], rfl⟩

theorem rBegin_ne {μ : Mem} {w lf q : Nat} (h : q ≠ 81) (h2 : q ≠ 88) : rBegin μ w lf q = μ q := by
  unfold rBegin
  rw [up2_ne h2, up2_ne h]
set_option maxRecDepth 100000 in
set_option maxHeartbeats 400000 in
theorem c_look {l : Launch} {G : zG} {μ : Mem} {ν : Lng} {n w s : Nat} (hn : μ 66 17 = nI n) (h6 : n ≤ 6) (hw : w < 6) (hsd : μ 71 w = nI s) (hs : s < 2) (hlat : zLatM μ)  : Cm l G mX10_look [.ref 66, .int (nI w)] μ ν (fun _ b9 c9 => rLook μ n w s = b9 ∧ ν = c9) := by
  refine Con.of (by decide) (Nat.le_of_ble_eq_true rfl) ?_
  show Am l G mX10_look 0 [(0, .ref 66), (1, .int (nI w))] [] μ ν _
  refine z_aload_n dX10_look_0 rfl ?_
  refine z_iload_n dX10_look_1 rfl ?_
  refine m_callV (As := [.int _]) dX10_look_2 kX10_202 ⟨rfl, rfl⟩ rfl ⟨rfl, rfl⟩ rfl rfl sh66 rfl rfl (c_leafFor hw hsd hs) (fun r2 μ2 ν2 hk2 => ?_)
  obtain ⟨rfl, rfl, rfl⟩ := hk2
  have hl := rLeaf_lt (μ := μ) (w := w) hs
  unfold rLook
  generalize rLeaf μ w s = lf at hl ⊢
  refine z_istore_n (i := 2) (fun y => [(2, .int y), (0, .ref 66), (1, .int (nI w))]) dX10_look_5 rfl rfl (fun _ => rfl) (fun x9 e9 => ?_)
  subst e9
  refine z_aload_n dX10_look_6 rfl ?_
  refine m_getr dX10_look_7 fX10_26 sh66 rfl ?_
  refine z_iload_n dX10_look_10 rfl ?_
  refine m_ialdN (j := w) dX10_look_11 sh71 rfl (by omega) rfl ?_
  rw [hsd]
  refine z_istore_n (i := 3) (fun y => [(3, .int y), (2, .int (nI lf)), (0, .ref 66), (1, .int (nI w))]) dX10_look_12 rfl rfl (fun _ => rfl) (fun x9 e9 => ?_)
  subst e9
  refine z_aload_n dX10_look_13 rfl ?_
  refine m_getr dX10_look_14 fX10_38 sh66 rfl ?_
  refine z_iload_n dX10_look_17 rfl ?_
  refine m_ialdN (j := w) dX10_look_18 sh75 rfl (by omega) rfl ?_
  refine z_istore (i := 4) (fun y => [(4, .int y), (3, .int (nI s)), (2, .int (nI lf)), (0, .ref 66), (1, .int (nI w))]) dX10_look_19 rfl (fun _ => rfl) (fun x9 e9 => ?_)
  subst e9
  refine z_aload_n dX10_look_21 rfl ?_
  refine m_getr dX10_look_22 fX10_57 sh66 rfl ?_
  refine z_iload_n dX10_look_25 rfl ?_
  refine z_iload_n dX10_look_26 rfl ?_
  refine m_iastN (j := w) dX10_look_27 sh81 rfl (by omega) rfl ?_
  refine z_aload_n dX10_look_28 rfl ?_
  refine m_getr dX10_look_29 fX10_78 sh66 rfl ?_
  refine z_iload_n dX10_look_32 rfl ?_
  refine z_dup2 dX10_look_33 rfl rfl ?_
  refine m_ialdN (j := lf) dX10_look_34 sh88 rfl (by omega) rfl ?_
  refine z_iconst (v := 1) dX10_look_35 rfl ?_
  refine z_iadd dX10_look_36 ?_
  refine m_iastN (j := lf) dX10_look_37 sh88 rfl (by omega) rfl ?_
  change Am l G mX10_look 38 _ [] (rBegin μ w lf) ν _
  have f1 : rBegin μ w lf 66 17 = nI n := by rw [rBegin_ne (by decide) (by decide)]; exact hn
  have f2 : rBegin μ w lf 71 w = nI s := by rw [rBegin_ne (by decide) (by decide)]; exact hsd
  have f4 : (rBegin μ w lf 84 (2 * lf + (1 - s)) = 0 ∧ rBegin μ w lf 85 (2 * lf + (1 - s)) = 0) ∨ ∃ m : Nat, m < 6 ∧ rBegin μ w lf 90 (2 * lf + (1 - s)) = nI m := by
    rw [rBegin_ne (by decide) (by decide), rBegin_ne (by decide) (by decide), rBegin_ne (by decide) (by decide)]
    exact hlat _ (by omega)
  generalize rBegin μ w lf = μ3 at f1 f2 f4 ⊢
  refine z_aload_n dX10_look_38 rfl ?_
  refine z_iload_n dX10_look_39 rfl ?_
  refine z_iconst (v := 1) dX10_look_40 rfl ?_
  refine z_iload_n dX10_look_41 rfl ?_
  refine z_isub dX10_look_42 ?_
  rw [show (1 - nI s) = nI (1 - s) from zfar hs]
  refine z_iload dX10_look_43 rfl ?_
  refine m_callV (As := [.int _, .int _, .int _]) dX10_look_45 kX10_184 ⟨rfl, rfl⟩ rfl ⟨rfl, rfl⟩ rfl rfl sh66 rfl rfl (c_isBusy hl (by omega)) (fun r45 μ45 ν45 hk45 => ?_)
  obtain ⟨rfl, rfl, rfl⟩ := hk45
  refine z_if_ne 62 dX10_look_48 (by decide) (fun h48 => ?_) (fun h48 => ?_)
  · skip
    refine z_aload_n dX10_look_62 rfl ?_
    refine m_getr dX10_look_63 fX10_38 sh66 rfl ?_
    refine z_bipush (v := 18) dX10_look_66 rfl ?_
    refine m_ialdN (j := 18) dX10_look_68 sh75 (by decide) (by decide) rfl ?_
    refine z_iconst (v := 1) dX10_look_69 rfl ?_
    refine z_icmp_eq 91 dX10_look_70 (by decide) (fun h70 => ?_) (fun h70 => ?_)
    · skip
      refine z_aload_n dX10_look_91 rfl ?_
      refine m_getr dX10_look_92 fX10_48 sh66 rfl ?_
      refine z_iload_n dX10_look_95 rfl ?_
      refine z_aload_n dX10_look_96 rfl ?_
      refine m_getr dX10_look_97 fX10_38 sh66 rfl ?_
      refine z_bipush (v := 18) dX10_look_100 rfl ?_
      refine m_ialdN (j := 18) dX10_look_102 sh75 (by decide) (by decide) rfl ?_
      refine z_iconst (v := 1) dX10_look_103 rfl ?_
      refine z_icmp_ne 111 dX10_look_104 (by decide) (fun h104 => ?_) (fun h104 => ?_)
      · skip
        refine z_iconst (v := 3) dX10_look_111 rfl ?_
        refine m_iastN (j := w) dX10_look_112 sh78 rfl (by omega) rfl ?_
        refine z_aload_n dX10_look_113 rfl ?_
        refine m_getr dX10_look_114 fX10_69 sh66 rfl ?_
        refine z_iconst (v := 2) dX10_look_117 rfl ?_
        refine z_iload_n dX10_look_118 rfl ?_
        refine z_imul dX10_look_119 ?_
        refine z_iconst (v := 1) dX10_look_120 rfl ?_
        refine z_iadd dX10_look_121 ?_
        rw [show ((2 * (nI lf)) + 1) = (2 * nI lf + 1) from rfl]
        refine z_iload_n dX10_look_122 rfl ?_
        refine z_isub dX10_look_123 ?_
        rw [show ((2 * nI lf + 1) - nI s) = nI (2 * lf + (1 - s)) from z2x hs]
        refine m_ialdN (j := (2 * lf + (1 - s))) dX10_look_124 sh85 rfl (by omega) rfl ?_
        refine z_istore (i := 5) (fun y => [(5, .int y), (4, .int (μ 75 w)), (3, .int (nI s)), (2, .int (nI lf)), (0, .ref 66), (1, .int (nI w))]) dX10_look_125 rfl (fun _ => rfl) (fun x5_125 ex5_125 => ?_)
        refine z_aload_n dX10_look_127 rfl ?_
        refine m_getr dX10_look_128 fX10_60 sh66 rfl ?_
        refine z_iload_n dX10_look_131 rfl ?_
        refine z_iload dX10_look_132 rfl ?_
        refine z_iload dX10_look_134 rfl ?_
        refine z_isub dX10_look_136 ?_
        refine m_iastN (j := w) dX10_look_137 sh82 rfl (by omega) rfl ?_
        refine z_aload_n dX10_look_138 rfl ?_
        refine z_dup dX10_look_139 rfl ?_
        refine m_geti dX10_look_140 fX10_213 sh66 rfl ?_
        refine z_iload dX10_look_143 rfl ?_
        refine z_iload dX10_look_145 rfl ?_
        refine z_isub dX10_look_147 ?_
        refine z_iadd dX10_look_148 ?_
        refine m_puti dX10_look_149 fX10_213 (fun q h => by cases h; rfl) rfl rfl sh66 rfl ?_
        refine z_aload_n dX10_look_152 rfl ?_
        refine z_iload_n dX10_look_153 rfl ?_
        refine z_iload_n dX10_look_154 rfl ?_
        refine z_iload dX10_look_155 rfl ?_
        refine m_callVv (As := [.int _, .int _, .int _]) dX10_look_157 kX10_206 ⟨rfl, rfl⟩ rfl ⟨rfl, rfl⟩ rfl rfl sh66 rfl rfl (c_goThroughM hw hl (by rw [up2_ne (by decide), up2_ne (by decide), up2_ne (by decide)]; exact f2) hs) (fun μ157 ν157 hk157 => ?_)
        obtain ⟨rfl, rfl⟩ := hk157
        refine z_goto 169 dX10_look_160 (by decide) ?_
        refine z_aload_n dX10_look_169 rfl ?_
        refine m_getr dX10_look_170 fX10_84 sh66 rfl ?_
        refine z_iconst (v := 2) dX10_look_173 rfl ?_
        refine z_iload_n dX10_look_174 rfl ?_
        refine z_imul dX10_look_175 ?_
        refine z_iload_n dX10_look_176 rfl ?_
        refine z_iadd dX10_look_177 ?_
        rw [show ((2 * (nI lf)) + nI s) = nI (2 * lf + s) from z2s lf s]
        refine z_iload_n dX10_look_178 rfl ?_
        refine m_iastN (j := (2 * lf + s)) dX10_look_179 sh90 rfl (by omega) rfl ?_
        refine m_ret dX10_look_180 rfl ?_
        first | exact (h104 h70).elim | exact (h70 h104).elim | (refine ⟨?_, rfl⟩; subst_vars; simp only [rLook2, rWait, if_neg h48, if_pos h70, if_neg h104]; done) | (refine ⟨?_, rfl⟩; subst_vars; simp only [rLook2, rWait, if_neg h48, if_pos h70, if_neg h104]; rw [em, nI_clamp (Nat.lt_trans hm (by decide))]; done)
      · skip
        refine z_iconst (v := 4) dX10_look_107 rfl ?_
        refine z_goto 112 dX10_look_108 (by decide) ?_
        refine m_iastN (j := w) dX10_look_112 sh78 rfl (by omega) rfl ?_
        refine z_aload_n dX10_look_113 rfl ?_
        refine m_getr dX10_look_114 fX10_69 sh66 rfl ?_
        refine z_iconst (v := 2) dX10_look_117 rfl ?_
        refine z_iload_n dX10_look_118 rfl ?_
        refine z_imul dX10_look_119 ?_
        refine z_iconst (v := 1) dX10_look_120 rfl ?_
        refine z_iadd dX10_look_121 ?_
        rw [show ((2 * (nI lf)) + 1) = (2 * nI lf + 1) from rfl]
        refine z_iload_n dX10_look_122 rfl ?_
        refine z_isub dX10_look_123 ?_
        rw [show ((2 * nI lf + 1) - nI s) = nI (2 * lf + (1 - s)) from z2x hs]
        refine m_ialdN (j := (2 * lf + (1 - s))) dX10_look_124 sh85 rfl (by omega) rfl ?_
        refine z_istore (i := 5) (fun y => [(5, .int y), (4, .int (μ 75 w)), (3, .int (nI s)), (2, .int (nI lf)), (0, .ref 66), (1, .int (nI w))]) dX10_look_125 rfl (fun _ => rfl) (fun x5_125 ex5_125 => ?_)
        refine z_aload_n dX10_look_127 rfl ?_
        refine m_getr dX10_look_128 fX10_60 sh66 rfl ?_
        refine z_iload_n dX10_look_131 rfl ?_
        refine z_iload dX10_look_132 rfl ?_
        refine z_iload dX10_look_134 rfl ?_
        refine z_isub dX10_look_136 ?_
        refine m_iastN (j := w) dX10_look_137 sh82 rfl (by omega) rfl ?_
        refine z_aload_n dX10_look_138 rfl ?_
        refine z_dup dX10_look_139 rfl ?_
        refine m_geti dX10_look_140 fX10_213 sh66 rfl ?_
        refine z_iload dX10_look_143 rfl ?_
        refine z_iload dX10_look_145 rfl ?_
        refine z_isub dX10_look_147 ?_
        refine z_iadd dX10_look_148 ?_
        refine m_puti dX10_look_149 fX10_213 (fun q h => by cases h; rfl) rfl rfl sh66 rfl ?_
        refine z_aload_n dX10_look_152 rfl ?_
        refine z_iload_n dX10_look_153 rfl ?_
        refine z_iload_n dX10_look_154 rfl ?_
        refine z_iload dX10_look_155 rfl ?_
        refine m_callVv (As := [.int _, .int _, .int _]) dX10_look_157 kX10_206 ⟨rfl, rfl⟩ rfl ⟨rfl, rfl⟩ rfl rfl sh66 rfl rfl (c_goThroughM hw hl (by rw [up2_ne (by decide), up2_ne (by decide), up2_ne (by decide)]; exact f2) hs) (fun μ157 ν157 hk157 => ?_)
        obtain ⟨rfl, rfl⟩ := hk157
        refine z_goto 169 dX10_look_160 (by decide) ?_
        refine z_aload_n dX10_look_169 rfl ?_
        refine m_getr dX10_look_170 fX10_84 sh66 rfl ?_
        refine z_iconst (v := 2) dX10_look_173 rfl ?_
        refine z_iload_n dX10_look_174 rfl ?_
        refine z_imul dX10_look_175 ?_
        refine z_iload_n dX10_look_176 rfl ?_
        refine z_iadd dX10_look_177 ?_
        rw [show ((2 * (nI lf)) + nI s) = nI (2 * lf + s) from z2s lf s]
        refine z_iload_n dX10_look_178 rfl ?_
        refine m_iastN (j := (2 * lf + s)) dX10_look_179 sh90 rfl (by omega) rfl ?_
        refine m_ret dX10_look_180 rfl ?_
        first | exact (h104 h70).elim | exact (h70 h104).elim | (refine ⟨?_, rfl⟩; subst_vars; simp only [rLook2, rWait, if_neg h48, if_pos h70, if_pos h104]; done) | (refine ⟨?_, rfl⟩; subst_vars; simp only [rLook2, rWait, if_neg h48, if_pos h70, if_pos h104]; rw [em, nI_clamp (Nat.lt_trans hm (by decide))]; done)
    · skip
      refine z_aload_n dX10_look_73 rfl ?_
      refine m_getr dX10_look_74 fX10_35 sh66 rfl ?_
      refine z_iload_n dX10_look_77 rfl ?_
      refine m_ialdN (j := w) dX10_look_78 sh74 rfl (by omega) rfl ?_
      refine z_iconst (v := 1) dX10_look_79 rfl ?_
      refine z_icmp_ne 163 dX10_look_80 (by decide) (fun h80 => ?_) (fun h80 => ?_)
      · skip
        obtain ⟨m, hm, em⟩ := rBusy_lat h48 f4
        refine z_aload_n dX10_look_163 rfl ?_
        refine z_iload_n dX10_look_164 rfl ?_
        refine z_iload_n dX10_look_165 rfl ?_
        refine m_callVv (As := [.int _, .int _]) dX10_look_166 kX10_216 ⟨rfl, rfl⟩ rfl ⟨rfl, rfl⟩ rfl rfl sh66 rfl rfl (c_crashM hw hl f2 hs hm em) (fun μ166 ν166 hk166 => ?_)
        obtain ⟨rfl, rfl⟩ := hk166
        refine z_aload_n dX10_look_169 rfl ?_
        refine m_getr dX10_look_170 fX10_84 sh66 rfl ?_
        refine z_iconst (v := 2) dX10_look_173 rfl ?_
        refine z_iload_n dX10_look_174 rfl ?_
        refine z_imul dX10_look_175 ?_
        refine z_iload_n dX10_look_176 rfl ?_
        refine z_iadd dX10_look_177 ?_
        rw [show ((2 * (nI lf)) + nI s) = nI (2 * lf + s) from z2s lf s]
        refine z_iload_n dX10_look_178 rfl ?_
        refine m_iastN (j := (2 * lf + s)) dX10_look_179 sh90 rfl (by omega) rfl ?_
        refine m_ret dX10_look_180 rfl ?_
        first | exact (h104 h70).elim | exact (h70 h104).elim | (refine ⟨?_, rfl⟩; subst_vars; simp only [rLook2, rWait, if_neg h48, if_neg h70, if_neg h80]; done) | (refine ⟨?_, rfl⟩; subst_vars; simp only [rLook2, rWait, if_neg h48, if_neg h70, if_neg h80]; rw [em, nI_clamp (Nat.lt_trans hm (by decide))]; done)
      · skip
        refine z_aload_n dX10_look_83 rfl ?_
        refine z_iload_n dX10_look_84 rfl ?_
        refine m_callV (As := [.int _]) dX10_look_85 kX10_210 ⟨rfl, rfl⟩ rfl ⟨rfl, rfl⟩ rfl rfl sh66 rfl rfl (c_isHeardM f1 h6 hw) (fun r85 μ85 ν85 hk85 => ?_)
        obtain ⟨rfl, rfl, rfl⟩ := hk85
        refine z_if_eq 163 dX10_look_88 (by decide) (fun h88 => ?_) (fun h88 => ?_)
        · skip
          obtain ⟨m, hm, em⟩ := rBusy_lat h48 f4
          refine z_aload_n dX10_look_163 rfl ?_
          refine z_iload_n dX10_look_164 rfl ?_
          refine z_iload_n dX10_look_165 rfl ?_
          refine m_callVv (As := [.int _, .int _]) dX10_look_166 kX10_216 ⟨rfl, rfl⟩ rfl ⟨rfl, rfl⟩ rfl rfl sh66 rfl rfl (c_crashM hw hl f2 hs hm em) (fun μ166 ν166 hk166 => ?_)
          obtain ⟨rfl, rfl⟩ := hk166
          refine z_aload_n dX10_look_169 rfl ?_
          refine m_getr dX10_look_170 fX10_84 sh66 rfl ?_
          refine z_iconst (v := 2) dX10_look_173 rfl ?_
          refine z_iload_n dX10_look_174 rfl ?_
          refine z_imul dX10_look_175 ?_
          refine z_iload_n dX10_look_176 rfl ?_
          refine z_iadd dX10_look_177 ?_
          rw [show ((2 * (nI lf)) + nI s) = nI (2 * lf + s) from z2s lf s]
          refine z_iload_n dX10_look_178 rfl ?_
          refine m_iastN (j := (2 * lf + s)) dX10_look_179 sh90 rfl (by omega) rfl ?_
          refine m_ret dX10_look_180 rfl ?_
          first | exact (h104 h70).elim | exact (h70 h104).elim | (refine ⟨?_, rfl⟩; subst_vars; simp only [rLook2, rWait, if_neg h48, if_neg h70, if_pos h80, if_pos h88]; done) | (refine ⟨?_, rfl⟩; subst_vars; simp only [rLook2, rWait, if_neg h48, if_neg h70, if_pos h80, if_pos h88]; rw [em, nI_clamp (Nat.lt_trans hm (by decide))]; done)
        · skip
          refine z_aload_n dX10_look_91 rfl ?_
          refine m_getr dX10_look_92 fX10_48 sh66 rfl ?_
          refine z_iload_n dX10_look_95 rfl ?_
          refine z_aload_n dX10_look_96 rfl ?_
          refine m_getr dX10_look_97 fX10_38 sh66 rfl ?_
          refine z_bipush (v := 18) dX10_look_100 rfl ?_
          refine m_ialdN (j := 18) dX10_look_102 sh75 (by decide) (by decide) rfl ?_
          refine z_iconst (v := 1) dX10_look_103 rfl ?_
          refine z_icmp_ne 111 dX10_look_104 (by decide) (fun h104 => ?_) (fun h104 => ?_)
          · skip
            refine z_iconst (v := 3) dX10_look_111 rfl ?_
            refine m_iastN (j := w) dX10_look_112 sh78 rfl (by omega) rfl ?_
            refine z_aload_n dX10_look_113 rfl ?_
            refine m_getr dX10_look_114 fX10_69 sh66 rfl ?_
            refine z_iconst (v := 2) dX10_look_117 rfl ?_
            refine z_iload_n dX10_look_118 rfl ?_
            refine z_imul dX10_look_119 ?_
            refine z_iconst (v := 1) dX10_look_120 rfl ?_
            refine z_iadd dX10_look_121 ?_
            rw [show ((2 * (nI lf)) + 1) = (2 * nI lf + 1) from rfl]
            refine z_iload_n dX10_look_122 rfl ?_
            refine z_isub dX10_look_123 ?_
            rw [show ((2 * nI lf + 1) - nI s) = nI (2 * lf + (1 - s)) from z2x hs]
            refine m_ialdN (j := (2 * lf + (1 - s))) dX10_look_124 sh85 rfl (by omega) rfl ?_
            refine z_istore (i := 5) (fun y => [(5, .int y), (4, .int (μ 75 w)), (3, .int (nI s)), (2, .int (nI lf)), (0, .ref 66), (1, .int (nI w))]) dX10_look_125 rfl (fun _ => rfl) (fun x5_125 ex5_125 => ?_)
            refine z_aload_n dX10_look_127 rfl ?_
            refine m_getr dX10_look_128 fX10_60 sh66 rfl ?_
            refine z_iload_n dX10_look_131 rfl ?_
            refine z_iload dX10_look_132 rfl ?_
            refine z_iload dX10_look_134 rfl ?_
            refine z_isub dX10_look_136 ?_
            refine m_iastN (j := w) dX10_look_137 sh82 rfl (by omega) rfl ?_
            refine z_aload_n dX10_look_138 rfl ?_
            refine z_dup dX10_look_139 rfl ?_
            refine m_geti dX10_look_140 fX10_213 sh66 rfl ?_
            refine z_iload dX10_look_143 rfl ?_
            refine z_iload dX10_look_145 rfl ?_
            refine z_isub dX10_look_147 ?_
            refine z_iadd dX10_look_148 ?_
            refine m_puti dX10_look_149 fX10_213 (fun q h => by cases h; rfl) rfl rfl sh66 rfl ?_
            refine z_aload_n dX10_look_152 rfl ?_
            refine z_iload_n dX10_look_153 rfl ?_
            refine z_iload_n dX10_look_154 rfl ?_
            refine z_iload dX10_look_155 rfl ?_
            refine m_callVv (As := [.int _, .int _, .int _]) dX10_look_157 kX10_206 ⟨rfl, rfl⟩ rfl ⟨rfl, rfl⟩ rfl rfl sh66 rfl rfl (c_goThroughM hw hl (by rw [up2_ne (by decide), up2_ne (by decide), up2_ne (by decide)]; exact f2) hs) (fun μ157 ν157 hk157 => ?_)
            obtain ⟨rfl, rfl⟩ := hk157
            refine z_goto 169 dX10_look_160 (by decide) ?_
            refine z_aload_n dX10_look_169 rfl ?_
            refine m_getr dX10_look_170 fX10_84 sh66 rfl ?_
            refine z_iconst (v := 2) dX10_look_173 rfl ?_
            refine z_iload_n dX10_look_174 rfl ?_
            refine z_imul dX10_look_175 ?_
            refine z_iload_n dX10_look_176 rfl ?_
            refine z_iadd dX10_look_177 ?_
            rw [show ((2 * (nI lf)) + nI s) = nI (2 * lf + s) from z2s lf s]
            refine z_iload_n dX10_look_178 rfl ?_
            refine m_iastN (j := (2 * lf + s)) dX10_look_179 sh90 rfl (by omega) rfl ?_
            refine m_ret dX10_look_180 rfl ?_
            first | exact (h104 h70).elim | exact (h70 h104).elim | (refine ⟨?_, rfl⟩; subst_vars; simp only [rLook2, rWait, if_neg h48, if_neg h70, if_pos h80, if_neg h88, if_neg h104]; done) | (refine ⟨?_, rfl⟩; subst_vars; simp only [rLook2, rWait, if_neg h48, if_neg h70, if_pos h80, if_neg h88, if_neg h104]; rw [em, nI_clamp (Nat.lt_trans hm (by decide))]; done)
          · skip
            refine z_iconst (v := 4) dX10_look_107 rfl ?_
            refine z_goto 112 dX10_look_108 (by decide) ?_
            refine m_iastN (j := w) dX10_look_112 sh78 rfl (by omega) rfl ?_
            refine z_aload_n dX10_look_113 rfl ?_
            refine m_getr dX10_look_114 fX10_69 sh66 rfl ?_
            refine z_iconst (v := 2) dX10_look_117 rfl ?_
            refine z_iload_n dX10_look_118 rfl ?_
            refine z_imul dX10_look_119 ?_
            refine z_iconst (v := 1) dX10_look_120 rfl ?_
            refine z_iadd dX10_look_121 ?_
            rw [show ((2 * (nI lf)) + 1) = (2 * nI lf + 1) from rfl]
            refine z_iload_n dX10_look_122 rfl ?_
            refine z_isub dX10_look_123 ?_
            rw [show ((2 * nI lf + 1) - nI s) = nI (2 * lf + (1 - s)) from z2x hs]
            refine m_ialdN (j := (2 * lf + (1 - s))) dX10_look_124 sh85 rfl (by omega) rfl ?_
            refine z_istore (i := 5) (fun y => [(5, .int y), (4, .int (μ 75 w)), (3, .int (nI s)), (2, .int (nI lf)), (0, .ref 66), (1, .int (nI w))]) dX10_look_125 rfl (fun _ => rfl) (fun x5_125 ex5_125 => ?_)
            refine z_aload_n dX10_look_127 rfl ?_
            refine m_getr dX10_look_128 fX10_60 sh66 rfl ?_
            refine z_iload_n dX10_look_131 rfl ?_
            refine z_iload dX10_look_132 rfl ?_
            refine z_iload dX10_look_134 rfl ?_
            refine z_isub dX10_look_136 ?_
            refine m_iastN (j := w) dX10_look_137 sh82 rfl (by omega) rfl ?_
            refine z_aload_n dX10_look_138 rfl ?_
            refine z_dup dX10_look_139 rfl ?_
            refine m_geti dX10_look_140 fX10_213 sh66 rfl ?_
            refine z_iload dX10_look_143 rfl ?_
            refine z_iload dX10_look_145 rfl ?_
            refine z_isub dX10_look_147 ?_
            refine z_iadd dX10_look_148 ?_
            refine m_puti dX10_look_149 fX10_213 (fun q h => by cases h; rfl) rfl rfl sh66 rfl ?_
            refine z_aload_n dX10_look_152 rfl ?_
            refine z_iload_n dX10_look_153 rfl ?_
            refine z_iload_n dX10_look_154 rfl ?_
            refine z_iload dX10_look_155 rfl ?_
            refine m_callVv (As := [.int _, .int _, .int _]) dX10_look_157 kX10_206 ⟨rfl, rfl⟩ rfl ⟨rfl, rfl⟩ rfl rfl sh66 rfl rfl (c_goThroughM hw hl (by rw [up2_ne (by decide), up2_ne (by decide), up2_ne (by decide)]; exact f2) hs) (fun μ157 ν157 hk157 => ?_)
            obtain ⟨rfl, rfl⟩ := hk157
            refine z_goto 169 dX10_look_160 (by decide) ?_
            refine z_aload_n dX10_look_169 rfl ?_
            refine m_getr dX10_look_170 fX10_84 sh66 rfl ?_
            refine z_iconst (v := 2) dX10_look_173 rfl ?_
            refine z_iload_n dX10_look_174 rfl ?_
            refine z_imul dX10_look_175 ?_
            refine z_iload_n dX10_look_176 rfl ?_
            refine z_iadd dX10_look_177 ?_
            rw [show ((2 * (nI lf)) + nI s) = nI (2 * lf + s) from z2s lf s]
            refine z_iload_n dX10_look_178 rfl ?_
            refine m_iastN (j := (2 * lf + s)) dX10_look_179 sh90 rfl (by omega) rfl ?_
            refine m_ret dX10_look_180 rfl ?_
            first | exact (h104 h70).elim | exact (h70 h104).elim | (refine ⟨?_, rfl⟩; subst_vars; simp only [rLook2, rWait, if_neg h48, if_neg h70, if_pos h80, if_neg h88, if_pos h104]; done) | (refine ⟨?_, rfl⟩; subst_vars; simp only [rLook2, rWait, if_neg h48, if_neg h70, if_pos h80, if_neg h88, if_pos h104]; rw [em, nI_clamp (Nat.lt_trans hm (by decide))]; done)
  · skip
    refine z_aload_n dX10_look_51 rfl ?_
    refine z_iload_n dX10_look_52 rfl ?_
    refine z_iload_n dX10_look_53 rfl ?_
    refine z_iload dX10_look_54 rfl ?_
    refine m_callVv (As := [.int _, .int _, .int _]) dX10_look_56 kX10_206 ⟨rfl, rfl⟩ rfl ⟨rfl, rfl⟩ rfl rfl sh66 rfl rfl (c_goThroughM hw hl f2 hs) (fun μ56 ν56 hk56 => ?_)
    obtain ⟨rfl, rfl⟩ := hk56
    refine z_goto 169 dX10_look_59 (by decide) ?_
    refine z_aload_n dX10_look_169 rfl ?_
    refine m_getr dX10_look_170 fX10_84 sh66 rfl ?_
    refine z_iconst (v := 2) dX10_look_173 rfl ?_
    refine z_iload_n dX10_look_174 rfl ?_
    refine z_imul dX10_look_175 ?_
    refine z_iload_n dX10_look_176 rfl ?_
    refine z_iadd dX10_look_177 ?_
    rw [show ((2 * (nI lf)) + nI s) = nI (2 * lf + s) from z2s lf s]
    refine z_iload_n dX10_look_178 rfl ?_
    refine m_iastN (j := (2 * lf + s)) dX10_look_179 sh90 rfl (by omega) rfl ?_
    refine m_ret dX10_look_180 rfl ?_
    first | exact (h104 h70).elim | exact (h70 h104).elim | (refine ⟨?_, rfl⟩; subst_vars; simp only [rLook2, rWait, if_pos h48]; done) | (refine ⟨?_, rfl⟩; subst_vars; simp only [rLook2, rWait, if_pos h48]; rw [em, nI_clamp (Nat.lt_trans hm (by decide))]; done)
