
theorem zand31 (x : Int32) : ∃ c : Nat, c < 32 ∧ x &&& 31 = nI c := by
  refine ⟨(x &&& 31).toBitVec.toNat, ?_, ?_⟩
  · show (x.toBitVec &&& (31 : Int32).toBitVec).toNat < 32
    rw [BitVec.toNat_and]
    exact Nat.lt_of_le_of_lt Nat.and_le_right (by decide)
  · refine Int32.toBitVec_inj.mp ?_
    show (x &&& 31).toBitVec = BitVec.ofNat 32 (x &&& 31).toBitVec.toNat
    rw [BitVec.ofNat_toNat, BitVec.setWidth_eq]
theorem zl4 {L i : Nat} (hL : L ≤ 256) (hi : i ≤ 300) (h : ¬ nI L - 4 < nI i) : i + 4 ≤ L := by
  rcases (show L = 0 ∨ L = 1 ∨ L = 2 ∨ L = 3 ∨ 4 ≤ L by omega) with rfl | rfl | rfl | rfl | h4
  · exact absurd (Int32.lt_of_lt_of_le (show nI 0 - 4 < 0 by decide) (nI_pos' (by omega))) h
  · exact absurd (Int32.lt_of_lt_of_le (show nI 1 - 4 < 0 by decide) (nI_pos' (by omega))) h
  · exact absurd (Int32.lt_of_lt_of_le (show nI 2 - 4 < 0 by decide) (nI_pos' (by omega))) h
  · exact absurd (Int32.lt_of_lt_of_le (show nI 3 - 4 < 0 by decide) (nI_pos' (by omega))) h
  · rw [show (nI L - 4 : Int32) = nI (L - 4) from pk_sub (b := 4) h4] at h
    exact Classical.byContradiction (fun q => h (nI_lt (by omega) (by omega)))
theorem z_saldN {l : Launch} {G : zG} {M : zM} {pc : Nat} {lv : List (Nat × Value)} {st : List Value} {w : List zC} {cs ss : Nat} {K : Int32 → List zC → Prop} {j : Nat} (hd : decode (zcc M) pc = .ok (.iaload, 1)) (hj : j < zgL G) (hG : zgL G ≤ 256) (kk : AW l G M (pc + 1) lv (.int (zgx G j) :: st) w cs ss K) : AW l G M pc lv (.int (nI j) :: .retAddr 1 :: st) w cs ss K := by
  refine z_sald hd ?_ ?_
  · unfold vp_in
    rw [nI_clamp (show j < 2 ^ 31 by omega)]
    exact fun q => q.elim (fun q => absurd q (nI_pos (by omega))) (fun q => by omega)
  · rw [nI_clamp (show j < 2 ^ 31 by omega)]
    exact kk
set_option maxRecDepth 100000 in
set_option maxHeartbeats 4000000 in
theorem d_law {l : Launch} {G : zG} (hL : zgL G ≤ 256) : ∀ (d i : Nat) (μ : Mem) (ν : Lng) (n : Nat), zRel μ ν μ n → i ≤ 256 → zgL G + 4 ≤ i + 4 * d → AW l G mL_law 18 [(3, .int (nI i)), (2, .ref 66), (1, .ref 0), (0, .retAddr 1)] [] (wd μ ν) 97 1365 (fun r _ => r = 1)
  | 0, i, μ, ν, n, hrel, hi, hd => by
    refine z_iload_n dL_law_18 rfl ?_
    refine z_aloadX dL_law_19 rfl ?_
    refine z_slen dL_law_20 ?_
    refine z_iconst (v := 4) dL_law_21 rfl ?_
    refine z_isub dL_law_22 ?_
    refine z_icmp_gt 1084 dL_law_23 (by decide) (fun _ => ?_) (fun h => absurd (zl4 hL (by omega) h) (by omega))
    refine z_iconst (v := 1) dL_law_1084 rfl ?_
    exact z_iret dL_law_1085 rfl rfl rfl rfl rfl
  | d + 1, i, μ, ν, n, hrel, hi, hd => by
    have IH := d_law (l := l) hL d
    refine z_iload_n dL_law_18 rfl ?_
    refine z_aloadX dL_law_19 rfl ?_
    refine z_slen dL_law_20 ?_
    refine z_iconst (v := 4) dL_law_21 rfl ?_
    refine z_isub dL_law_22 ?_
    refine z_icmp_gt 1084 dL_law_23 (by decide) (fun _ => ?_) (fun h => ?_)
    · refine z_iconst (v := 1) dL_law_1084 rfl ?_
      exact z_iret dL_law_1085 rfl rfl rfl rfl rfl
    have h4 := zl4 hL (by omega) h
    have h1078 : ∀ (μ2 : Mem) (ν2 : Lng) (n2 : Nat), zRel μ2 ν2 μ2 n2 → AW l G mL_law 1078 [(3, .int (nI i)), (2, .ref 66), (1, .ref 0), (0, .retAddr 1)] [] (wd μ2 ν2) 97 1365 (fun r _ => r = 1) := fun μ2 ν2 n2 h3 => by
      refine z_iinc (fun y => [(3, .int y), (2, .ref 66), (1, .ref 0), (0, .retAddr 1)]) dL_law_1078 rfl rfl (fun _ => rfl) (fun x ex => ?_)
      obtain rfl : x = nI (i + 4) := ex.trans (nI_add i 4)
      refine z_goto 18 dL_law_1081 (by decide) ?_
      exact IH (i + 4) μ2 ν2 n2 h3 (by omega) (by omega)
    refine z_aloadX dL_law_26 rfl ?_
    refine z_iload_n dL_law_27 rfl ?_
    refine z_saldN dL_law_28 (by omega) hL ?_
    refine z_bipush (v := 31) dL_law_29 rfl ?_
    refine z_iand dL_law_31 ?_
    obtain ⟨c, hc, ec⟩ := zand31 (zgx G i)
    rw [ec]
    rcases (show c = 0 ∨ c = 1 ∨ c = 2 ∨ c = 3 ∨ c = 4 ∨ c = 5 ∨ c = 6 ∨ c = 7 ∨ c = 8 ∨ c = 9 ∨ c = 10 ∨ c = 11 ∨ c = 12 ∨ c = 13 ∨ c = 14 ∨ c = 15 ∨ c = 16 ∨ c = 17 ∨ c = 18 ∨ c = 19 ∨ c = 20 ∨ c = 21 ∨ c = 22 ∨ c = 23 ∨ c = 24 ∨ c = 25 ∨ c = 26 ∨ c = 27 ∨ c = 28 ∨ c = 29 ∨ c = 30 ∨ c = 31 by omega) with rfl | rfl | rfl | rfl | rfl | rfl | rfl | rfl | rfl | rfl | rfl | rfl | rfl | rfl | rfl | rfl | rfl | rfl | rfl | rfl | rfl | rfl | rfl | rfl | rfl | rfl | rfl | rfl | rfl | rfl | rfl | rfl
    · refine z_tableIn 176 dL_law_32 (by decide) (by decide) rfl (by decide) ?_
      obtain ⟨r, μ1, ν1, μ2, n2, h1, h2, h3⟩ := op_feed (zgx G (i + 1)) l G μ ν n hrel
      refine z_aload_n dL_law_176 rfl ?_
      refine z_aloadX dL_law_177 rfl ?_
      refine z_iload_n dL_law_178 rfl ?_
      refine z_iconst (v := 1) dL_law_179 rfl ?_
      refine z_iadd dL_law_180 ?_
      rw [show (nI i + 1 : Int32) = nI (i + 1) from nI_1 i]
      refine z_saldN dL_law_181 (by omega) hL ?_
      refine z_callV (As := [.int _]) (b := 0) (st := []) dL_law_182 klaw_13 ⟨rfl, rfl⟩ rfl rfl rfl (wd_get sh0) rfl rfl rfl rfl h1 (fun r9 w9 hk9 => ?_)
      obtain ⟨_, _, rfl, rfl, rfl, rfl⟩ := hk9
      refine z_aload_n dL_law_185 rfl ?_
      refine z_aloadX dL_law_186 rfl ?_
      refine z_iload_n dL_law_187 rfl ?_
      refine z_iconst (v := 1) dL_law_188 rfl ?_
      refine z_iadd dL_law_189 ?_
      rw [show (nI i + 1 : Int32) = nI (i + 1) from nI_1 i]
      refine z_saldN dL_law_190 (by omega) hL ?_
      refine z_callV (As := [.int _]) (b := 66) (st := [.int r]) dL_law_191 klaw_17 ⟨rfl, rfl⟩ rfl rfl rfl (wd_get sh66) rfl rfl rfl rfl h2 (fun r9 w9 hk9 => ?_)
      obtain ⟨_, _, rfl, rfl, rfl, rfl⟩ := hk9
      refine z_icmp_eq 1078 dL_law_194 (by decide) (fun _ => ?_) (fun h => absurd rfl h)
      exact h1078 _ _ _ h3
    · refine z_tableIn 199 dL_law_32 (by decide) (by decide) rfl (by decide) ?_
      obtain ⟨r, μ1, ν1, h1, h2⟩ := op_house l G μ ν n hrel
      refine z_aload_n dL_law_199 rfl ?_
      refine z_callV (As := []) (b := 0) (st := []) dL_law_200 klaw_18 ⟨rfl, rfl⟩ rfl rfl rfl (wd_get sh0) rfl rfl rfl rfl h1 (fun r9 w9 hk9 => ?_)
      obtain ⟨_, _, rfl, rfl, rfl, rfl⟩ := hk9
      refine z_aload_n dL_law_203 rfl ?_
      refine z_callV (As := []) (b := 66) (st := [.int r]) dL_law_204 klaw_22 ⟨rfl, rfl⟩ rfl rfl rfl (wd_get sh66) rfl rfl rfl rfl h2 (fun r9 w9 hk9 => ?_)
      obtain ⟨μ2, _, rfl, rfl, ⟨n2, h3⟩, rfl⟩ := hk9
      refine z_icmp_eq 1078 dL_law_207 (by decide) (fun _ => ?_) (fun h => absurd rfl h)
      exact h1078 _ _ _ h3
    · refine z_tableIn 212 dL_law_32 (by decide) (by decide) rfl (by decide) ?_
      obtain ⟨r, μ1, ν1, μ2, n2, h1, h2, h3⟩ := op_fault l G μ ν n hrel
      refine z_aload_n dL_law_212 rfl ?_
      refine z_callV (As := []) (b := 0) (st := []) dL_law_213 klaw_23 ⟨rfl, rfl⟩ rfl rfl rfl (wd_get sh0) rfl rfl rfl rfl h1 (fun r9 w9 hk9 => ?_)
      obtain ⟨_, _, rfl, rfl, rfl, rfl⟩ := hk9
      refine z_aload_n dL_law_216 rfl ?_
      refine z_callV (As := []) (b := 66) (st := [.int r]) dL_law_217 klaw_26 ⟨rfl, rfl⟩ rfl rfl rfl (wd_get sh66) rfl rfl rfl rfl h2 (fun r9 w9 hk9 => ?_)
      obtain ⟨_, _, rfl, rfl, rfl, rfl⟩ := hk9
      refine z_icmp_eq 1078 dL_law_220 (by decide) (fun _ => ?_) (fun h => absurd rfl h)
      exact h1078 _ _ _ h3
    · refine z_tableIn 225 dL_law_32 (by decide) (by decide) rfl (by decide) ?_
      obtain ⟨r, μ1, ν1, μ2, n2, h1, h2, h3⟩ := op_told (zgx G (i + 1)) l G μ ν n hrel
      refine z_aload_n dL_law_225 rfl ?_
      refine z_aloadX dL_law_226 rfl ?_
      refine z_iload_n dL_law_227 rfl ?_
      refine z_iconst (v := 1) dL_law_228 rfl ?_
      refine z_iadd dL_law_229 ?_
      rw [show (nI i + 1 : Int32) = nI (i + 1) from nI_1 i]
      refine z_saldN dL_law_230 (by omega) hL ?_
      refine z_callV (As := [.int _]) (b := 0) (st := []) dL_law_231 klaw_27 ⟨rfl, rfl⟩ rfl rfl rfl (wd_get sh0) rfl rfl rfl rfl h1 (fun r9 w9 hk9 => ?_)
      obtain ⟨_, _, rfl, rfl, rfl, rfl⟩ := hk9
      refine z_aload_n dL_law_234 rfl ?_
      refine z_aloadX dL_law_235 rfl ?_
      refine z_iload_n dL_law_236 rfl ?_
      refine z_iconst (v := 1) dL_law_237 rfl ?_
      refine z_iadd dL_law_238 ?_
      rw [show (nI i + 1 : Int32) = nI (i + 1) from nI_1 i]
      refine z_saldN dL_law_239 (by omega) hL ?_
      refine z_callV (As := [.int _]) (b := 66) (st := [.int r]) dL_law_240 klaw_30 ⟨rfl, rfl⟩ rfl rfl rfl (wd_get sh66) rfl rfl rfl rfl h2 (fun r9 w9 hk9 => ?_)
      obtain ⟨_, _, rfl, rfl, rfl, rfl⟩ := hk9
      refine z_icmp_eq 1078 dL_law_243 (by decide) (fun _ => ?_) (fun h => absurd rfl h)
      exact h1078 _ _ _ h3
    · refine z_tableIn 248 dL_law_32 (by decide) (by decide) rfl (by decide) ?_
      obtain ⟨r, μ1, ν1, μ2, n2, h1, h2, h3⟩ := op_leaf (zgx G (i + 1)) (zgx G (i + 2)) l G μ ν n hrel
      refine z_aload_n dL_law_248 rfl ?_
      refine z_aloadX dL_law_249 rfl ?_
      refine z_iload_n dL_law_250 rfl ?_
      refine z_iconst (v := 1) dL_law_251 rfl ?_
      refine z_iadd dL_law_252 ?_
      rw [show (nI i + 1 : Int32) = nI (i + 1) from nI_1 i]
      refine z_saldN dL_law_253 (by omega) hL ?_
      refine z_aloadX dL_law_254 rfl ?_
      refine z_iload_n dL_law_255 rfl ?_
      refine z_iconst (v := 2) dL_law_256 rfl ?_
      refine z_iadd dL_law_257 ?_
      rw [show (nI i + 2 : Int32) = nI (i + 2) from nI_add i 2]
      refine z_saldN dL_law_258 (by omega) hL ?_
      refine z_callV (As := [.int _, .int _]) (b := 0) (st := []) dL_law_259 klaw_31 ⟨rfl, rfl⟩ rfl rfl rfl (wd_get sh0) rfl rfl rfl rfl h1 (fun r9 w9 hk9 => ?_)
      obtain ⟨_, _, rfl, rfl, rfl, rfl⟩ := hk9
      refine z_aload_n dL_law_262 rfl ?_
      refine z_aloadX dL_law_263 rfl ?_
      refine z_iload_n dL_law_264 rfl ?_
      refine z_iconst (v := 1) dL_law_265 rfl ?_
      refine z_iadd dL_law_266 ?_
      rw [show (nI i + 1 : Int32) = nI (i + 1) from nI_1 i]
      refine z_saldN dL_law_267 (by omega) hL ?_
      refine z_aloadX dL_law_268 rfl ?_
      refine z_iload_n dL_law_269 rfl ?_
      refine z_iconst (v := 2) dL_law_270 rfl ?_
      refine z_iadd dL_law_271 ?_
      rw [show (nI i + 2 : Int32) = nI (i + 2) from nI_add i 2]
      refine z_saldN dL_law_272 (by omega) hL ?_
      refine z_callV (As := [.int _, .int _]) (b := 66) (st := [.int r]) dL_law_273 klaw_35 ⟨rfl, rfl⟩ rfl rfl rfl (wd_get sh66) rfl rfl rfl rfl h2 (fun r9 w9 hk9 => ?_)
      obtain ⟨_, _, rfl, rfl, rfl, rfl⟩ := hk9
      refine z_icmp_eq 1078 dL_law_276 (by decide) (fun _ => ?_) (fun h => absurd rfl h)
      exact h1078 _ _ _ h3
    · refine z_tableIn 281 dL_law_32 (by decide) (by decide) rfl (by decide) ?_
      obtain ⟨r, μ1, ν1, μ2, n2, h1, h2, h3⟩ := op_waiter (zgx G (i + 1)) (zgx G (i + 2)) l G μ ν n hrel
      refine z_aload_n dL_law_281 rfl ?_
      refine z_aloadX dL_law_282 rfl ?_
      refine z_iload_n dL_law_283 rfl ?_
      refine z_iconst (v := 1) dL_law_284 rfl ?_
      refine z_iadd dL_law_285 ?_
      rw [show (nI i + 1 : Int32) = nI (i + 1) from nI_1 i]
      refine z_saldN dL_law_286 (by omega) hL ?_
      refine z_aloadX dL_law_287 rfl ?_
      refine z_iload_n dL_law_288 rfl ?_
      refine z_iconst (v := 2) dL_law_289 rfl ?_
      refine z_iadd dL_law_290 ?_
      rw [show (nI i + 2 : Int32) = nI (i + 2) from nI_add i 2]
      refine z_saldN dL_law_291 (by omega) hL ?_
      refine z_callV (As := [.int _, .int _]) (b := 0) (st := []) dL_law_292 klaw_36 ⟨rfl, rfl⟩ rfl rfl rfl (wd_get sh0) rfl rfl rfl rfl h1 (fun r9 w9 hk9 => ?_)
      obtain ⟨_, _, rfl, rfl, rfl, rfl⟩ := hk9
      refine z_aload_n dL_law_295 rfl ?_
      refine z_aloadX dL_law_296 rfl ?_
      refine z_iload_n dL_law_297 rfl ?_
      refine z_iconst (v := 1) dL_law_298 rfl ?_
      refine z_iadd dL_law_299 ?_
      rw [show (nI i + 1 : Int32) = nI (i + 1) from nI_1 i]
      refine z_saldN dL_law_300 (by omega) hL ?_
      refine z_aloadX dL_law_301 rfl ?_
      refine z_iload_n dL_law_302 rfl ?_
      refine z_iconst (v := 2) dL_law_303 rfl ?_
      refine z_iadd dL_law_304 ?_
      rw [show (nI i + 2 : Int32) = nI (i + 2) from nI_add i 2]
      refine z_saldN dL_law_305 (by omega) hL ?_
      refine z_callV (As := [.int _, .int _]) (b := 66) (st := [.int r]) dL_law_306 klaw_39 ⟨rfl, rfl⟩ rfl rfl rfl (wd_get sh66) rfl rfl rfl rfl h2 (fun r9 w9 hk9 => ?_)
      obtain ⟨_, _, rfl, rfl, rfl, rfl⟩ := hk9
      refine z_icmp_eq 1078 dL_law_309 (by decide) (fun _ => ?_) (fun h => absurd rfl h)
      exact h1078 _ _ _ h3
    · refine z_tableIn 314 dL_law_32 (by decide) (by decide) rfl (by decide) ?_
      obtain ⟨r, μ1, ν1, μ2, n2, h1, h2, h3⟩ := op_come (zgx G (i + 1)) (zgx G (i + 2)) l G μ ν n hrel
      refine z_aload_n dL_law_314 rfl ?_
      refine z_aloadX dL_law_315 rfl ?_
      refine z_iload_n dL_law_316 rfl ?_
      refine z_iconst (v := 1) dL_law_317 rfl ?_
      refine z_iadd dL_law_318 ?_
      rw [show (nI i + 1 : Int32) = nI (i + 1) from nI_1 i]
      refine z_saldN dL_law_319 (by omega) hL ?_
      refine z_aloadX dL_law_320 rfl ?_
      refine z_iload_n dL_law_321 rfl ?_
      refine z_iconst (v := 2) dL_law_322 rfl ?_
      refine z_iadd dL_law_323 ?_
      rw [show (nI i + 2 : Int32) = nI (i + 2) from nI_add i 2]
      refine z_saldN dL_law_324 (by omega) hL ?_
      refine z_callV (As := [.int _, .int _]) (b := 0) (st := []) dL_law_325 klaw_40 ⟨rfl, rfl⟩ rfl rfl rfl (wd_get sh0) rfl rfl rfl rfl h1 (fun r9 w9 hk9 => ?_)
      obtain ⟨_, _, rfl, rfl, rfl, rfl⟩ := hk9
      refine z_aload_n dL_law_328 rfl ?_
      refine z_aloadX dL_law_329 rfl ?_
      refine z_iload_n dL_law_330 rfl ?_
      refine z_iconst (v := 1) dL_law_331 rfl ?_
      refine z_iadd dL_law_332 ?_
      rw [show (nI i + 1 : Int32) = nI (i + 1) from nI_1 i]
      refine z_saldN dL_law_333 (by omega) hL ?_
      refine z_aloadX dL_law_334 rfl ?_
      refine z_iload_n dL_law_335 rfl ?_
      refine z_iconst (v := 2) dL_law_336 rfl ?_
      refine z_iadd dL_law_337 ?_
      rw [show (nI i + 2 : Int32) = nI (i + 2) from nI_add i 2]
      refine z_saldN dL_law_338 (by omega) hL ?_
      refine z_callV (As := [.int _, .int _]) (b := 66) (st := [.int r]) dL_law_339 klaw_43 ⟨rfl, rfl⟩ rfl rfl rfl (wd_get sh66) rfl rfl rfl rfl h2 (fun r9 w9 hk9 => ?_)
      obtain ⟨_, _, rfl, rfl, rfl, rfl⟩ := hk9
      refine z_icmp_eq 1078 dL_law_342 (by decide) (fun _ => ?_) (fun h => absurd rfl h)
      exact h1078 _ _ _ h3
    · refine z_tableIn 347 dL_law_32 (by decide) (by decide) rfl (by decide) ?_
      obtain ⟨r, μ1, ν1, μ2, n2, h1, h2, h3⟩ := op_rule (zgx G (i + 1)) (zgx G (i + 2)) l G μ ν n hrel
      refine z_aload_n dL_law_347 rfl ?_
      refine z_aloadX dL_law_348 rfl ?_
      refine z_iload_n dL_law_349 rfl ?_
      refine z_iconst (v := 1) dL_law_350 rfl ?_
      refine z_iadd dL_law_351 ?_
      rw [show (nI i + 1 : Int32) = nI (i + 1) from nI_1 i]
      refine z_saldN dL_law_352 (by omega) hL ?_
      refine z_aloadX dL_law_353 rfl ?_
      refine z_iload_n dL_law_354 rfl ?_
      refine z_iconst (v := 2) dL_law_355 rfl ?_
      refine z_iadd dL_law_356 ?_
      rw [show (nI i + 2 : Int32) = nI (i + 2) from nI_add i 2]
      refine z_saldN dL_law_357 (by omega) hL ?_
      refine z_callV (As := [.int _, .int _]) (b := 0) (st := []) dL_law_358 klaw_44 ⟨rfl, rfl⟩ rfl rfl rfl (wd_get sh0) rfl rfl rfl rfl h1 (fun r9 w9 hk9 => ?_)
      obtain ⟨_, _, rfl, rfl, rfl, rfl⟩ := hk9
      refine z_aload_n dL_law_361 rfl ?_
      refine z_aloadX dL_law_362 rfl ?_
      refine z_iload_n dL_law_363 rfl ?_
      refine z_iconst (v := 1) dL_law_364 rfl ?_
      refine z_iadd dL_law_365 ?_
      rw [show (nI i + 1 : Int32) = nI (i + 1) from nI_1 i]
      refine z_saldN dL_law_366 (by omega) hL ?_
      refine z_aloadX dL_law_367 rfl ?_
      refine z_iload_n dL_law_368 rfl ?_
      refine z_iconst (v := 2) dL_law_369 rfl ?_
      refine z_iadd dL_law_370 ?_
      rw [show (nI i + 2 : Int32) = nI (i + 2) from nI_add i 2]
      refine z_saldN dL_law_371 (by omega) hL ?_
      refine z_callV (As := [.int _, .int _]) (b := 66) (st := [.int r]) dL_law_372 klaw_47 ⟨rfl, rfl⟩ rfl rfl rfl (wd_get sh66) rfl rfl rfl rfl h2 (fun r9 w9 hk9 => ?_)
      obtain ⟨_, _, rfl, rfl, rfl, rfl⟩ := hk9
      refine z_icmp_eq 1078 dL_law_375 (by decide) (fun _ => ?_) (fun h => absurd rfl h)
      exact h1078 _ _ _ h3
    · refine z_tableIn 380 dL_law_32 (by decide) (by decide) rfl (by decide) ?_
      obtain ⟨r, μ1, ν1, μ2, n2, h1, h2, h3⟩ := op_kick (zgx G (i + 1)) (zgx G (i + 2)) l G μ ν n hrel
      refine z_aload_n dL_law_380 rfl ?_
      refine z_aloadX dL_law_381 rfl ?_
      refine z_iload_n dL_law_382 rfl ?_
      refine z_iconst (v := 1) dL_law_383 rfl ?_
      refine z_iadd dL_law_384 ?_
      rw [show (nI i + 1 : Int32) = nI (i + 1) from nI_1 i]
      refine z_saldN dL_law_385 (by omega) hL ?_
      refine z_aloadX dL_law_386 rfl ?_
      refine z_iload_n dL_law_387 rfl ?_
      refine z_iconst (v := 2) dL_law_388 rfl ?_
      refine z_iadd dL_law_389 ?_
      rw [show (nI i + 2 : Int32) = nI (i + 2) from nI_add i 2]
      refine z_saldN dL_law_390 (by omega) hL ?_
      refine z_callV (As := [.int _, .int _]) (b := 0) (st := []) dL_law_391 klaw_48 ⟨rfl, rfl⟩ rfl rfl rfl (wd_get sh0) rfl rfl rfl rfl h1 (fun r9 w9 hk9 => ?_)
      obtain ⟨_, _, rfl, rfl, rfl, rfl⟩ := hk9
      refine z_aload_n dL_law_394 rfl ?_
      refine z_aloadX dL_law_395 rfl ?_
      refine z_iload_n dL_law_396 rfl ?_
      refine z_iconst (v := 1) dL_law_397 rfl ?_
      refine z_iadd dL_law_398 ?_
      rw [show (nI i + 1 : Int32) = nI (i + 1) from nI_1 i]
      refine z_saldN dL_law_399 (by omega) hL ?_
      refine z_aloadX dL_law_400 rfl ?_
      refine z_iload_n dL_law_401 rfl ?_
      refine z_iconst (v := 2) dL_law_402 rfl ?_
      refine z_iadd dL_law_403 ?_
      rw [show (nI i + 2 : Int32) = nI (i + 2) from nI_add i 2]
      refine z_saldN dL_law_404 (by omega) hL ?_
      refine z_callV (As := [.int _, .int _]) (b := 66) (st := [.int r]) dL_law_405 klaw_51 ⟨rfl, rfl⟩ rfl rfl rfl (wd_get sh66) rfl rfl rfl rfl h2 (fun r9 w9 hk9 => ?_)
      obtain ⟨_, _, rfl, rfl, rfl, rfl⟩ := hk9
      refine z_icmp_eq 1078 dL_law_408 (by decide) (fun _ => ?_) (fun h => absurd rfl h)
      exact h1078 _ _ _ h3
    · refine z_tableIn 413 dL_law_32 (by decide) (by decide) rfl (by decide) ?_
      obtain ⟨r, μ1, ν1, μ2, n2, h1, h2, h3⟩ := op_glass (if zgx G (i + 1) = 0 then 0 else 1) l G μ ν n hrel
      refine z_aload_n dL_law_413 rfl ?_
      refine z_aloadX dL_law_414 rfl ?_
      refine z_iload_n dL_law_415 rfl ?_
      refine z_iconst (v := 1) dL_law_416 rfl ?_
      refine z_iadd dL_law_417 ?_
      rw [show (nI i + 1 : Int32) = nI (i + 1) from nI_1 i]
      refine z_saldN dL_law_418 (by omega) hL ?_
      by_cases hg : zgx G (i + 1) = 0
      · rw [if_pos hg] at h1 h2
        refine z_if_eq 426 dL_law_419 (by decide) (fun _ => ?_) (fun h => absurd hg h)
        refine z_iconst (v := 0) dL_law_426 rfl ?_
        refine z_callV (As := [.int _]) (b := 0) (st := []) dL_law_427 klaw_52 ⟨rfl, rfl⟩ rfl rfl rfl (wd_get sh0) rfl rfl rfl rfl h1 (fun r9 w9 hk9 => ?_)
        obtain ⟨_, _, rfl, rfl, rfl, rfl⟩ := hk9
        refine z_aload_n dL_law_430 rfl ?_
        refine z_aloadX dL_law_431 rfl ?_
        refine z_iload_n dL_law_432 rfl ?_
        refine z_iconst (v := 1) dL_law_433 rfl ?_
        refine z_iadd dL_law_434 ?_
        rw [show (nI i + 1 : Int32) = nI (i + 1) from nI_1 i]
        refine z_saldN dL_law_435 (by omega) hL ?_
        refine z_if_eq 443 dL_law_436 (by decide) (fun _ => ?_) (fun h => absurd hg h)
        refine z_iconst (v := 0) dL_law_443 rfl ?_
        refine z_callV (As := [.int _]) (b := 66) (st := [.int r]) dL_law_444 klaw_56 ⟨rfl, rfl⟩ rfl rfl rfl (wd_get sh66) rfl rfl rfl rfl h2 (fun r9 w9 hk9 => ?_)
        obtain ⟨_, _, rfl, rfl, rfl, rfl⟩ := hk9
        refine z_icmp_eq 1078 dL_law_447 (by decide) (fun _ => ?_) (fun h => absurd rfl h)
        exact h1078 _ _ _ h3
      · rw [if_neg hg] at h1 h2
        refine z_if_eq 426 dL_law_419 (by decide) (fun h => absurd h hg) (fun _ => ?_)
        refine z_iconst (v := 1) dL_law_422 rfl ?_
        refine z_goto 427 dL_law_423 (by decide) ?_
        refine z_callV (As := [.int _]) (b := 0) (st := []) dL_law_427 klaw_52 ⟨rfl, rfl⟩ rfl rfl rfl (wd_get sh0) rfl rfl rfl rfl h1 (fun r9 w9 hk9 => ?_)
        obtain ⟨_, _, rfl, rfl, rfl, rfl⟩ := hk9
        refine z_aload_n dL_law_430 rfl ?_
        refine z_aloadX dL_law_431 rfl ?_
        refine z_iload_n dL_law_432 rfl ?_
        refine z_iconst (v := 1) dL_law_433 rfl ?_
        refine z_iadd dL_law_434 ?_
        rw [show (nI i + 1 : Int32) = nI (i + 1) from nI_1 i]
        refine z_saldN dL_law_435 (by omega) hL ?_
        refine z_if_eq 443 dL_law_436 (by decide) (fun h => absurd h hg) (fun _ => ?_)
        refine z_iconst (v := 1) dL_law_439 rfl ?_
        refine z_goto 444 dL_law_440 (by decide) ?_
        refine z_callV (As := [.int _]) (b := 66) (st := [.int r]) dL_law_444 klaw_56 ⟨rfl, rfl⟩ rfl rfl rfl (wd_get sh66) rfl rfl rfl rfl h2 (fun r9 w9 hk9 => ?_)
        obtain ⟨_, _, rfl, rfl, rfl, rfl⟩ := hk9
        refine z_icmp_eq 1078 dL_law_447 (by decide) (fun _ => ?_) (fun h => absurd rfl h)
        exact h1078 _ _ _ h3
    · refine z_tableIn 452 dL_law_32 (by decide) (by decide) rfl (by decide) ?_
      obtain ⟨r, μ1, ν1, μ2, n2, h1, h2, h3⟩ := op_noise (zgx G (i + 1)) l G μ ν n hrel
      refine z_aload_n dL_law_452 rfl ?_
      refine z_aloadX dL_law_453 rfl ?_
      refine z_iload_n dL_law_454 rfl ?_
      refine z_iconst (v := 1) dL_law_455 rfl ?_
      refine z_iadd dL_law_456 ?_
      rw [show (nI i + 1 : Int32) = nI (i + 1) from nI_1 i]
      refine z_saldN dL_law_457 (by omega) hL ?_
      refine z_callV (As := [.int _]) (b := 0) (st := []) dL_law_458 klaw_57 ⟨rfl, rfl⟩ rfl rfl rfl (wd_get sh0) rfl rfl rfl rfl h1 (fun r9 w9 hk9 => ?_)
      obtain ⟨_, _, rfl, rfl, rfl, rfl⟩ := hk9
      refine z_aload_n dL_law_461 rfl ?_
      refine z_aloadX dL_law_462 rfl ?_
      refine z_iload_n dL_law_463 rfl ?_
      refine z_iconst (v := 1) dL_law_464 rfl ?_
      refine z_iadd dL_law_465 ?_
      rw [show (nI i + 1 : Int32) = nI (i + 1) from nI_1 i]
      refine z_saldN dL_law_466 (by omega) hL ?_
      refine z_callV (As := [.int _]) (b := 66) (st := [.int r]) dL_law_467 klaw_60 ⟨rfl, rfl⟩ rfl rfl rfl (wd_get sh66) rfl rfl rfl rfl h2 (fun r9 w9 hk9 => ?_)
      obtain ⟨_, _, rfl, rfl, rfl, rfl⟩ := hk9
      refine z_icmp_eq 1078 dL_law_470 (by decide) (fun _ => ?_) (fun h => absurd rfl h)
      exact h1078 _ _ _ h3
    · refine z_tableIn 475 dL_law_32 (by decide) (by decide) rfl (by decide) ?_
      obtain ⟨r, μ1, ν1, μ2, n2, h1, h2, h3⟩ := op_drift (zgx G (i + 1)) l G μ ν n hrel
      refine z_aload_n dL_law_475 rfl ?_
      refine z_aloadX dL_law_476 rfl ?_
      refine z_iload_n dL_law_477 rfl ?_
      refine z_iconst (v := 1) dL_law_478 rfl ?_
      refine z_iadd dL_law_479 ?_
      rw [show (nI i + 1 : Int32) = nI (i + 1) from nI_1 i]
      refine z_saldN dL_law_480 (by omega) hL ?_
      refine z_callV (As := [.int _]) (b := 0) (st := []) dL_law_481 klaw_61 ⟨rfl, rfl⟩ rfl rfl rfl (wd_get sh0) rfl rfl rfl rfl h1 (fun r9 w9 hk9 => ?_)
      obtain ⟨_, _, rfl, rfl, rfl, rfl⟩ := hk9
      refine z_aload_n dL_law_484 rfl ?_
      refine z_aloadX dL_law_485 rfl ?_
      refine z_iload_n dL_law_486 rfl ?_
      refine z_iconst (v := 1) dL_law_487 rfl ?_
      refine z_iadd dL_law_488 ?_
      rw [show (nI i + 1 : Int32) = nI (i + 1) from nI_1 i]
      refine z_saldN dL_law_489 (by omega) hL ?_
      refine z_callV (As := [.int _]) (b := 66) (st := [.int r]) dL_law_490 klaw_64 ⟨rfl, rfl⟩ rfl rfl rfl (wd_get sh66) rfl rfl rfl rfl h2 (fun r9 w9 hk9 => ?_)
      obtain ⟨_, _, rfl, rfl, rfl, rfl⟩ := hk9
      refine z_icmp_eq 1078 dL_law_493 (by decide) (fun _ => ?_) (fun h => absurd rfl h)
      exact h1078 _ _ _ h3
    · refine z_tableIn 498 dL_law_32 (by decide) (by decide) rfl (by decide) ?_
      obtain ⟨r, μ1, ν1, μ2, n2, h1, h2, h3⟩ := op_pass (zgx G (i + 1)) (zgx G (i + 2)) l G μ ν n hrel
      refine z_aload_n dL_law_498 rfl ?_
      refine z_aloadX dL_law_499 rfl ?_
      refine z_iload_n dL_law_500 rfl ?_
      refine z_iconst (v := 1) dL_law_501 rfl ?_
      refine z_iadd dL_law_502 ?_
      rw [show (nI i + 1 : Int32) = nI (i + 1) from nI_1 i]
      refine z_saldN dL_law_503 (by omega) hL ?_
      refine z_aloadX dL_law_504 rfl ?_
      refine z_iload_n dL_law_505 rfl ?_
      refine z_iconst (v := 2) dL_law_506 rfl ?_
      refine z_iadd dL_law_507 ?_
      rw [show (nI i + 2 : Int32) = nI (i + 2) from nI_add i 2]
      refine z_saldN dL_law_508 (by omega) hL ?_
      refine z_callV (As := [.int _, .int _]) (b := 0) (st := []) dL_law_509 klaw_65 ⟨rfl, rfl⟩ rfl rfl rfl (wd_get sh0) rfl rfl rfl rfl h1 (fun r9 w9 hk9 => ?_)
      obtain ⟨_, _, rfl, rfl, rfl, rfl⟩ := hk9
      refine z_aload_n dL_law_512 rfl ?_
      refine z_aloadX dL_law_513 rfl ?_
      refine z_iload_n dL_law_514 rfl ?_
      refine z_iconst (v := 1) dL_law_515 rfl ?_
      refine z_iadd dL_law_516 ?_
      rw [show (nI i + 1 : Int32) = nI (i + 1) from nI_1 i]
      refine z_saldN dL_law_517 (by omega) hL ?_
      refine z_aloadX dL_law_518 rfl ?_
      refine z_iload_n dL_law_519 rfl ?_
      refine z_iconst (v := 2) dL_law_520 rfl ?_
      refine z_iadd dL_law_521 ?_
      rw [show (nI i + 2 : Int32) = nI (i + 2) from nI_add i 2]
      refine z_saldN dL_law_522 (by omega) hL ?_
      refine z_callV (As := [.int _, .int _]) (b := 66) (st := [.int r]) dL_law_523 klaw_68 ⟨rfl, rfl⟩ rfl rfl rfl (wd_get sh66) rfl rfl rfl rfl h2 (fun r9 w9 hk9 => ?_)
      obtain ⟨_, _, rfl, rfl, rfl, rfl⟩ := hk9
      refine z_icmp_eq 1078 dL_law_526 (by decide) (fun _ => ?_) (fun h => absurd rfl h)
      exact h1078 _ _ _ h3
    · refine z_tableIn 531 dL_law_32 (by decide) (by decide) rfl (by decide) ?_
      obtain ⟨r, μ1, ν1, μ2, n2, h1, h2, h3⟩ := op_leafAt (zgx G (i + 1)) (zgx G (i + 2)) l G μ ν n hrel
      refine z_aload_n dL_law_531 rfl ?_
      refine z_aloadX dL_law_532 rfl ?_
      refine z_iload_n dL_law_533 rfl ?_
      refine z_iconst (v := 1) dL_law_534 rfl ?_
      refine z_iadd dL_law_535 ?_
      rw [show (nI i + 1 : Int32) = nI (i + 1) from nI_1 i]
      refine z_saldN dL_law_536 (by omega) hL ?_
      refine z_aloadX dL_law_537 rfl ?_
      refine z_iload_n dL_law_538 rfl ?_
      refine z_iconst (v := 2) dL_law_539 rfl ?_
      refine z_iadd dL_law_540 ?_
      rw [show (nI i + 2 : Int32) = nI (i + 2) from nI_add i 2]
      refine z_saldN dL_law_541 (by omega) hL ?_
      refine z_callV (As := [.int _, .int _]) (b := 0) (st := []) dL_law_542 klaw_69 ⟨rfl, rfl⟩ rfl rfl rfl (wd_get sh0) rfl rfl rfl rfl h1 (fun r9 w9 hk9 => ?_)
      obtain ⟨_, _, rfl, rfl, rfl, rfl⟩ := hk9
      refine z_aload_n dL_law_545 rfl ?_
      refine z_aloadX dL_law_546 rfl ?_
      refine z_iload_n dL_law_547 rfl ?_
      refine z_iconst (v := 1) dL_law_548 rfl ?_
      refine z_iadd dL_law_549 ?_
      rw [show (nI i + 1 : Int32) = nI (i + 1) from nI_1 i]
      refine z_saldN dL_law_550 (by omega) hL ?_
      refine z_aloadX dL_law_551 rfl ?_
      refine z_iload_n dL_law_552 rfl ?_
      refine z_iconst (v := 2) dL_law_553 rfl ?_
      refine z_iadd dL_law_554 ?_
      rw [show (nI i + 2 : Int32) = nI (i + 2) from nI_add i 2]
      refine z_saldN dL_law_555 (by omega) hL ?_
      refine z_callV (As := [.int _, .int _]) (b := 66) (st := [.int r]) dL_law_556 klaw_72 ⟨rfl, rfl⟩ rfl rfl rfl (wd_get sh66) rfl rfl rfl rfl h2 (fun r9 w9 hk9 => ?_)
      obtain ⟨_, _, rfl, rfl, rfl, rfl⟩ := hk9
      refine z_icmp_eq 1078 dL_law_559 (by decide) (fun _ => ?_) (fun h => absurd rfl h)
      exact h1078 _ _ _ h3
    · refine z_tableIn 564 dL_law_32 (by decide) (by decide) rfl (by decide) ?_
      obtain ⟨r, μ1, ν1, μ2, n2, h1, h2, h3⟩ := op_all (zgx G (i + 1)) l G μ ν n hrel
      refine z_aload_n dL_law_564 rfl ?_
      refine z_aloadX dL_law_565 rfl ?_
      refine z_iload_n dL_law_566 rfl ?_
      refine z_iconst (v := 1) dL_law_567 rfl ?_
      refine z_iadd dL_law_568 ?_
      rw [show (nI i + 1 : Int32) = nI (i + 1) from nI_1 i]
      refine z_saldN dL_law_569 (by omega) hL ?_
      refine z_callV (As := [.int _]) (b := 0) (st := []) dL_law_570 klaw_73 ⟨rfl, rfl⟩ rfl rfl rfl (wd_get sh0) rfl rfl rfl rfl h1 (fun r9 w9 hk9 => ?_)
      obtain ⟨_, _, rfl, rfl, rfl, rfl⟩ := hk9
      refine z_aload_n dL_law_573 rfl ?_
      refine z_aloadX dL_law_574 rfl ?_
      refine z_iload_n dL_law_575 rfl ?_
      refine z_iconst (v := 1) dL_law_576 rfl ?_
      refine z_iadd dL_law_577 ?_
      rw [show (nI i + 1 : Int32) = nI (i + 1) from nI_1 i]
      refine z_saldN dL_law_578 (by omega) hL ?_
      refine z_callV (As := [.int _]) (b := 66) (st := [.int r]) dL_law_579 klaw_76 ⟨rfl, rfl⟩ rfl rfl rfl (wd_get sh66) rfl rfl rfl rfl h2 (fun r9 w9 hk9 => ?_)
      obtain ⟨_, _, rfl, rfl, rfl, rfl⟩ := hk9
      refine z_icmp_eq 1078 dL_law_582 (by decide) (fun _ => ?_) (fun h => absurd rfl h)
      exact h1078 _ _ _ h3
    · refine z_tableIn 587 dL_law_32 (by decide) (by decide) rfl (by decide) ?_
      obtain ⟨r, μ1, ν1, μ2, n2, h1, h2, h3⟩ := op_best (zgx G (i + 1)) l G μ ν n hrel
      refine z_aload_n dL_law_587 rfl ?_
      refine z_aloadX dL_law_588 rfl ?_
      refine z_iload_n dL_law_589 rfl ?_
      refine z_iconst (v := 1) dL_law_590 rfl ?_
      refine z_iadd dL_law_591 ?_
      rw [show (nI i + 1 : Int32) = nI (i + 1) from nI_1 i]
      refine z_saldN dL_law_592 (by omega) hL ?_
      refine z_callV (As := [.int _]) (b := 0) (st := []) dL_law_593 klaw_77 ⟨rfl, rfl⟩ rfl rfl rfl (wd_get sh0) rfl rfl rfl rfl h1 (fun r9 w9 hk9 => ?_)
      obtain ⟨_, _, rfl, rfl, rfl, rfl⟩ := hk9
      refine z_aload_n dL_law_596 rfl ?_
      refine z_aloadX dL_law_597 rfl ?_
      refine z_iload_n dL_law_598 rfl ?_
      refine z_iconst (v := 1) dL_law_599 rfl ?_
      refine z_iadd dL_law_600 ?_
      rw [show (nI i + 1 : Int32) = nI (i + 1) from nI_1 i]
      refine z_saldN dL_law_601 (by omega) hL ?_
      refine z_callV (As := [.int _]) (b := 66) (st := [.int r]) dL_law_602 klaw_80 ⟨rfl, rfl⟩ rfl rfl rfl (wd_get sh66) rfl rfl rfl rfl h2 (fun r9 w9 hk9 => ?_)
      obtain ⟨_, _, rfl, rfl, rfl, rfl⟩ := hk9
      refine z_icmp_eq 1078 dL_law_605 (by decide) (fun _ => ?_) (fun h => absurd rfl h)
      exact h1078 _ _ _ h3
    · refine z_tableIn 610 dL_law_32 (by decide) (by decide) rfl (by decide) ?_
      obtain ⟨r, μ1, ν1, μ2, n2, h1, h2, h3⟩ := op_bestKick (zgx G (i + 1)) (zgx G (i + 2)) l G μ ν n hrel
      refine z_aload_n dL_law_610 rfl ?_
      refine z_aloadX dL_law_611 rfl ?_
      refine z_iload_n dL_law_612 rfl ?_
      refine z_iconst (v := 1) dL_law_613 rfl ?_
      refine z_iadd dL_law_614 ?_
      rw [show (nI i + 1 : Int32) = nI (i + 1) from nI_1 i]
      refine z_saldN dL_law_615 (by omega) hL ?_
      refine z_aloadX dL_law_616 rfl ?_
      refine z_iload_n dL_law_617 rfl ?_
      refine z_iconst (v := 2) dL_law_618 rfl ?_
      refine z_iadd dL_law_619 ?_
      rw [show (nI i + 2 : Int32) = nI (i + 2) from nI_add i 2]
      refine z_saldN dL_law_620 (by omega) hL ?_
      refine z_callV (As := [.int _, .int _]) (b := 0) (st := []) dL_law_621 klaw_81 ⟨rfl, rfl⟩ rfl rfl rfl (wd_get sh0) rfl rfl rfl rfl h1 (fun r9 w9 hk9 => ?_)
      obtain ⟨_, _, rfl, rfl, rfl, rfl⟩ := hk9
      refine z_aload_n dL_law_624 rfl ?_
      refine z_aloadX dL_law_625 rfl ?_
      refine z_iload_n dL_law_626 rfl ?_
      refine z_iconst (v := 1) dL_law_627 rfl ?_
      refine z_iadd dL_law_628 ?_
      rw [show (nI i + 1 : Int32) = nI (i + 1) from nI_1 i]
      refine z_saldN dL_law_629 (by omega) hL ?_
      refine z_aloadX dL_law_630 rfl ?_
      refine z_iload_n dL_law_631 rfl ?_
      refine z_iconst (v := 2) dL_law_632 rfl ?_
      refine z_iadd dL_law_633 ?_
      rw [show (nI i + 2 : Int32) = nI (i + 2) from nI_add i 2]
      refine z_saldN dL_law_634 (by omega) hL ?_
      refine z_callV (As := [.int _, .int _]) (b := 66) (st := [.int r]) dL_law_635 klaw_84 ⟨rfl, rfl⟩ rfl rfl rfl (wd_get sh66) rfl rfl rfl rfl h2 (fun r9 w9 hk9 => ?_)
      obtain ⟨_, _, rfl, rfl, rfl, rfl⟩ := hk9
      refine z_icmp_eq 1078 dL_law_638 (by decide) (fun _ => ?_) (fun h => absurd rfl h)
      exact h1078 _ _ _ h3
    · refine z_tableIn 643 dL_law_32 (by decide) (by decide) rfl (by decide) ?_
      obtain ⟨r, μ1, ν1, μ2, n2, h1, h2, h3⟩ := op_change (zgx G (i + 1)) (zgx G (i + 2)) (zgx G (i + 3)) l G μ ν n hrel
      refine z_aload_n dL_law_643 rfl ?_
      refine z_aloadX dL_law_644 rfl ?_
      refine z_iload_n dL_law_645 rfl ?_
      refine z_iconst (v := 1) dL_law_646 rfl ?_
      refine z_iadd dL_law_647 ?_
      rw [show (nI i + 1 : Int32) = nI (i + 1) from nI_1 i]
      refine z_saldN dL_law_648 (by omega) hL ?_
      refine z_aloadX dL_law_649 rfl ?_
      refine z_iload_n dL_law_650 rfl ?_
      refine z_iconst (v := 2) dL_law_651 rfl ?_
      refine z_iadd dL_law_652 ?_
      rw [show (nI i + 2 : Int32) = nI (i + 2) from nI_add i 2]
      refine z_saldN dL_law_653 (by omega) hL ?_
      refine z_aloadX dL_law_654 rfl ?_
      refine z_iload_n dL_law_655 rfl ?_
      refine z_iconst (v := 3) dL_law_656 rfl ?_
      refine z_iadd dL_law_657 ?_
      rw [show (nI i + 3 : Int32) = nI (i + 3) from nI_add i 3]
      refine z_saldN dL_law_658 (by omega) hL ?_
      refine z_callV (As := [.int _, .int _, .int _]) (b := 0) (st := []) dL_law_659 klaw_85 ⟨rfl, rfl⟩ rfl rfl rfl (wd_get sh0) rfl rfl rfl rfl h1 (fun r9 w9 hk9 => ?_)
      obtain ⟨_, _, rfl, rfl, rfl, rfl⟩ := hk9
      refine z_aload_n dL_law_662 rfl ?_
      refine z_aloadX dL_law_663 rfl ?_
      refine z_iload_n dL_law_664 rfl ?_
      refine z_iconst (v := 1) dL_law_665 rfl ?_
      refine z_iadd dL_law_666 ?_
      rw [show (nI i + 1 : Int32) = nI (i + 1) from nI_1 i]
      refine z_saldN dL_law_667 (by omega) hL ?_
      refine z_aloadX dL_law_668 rfl ?_
      refine z_iload_n dL_law_669 rfl ?_
      refine z_iconst (v := 2) dL_law_670 rfl ?_
      refine z_iadd dL_law_671 ?_
      rw [show (nI i + 2 : Int32) = nI (i + 2) from nI_add i 2]
      refine z_saldN dL_law_672 (by omega) hL ?_
      refine z_aloadX dL_law_673 rfl ?_
      refine z_iload_n dL_law_674 rfl ?_
      refine z_iconst (v := 3) dL_law_675 rfl ?_
      refine z_iadd dL_law_676 ?_
      rw [show (nI i + 3 : Int32) = nI (i + 3) from nI_add i 3]
      refine z_saldN dL_law_677 (by omega) hL ?_
      refine z_callV (As := [.int _, .int _, .int _]) (b := 66) (st := [.int r]) dL_law_678 klaw_89 ⟨rfl, rfl⟩ rfl rfl rfl (wd_get sh66) rfl rfl rfl rfl h2 (fun r9 w9 hk9 => ?_)
      obtain ⟨_, _, rfl, rfl, rfl, rfl⟩ := hk9
      refine z_icmp_eq 1078 dL_law_681 (by decide) (fun _ => ?_) (fun h => absurd rfl h)
      exact h1078 _ _ _ h3
    · refine z_tableIn 686 dL_law_32 (by decide) (by decide) rfl (by decide) ?_
      obtain ⟨r, μ1, ν1, μ2, n2, h1, h2, h3⟩ := op_worth (zgx G (i + 1)) (zgx G (i + 2)) l G μ ν n hrel
      refine z_aload_n dL_law_686 rfl ?_
      refine z_aloadX dL_law_687 rfl ?_
      refine z_iload_n dL_law_688 rfl ?_
      refine z_iconst (v := 1) dL_law_689 rfl ?_
      refine z_iadd dL_law_690 ?_
      rw [show (nI i + 1 : Int32) = nI (i + 1) from nI_1 i]
      refine z_saldN dL_law_691 (by omega) hL ?_
      refine z_aloadX dL_law_692 rfl ?_
      refine z_iload_n dL_law_693 rfl ?_
      refine z_iconst (v := 2) dL_law_694 rfl ?_
      refine z_iadd dL_law_695 ?_
      rw [show (nI i + 2 : Int32) = nI (i + 2) from nI_add i 2]
      refine z_saldN dL_law_696 (by omega) hL ?_
      refine z_callV (As := [.int _, .int _]) (b := 0) (st := []) dL_law_697 klaw_90 ⟨rfl, rfl⟩ rfl rfl rfl (wd_get sh0) rfl rfl rfl rfl h1 (fun r9 w9 hk9 => ?_)
      obtain ⟨_, _, rfl, rfl, rfl, rfl⟩ := hk9
      refine z_aload_n dL_law_700 rfl ?_
      refine z_aloadX dL_law_701 rfl ?_
      refine z_iload_n dL_law_702 rfl ?_
      refine z_iconst (v := 1) dL_law_703 rfl ?_
      refine z_iadd dL_law_704 ?_
      rw [show (nI i + 1 : Int32) = nI (i + 1) from nI_1 i]
      refine z_saldN dL_law_705 (by omega) hL ?_
      refine z_aloadX dL_law_706 rfl ?_
      refine z_iload_n dL_law_707 rfl ?_
      refine z_iconst (v := 2) dL_law_708 rfl ?_
      refine z_iadd dL_law_709 ?_
      rw [show (nI i + 2 : Int32) = nI (i + 2) from nI_add i 2]
      refine z_saldN dL_law_710 (by omega) hL ?_
      refine z_callV (As := [.int _, .int _]) (b := 66) (st := [.int r]) dL_law_711 klaw_93 ⟨rfl, rfl⟩ rfl rfl rfl (wd_get sh66) rfl rfl rfl rfl h2 (fun r9 w9 hk9 => ?_)
      obtain ⟨_, _, rfl, rfl, rfl, rfl⟩ := hk9
      refine z_icmp_eq 1078 dL_law_714 (by decide) (fun _ => ?_) (fun h => absurd rfl h)
      exact h1078 _ _ _ h3
    · refine z_tableIn 719 dL_law_32 (by decide) (by decide) rfl (by decide) ?_
      obtain ⟨r, μ1, ν1, μ2, n2, h1, h2, h3⟩ := op_apart (zgx G (i + 1)) (zgx G (i + 2)) l G μ ν n hrel
      refine z_aload_n dL_law_719 rfl ?_
      refine z_aloadX dL_law_720 rfl ?_
      refine z_iload_n dL_law_721 rfl ?_
      refine z_iconst (v := 1) dL_law_722 rfl ?_
      refine z_iadd dL_law_723 ?_
      rw [show (nI i + 1 : Int32) = nI (i + 1) from nI_1 i]
      refine z_saldN dL_law_724 (by omega) hL ?_
      refine z_aloadX dL_law_725 rfl ?_
      refine z_iload_n dL_law_726 rfl ?_
      refine z_iconst (v := 2) dL_law_727 rfl ?_
      refine z_iadd dL_law_728 ?_
      rw [show (nI i + 2 : Int32) = nI (i + 2) from nI_add i 2]
      refine z_saldN dL_law_729 (by omega) hL ?_
      refine z_callV (As := [.int _, .int _]) (b := 0) (st := []) dL_law_730 klaw_94 ⟨rfl, rfl⟩ rfl rfl rfl (wd_get sh0) rfl rfl rfl rfl h1 (fun r9 w9 hk9 => ?_)
      obtain ⟨_, _, rfl, rfl, rfl, rfl⟩ := hk9
      refine z_aload_n dL_law_733 rfl ?_
      refine z_aloadX dL_law_734 rfl ?_
      refine z_iload_n dL_law_735 rfl ?_
      refine z_iconst (v := 1) dL_law_736 rfl ?_
      refine z_iadd dL_law_737 ?_
      rw [show (nI i + 1 : Int32) = nI (i + 1) from nI_1 i]
      refine z_saldN dL_law_738 (by omega) hL ?_
      refine z_aloadX dL_law_739 rfl ?_
      refine z_iload_n dL_law_740 rfl ?_
      refine z_iconst (v := 2) dL_law_741 rfl ?_
      refine z_iadd dL_law_742 ?_
      rw [show (nI i + 2 : Int32) = nI (i + 2) from nI_add i 2]
      refine z_saldN dL_law_743 (by omega) hL ?_
      refine z_callV (As := [.int _, .int _]) (b := 66) (st := [.int r]) dL_law_744 klaw_97 ⟨rfl, rfl⟩ rfl rfl rfl (wd_get sh66) rfl rfl rfl rfl h2 (fun r9 w9 hk9 => ?_)
      obtain ⟨_, _, rfl, rfl, rfl, rfl⟩ := hk9
      refine z_icmp_eq 1078 dL_law_747 (by decide) (fun _ => ?_) (fun h => absurd rfl h)
      exact h1078 _ _ _ h3
    · refine z_tableIn 752 dL_law_32 (by decide) (by decide) rfl (by decide) ?_
      obtain ⟨r, μ1, ν1, μ2, n2, h1, h2, h3⟩ := op_order (zgx G (i + 1)) (zgx G (i + 2)) l G μ ν n hrel
      refine z_aload_n dL_law_752 rfl ?_
      refine z_aloadX dL_law_753 rfl ?_
      refine z_iload_n dL_law_754 rfl ?_
      refine z_iconst (v := 1) dL_law_755 rfl ?_
      refine z_iadd dL_law_756 ?_
      rw [show (nI i + 1 : Int32) = nI (i + 1) from nI_1 i]
      refine z_saldN dL_law_757 (by omega) hL ?_
      refine z_aloadX dL_law_758 rfl ?_
      refine z_iload_n dL_law_759 rfl ?_
      refine z_iconst (v := 2) dL_law_760 rfl ?_
      refine z_iadd dL_law_761 ?_
      rw [show (nI i + 2 : Int32) = nI (i + 2) from nI_add i 2]
      refine z_saldN dL_law_762 (by omega) hL ?_
      refine z_callV (As := [.int _, .int _]) (b := 0) (st := []) dL_law_763 klaw_98 ⟨rfl, rfl⟩ rfl rfl rfl (wd_get sh0) rfl rfl rfl rfl h1 (fun r9 w9 hk9 => ?_)
      obtain ⟨_, _, rfl, rfl, rfl, rfl⟩ := hk9
      refine z_aload_n dL_law_766 rfl ?_
      refine z_aloadX dL_law_767 rfl ?_
      refine z_iload_n dL_law_768 rfl ?_
      refine z_iconst (v := 1) dL_law_769 rfl ?_
      refine z_iadd dL_law_770 ?_
      rw [show (nI i + 1 : Int32) = nI (i + 1) from nI_1 i]
      refine z_saldN dL_law_771 (by omega) hL ?_
      refine z_aloadX dL_law_772 rfl ?_
      refine z_iload_n dL_law_773 rfl ?_
      refine z_iconst (v := 2) dL_law_774 rfl ?_
      refine z_iadd dL_law_775 ?_
      rw [show (nI i + 2 : Int32) = nI (i + 2) from nI_add i 2]
      refine z_saldN dL_law_776 (by omega) hL ?_
      refine z_callV (As := [.int _, .int _]) (b := 66) (st := [.int r]) dL_law_777 klaw_101 ⟨rfl, rfl⟩ rfl rfl rfl (wd_get sh66) rfl rfl rfl rfl h2 (fun r9 w9 hk9 => ?_)
      obtain ⟨_, _, rfl, rfl, rfl, rfl⟩ := hk9
      refine z_icmp_eq 1078 dL_law_780 (by decide) (fun _ => ?_) (fun h => absurd rfl h)
      exact h1078 _ _ _ h3
    · refine z_tableIn 785 dL_law_32 (by decide) (by decide) rfl (by decide) ?_
      obtain ⟨r, μ1, ν1, μ2, n2, h1, h2, h3⟩ := op_rests (zgx G (i + 1)) (zgx G (i + 2)) l G μ ν n hrel
      refine z_aload_n dL_law_785 rfl ?_
      refine z_aloadX dL_law_786 rfl ?_
      refine z_iload_n dL_law_787 rfl ?_
      refine z_iconst (v := 1) dL_law_788 rfl ?_
      refine z_iadd dL_law_789 ?_
      rw [show (nI i + 1 : Int32) = nI (i + 1) from nI_1 i]
      refine z_saldN dL_law_790 (by omega) hL ?_
      refine z_aloadX dL_law_791 rfl ?_
      refine z_iload_n dL_law_792 rfl ?_
      refine z_iconst (v := 2) dL_law_793 rfl ?_
      refine z_iadd dL_law_794 ?_
      rw [show (nI i + 2 : Int32) = nI (i + 2) from nI_add i 2]
      refine z_saldN dL_law_795 (by omega) hL ?_
      refine z_callV (As := [.int _, .int _]) (b := 0) (st := []) dL_law_796 klaw_102 ⟨rfl, rfl⟩ rfl rfl rfl (wd_get sh0) rfl rfl rfl rfl h1 (fun r9 w9 hk9 => ?_)
      obtain ⟨_, _, rfl, rfl, rfl, rfl⟩ := hk9
      refine z_aload_n dL_law_799 rfl ?_
      refine z_aloadX dL_law_800 rfl ?_
      refine z_iload_n dL_law_801 rfl ?_
      refine z_iconst (v := 1) dL_law_802 rfl ?_
      refine z_iadd dL_law_803 ?_
      rw [show (nI i + 1 : Int32) = nI (i + 1) from nI_1 i]
      refine z_saldN dL_law_804 (by omega) hL ?_
      refine z_aloadX dL_law_805 rfl ?_
      refine z_iload_n dL_law_806 rfl ?_
      refine z_iconst (v := 2) dL_law_807 rfl ?_
      refine z_iadd dL_law_808 ?_
      rw [show (nI i + 2 : Int32) = nI (i + 2) from nI_add i 2]
      refine z_saldN dL_law_809 (by omega) hL ?_
      refine z_callV (As := [.int _, .int _]) (b := 66) (st := [.int r]) dL_law_810 klaw_105 ⟨rfl, rfl⟩ rfl rfl rfl (wd_get sh66) rfl rfl rfl rfl h2 (fun r9 w9 hk9 => ?_)
      obtain ⟨_, _, rfl, rfl, rfl, rfl⟩ := hk9
      refine z_icmp_eq 1078 dL_law_813 (by decide) (fun _ => ?_) (fun h => absurd rfl h)
      exact h1078 _ _ _ h3
    · refine z_tableIn 818 dL_law_32 (by decide) (by decide) rfl (by decide) ?_
      obtain ⟨r, μ1, ν1, μ2, n2, h1, h2, h3⟩ := op_stack (zgx G (i + 1)) l G μ ν n hrel
      refine z_aload_n dL_law_818 rfl ?_
      refine z_aloadX dL_law_819 rfl ?_
      refine z_iload_n dL_law_820 rfl ?_
      refine z_iconst (v := 1) dL_law_821 rfl ?_
      refine z_iadd dL_law_822 ?_
      rw [show (nI i + 1 : Int32) = nI (i + 1) from nI_1 i]
      refine z_saldN dL_law_823 (by omega) hL ?_
      refine z_callV (As := [.int _]) (b := 0) (st := []) dL_law_824 klaw_106 ⟨rfl, rfl⟩ rfl rfl rfl (wd_get sh0) rfl rfl rfl rfl h1 (fun r9 w9 hk9 => ?_)
      obtain ⟨_, _, rfl, rfl, rfl, rfl⟩ := hk9
      refine z_aload_n dL_law_827 rfl ?_
      refine z_aloadX dL_law_828 rfl ?_
      refine z_iload_n dL_law_829 rfl ?_
      refine z_iconst (v := 1) dL_law_830 rfl ?_
      refine z_iadd dL_law_831 ?_
      rw [show (nI i + 1 : Int32) = nI (i + 1) from nI_1 i]
      refine z_saldN dL_law_832 (by omega) hL ?_
      refine z_callV (As := [.int _]) (b := 66) (st := [.int r]) dL_law_833 klaw_109 ⟨rfl, rfl⟩ rfl rfl rfl (wd_get sh66) rfl rfl rfl rfl h2 (fun r9 w9 hk9 => ?_)
      obtain ⟨_, _, rfl, rfl, rfl, rfl⟩ := hk9
      refine z_icmp_eq 1078 dL_law_836 (by decide) (fun _ => ?_) (fun h => absurd rfl h)
      exact h1078 _ _ _ h3
    · refine z_tableIn 841 dL_law_32 (by decide) (by decide) rfl (by decide) ?_
      obtain ⟨r, μ1, ν1, μ2, n2, h1, h2, h3⟩ := op_until (zgx G (i + 1)) (zgx G (i + 2)) l G μ ν n hrel
      refine z_aload_n dL_law_841 rfl ?_
      refine z_aloadX dL_law_842 rfl ?_
      refine z_iload_n dL_law_843 rfl ?_
      refine z_iconst (v := 1) dL_law_844 rfl ?_
      refine z_iadd dL_law_845 ?_
      rw [show (nI i + 1 : Int32) = nI (i + 1) from nI_1 i]
      refine z_saldN dL_law_846 (by omega) hL ?_
      refine z_aloadX dL_law_847 rfl ?_
      refine z_iload_n dL_law_848 rfl ?_
      refine z_iconst (v := 2) dL_law_849 rfl ?_
      refine z_iadd dL_law_850 ?_
      rw [show (nI i + 2 : Int32) = nI (i + 2) from nI_add i 2]
      refine z_saldN dL_law_851 (by omega) hL ?_
      refine z_callV (As := [.int _, .int _]) (b := 0) (st := []) dL_law_852 klaw_110 ⟨rfl, rfl⟩ rfl rfl rfl (wd_get sh0) rfl rfl rfl rfl h1 (fun r9 w9 hk9 => ?_)
      obtain ⟨_, _, rfl, rfl, rfl, rfl⟩ := hk9
      refine z_aload_n dL_law_855 rfl ?_
      refine z_aloadX dL_law_856 rfl ?_
      refine z_iload_n dL_law_857 rfl ?_
      refine z_iconst (v := 1) dL_law_858 rfl ?_
      refine z_iadd dL_law_859 ?_
      rw [show (nI i + 1 : Int32) = nI (i + 1) from nI_1 i]
      refine z_saldN dL_law_860 (by omega) hL ?_
      refine z_aloadX dL_law_861 rfl ?_
      refine z_iload_n dL_law_862 rfl ?_
      refine z_iconst (v := 2) dL_law_863 rfl ?_
      refine z_iadd dL_law_864 ?_
      rw [show (nI i + 2 : Int32) = nI (i + 2) from nI_add i 2]
      refine z_saldN dL_law_865 (by omega) hL ?_
      refine z_callV (As := [.int _, .int _]) (b := 66) (st := [.int r]) dL_law_866 klaw_113 ⟨rfl, rfl⟩ rfl rfl rfl (wd_get sh66) rfl rfl rfl rfl h2 (fun r9 w9 hk9 => ?_)
      obtain ⟨_, _, rfl, rfl, rfl, rfl⟩ := hk9
      refine z_icmp_eq 1078 dL_law_869 (by decide) (fun _ => ?_) (fun h => absurd rfl h)
      exact h1078 _ _ _ h3
    · refine z_tableIn 874 dL_law_32 (by decide) (by decide) rfl (by decide) ?_
      obtain ⟨r, μ1, ν1, μ2, n2, h1, h2, h3⟩ := op_unheard (zgx G (i + 1)) (zgx G (i + 2)) (zgx G (i + 3)) l G μ ν n hrel
      refine z_aload_n dL_law_874 rfl ?_
      refine z_aloadX dL_law_875 rfl ?_
      refine z_iload_n dL_law_876 rfl ?_
      refine z_iconst (v := 1) dL_law_877 rfl ?_
      refine z_iadd dL_law_878 ?_
      rw [show (nI i + 1 : Int32) = nI (i + 1) from nI_1 i]
      refine z_saldN dL_law_879 (by omega) hL ?_
      refine z_aloadX dL_law_880 rfl ?_
      refine z_iload_n dL_law_881 rfl ?_
      refine z_iconst (v := 2) dL_law_882 rfl ?_
      refine z_iadd dL_law_883 ?_
      rw [show (nI i + 2 : Int32) = nI (i + 2) from nI_add i 2]
      refine z_saldN dL_law_884 (by omega) hL ?_
      refine z_aloadX dL_law_885 rfl ?_
      refine z_iload_n dL_law_886 rfl ?_
      refine z_iconst (v := 3) dL_law_887 rfl ?_
      refine z_iadd dL_law_888 ?_
      rw [show (nI i + 3 : Int32) = nI (i + 3) from nI_add i 3]
      refine z_saldN dL_law_889 (by omega) hL ?_
      refine z_callV (As := [.int _, .int _, .int _]) (b := 0) (st := []) dL_law_890 klaw_114 ⟨rfl, rfl⟩ rfl rfl rfl (wd_get sh0) rfl rfl rfl rfl h1 (fun r9 w9 hk9 => ?_)
      obtain ⟨_, _, rfl, rfl, rfl, rfl⟩ := hk9
      refine z_aload_n dL_law_893 rfl ?_
      refine z_aloadX dL_law_894 rfl ?_
      refine z_iload_n dL_law_895 rfl ?_
      refine z_iconst (v := 1) dL_law_896 rfl ?_
      refine z_iadd dL_law_897 ?_
      rw [show (nI i + 1 : Int32) = nI (i + 1) from nI_1 i]
      refine z_saldN dL_law_898 (by omega) hL ?_
      refine z_aloadX dL_law_899 rfl ?_
      refine z_iload_n dL_law_900 rfl ?_
      refine z_iconst (v := 2) dL_law_901 rfl ?_
      refine z_iadd dL_law_902 ?_
      rw [show (nI i + 2 : Int32) = nI (i + 2) from nI_add i 2]
      refine z_saldN dL_law_903 (by omega) hL ?_
      refine z_aloadX dL_law_904 rfl ?_
      refine z_iload_n dL_law_905 rfl ?_
      refine z_iconst (v := 3) dL_law_906 rfl ?_
      refine z_iadd dL_law_907 ?_
      rw [show (nI i + 3 : Int32) = nI (i + 3) from nI_add i 3]
      refine z_saldN dL_law_908 (by omega) hL ?_
      refine z_callV (As := [.int _, .int _, .int _]) (b := 66) (st := [.int r]) dL_law_909 klaw_117 ⟨rfl, rfl⟩ rfl rfl rfl (wd_get sh66) rfl rfl rfl rfl h2 (fun r9 w9 hk9 => ?_)
      obtain ⟨_, _, rfl, rfl, rfl, rfl⟩ := hk9
      refine z_icmp_eq 1078 dL_law_912 (by decide) (fun _ => ?_) (fun h => absurd rfl h)
      exact h1078 _ _ _ h3
    · refine z_tableIn 917 dL_law_32 (by decide) (by decide) rfl (by decide) ?_
      obtain ⟨r, μ1, ν1, μ2, n2, h1, h2, h3⟩ := op_learns (zgx G (i + 1)) (zgx G (i + 2)) l G μ ν n hrel
      refine z_aload_n dL_law_917 rfl ?_
      refine z_aloadX dL_law_918 rfl ?_
      refine z_iload_n dL_law_919 rfl ?_
      refine z_iconst (v := 1) dL_law_920 rfl ?_
      refine z_iadd dL_law_921 ?_
      rw [show (nI i + 1 : Int32) = nI (i + 1) from nI_1 i]
      refine z_saldN dL_law_922 (by omega) hL ?_
      refine z_aloadX dL_law_923 rfl ?_
      refine z_iload_n dL_law_924 rfl ?_
      refine z_iconst (v := 2) dL_law_925 rfl ?_
      refine z_iadd dL_law_926 ?_
      rw [show (nI i + 2 : Int32) = nI (i + 2) from nI_add i 2]
      refine z_saldN dL_law_927 (by omega) hL ?_
      refine z_callV (As := [.int _, .int _]) (b := 0) (st := []) dL_law_928 klaw_118 ⟨rfl, rfl⟩ rfl rfl rfl (wd_get sh0) rfl rfl rfl rfl h1 (fun r9 w9 hk9 => ?_)
      obtain ⟨_, _, rfl, rfl, rfl, rfl⟩ := hk9
      refine z_aload_n dL_law_931 rfl ?_
      refine z_aloadX dL_law_932 rfl ?_
      refine z_iload_n dL_law_933 rfl ?_
      refine z_iconst (v := 1) dL_law_934 rfl ?_
      refine z_iadd dL_law_935 ?_
      rw [show (nI i + 1 : Int32) = nI (i + 1) from nI_1 i]
      refine z_saldN dL_law_936 (by omega) hL ?_
      refine z_aloadX dL_law_937 rfl ?_
      refine z_iload_n dL_law_938 rfl ?_
      refine z_iconst (v := 2) dL_law_939 rfl ?_
      refine z_iadd dL_law_940 ?_
      rw [show (nI i + 2 : Int32) = nI (i + 2) from nI_add i 2]
      refine z_saldN dL_law_941 (by omega) hL ?_
      refine z_callV (As := [.int _, .int _]) (b := 66) (st := [.int r]) dL_law_942 klaw_121 ⟨rfl, rfl⟩ rfl rfl rfl (wd_get sh66) rfl rfl rfl rfl h2 (fun r9 w9 hk9 => ?_)
      obtain ⟨_, _, rfl, rfl, rfl, rfl⟩ := hk9
      refine z_icmp_eq 1078 dL_law_945 (by decide) (fun _ => ?_) (fun h => absurd rfl h)
      exact h1078 _ _ _ h3
    · refine z_tableIn 950 dL_law_32 (by decide) (by decide) rfl (by decide) ?_
      obtain ⟨r, μ1, ν1, μ2, n2, h1, h2, h3⟩ := op_write (zgx G (i + 1)) (zgx G (i + 2)) l G μ ν n hrel
      refine z_aload_n dL_law_950 rfl ?_
      refine z_aloadX dL_law_951 rfl ?_
      refine z_iload_n dL_law_952 rfl ?_
      refine z_iconst (v := 1) dL_law_953 rfl ?_
      refine z_iadd dL_law_954 ?_
      rw [show (nI i + 1 : Int32) = nI (i + 1) from nI_1 i]
      refine z_saldN dL_law_955 (by omega) hL ?_
      refine z_aloadX dL_law_956 rfl ?_
      refine z_iload_n dL_law_957 rfl ?_
      refine z_iconst (v := 2) dL_law_958 rfl ?_
      refine z_iadd dL_law_959 ?_
      rw [show (nI i + 2 : Int32) = nI (i + 2) from nI_add i 2]
      refine z_saldN dL_law_960 (by omega) hL ?_
      refine z_callV (As := [.int _, .int _]) (b := 0) (st := []) dL_law_961 klaw_122 ⟨rfl, rfl⟩ rfl rfl rfl (wd_get sh0) rfl rfl rfl rfl h1 (fun r9 w9 hk9 => ?_)
      obtain ⟨_, _, rfl, rfl, rfl, rfl⟩ := hk9
      refine z_aload_n dL_law_964 rfl ?_
      refine z_aloadX dL_law_965 rfl ?_
      refine z_iload_n dL_law_966 rfl ?_
      refine z_iconst (v := 1) dL_law_967 rfl ?_
      refine z_iadd dL_law_968 ?_
      rw [show (nI i + 1 : Int32) = nI (i + 1) from nI_1 i]
      refine z_saldN dL_law_969 (by omega) hL ?_
      refine z_aloadX dL_law_970 rfl ?_
      refine z_iload_n dL_law_971 rfl ?_
      refine z_iconst (v := 2) dL_law_972 rfl ?_
      refine z_iadd dL_law_973 ?_
      rw [show (nI i + 2 : Int32) = nI (i + 2) from nI_add i 2]
      refine z_saldN dL_law_974 (by omega) hL ?_
      refine z_callV (As := [.int _, .int _]) (b := 66) (st := [.int r]) dL_law_975 klaw_125 ⟨rfl, rfl⟩ rfl rfl rfl (wd_get sh66) rfl rfl rfl rfl h2 (fun r9 w9 hk9 => ?_)
      obtain ⟨_, _, rfl, rfl, rfl, rfl⟩ := hk9
      refine z_icmp_eq 1078 dL_law_978 (by decide) (fun _ => ?_) (fun h => absurd rfl h)
      exact h1078 _ _ _ h3
    · refine z_tableIn 983 dL_law_32 (by decide) (by decide) rfl (by decide) ?_
      obtain ⟨r, μ1, ν1, μ2, n2, h1, h2, h3⟩ := op_tear l G μ ν n hrel
      refine z_aload_n dL_law_983 rfl ?_
      refine z_callV (As := []) (b := 0) (st := []) dL_law_984 klaw_126 ⟨rfl, rfl⟩ rfl rfl rfl (wd_get sh0) rfl rfl rfl rfl h1 (fun r9 w9 hk9 => ?_)
      obtain ⟨_, _, rfl, rfl, rfl, rfl⟩ := hk9
      refine z_aload_n dL_law_987 rfl ?_
      refine z_callV (As := []) (b := 66) (st := [.int r]) dL_law_988 klaw_129 ⟨rfl, rfl⟩ rfl rfl rfl (wd_get sh66) rfl rfl rfl rfl h2 (fun r9 w9 hk9 => ?_)
      obtain ⟨_, _, rfl, rfl, rfl, rfl⟩ := hk9
      refine z_icmp_eq 1078 dL_law_991 (by decide) (fun _ => ?_) (fun h => absurd rfl h)
      exact h1078 _ _ _ h3
    · refine z_tableIn 996 dL_law_32 (by decide) (by decide) rfl (by decide) ?_
      obtain ⟨r, μ1, ν1, μ2, n2, h1, h2, h3⟩ := op_judge l G μ ν n hrel
      refine z_aload_n dL_law_996 rfl ?_
      refine z_callV (As := []) (b := 0) (st := []) dL_law_997 klaw_130 ⟨rfl, rfl⟩ rfl rfl rfl (wd_get sh0) rfl rfl rfl rfl h1 (fun r9 w9 hk9 => ?_)
      obtain ⟨_, _, rfl, rfl, rfl, rfl⟩ := hk9
      refine z_aload_n dL_law_1000 rfl ?_
      refine z_callV (As := []) (b := 66) (st := [.int r]) dL_law_1001 klaw_133 ⟨rfl, rfl⟩ rfl rfl rfl (wd_get sh66) rfl rfl rfl rfl h2 (fun r9 w9 hk9 => ?_)
      obtain ⟨_, _, rfl, rfl, rfl, rfl⟩ := hk9
      refine z_icmp_eq 1078 dL_law_1004 (by decide) (fun _ => ?_) (fun h => absurd rfl h)
      exact h1078 _ _ _ h3
    · refine z_tableIn 1009 dL_law_32 (by decide) (by decide) rfl (by decide) ?_
      obtain ⟨r, μ1, ν1, μ2, n2, h1, h2, h3⟩ := op_seed (zgx G (i + 1)) l G μ ν n hrel
      refine z_aload_n dL_law_1009 rfl ?_
      refine z_aloadX dL_law_1010 rfl ?_
      refine z_iload_n dL_law_1011 rfl ?_
      refine z_iconst (v := 1) dL_law_1012 rfl ?_
      refine z_iadd dL_law_1013 ?_
      rw [show (nI i + 1 : Int32) = nI (i + 1) from nI_1 i]
      refine z_saldN dL_law_1014 (by omega) hL ?_
      refine z_callV (As := [.int _]) (b := 0) (st := []) dL_law_1015 klaw_134 ⟨rfl, rfl⟩ rfl rfl rfl (wd_get sh0) rfl rfl rfl rfl h1 (fun r9 w9 hk9 => ?_)
      obtain ⟨_, _, rfl, rfl, rfl, rfl⟩ := hk9
      refine z_aload_n dL_law_1018 rfl ?_
      refine z_aloadX dL_law_1019 rfl ?_
      refine z_iload_n dL_law_1020 rfl ?_
      refine z_iconst (v := 1) dL_law_1021 rfl ?_
      refine z_iadd dL_law_1022 ?_
      rw [show (nI i + 1 : Int32) = nI (i + 1) from nI_1 i]
      refine z_saldN dL_law_1023 (by omega) hL ?_
      refine z_callV (As := [.int _]) (b := 66) (st := [.int r]) dL_law_1024 klaw_137 ⟨rfl, rfl⟩ rfl rfl rfl (wd_get sh66) rfl rfl rfl rfl h2 (fun r9 w9 hk9 => ?_)
      obtain ⟨_, _, rfl, rfl, rfl, rfl⟩ := hk9
      refine z_icmp_eq 1078 dL_law_1027 (by decide) (fun _ => ?_) (fun h => absurd rfl h)
      exact h1078 _ _ _ h3
    · refine z_tableIn 1032 dL_law_32 (by decide) (by decide) rfl (by decide) ?_
      obtain ⟨r, μ1, ν1, μ2, n2, h1, h2, h3⟩ := op_keep (zgx G (i + 1)) l G μ ν n hrel
      refine z_aload_n dL_law_1032 rfl ?_
      refine z_aloadX dL_law_1033 rfl ?_
      refine z_iload_n dL_law_1034 rfl ?_
      refine z_iconst (v := 1) dL_law_1035 rfl ?_
      refine z_iadd dL_law_1036 ?_
      rw [show (nI i + 1 : Int32) = nI (i + 1) from nI_1 i]
      refine z_saldN dL_law_1037 (by omega) hL ?_
      refine z_callV (As := [.int _]) (b := 0) (st := []) dL_law_1038 klaw_138 ⟨rfl, rfl⟩ rfl rfl rfl (wd_get sh0) rfl rfl rfl rfl h1 (fun r9 w9 hk9 => ?_)
      obtain ⟨_, _, rfl, rfl, rfl, rfl⟩ := hk9
      refine z_aload_n dL_law_1041 rfl ?_
      refine z_aloadX dL_law_1042 rfl ?_
      refine z_iload_n dL_law_1043 rfl ?_
      refine z_iconst (v := 1) dL_law_1044 rfl ?_
      refine z_iadd dL_law_1045 ?_
      rw [show (nI i + 1 : Int32) = nI (i + 1) from nI_1 i]
      refine z_saldN dL_law_1046 (by omega) hL ?_
      refine z_callV (As := [.int _]) (b := 66) (st := [.int r]) dL_law_1047 klaw_141 ⟨rfl, rfl⟩ rfl rfl rfl (wd_get sh66) rfl rfl rfl rfl h2 (fun r9 w9 hk9 => ?_)
      obtain ⟨_, _, rfl, rfl, rfl, rfl⟩ := hk9
      refine z_icmp_eq 1078 dL_law_1050 (by decide) (fun _ => ?_) (fun h => absurd rfl h)
      exact h1078 _ _ _ h3
    · refine z_tableIn 1055 dL_law_32 (by decide) (by decide) rfl (by decide) ?_
      obtain ⟨r, μ1, ν1, μ2, n2, h1, h2, h3⟩ := op_goBack (zgx G (i + 1)) l G μ ν n hrel
      refine z_aload_n dL_law_1055 rfl ?_
      refine z_aloadX dL_law_1056 rfl ?_
      refine z_iload_n dL_law_1057 rfl ?_
      refine z_iconst (v := 1) dL_law_1058 rfl ?_
      refine z_iadd dL_law_1059 ?_
      rw [show (nI i + 1 : Int32) = nI (i + 1) from nI_1 i]
      refine z_saldN dL_law_1060 (by omega) hL ?_
      refine z_callV (As := [.int _]) (b := 0) (st := []) dL_law_1061 klaw_142 ⟨rfl, rfl⟩ rfl rfl rfl (wd_get sh0) rfl rfl rfl rfl h1 (fun r9 w9 hk9 => ?_)
      obtain ⟨_, _, rfl, rfl, rfl, rfl⟩ := hk9
      refine z_aload_n dL_law_1064 rfl ?_
      refine z_aloadX dL_law_1065 rfl ?_
      refine z_iload_n dL_law_1066 rfl ?_
      refine z_iconst (v := 1) dL_law_1067 rfl ?_
      refine z_iadd dL_law_1068 ?_
      rw [show (nI i + 1 : Int32) = nI (i + 1) from nI_1 i]
      refine z_saldN dL_law_1069 (by omega) hL ?_
      refine z_callV (As := [.int _]) (b := 66) (st := [.int r]) dL_law_1070 klaw_145 ⟨rfl, rfl⟩ rfl rfl rfl (wd_get sh66) rfl rfl rfl rfl h2 (fun r9 w9 hk9 => ?_)
      obtain ⟨_, _, rfl, rfl, rfl, rfl⟩ := hk9
      refine z_icmp_eq 1078 dL_law_1073 (by decide) (fun _ => ?_) (fun h => absurd rfl h)
      exact h1078 _ _ _ h3
