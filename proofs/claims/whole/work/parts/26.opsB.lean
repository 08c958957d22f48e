
def fPlanCp (μ : Mem) (d s : Nat) : Mem :=
  let μ1 := va_up μ (d + 1) (va_cpy (μ (s + 1)) (μ (d + 1)) 0 0 6)
  let μ2 := va_up μ1 (d + 2) (va_cpy (μ1 (s + 2)) (μ1 (d + 2)) 0 0 6)
  let μ3 := va_up μ2 (d + 3) (va_cpy (μ2 (s + 3)) (μ2 (d + 3)) 0 0 6)
  let μ4 := up2 μ3 d 3 (μ3 s 3)
  up2 μ4 d 4 (μ4 s 4)
def fHouseCp (μ : Mem) : Mem :=
  let μ1 := va_up μ 16 (va_cpy (μ 3) (μ 16) 0 0 2)
  let μ2 := va_up μ1 17 (va_cpy (μ1 4) (μ1 17) 0 0 2)
  let μ3 := va_up μ2 18 (va_cpy (μ2 5) (μ2 18) 0 0 6)
  let μ4 := va_up μ3 19 (va_cpy (μ3 6) (μ3 19) 0 0 6)
  let μ5 := va_up μ4 20 (va_cpy (μ4 7) (μ4 20) 0 0 6)
  let μ6 := va_up μ5 21 (va_cpy (μ5 8) (μ5 21) 0 0 6)
  up2 μ6 15 6 (μ6 2 6)
set_option maxRecDepth 100000 in
set_option maxHeartbeats 400000 in
theorem c_planCp {l : Launch} {G : zG} {d s : Nat} (hd : zPlan d) (hs : zPlan s) {μ : Mem} {ν : Lng}  : Cm l G mX4_copyFrom [.ref d, .ref s] μ ν (fun _ b9 c9 => fPlanCp μ d s = b9 ∧ ν = c9) := by
  refine Con.of (by decide) (Nat.le_of_ble_eq_true rfl) ?_
  show Am l G mX4_copyFrom 0 [(0, .ref d), (1, .ref s)] [] μ ν _
  refine z_aload_n dX4_copyFrom_0 rfl ?_
  refine m_getr dX4_copyFrom_1 fX4_9 hs.1 rfl ?_
  refine z_iconst (v := 0) dX4_copyFrom_4 rfl ?_
  refine z_aload_n dX4_copyFrom_5 rfl ?_
  refine m_getr dX4_copyFrom_6 fX4_9 hd.1 rfl ?_
  refine z_iconst (v := 0) dX4_copyFrom_9 rfl ?_
  refine z_bipush (v := 6) dX4_copyFrom_10 rfl ?_
  refine m_copy dX4_copyFrom_12 kX4_28 wNat_copy wSt_copy wIniSys hs.2.1 hd.2.1 (by decide) (by decide) (by decide) (by decide) (by decide) rfl rfl ?_
  refine z_aload_n dX4_copyFrom_15 rfl ?_
  refine m_getr dX4_copyFrom_16 fX4_15 hs.1 rfl ?_
  refine z_iconst (v := 0) dX4_copyFrom_19 rfl ?_
  refine z_aload_n dX4_copyFrom_20 rfl ?_
  refine m_getr dX4_copyFrom_21 fX4_15 hd.1 rfl ?_
  refine z_iconst (v := 0) dX4_copyFrom_24 rfl ?_
  refine z_bipush (v := 6) dX4_copyFrom_25 rfl ?_
  refine m_copy dX4_copyFrom_27 kX4_28 wNat_copy wSt_copy wIniSys hs.2.2.1 hd.2.2.1 (by decide) (by decide) (by decide) (by decide) (by decide) rfl rfl ?_
  refine z_aload_n dX4_copyFrom_30 rfl ?_
  refine m_getr dX4_copyFrom_31 fX4_18 hs.1 rfl ?_
  refine z_iconst (v := 0) dX4_copyFrom_34 rfl ?_
  refine z_aload_n dX4_copyFrom_35 rfl ?_
  refine m_getr dX4_copyFrom_36 fX4_18 hd.1 rfl ?_
  refine z_iconst (v := 0) dX4_copyFrom_39 rfl ?_
  refine z_bipush (v := 6) dX4_copyFrom_40 rfl ?_
  refine m_copy dX4_copyFrom_42 kX4_28 wNat_copy wSt_copy wIniSys hs.2.2.2 hd.2.2.2 (by decide) (by decide) (by decide) (by decide) (by decide) rfl rfl ?_
  refine z_aload_n dX4_copyFrom_45 rfl ?_
  refine z_aload_n dX4_copyFrom_46 rfl ?_
  refine m_geti dX4_copyFrom_47 fX4_21 hs.1 rfl ?_
  refine m_puti dX4_copyFrom_50 fX4_21 (fun q h => by cases h; rfl) rfl rfl hd.1 rfl ?_
  refine z_aload_n dX4_copyFrom_53 rfl ?_
  refine z_aload_n dX4_copyFrom_54 rfl ?_
  refine m_geti dX4_copyFrom_55 fX4_25 hs.1 rfl ?_
  refine m_puti dX4_copyFrom_58 fX4_25 (fun q h => by cases h; rfl) rfl rfl hd.1 rfl ?_
  refine m_ret dX4_copyFrom_61 rfl ?_
  exact ⟨rfl, rfl⟩
set_option maxRecDepth 100000 in
set_option maxHeartbeats 400000 in
theorem c_houseCp {l : Launch} {G : zG} {μ : Mem} {ν : Lng}  : Cm l G mX1_copyFrom [.ref 15, .ref 2] μ ν (fun _ b9 c9 => fHouseCp μ = b9 ∧ ν = c9) := by
  refine Con.of (by decide) (Nat.le_of_ble_eq_true rfl) ?_
  show Am l G mX1_copyFrom 0 [(0, .ref 15), (1, .ref 2)] [] μ ν _
  refine z_aload_n dX1_copyFrom_0 rfl ?_
  refine m_getr dX1_copyFrom_1 fX1_9 sh2 rfl ?_
  refine z_iconst (v := 0) dX1_copyFrom_4 rfl ?_
  refine z_aload_n dX1_copyFrom_5 rfl ?_
  refine m_getr dX1_copyFrom_6 fX1_9 sh15 rfl ?_
  refine z_iconst (v := 0) dX1_copyFrom_9 rfl ?_
  refine z_iconst (v := 2) dX1_copyFrom_10 rfl ?_
  refine m_copy dX1_copyFrom_11 kX1_43 wNat_copy wSt_copy wIniSys sh3 sh16 (by decide) (by decide) (by decide) (by decide) (by decide) rfl rfl ?_
  refine z_aload_n dX1_copyFrom_14 rfl ?_
  refine m_getr dX1_copyFrom_15 fX1_15 sh2 rfl ?_
  refine z_iconst (v := 0) dX1_copyFrom_18 rfl ?_
  refine z_aload_n dX1_copyFrom_19 rfl ?_
  refine m_getr dX1_copyFrom_20 fX1_15 sh15 rfl ?_
  refine z_iconst (v := 0) dX1_copyFrom_23 rfl ?_
  refine z_iconst (v := 2) dX1_copyFrom_24 rfl ?_
  refine m_copy dX1_copyFrom_25 kX1_43 wNat_copy wSt_copy wIniSys sh4 sh17 (by decide) (by decide) (by decide) (by decide) (by decide) rfl rfl ?_
  refine z_aload_n dX1_copyFrom_28 rfl ?_
  refine m_getr dX1_copyFrom_29 fX1_18 sh2 rfl ?_
  refine z_iconst (v := 0) dX1_copyFrom_32 rfl ?_
  refine z_aload_n dX1_copyFrom_33 rfl ?_
  refine m_getr dX1_copyFrom_34 fX1_18 sh15 rfl ?_
  refine z_iconst (v := 0) dX1_copyFrom_37 rfl ?_
  refine z_bipush (v := 6) dX1_copyFrom_38 rfl ?_
  refine m_copy dX1_copyFrom_40 kX1_43 wNat_copy wSt_copy wIniSys sh5 sh18 (by decide) (by decide) (by decide) (by decide) (by decide) rfl rfl ?_
  refine z_aload_n dX1_copyFrom_43 rfl ?_
  refine m_getr dX1_copyFrom_44 fX1_21 sh2 rfl ?_
  refine z_iconst (v := 0) dX1_copyFrom_47 rfl ?_
  refine z_aload_n dX1_copyFrom_48 rfl ?_
  refine m_getr dX1_copyFrom_49 fX1_21 sh15 rfl ?_
  refine z_iconst (v := 0) dX1_copyFrom_52 rfl ?_
  refine z_bipush (v := 6) dX1_copyFrom_53 rfl ?_
  refine m_copy dX1_copyFrom_55 kX1_43 wNat_copy wSt_copy wIniSys sh6 sh19 (by decide) (by decide) (by decide) (by decide) (by decide) rfl rfl ?_
  refine z_aload_n dX1_copyFrom_58 rfl ?_
  refine m_getr dX1_copyFrom_59 fX1_24 sh2 rfl ?_
  refine z_iconst (v := 0) dX1_copyFrom_62 rfl ?_
  refine z_aload_n dX1_copyFrom_63 rfl ?_
  refine m_getr dX1_copyFrom_64 fX1_24 sh15 rfl ?_
  refine z_iconst (v := 0) dX1_copyFrom_67 rfl ?_
  refine z_bipush (v := 6) dX1_copyFrom_68 rfl ?_
  refine m_copy dX1_copyFrom_70 kX1_43 wNat_copy wSt_copy wIniSys sh7 sh20 (by decide) (by decide) (by decide) (by decide) (by decide) rfl rfl ?_
  refine z_aload_n dX1_copyFrom_73 rfl ?_
  refine m_getr dX1_copyFrom_74 fX1_27 sh2 rfl ?_
  refine z_iconst (v := 0) dX1_copyFrom_77 rfl ?_
  refine z_aload_n dX1_copyFrom_78 rfl ?_
  refine m_getr dX1_copyFrom_79 fX1_27 sh15 rfl ?_
  refine z_iconst (v := 0) dX1_copyFrom_82 rfl ?_
  refine z_bipush (v := 6) dX1_copyFrom_83 rfl ?_
  refine m_copy dX1_copyFrom_85 kX1_43 wNat_copy wSt_copy wIniSys sh8 sh21 (by decide) (by decide) (by decide) (by decide) (by decide) rfl rfl ?_
  refine z_aload_n dX1_copyFrom_88 rfl ?_
  refine z_aload_n dX1_copyFrom_89 rfl ?_
  refine m_geti dX1_copyFrom_90 fX1_30 sh2 rfl ?_
  refine m_puti dX1_copyFrom_93 fX1_30 (fun q h => by cases h; rfl) rfl rfl sh15 rfl ?_
  refine m_ret dX1_copyFrom_96 rfl ?_
  exact ⟨rfl, rfl⟩
set_option maxRecDepth 100000 in
set_option maxHeartbeats 400000 in
theorem c_planUn {l : Launch} {G : zG} {d : Nat} (hd : zPlan d) {μ : Mem} {ν : Lng}  : Cm l G mX4_makeUntold [.ref d] μ ν (fun _ b9 c9 => up2 (up2 μ d 3 0) d 4 9 = b9 ∧ ν = c9) := by
  refine Con.of (by decide) (Nat.le_of_ble_eq_true rfl) ?_
  show Am l G mX4_makeUntold 0 [(0, .ref d)] [] μ ν _
  refine z_aload_n dX4_makeUntold_0 rfl ?_
  refine z_iconst (v := 0) dX4_makeUntold_1 rfl ?_
  refine m_puti dX4_makeUntold_2 fX4_21 (fun q h => by cases h; rfl) rfl rfl hd.1 rfl ?_
  refine z_aload_n dX4_makeUntold_5 rfl ?_
  refine z_bipush (v := 9) dX4_makeUntold_6 rfl ?_
  refine m_puti dX4_makeUntold_8 fX4_25 (fun q h => by cases h; rfl) rfl rfl hd.1 rfl ?_
  refine m_ret dX4_makeUntold_11 rfl ?_
  exact ⟨rfl, rfl⟩
set_option maxRecDepth 100000 in
set_option maxHeartbeats 400000 in
theorem c_houseUn {l : Launch} {G : zG} {μ : Mem} {ν : Lng}  : Cm l G mX1_makeUntold [.ref 2] μ ν (fun _ b9 c9 => up2 (fFill (fFill μ 3 2 2) 4 2 3) 2 6 0 = b9 ∧ ν = c9) := by
  refine Con.of (by decide) (Nat.le_of_ble_eq_true rfl) ?_
  show Am l G mX1_makeUntold 0 [(0, .ref 2)] [] μ ν _
  refine z_aload_n dX1_makeUntold_0 rfl ?_
  refine m_getr dX1_makeUntold_1 fX1_9 sh2 rfl ?_
  refine z_iconst (v := 2) dX1_makeUntold_4 rfl ?_
  refine m_callSv (As := [.ref _, .int _]) dX1_makeUntold_5 kX1_37 ⟨rfl, rfl⟩ rfl ⟨rfl, rfl⟩ rfl rfl rfl (c_fill (k := 3) (n := 2) sh3 (by decide)) (fun μ5 ν5 hk5 => ?_)
  obtain ⟨rfl, rfl⟩ := hk5
  refine z_aload_n dX1_makeUntold_8 rfl ?_
  refine m_getr dX1_makeUntold_9 fX1_15 sh2 rfl ?_
  refine z_iconst (v := 3) dX1_makeUntold_12 rfl ?_
  refine m_callSv (As := [.ref _, .int _]) dX1_makeUntold_13 kX1_37 ⟨rfl, rfl⟩ rfl ⟨rfl, rfl⟩ rfl rfl rfl (c_fill (k := 4) (n := 2) sh4 (by decide)) (fun μ13 ν13 hk13 => ?_)
  obtain ⟨rfl, rfl⟩ := hk13
  refine z_aload_n dX1_makeUntold_16 rfl ?_
  refine z_iconst (v := 0) dX1_makeUntold_17 rfl ?_
  refine m_puti dX1_makeUntold_18 fX1_30 (fun q h => by cases h; rfl) rfl rfl sh2 rfl ?_
  refine m_ret dX1_makeUntold_21 rfl ?_
  exact ⟨rfl, rfl⟩
set_option maxRecDepth 100000 in
set_option maxHeartbeats 400000 in
theorem c_keep_o {l : Launch} {G : zG} {μ : Mem} {ν : Lng} {v : Int32} (hv : v < 0 ∨ 1 < v) : Cm l G mX9_keep [.ref 0, .int v] μ ν (fun a9 b9 c9 => (-1000000001) = a9 ∧ μ = b9 ∧ ν = c9) := by
  refine Con.of (by decide) (Nat.le_of_ble_eq_true rfl) ?_
  show Am l G mX9_keep 0 [(0, .ref 0), (1, .int v)] [] μ ν _
  refine z_iload_n dX9_keep_0 rfl ?_
  refine m_callS (As := [.int _]) dX9_keep_1 kX9_282 ⟨rfl, rfl⟩ rfl ⟨rfl, rfl⟩ rfl rfl rfl (c_noImage1 hv) (fun r1 μ1 ν1 hk1 => ?_)
  obtain ⟨rfl, rfl, rfl⟩ := hk1
  refine z_if_eq 10 dX9_keep_4 (by decide) (fun h4 => absurd h4 (by decide)) (fun h4 => ?_)
  refine z_ldc dX9_keep_7 cX9_136 ?_
  refine m_iret dX9_keep_9 rfl rfl ?_
  exact ⟨rfl, rfl, rfl⟩
set_option maxRecDepth 100000 in
set_option maxHeartbeats 400000 in
theorem c_goBack_o {l : Launch} {G : zG} {μ : Mem} {ν : Lng} {v : Int32} (hv : v < 0 ∨ 1 < v) : Cm l G mX9_goBack [.ref 0, .int v] μ ν (fun a9 b9 c9 => (-1000000001) = a9 ∧ μ = b9 ∧ ν = c9) := by
  refine Con.of (by decide) (Nat.le_of_ble_eq_true rfl) ?_
  show Am l G mX9_goBack 0 [(0, .ref 0), (1, .int v)] [] μ ν _
  refine z_iload_n dX9_goBack_0 rfl ?_
  refine m_callS (As := [.int _]) dX9_goBack_1 kX9_282 ⟨rfl, rfl⟩ rfl ⟨rfl, rfl⟩ rfl rfl rfl (c_noImage1 hv) (fun r1 μ1 ν1 hk1 => ?_)
  obtain ⟨rfl, rfl, rfl⟩ := hk1
  refine z_if_eq 10 dX9_goBack_4 (by decide) (fun h4 => absurd h4 (by decide)) (fun h4 => ?_)
  refine z_ldc dX9_goBack_7 cX9_136 ?_
  refine m_iret dX9_goBack_9 rfl rfl ?_
  exact ⟨rfl, rfl, rfl⟩
set_option maxRecDepth 100000 in
set_option maxHeartbeats 400000 in
theorem c_keep {l : Launch} {G : zG} {μ : Mem} {ν : Lng} {j : Nat} (hj : j ≤ 1)  : Cm l G mX9_keep [.ref 0, .int (nI j)] μ ν (fun a9 b9 c9 => 1 = a9 ∧ up2 (fPlanCp μ (56 + 5 * j + 1) 22) (56 + 5 * j) 2 1 = b9 ∧ va_up ν (56 + 5 * j) (ν 0) = c9) := by
  refine Con.of (by decide) (Nat.le_of_ble_eq_true rfl) ?_
  show Am l G mX9_keep 0 [(0, .ref 0), (1, .int (nI j))] [] μ ν _
  refine z_iload_n dX9_keep_0 rfl ?_
  refine m_callS (As := [.int _]) dX9_keep_1 kX9_282 ⟨rfl, rfl⟩ rfl ⟨rfl, rfl⟩ rfl rfl rfl (c_noImage0 hj) (fun r1 μ1 ν1 hk1 => ?_)
  obtain ⟨rfl, rfl, rfl⟩ := hk1
  refine z_if_eq 10 dX9_keep_4 (by decide) (fun h4 => ?_) (fun h4 => absurd (by decide) h4)
  refine z_aload_n dX9_keep_10 rfl ?_
  refine m_getr dX9_keep_11 fX9_50 sh0 rfl ?_
  refine z_iload_n dX9_keep_14 rfl ?_
  refine m_aaldN (j := j) (q := (56 + 5 * j)) dX9_keep_15 sh53 rfl rfl (by omega) rfl (zImage_row j (by omega)) ?_
  refine m_getr dX9_keep_16 fX9_285 (zImage_of j (by omega)).1 rfl ?_
  refine z_aload_n dX9_keep_19 rfl ?_
  refine m_getr dX9_keep_20 fX9_26 sh0 rfl ?_
  refine m_callVv (As := [.ref _]) dX9_keep_23 kX9_94 ⟨rfl, rfl⟩ rfl ⟨rfl, rfl⟩ rfl rfl ((zImage_of j (by omega)).2).1 rfl rfl (c_planCp (zImage_of j (by omega)).2 zPlan22) (fun μ23 ν23 hk23 => ?_)
  obtain ⟨rfl, rfl⟩ := hk23
  refine z_aload_n dX9_keep_26 rfl ?_
  refine m_getr dX9_keep_27 fX9_50 sh0 rfl ?_
  refine z_iload_n dX9_keep_30 rfl ?_
  refine m_aaldN (j := j) (q := (56 + 5 * j)) dX9_keep_31 sh53 rfl rfl (by omega) rfl (zImage_row j (by omega)) ?_
  refine z_aload_n dX9_keep_32 rfl ?_
  refine m_getl dX9_keep_33 fX9_65 sh0 rfl ?_
  refine m_putl dX9_keep_36 fX9_286 (fun q h => by cases h; rfl) rfl (zImage_of j (by omega)).1 rfl zlIa zlIb ?_
  refine z_aload_n dX9_keep_39 rfl ?_
  refine m_getr dX9_keep_40 fX9_50 sh0 rfl ?_
  refine z_iload_n dX9_keep_43 rfl ?_
  refine m_aaldN (j := j) (q := (56 + 5 * j)) dX9_keep_44 sh53 rfl rfl (by omega) rfl (zImage_row j (by omega)) ?_
  refine z_iconst (v := 1) dX9_keep_45 rfl ?_
  refine m_puti dX9_keep_46 fX9_97 (fun q h => by cases h; rfl) rfl rfl (zImage_of j (by omega)).1 rfl ?_
  refine z_iconst (v := 1) dX9_keep_49 rfl ?_
  refine m_iret dX9_keep_50 rfl rfl ?_
  exact ⟨rfl, rfl, rfl⟩
set_option maxRecDepth 100000 in
set_option maxHeartbeats 400000 in
theorem c_goBack_n {l : Launch} {G : zG} {μ : Mem} {ν : Lng} {j : Nat} (hj : j ≤ 1) (hk : μ (56 + 5 * j) 2 = 0)  : Cm l G mX9_goBack [.ref 0, .int (nI j)] μ ν (fun a9 b9 c9 => (-1000000003) = a9 ∧ μ = b9 ∧ ν = c9) := by
  refine Con.of (by decide) (Nat.le_of_ble_eq_true rfl) ?_
  show Am l G mX9_goBack 0 [(0, .ref 0), (1, .int (nI j))] [] μ ν _
  refine z_iload_n dX9_goBack_0 rfl ?_
  refine m_callS (As := [.int _]) dX9_goBack_1 kX9_282 ⟨rfl, rfl⟩ rfl ⟨rfl, rfl⟩ rfl rfl rfl (c_noImage0 hj) (fun r1 μ1 ν1 hk1 => ?_)
  obtain ⟨rfl, rfl, rfl⟩ := hk1
  refine z_if_eq 10 dX9_goBack_4 (by decide) (fun h4 => ?_) (fun h4 => absurd (by decide) h4)
  refine z_aload_n dX9_goBack_10 rfl ?_
  refine m_getr dX9_goBack_11 fX9_50 sh0 rfl ?_
  refine z_iload_n dX9_goBack_14 rfl ?_
  refine m_aaldN (j := j) (q := (56 + 5 * j)) dX9_goBack_15 sh53 rfl rfl (by omega) rfl (zImage_row j (by omega)) ?_
  refine m_geti dX9_goBack_16 fX9_97 (zImage_of j (by omega)).1 rfl ?_
  refine z_if_ne 25 dX9_goBack_19 (by decide) (fun h19 => absurd hk h19) (fun h19 => ?_)
  refine z_ldc dX9_goBack_22 cX9_182 ?_
  refine m_iret dX9_goBack_24 rfl rfl ?_
  exact ⟨rfl, rfl, rfl⟩
set_option maxRecDepth 100000 in
set_option maxHeartbeats 400000 in
theorem c_goBack {l : Launch} {G : zG} {μ : Mem} {ν : Lng} {j : Nat} (hj : j ≤ 1) (hk : ¬ μ (56 + 5 * j) 2 = 0)  : Cm l G mX9_goBack [.ref 0, .int (nI j)] μ ν (fun a9 b9 c9 => 1 = a9 ∧ fPlanCp μ 22 (56 + 5 * j + 1) = b9 ∧ va_up ν 0 (ν (56 + 5 * j)) = c9) := by
  refine Con.of (by decide) (Nat.le_of_ble_eq_true rfl) ?_
  show Am l G mX9_goBack 0 [(0, .ref 0), (1, .int (nI j))] [] μ ν _
  refine z_iload_n dX9_goBack_0 rfl ?_
  refine m_callS (As := [.int _]) dX9_goBack_1 kX9_282 ⟨rfl, rfl⟩ rfl ⟨rfl, rfl⟩ rfl rfl rfl (c_noImage0 hj) (fun r1 μ1 ν1 hk1 => ?_)
  obtain ⟨rfl, rfl, rfl⟩ := hk1
  refine z_if_eq 10 dX9_goBack_4 (by decide) (fun h4 => ?_) (fun h4 => absurd (by decide) h4)
  refine z_aload_n dX9_goBack_10 rfl ?_
  refine m_getr dX9_goBack_11 fX9_50 sh0 rfl ?_
  refine z_iload_n dX9_goBack_14 rfl ?_
  refine m_aaldN (j := j) (q := (56 + 5 * j)) dX9_goBack_15 sh53 rfl rfl (by omega) rfl (zImage_row j (by omega)) ?_
  refine m_geti dX9_goBack_16 fX9_97 (zImage_of j (by omega)).1 rfl ?_
  refine z_if_ne 25 dX9_goBack_19 (by decide) (fun h19 => ?_) (fun h19 => absurd h19 hk)
  refine z_aload_n dX9_goBack_25 rfl ?_
  refine m_getr dX9_goBack_26 fX9_26 sh0 rfl ?_
  refine z_aload_n dX9_goBack_29 rfl ?_
  refine m_getr dX9_goBack_30 fX9_50 sh0 rfl ?_
  refine z_iload_n dX9_goBack_33 rfl ?_
  refine m_aaldN (j := j) (q := (56 + 5 * j)) dX9_goBack_34 sh53 rfl rfl (by omega) rfl (zImage_row j (by omega)) ?_
  refine m_getr dX9_goBack_35 fX9_285 (zImage_of j (by omega)).1 rfl ?_
  refine m_callVv (As := [.ref _]) dX9_goBack_38 kX9_94 ⟨rfl, rfl⟩ rfl ⟨rfl, rfl⟩ rfl rfl sh22 rfl rfl (c_planCp zPlan22 (zImage_of j (by omega)).2) (fun μ38 ν38 hk38 => ?_)
  obtain ⟨rfl, rfl⟩ := hk38
  refine z_aload_n dX9_goBack_41 rfl ?_
  refine z_aload_n dX9_goBack_42 rfl ?_
  refine m_getr dX9_goBack_43 fX9_50 sh0 rfl ?_
  refine z_iload_n dX9_goBack_46 rfl ?_
  refine m_aaldN (j := j) (q := (56 + 5 * j)) dX9_goBack_47 sh53 rfl rfl (by omega) rfl (zImage_row j (by omega)) ?_
  refine m_getl dX9_goBack_48 fX9_286 (zImage_of j (by omega)).1 rfl ?_
  refine m_putl dX9_goBack_51 fX9_65 (fun q h => by cases h; rfl) rfl sh0 rfl zl0a zl0b ?_
  refine z_iconst (v := 1) dX9_goBack_54 rfl ?_
  refine m_iret dX9_goBack_55 rfl rfl ?_
  exact ⟨rfl, rfl, rfl⟩
set_option maxRecDepth 100000 in
set_option maxHeartbeats 400000 in
theorem c_toldE5 {l : Launch} {G : zG} {μ : Mem} {ν : Lng} {n : Nat} (hn : μ 15 6 = nI n) (h6 : n ≤ 6) (hsd : zSides μ n)  : Cm l G mX9_toldOfEvening [.ref 0, .int 5] μ ν (fun a9 b9 c9 => fSec (gRun μ 22 n) n = a9 ∧ gRun μ 22 n = b9 ∧ ν = c9) := by
  have hn1 : gRun μ 22 n 15 6 = nI n := by rw [gRun_ne h6 hsd (by omega)]; exact hn
  refine Con.of (by decide) (Nat.le_of_ble_eq_true rfl) ?_
  show Am l G mX9_toldOfEvening 0 [(0, .ref 0), (1, .int 5)] [] μ ν _
  refine z_aload_n dX9_toldOfEvening_0 rfl ?_
  refine m_getr dX9_toldOfEvening_1 fX9_35 sh0 rfl ?_
  refine z_aload_n dX9_toldOfEvening_4 rfl ?_
  refine m_getr dX9_toldOfEvening_5 fX9_26 sh0 rfl ?_
  refine m_callVv (As := [.ref _]) dX9_toldOfEvening_8 kX9_113 ⟨rfl, rfl⟩ rfl ⟨rfl, rfl⟩ rfl rfl sh26 rfl rfl (c_run zPlan22 (by omega) hn h6 hsd) (fun μ8 ν8 hk8 => ?_)
  obtain ⟨rfl, rfl⟩ := hk8
  refine z_iload_n dX9_toldOfEvening_11 rfl ?_
  refine z_tableIn 48 dX9_toldOfEvening_12 (by decide) (by decide) rfl (by decide) ?_
  refine z_aload_n dX9_toldOfEvening_48 rfl ?_
  refine m_getr dX9_toldOfEvening_49 fX9_35 sh0 rfl ?_
  refine m_callV (As := []) dX9_toldOfEvening_52 kX9_116 ⟨rfl, rfl⟩ rfl ⟨rfl, rfl⟩ rfl rfl sh26 rfl rfl (c_seconds hn1 h6) (fun r52 μ52 ν52 hk52 => ?_)
  obtain ⟨rfl, rfl, rfl⟩ := hk52
  refine m_iret dX9_toldOfEvening_55 rfl rfl ?_
  exact ⟨rfl, rfl, rfl⟩
set_option maxRecDepth 100000 in
set_option maxHeartbeats 400000 in
theorem c_told_5 {l : Launch} {G : zG} {μ : Mem} {ν : Lng} {n : Nat} (hn : μ 15 6 = nI n) (h6 : n ≤ 6) (hsd : zSides μ n)  : Cm l G mX9_told [.ref 0, .int 5] μ ν (fun a9 b9 c9 => fSec (gRun μ 22 n) n = a9 ∧ gRun μ 22 n = b9 ∧ ν = c9) := by
  refine Con.of (by decide) (Nat.le_of_ble_eq_true rfl) ?_
  show Am l G mX9_told 0 [(0, .ref 0), (1, .int 5)] [] μ ν _
  refine z_iload_n dX9_told_0 rfl ?_
  refine z_if_lt 10 dX9_told_1 (by decide) (fun h1 => absurd h1 (by decide)) (fun h1 => ?_)
  refine z_iload_n dX9_told_4 rfl ?_
  refine z_bipush (v := 10) dX9_told_5 rfl ?_
  refine z_icmp_le 13 dX9_told_7 (by decide) (fun h7 => ?_) (fun h7 => absurd (by decide) h7)
  refine z_iload_n dX9_told_13 rfl ?_
  refine z_tableOut 85 dX9_told_14 (by decide) (by decide) ?_
  refine z_aload_n dX9_told_85 rfl ?_
  refine z_iload_n dX9_told_86 rfl ?_
  refine m_callV (As := [.int _]) dX9_told_87 kX9_110 ⟨rfl, rfl⟩ rfl ⟨rfl, rfl⟩ rfl rfl sh0 rfl rfl (c_toldE5 hn h6 hsd) (fun r87 μ87 ν87 hk87 => ?_)
  obtain ⟨rfl, rfl, rfl⟩ := hk87
  refine m_iret dX9_told_90 rfl rfl ?_
  exact ⟨rfl, rfl, rfl⟩
set_option maxRecDepth 100000 in
set_option maxHeartbeats 400000 in
theorem c_toldE6 {l : Launch} {G : zG} {μ : Mem} {ν : Lng} {n : Nat} (hn : μ 15 6 = nI n) (h6 : n ≤ 6) (hsd : zSides μ n)  : Cm l G mX9_toldOfEvening [.ref 0, .int 6] μ ν (fun a9 b9 c9 => fLoss (gRun μ 22 n) n = a9 ∧ gRun μ 22 n = b9 ∧ ν = c9) := by
  have hn1 : gRun μ 22 n 15 6 = nI n := by rw [gRun_ne h6 hsd (by omega)]; exact hn
  refine Con.of (by decide) (Nat.le_of_ble_eq_true rfl) ?_
  show Am l G mX9_toldOfEvening 0 [(0, .ref 0), (1, .int 6)] [] μ ν _
  refine z_aload_n dX9_toldOfEvening_0 rfl ?_
  refine m_getr dX9_toldOfEvening_1 fX9_35 sh0 rfl ?_
  refine z_aload_n dX9_toldOfEvening_4 rfl ?_
  refine m_getr dX9_toldOfEvening_5 fX9_26 sh0 rfl ?_
  refine m_callVv (As := [.ref _]) dX9_toldOfEvening_8 kX9_113 ⟨rfl, rfl⟩ rfl ⟨rfl, rfl⟩ rfl rfl sh26 rfl rfl (c_run zPlan22 (by omega) hn h6 hsd) (fun μ8 ν8 hk8 => ?_)
  obtain ⟨rfl, rfl⟩ := hk8
  refine z_iload_n dX9_toldOfEvening_11 rfl ?_
  refine z_tableIn 56 dX9_toldOfEvening_12 (by decide) (by decide) rfl (by decide) ?_
  refine z_aload_n dX9_toldOfEvening_56 rfl ?_
  refine m_getr dX9_toldOfEvening_57 fX9_35 sh0 rfl ?_
  refine m_callV (As := []) dX9_toldOfEvening_60 kX9_120 ⟨rfl, rfl⟩ rfl ⟨rfl, rfl⟩ rfl rfl sh26 rfl rfl (c_losses hn1 h6) (fun r60 μ60 ν60 hk60 => ?_)
  obtain ⟨rfl, rfl, rfl⟩ := hk60
  refine m_iret dX9_toldOfEvening_63 rfl rfl ?_
  exact ⟨rfl, rfl, rfl⟩
set_option maxRecDepth 100000 in
set_option maxHeartbeats 400000 in
theorem c_told_6 {l : Launch} {G : zG} {μ : Mem} {ν : Lng} {n : Nat} (hn : μ 15 6 = nI n) (h6 : n ≤ 6) (hsd : zSides μ n)  : Cm l G mX9_told [.ref 0, .int 6] μ ν (fun a9 b9 c9 => fLoss (gRun μ 22 n) n = a9 ∧ gRun μ 22 n = b9 ∧ ν = c9) := by
  refine Con.of (by decide) (Nat.le_of_ble_eq_true rfl) ?_
  show Am l G mX9_told 0 [(0, .ref 0), (1, .int 6)] [] μ ν _
  refine z_iload_n dX9_told_0 rfl ?_
  refine z_if_lt 10 dX9_told_1 (by decide) (fun h1 => absurd h1 (by decide)) (fun h1 => ?_)
  refine z_iload_n dX9_told_4 rfl ?_
  refine z_bipush (v := 10) dX9_told_5 rfl ?_
  refine z_icmp_le 13 dX9_told_7 (by decide) (fun h7 => ?_) (fun h7 => absurd (by decide) h7)
  refine z_iload_n dX9_told_13 rfl ?_
  refine z_tableOut 85 dX9_told_14 (by decide) (by decide) ?_
  refine z_aload_n dX9_told_85 rfl ?_
  refine z_iload_n dX9_told_86 rfl ?_
  refine m_callV (As := [.int _]) dX9_told_87 kX9_110 ⟨rfl, rfl⟩ rfl ⟨rfl, rfl⟩ rfl rfl sh0 rfl rfl (c_toldE6 hn h6 hsd) (fun r87 μ87 ν87 hk87 => ?_)
  obtain ⟨rfl, rfl, rfl⟩ := hk87
  refine m_iret dX9_told_90 rfl rfl ?_
  exact ⟨rfl, rfl, rfl⟩
set_option maxRecDepth 100000 in
set_option maxHeartbeats 400000 in
theorem c_toldE7 {l : Launch} {G : zG} {μ : Mem} {ν : Lng} {n : Nat} (hn : μ 15 6 = nI n) (h6 : n ≤ 6) (hsd : zSides μ n)  : Cm l G mX9_toldOfEvening [.ref 0, .int 7] μ ν (fun a9 b9 c9 => fCost (gRun μ 22 n) n = a9 ∧ gRun μ 22 n = b9 ∧ ν = c9) := by
  have hn1 : gRun μ 22 n 15 6 = nI n := by rw [gRun_ne h6 hsd (by omega)]; exact hn
  refine Con.of (by decide) (Nat.le_of_ble_eq_true rfl) ?_
  show Am l G mX9_toldOfEvening 0 [(0, .ref 0), (1, .int 7)] [] μ ν _
  refine z_aload_n dX9_toldOfEvening_0 rfl ?_
  refine m_getr dX9_toldOfEvening_1 fX9_35 sh0 rfl ?_
  refine z_aload_n dX9_toldOfEvening_4 rfl ?_
  refine m_getr dX9_toldOfEvening_5 fX9_26 sh0 rfl ?_
  refine m_callVv (As := [.ref _]) dX9_toldOfEvening_8 kX9_113 ⟨rfl, rfl⟩ rfl ⟨rfl, rfl⟩ rfl rfl sh26 rfl rfl (c_run zPlan22 (by omega) hn h6 hsd) (fun μ8 ν8 hk8 => ?_)
  obtain ⟨rfl, rfl⟩ := hk8
  refine z_iload_n dX9_toldOfEvening_11 rfl ?_
  refine z_tableIn 64 dX9_toldOfEvening_12 (by decide) (by decide) rfl (by decide) ?_
  refine z_aload_n dX9_toldOfEvening_64 rfl ?_
  refine m_getr dX9_toldOfEvening_65 fX9_35 sh0 rfl ?_
  refine m_callV (As := []) dX9_toldOfEvening_68 kX9_123 ⟨rfl, rfl⟩ rfl ⟨rfl, rfl⟩ rfl rfl sh26 rfl rfl (c_cost hn1 h6) (fun r68 μ68 ν68 hk68 => ?_)
  obtain ⟨rfl, rfl, rfl⟩ := hk68
  refine m_iret dX9_toldOfEvening_71 rfl rfl ?_
  exact ⟨rfl, rfl, rfl⟩
set_option maxRecDepth 100000 in
set_option maxHeartbeats 400000 in
theorem c_told_7 {l : Launch} {G : zG} {μ : Mem} {ν : Lng} {n : Nat} (hn : μ 15 6 = nI n) (h6 : n ≤ 6) (hsd : zSides μ n)  : Cm l G mX9_told [.ref 0, .int 7] μ ν (fun a9 b9 c9 => fCost (gRun μ 22 n) n = a9 ∧ gRun μ 22 n = b9 ∧ ν = c9) := by
  refine Con.of (by decide) (Nat.le_of_ble_eq_true rfl) ?_
  show Am l G mX9_told 0 [(0, .ref 0), (1, .int 7)] [] μ ν _
  refine z_iload_n dX9_told_0 rfl ?_
  refine z_if_lt 10 dX9_told_1 (by decide) (fun h1 => absurd h1 (by decide)) (fun h1 => ?_)
  refine z_iload_n dX9_told_4 rfl ?_
  refine z_bipush (v := 10) dX9_told_5 rfl ?_
  refine z_icmp_le 13 dX9_told_7 (by decide) (fun h7 => ?_) (fun h7 => absurd (by decide) h7)
  refine z_iload_n dX9_told_13 rfl ?_
  refine z_tableOut 85 dX9_told_14 (by decide) (by decide) ?_
  refine z_aload_n dX9_told_85 rfl ?_
  refine z_iload_n dX9_told_86 rfl ?_
  refine m_callV (As := [.int _]) dX9_told_87 kX9_110 ⟨rfl, rfl⟩ rfl ⟨rfl, rfl⟩ rfl rfl sh0 rfl rfl (c_toldE7 hn h6 hsd) (fun r87 μ87 ν87 hk87 => ?_)
  obtain ⟨rfl, rfl, rfl⟩ := hk87
  refine m_iret dX9_told_90 rfl rfl ?_
  exact ⟨rfl, rfl, rfl⟩
set_option maxRecDepth 100000 in
set_option maxHeartbeats 400000 in
theorem c_toldE8 {l : Launch} {G : zG} {μ : Mem} {ν : Lng} {n : Nat} (hn : μ 15 6 = nI n) (h6 : n ≤ 6) (hsd : zSides μ n)  : Cm l G mX9_toldOfEvening [.ref 0, .int 8] μ ν (fun a9 b9 c9 => fHow (gRun μ 22 n) 6 n = a9 ∧ gRun μ 22 n = b9 ∧ ν = c9) := by
  have hn1 : gRun μ 22 n 15 6 = nI n := by rw [gRun_ne h6 hsd (by omega)]; exact hn
  refine Con.of (by decide) (Nat.le_of_ble_eq_true rfl) ?_
  show Am l G mX9_toldOfEvening 0 [(0, .ref 0), (1, .int 8)] [] μ ν _
  refine z_aload_n dX9_toldOfEvening_0 rfl ?_
  refine m_getr dX9_toldOfEvening_1 fX9_35 sh0 rfl ?_
  refine z_aload_n dX9_toldOfEvening_4 rfl ?_
  refine m_getr dX9_toldOfEvening_5 fX9_26 sh0 rfl ?_
  refine m_callVv (As := [.ref _]) dX9_toldOfEvening_8 kX9_113 ⟨rfl, rfl⟩ rfl ⟨rfl, rfl⟩ rfl rfl sh26 rfl rfl (c_run zPlan22 (by omega) hn h6 hsd) (fun μ8 ν8 hk8 => ?_)
  obtain ⟨rfl, rfl⟩ := hk8
  refine z_iload_n dX9_toldOfEvening_11 rfl ?_
  refine z_tableIn 72 dX9_toldOfEvening_12 (by decide) (by decide) rfl (by decide) ?_
  refine z_aload_n dX9_toldOfEvening_72 rfl ?_
  refine m_getr dX9_toldOfEvening_73 fX9_35 sh0 rfl ?_
  refine z_bipush (v := 6) dX9_toldOfEvening_76 rfl ?_
  refine m_callV (As := [.int _]) dX9_toldOfEvening_78 kX9_126 ⟨rfl, rfl⟩ rfl ⟨rfl, rfl⟩ rfl rfl sh26 rfl rfl (c_howMany hn1 h6) (fun r78 μ78 ν78 hk78 => ?_)
  obtain ⟨rfl, rfl, rfl⟩ := hk78
  refine m_iret dX9_toldOfEvening_81 rfl rfl ?_
  exact ⟨rfl, rfl, rfl⟩
set_option maxRecDepth 100000 in
set_option maxHeartbeats 400000 in
theorem c_told_8 {l : Launch} {G : zG} {μ : Mem} {ν : Lng} {n : Nat} (hn : μ 15 6 = nI n) (h6 : n ≤ 6) (hsd : zSides μ n)  : Cm l G mX9_told [.ref 0, .int 8] μ ν (fun a9 b9 c9 => fHow (gRun μ 22 n) 6 n = a9 ∧ gRun μ 22 n = b9 ∧ ν = c9) := by
  refine Con.of (by decide) (Nat.le_of_ble_eq_true rfl) ?_
  show Am l G mX9_told 0 [(0, .ref 0), (1, .int 8)] [] μ ν _
  refine z_iload_n dX9_told_0 rfl ?_
  refine z_if_lt 10 dX9_told_1 (by decide) (fun h1 => absurd h1 (by decide)) (fun h1 => ?_)
  refine z_iload_n dX9_told_4 rfl ?_
  refine z_bipush (v := 10) dX9_told_5 rfl ?_
  refine z_icmp_le 13 dX9_told_7 (by decide) (fun h7 => ?_) (fun h7 => absurd (by decide) h7)
  refine z_iload_n dX9_told_13 rfl ?_
  refine z_tableOut 85 dX9_told_14 (by decide) (by decide) ?_
  refine z_aload_n dX9_told_85 rfl ?_
  refine z_iload_n dX9_told_86 rfl ?_
  refine m_callV (As := [.int _]) dX9_told_87 kX9_110 ⟨rfl, rfl⟩ rfl ⟨rfl, rfl⟩ rfl rfl sh0 rfl rfl (c_toldE8 hn h6 hsd) (fun r87 μ87 ν87 hk87 => ?_)
  obtain ⟨rfl, rfl, rfl⟩ := hk87
  refine m_iret dX9_told_90 rfl rfl ?_
  exact ⟨rfl, rfl, rfl⟩
set_option maxRecDepth 100000 in
set_option maxHeartbeats 400000 in
theorem c_toldE9 {l : Launch} {G : zG} {μ : Mem} {ν : Lng} {n : Nat} (hn : μ 15 6 = nI n) (h6 : n ≤ 6) (hsd : zSides μ n)  : Cm l G mX9_toldOfEvening [.ref 0, .int 9] μ ν (fun a9 b9 c9 => fHow (gRun μ 22 n) 5 n = a9 ∧ gRun μ 22 n = b9 ∧ ν = c9) := by
  have hn1 : gRun μ 22 n 15 6 = nI n := by rw [gRun_ne h6 hsd (by omega)]; exact hn
  refine Con.of (by decide) (Nat.le_of_ble_eq_true rfl) ?_
  show Am l G mX9_toldOfEvening 0 [(0, .ref 0), (1, .int 9)] [] μ ν _
  refine z_aload_n dX9_toldOfEvening_0 rfl ?_
  refine m_getr dX9_toldOfEvening_1 fX9_35 sh0 rfl ?_
  refine z_aload_n dX9_toldOfEvening_4 rfl ?_
  refine m_getr dX9_toldOfEvening_5 fX9_26 sh0 rfl ?_
  refine m_callVv (As := [.ref _]) dX9_toldOfEvening_8 kX9_113 ⟨rfl, rfl⟩ rfl ⟨rfl, rfl⟩ rfl rfl sh26 rfl rfl (c_run zPlan22 (by omega) hn h6 hsd) (fun μ8 ν8 hk8 => ?_)
  obtain ⟨rfl, rfl⟩ := hk8
  refine z_iload_n dX9_toldOfEvening_11 rfl ?_
  refine z_tableIn 82 dX9_toldOfEvening_12 (by decide) (by decide) rfl (by decide) ?_
  refine z_aload_n dX9_toldOfEvening_82 rfl ?_
  refine m_getr dX9_toldOfEvening_83 fX9_35 sh0 rfl ?_
  refine z_iconst (v := 5) dX9_toldOfEvening_86 rfl ?_
  refine m_callV (As := [.int _]) dX9_toldOfEvening_87 kX9_126 ⟨rfl, rfl⟩ rfl ⟨rfl, rfl⟩ rfl rfl sh26 rfl rfl (c_howMany hn1 h6) (fun r87 μ87 ν87 hk87 => ?_)
  obtain ⟨rfl, rfl, rfl⟩ := hk87
  refine m_iret dX9_toldOfEvening_90 rfl rfl ?_
  exact ⟨rfl, rfl, rfl⟩
set_option maxRecDepth 100000 in
set_option maxHeartbeats 400000 in
theorem c_told_9 {l : Launch} {G : zG} {μ : Mem} {ν : Lng} {n : Nat} (hn : μ 15 6 = nI n) (h6 : n ≤ 6) (hsd : zSides μ n)  : Cm l G mX9_told [.ref 0, .int 9] μ ν (fun a9 b9 c9 => fHow (gRun μ 22 n) 5 n = a9 ∧ gRun μ 22 n = b9 ∧ ν = c9) := by
  refine Con.of (by decide) (Nat.le_of_ble_eq_true rfl) ?_
  show Am l G mX9_told 0 [(0, .ref 0), (1, .int 9)] [] μ ν _
  refine z_iload_n dX9_told_0 rfl ?_
  refine z_if_lt 10 dX9_told_1 (by decide) (fun h1 => absurd h1 (by decide)) (fun h1 => ?_)
  refine z_iload_n dX9_told_4 rfl ?_
  refine z_bipush (v := 10) dX9_told_5 rfl ?_
  refine z_icmp_le 13 dX9_told_7 (by decide) (fun h7 => ?_) (fun h7 => absurd (by decide) h7)
  refine z_iload_n dX9_told_13 rfl ?_
  refine z_tableOut 85 dX9_told_14 (by decide) (by decide) ?_
  refine z_aload_n dX9_told_85 rfl ?_
  refine z_iload_n dX9_told_86 rfl ?_
  refine m_callV (As := [.int _]) dX9_told_87 kX9_110 ⟨rfl, rfl⟩ rfl ⟨rfl, rfl⟩ rfl rfl sh0 rfl rfl (c_toldE9 hn h6 hsd) (fun r87 μ87 ν87 hk87 => ?_)
  obtain ⟨rfl, rfl, rfl⟩ := hk87
  refine m_iret dX9_told_90 rfl rfl ?_
  exact ⟨rfl, rfl, rfl⟩
set_option maxRecDepth 100000 in
set_option maxHeartbeats 400000 in
theorem c_toldE10 {l : Launch} {G : zG} {μ : Mem} {ν : Lng} {n : Nat} (hn : μ 15 6 = nI n) (h6 : n ≤ 6) (hsd : zSides μ n)  : Cm l G mX9_toldOfEvening [.ref 0, .int 10] μ ν (fun a9 b9 c9 => fLast (gRun μ 22 n) n = a9 ∧ gRun μ 22 n = b9 ∧ ν = c9) := by
  have hn1 : gRun μ 22 n 15 6 = nI n := by rw [gRun_ne h6 hsd (by omega)]; exact hn
  refine Con.of (by decide) (Nat.le_of_ble_eq_true rfl) ?_
  show Am l G mX9_toldOfEvening 0 [(0, .ref 0), (1, .int 10)] [] μ ν _
  refine z_aload_n dX9_toldOfEvening_0 rfl ?_
  refine m_getr dX9_toldOfEvening_1 fX9_35 sh0 rfl ?_
  refine z_aload_n dX9_toldOfEvening_4 rfl ?_
  refine m_getr dX9_toldOfEvening_5 fX9_26 sh0 rfl ?_
  refine m_callVv (As := [.ref _]) dX9_toldOfEvening_8 kX9_113 ⟨rfl, rfl⟩ rfl ⟨rfl, rfl⟩ rfl rfl sh26 rfl rfl (c_run zPlan22 (by omega) hn h6 hsd) (fun μ8 ν8 hk8 => ?_)
  obtain ⟨rfl, rfl⟩ := hk8
  refine z_iload_n dX9_toldOfEvening_11 rfl ?_
  refine z_tableOut 91 dX9_toldOfEvening_12 (by decide) (by decide) ?_
  refine z_aload_n dX9_toldOfEvening_91 rfl ?_
  refine m_getr dX9_toldOfEvening_92 fX9_35 sh0 rfl ?_
  refine m_callV (As := []) dX9_toldOfEvening_95 kX9_129 ⟨rfl, rfl⟩ rfl ⟨rfl, rfl⟩ rfl rfl sh26 rfl rfl (c_end hn1 h6) (fun r95 μ95 ν95 hk95 => ?_)
  obtain ⟨rfl, rfl, rfl⟩ := hk95
  refine m_iret dX9_toldOfEvening_98 rfl rfl ?_
  exact ⟨rfl, rfl, rfl⟩
set_option maxRecDepth 100000 in
set_option maxHeartbeats 400000 in
theorem c_told_10 {l : Launch} {G : zG} {μ : Mem} {ν : Lng} {n : Nat} (hn : μ 15 6 = nI n) (h6 : n ≤ 6) (hsd : zSides μ n)  : Cm l G mX9_told [.ref 0, .int 10] μ ν (fun a9 b9 c9 => fLast (gRun μ 22 n) n = a9 ∧ gRun μ 22 n = b9 ∧ ν = c9) := by
  refine Con.of (by decide) (Nat.le_of_ble_eq_true rfl) ?_
  show Am l G mX9_told 0 [(0, .ref 0), (1, .int 10)] [] μ ν _
  refine z_iload_n dX9_told_0 rfl ?_
  refine z_if_lt 10 dX9_told_1 (by decide) (fun h1 => absurd h1 (by decide)) (fun h1 => ?_)
  refine z_iload_n dX9_told_4 rfl ?_
  refine z_bipush (v := 10) dX9_told_5 rfl ?_
  refine z_icmp_le 13 dX9_told_7 (by decide) (fun h7 => ?_) (fun h7 => absurd (by decide) h7)
  refine z_iload_n dX9_told_13 rfl ?_
  refine z_tableOut 85 dX9_told_14 (by decide) (by decide) ?_
  refine z_aload_n dX9_told_85 rfl ?_
  refine z_iload_n dX9_told_86 rfl ?_
  refine m_callV (As := [.int _]) dX9_told_87 kX9_110 ⟨rfl, rfl⟩ rfl ⟨rfl, rfl⟩ rfl rfl sh0 rfl rfl (c_toldE10 hn h6 hsd) (fun r87 μ87 ν87 hk87 => ?_)
  obtain ⟨rfl, rfl, rfl⟩ := hk87
  refine m_iret dX9_told_90 rfl rfl ?_
  exact ⟨rfl, rfl, rfl⟩
set_option maxRecDepth 100000 in
set_option maxHeartbeats 400000 in
theorem c_told_0 {l : Launch} {G : zG} {μ : Mem} {ν : Lng}  : Cm l G mX9_told [.ref 0, .int 0] μ ν (fun a9 b9 c9 => μ 15 6 = a9 ∧ μ = b9 ∧ ν = c9) := by
  refine Con.of (by decide) (Nat.le_of_ble_eq_true rfl) ?_
  show Am l G mX9_told 0 [(0, .ref 0), (1, .int 0)] [] μ ν _
  refine z_iload_n dX9_told_0 rfl ?_
  refine z_if_lt 10 dX9_told_1 (by decide) (fun h1 => absurd h1 (by decide)) (fun h1 => ?_)
  refine z_iload_n dX9_told_4 rfl ?_
  refine z_bipush (v := 10) dX9_told_5 rfl ?_
  refine z_icmp_le 13 dX9_told_7 (by decide) (fun h7 => ?_) (fun h7 => absurd (by decide) h7)
  refine z_iload_n dX9_told_13 rfl ?_
  refine z_tableIn 48 dX9_told_14 (by decide) (by decide) rfl (by decide) ?_
  refine z_aload_n dX9_told_48 rfl ?_
  refine m_getr dX9_told_49 fX9_19 sh0 rfl ?_
  refine m_geti dX9_told_52 fX9_101 sh15 rfl ?_
  refine m_iret dX9_told_55 rfl rfl ?_
  exact ⟨rfl, rfl, rfl⟩
set_option maxRecDepth 100000 in
set_option maxHeartbeats 400000 in
theorem c_told_1 {l : Launch} {G : zG} {μ : Mem} {ν : Lng}  : Cm l G mX9_told [.ref 0, .int 1] μ ν (fun a9 b9 c9 => μ 1 4 = a9 ∧ μ = b9 ∧ ν = c9) := by
  refine Con.of (by decide) (Nat.le_of_ble_eq_true rfl) ?_
  show Am l G mX9_told 0 [(0, .ref 0), (1, .int 1)] [] μ ν _
  refine z_iload_n dX9_told_0 rfl ?_
  refine z_if_lt 10 dX9_told_1 (by decide) (fun h1 => absurd h1 (by decide)) (fun h1 => ?_)
  refine z_iload_n dX9_told_4 rfl ?_
  refine z_bipush (v := 10) dX9_told_5 rfl ?_
  refine z_icmp_le 13 dX9_told_7 (by decide) (fun h7 => ?_) (fun h7 => absurd (by decide) h7)
  refine z_iload_n dX9_told_13 rfl ?_
  refine z_tableIn 56 dX9_told_14 (by decide) (by decide) rfl (by decide) ?_
  refine z_aload_n dX9_told_56 rfl ?_
  refine m_getr dX9_told_57 fX9_10 sh0 rfl ?_
  refine m_geti dX9_told_60 fX9_74 sh1 rfl ?_
  refine m_iret dX9_told_63 rfl rfl ?_
  exact ⟨rfl, rfl, rfl⟩
set_option maxRecDepth 100000 in
set_option maxHeartbeats 400000 in
theorem c_told_2 {l : Launch} {G : zG} {μ : Mem} {ν : Lng}  : Cm l G mX9_told [.ref 0, .int 2] μ ν (fun a9 b9 c9 => μ 22 3 = a9 ∧ μ = b9 ∧ ν = c9) := by
  refine Con.of (by decide) (Nat.le_of_ble_eq_true rfl) ?_
  show Am l G mX9_told 0 [(0, .ref 0), (1, .int 2)] [] μ ν _
  refine z_iload_n dX9_told_0 rfl ?_
  refine z_if_lt 10 dX9_told_1 (by decide) (fun h1 => absurd h1 (by decide)) (fun h1 => ?_)
  refine z_iload_n dX9_told_4 rfl ?_
  refine z_bipush (v := 10) dX9_told_5 rfl ?_
  refine z_icmp_le 13 dX9_told_7 (by decide) (fun h7 => ?_) (fun h7 => absurd (by decide) h7)
  refine z_iload_n dX9_told_13 rfl ?_
  refine z_tableIn 64 dX9_told_14 (by decide) (by decide) rfl (by decide) ?_
  refine z_aload_n dX9_told_64 rfl ?_
  refine m_getr dX9_told_65 fX9_26 sh0 rfl ?_
  refine m_geti dX9_told_68 fX9_104 sh22 rfl ?_
  refine m_iret dX9_told_71 rfl rfl ?_
  exact ⟨rfl, rfl, rfl⟩
set_option maxRecDepth 100000 in
set_option maxHeartbeats 400000 in
theorem c_told_3 {l : Launch} {G : zG} {μ : Mem} {ν : Lng}  : Cm l G mX9_told [.ref 0, .int 3] μ ν (fun a9 b9 c9 => μ 22 4 = a9 ∧ μ = b9 ∧ ν = c9) := by
  refine Con.of (by decide) (Nat.le_of_ble_eq_true rfl) ?_
  show Am l G mX9_told 0 [(0, .ref 0), (1, .int 3)] [] μ ν _
  refine z_iload_n dX9_told_0 rfl ?_
  refine z_if_lt 10 dX9_told_1 (by decide) (fun h1 => absurd h1 (by decide)) (fun h1 => ?_)
  refine z_iload_n dX9_told_4 rfl ?_
  refine z_bipush (v := 10) dX9_told_5 rfl ?_
  refine z_icmp_le 13 dX9_told_7 (by decide) (fun h7 => ?_) (fun h7 => absurd (by decide) h7)
  refine z_iload_n dX9_told_13 rfl ?_
  refine z_tableIn 72 dX9_told_14 (by decide) (by decide) rfl (by decide) ?_
  refine z_aload_n dX9_told_72 rfl ?_
  refine m_getr dX9_told_73 fX9_26 sh0 rfl ?_
  refine m_geti dX9_told_76 fX9_107 sh22 rfl ?_
  refine m_iret dX9_told_79 rfl rfl ?_
  exact ⟨rfl, rfl, rfl⟩
set_option maxRecDepth 100000 in
set_option maxHeartbeats 400000 in
theorem c_told_4 {l : Launch} {G : zG} {μ : Mem} {ν : Lng}  : Cm l G mX9_told [.ref 0, .int 4] μ ν (fun a9 b9 c9 => μ 0 8 = a9 ∧ μ = b9 ∧ ν = c9) := by
  refine Con.of (by decide) (Nat.le_of_ble_eq_true rfl) ?_
  show Am l G mX9_told 0 [(0, .ref 0), (1, .int 4)] [] μ ν _
  refine z_iload_n dX9_told_0 rfl ?_
  refine z_if_lt 10 dX9_told_1 (by decide) (fun h1 => absurd h1 (by decide)) (fun h1 => ?_)
  refine z_iload_n dX9_told_4 rfl ?_
  refine z_bipush (v := 10) dX9_told_5 rfl ?_
  refine z_icmp_le 13 dX9_told_7 (by decide) (fun h7 => ?_) (fun h7 => absurd (by decide) h7)
  refine z_iload_n dX9_told_13 rfl ?_
  refine z_tableIn 80 dX9_told_14 (by decide) (by decide) rfl (by decide) ?_
  refine z_aload_n dX9_told_80 rfl ?_
  refine m_geti dX9_told_81 fX9_61 sh0 rfl ?_
  refine m_iret dX9_told_84 rfl rfl ?_
  exact ⟨rfl, rfl, rfl⟩
set_option maxRecDepth 100000 in
set_option maxHeartbeats 400000 in
theorem c_told_o {l : Launch} {G : zG} {μ : Mem} {ν : Lng} {v : Int32} (hv : v < 0 ∨ 10 < v)  : Cm l G mX9_told [.ref 0, .int v] μ ν (fun a9 b9 c9 => (-1000000002) = a9 ∧ μ = b9 ∧ ν = c9) := by
  refine Con.of (by decide) (Nat.le_of_ble_eq_true rfl) ?_
  show Am l G mX9_told 0 [(0, .ref 0), (1, .int v)] [] μ ν _
  refine z_iload_n dX9_told_0 rfl ?_
  refine z_if_lt 10 dX9_told_1 (by decide) (fun h1 => ?_) (fun h1 => ?_)
  · skip
    refine z_ldc dX9_told_10 cX9_73 ?_
    refine m_iret dX9_told_12 rfl rfl ?_
    exact ⟨rfl, rfl, rfl⟩
  · skip
    refine z_iload_n dX9_told_4 rfl ?_
    refine z_bipush (v := 10) dX9_told_5 rfl ?_
    refine z_icmp_le 13 dX9_told_7 (by decide) (fun h7 => (zbad hv h1 h7).elim) (fun h7 => ?_)
    refine z_ldc dX9_told_10 cX9_73 ?_
    refine m_iret dX9_told_12 rfl rfl ?_
    exact ⟨rfl, rfl, rfl⟩
set_option maxRecDepth 100000 in
set_option maxHeartbeats 400000 in
theorem c_leaf_w {l : Launch} {G : zG} {μ : Mem} {ν : Lng} {w : Int32} (hw : w < 0 ∨ 1 < w) {v : Int32}  : Cm l G mX9_leaf [.ref 0, .int w, .int v] μ ν (fun a9 b9 c9 => (-1000000001) = a9 ∧ μ = b9 ∧ ν = c9) := by
  refine Con.of (by decide) (Nat.le_of_ble_eq_true rfl) ?_
  show Am l G mX9_leaf 0 [(0, .ref 0), (1, .int w), (2, .int v)] [] μ ν _
  refine z_iload_n dX9_leaf_0 rfl ?_
  refine m_callS (As := [.int _]) dX9_leaf_1 kX9_132 ⟨rfl, rfl⟩ rfl ⟨rfl, rfl⟩ rfl rfl rfl (c_noLeaf1 hw) (fun r1 μ1 ν1 hk1 => ?_)
  obtain ⟨rfl, rfl, rfl⟩ := hk1
  refine z_if_eq 10 dX9_leaf_4 (by decide) (fun h4 => absurd h4 (by decide)) (fun h4 => ?_)
  refine z_ldc dX9_leaf_7 cX9_136 ?_
  refine m_iret dX9_leaf_9 rfl rfl ?_
  exact ⟨rfl, rfl, rfl⟩
set_option maxRecDepth 100000 in
set_option maxHeartbeats 400000 in
theorem c_leaf_o {l : Launch} {G : zG} {μ : Mem} {ν : Lng} {j : Nat} (hj : j ≤ 1) {v : Int32} (hv : v < 0 ∨ 3 < v)  : Cm l G mX9_leaf [.ref 0, .int (nI j), .int v] μ ν (fun a9 b9 c9 => (-1000000002) = a9 ∧ μ = b9 ∧ ν = c9) := by
  refine Con.of (by decide) (Nat.le_of_ble_eq_true rfl) ?_
  show Am l G mX9_leaf 0 [(0, .ref 0), (1, .int (nI j)), (2, .int v)] [] μ ν _
  refine z_iload_n dX9_leaf_0 rfl ?_
  refine m_callS (As := [.int _]) dX9_leaf_1 kX9_132 ⟨rfl, rfl⟩ rfl ⟨rfl, rfl⟩ rfl rfl rfl (c_noLeaf0 hj) (fun r1 μ1 ν1 hk1 => ?_)
  obtain ⟨rfl, rfl, rfl⟩ := hk1
  refine z_if_eq 10 dX9_leaf_4 (by decide) (fun h4 => ?_) (fun h4 => absurd (by decide) h4)
  refine z_iload_n dX9_leaf_10 rfl ?_
  refine z_if_lt 19 dX9_leaf_11 (by decide) (fun h11 => ?_) (fun h11 => ?_)
  · skip
    refine z_ldc dX9_leaf_19 cX9_73 ?_
    refine m_iret dX9_leaf_21 rfl rfl ?_
    exact ⟨rfl, rfl, rfl⟩
  · skip
    refine z_iload_n dX9_leaf_14 rfl ?_
    refine z_iconst (v := 3) dX9_leaf_15 rfl ?_
    refine z_icmp_le 22 dX9_leaf_16 (by decide) (fun h16 => (zbad hv h11 h16).elim) (fun h16 => ?_)
    refine z_ldc dX9_leaf_19 cX9_73 ?_
    refine m_iret dX9_leaf_21 rfl rfl ?_
    exact ⟨rfl, rfl, rfl⟩
set_option maxRecDepth 100000 in
set_option maxHeartbeats 400000 in
theorem c_leaf_0 {l : Launch} {G : zG} {μ : Mem} {ν : Lng} {j : Nat} (hj : j ≤ 1)  : Cm l G mX9_leaf [.ref 0, .int (nI j), .int 0] μ ν (fun a9 b9 c9 => μ 16 j = a9 ∧ μ = b9 ∧ ν = c9) := by
  refine Con.of (by decide) (Nat.le_of_ble_eq_true rfl) ?_
  show Am l G mX9_leaf 0 [(0, .ref 0), (1, .int (nI j)), (2, .int 0)] [] μ ν _
  refine z_iload_n dX9_leaf_0 rfl ?_
  refine m_callS (As := [.int _]) dX9_leaf_1 kX9_132 ⟨rfl, rfl⟩ rfl ⟨rfl, rfl⟩ rfl rfl rfl (c_noLeaf0 hj) (fun r1 μ1 ν1 hk1 => ?_)
  obtain ⟨rfl, rfl, rfl⟩ := hk1
  refine z_if_eq 10 dX9_leaf_4 (by decide) (fun h4 => ?_) (fun h4 => absurd (by decide) h4)
  refine z_iload_n dX9_leaf_10 rfl ?_
  refine z_if_lt 19 dX9_leaf_11 (by decide) (fun h11 => absurd h11 (by decide)) (fun h11 => ?_)
  refine z_iload_n dX9_leaf_14 rfl ?_
  refine z_iconst (v := 3) dX9_leaf_15 rfl ?_
  refine z_icmp_le 22 dX9_leaf_16 (by decide) (fun h16 => ?_) (fun h16 => absurd (by decide) h16)
  refine z_iload_n dX9_leaf_22 rfl ?_
  refine z_if_ne 36 dX9_leaf_23 (by decide) (fun h23 => absurd (by decide) h23) (fun h23 => ?_)
  refine z_aload_n dX9_leaf_26 rfl ?_
  refine m_getr dX9_leaf_27 fX9_19 sh0 rfl ?_
  refine m_getr dX9_leaf_30 fX9_137 sh15 rfl ?_
  refine z_iload_n dX9_leaf_33 rfl ?_
  refine m_ialdN (j := j) dX9_leaf_34 sh16 rfl (by omega) rfl ?_
  refine m_iret dX9_leaf_35 rfl rfl ?_
  exact ⟨rfl, rfl, rfl⟩
set_option maxRecDepth 100000 in
set_option maxHeartbeats 400000 in
theorem c_leaf_1 {l : Launch} {G : zG} {μ : Mem} {ν : Lng} {j : Nat} (hj : j ≤ 1)  : Cm l G mX9_leaf [.ref 0, .int (nI j), .int 1] μ ν (fun a9 b9 c9 => μ 17 j = a9 ∧ μ = b9 ∧ ν = c9) := by
  refine Con.of (by decide) (Nat.le_of_ble_eq_true rfl) ?_
  show Am l G mX9_leaf 0 [(0, .ref 0), (1, .int (nI j)), (2, .int 1)] [] μ ν _
  refine z_iload_n dX9_leaf_0 rfl ?_
  refine m_callS (As := [.int _]) dX9_leaf_1 kX9_132 ⟨rfl, rfl⟩ rfl ⟨rfl, rfl⟩ rfl rfl rfl (c_noLeaf0 hj) (fun r1 μ1 ν1 hk1 => ?_)
  obtain ⟨rfl, rfl, rfl⟩ := hk1
  refine z_if_eq 10 dX9_leaf_4 (by decide) (fun h4 => ?_) (fun h4 => absurd (by decide) h4)
  refine z_iload_n dX9_leaf_10 rfl ?_
  refine z_if_lt 19 dX9_leaf_11 (by decide) (fun h11 => absurd h11 (by decide)) (fun h11 => ?_)
  refine z_iload_n dX9_leaf_14 rfl ?_
  refine z_iconst (v := 3) dX9_leaf_15 rfl ?_
  refine z_icmp_le 22 dX9_leaf_16 (by decide) (fun h16 => ?_) (fun h16 => absurd (by decide) h16)
  refine z_iload_n dX9_leaf_22 rfl ?_
  refine z_if_ne 36 dX9_leaf_23 (by decide) (fun h23 => ?_) (fun h23 => absurd h23 (by decide))
  refine z_iload_n dX9_leaf_36 rfl ?_
  refine z_iconst (v := 1) dX9_leaf_37 rfl ?_
  refine z_icmp_ne 51 dX9_leaf_38 (by decide) (fun h38 => absurd (by decide) h38) (fun h38 => ?_)
  refine z_aload_n dX9_leaf_41 rfl ?_
  refine m_getr dX9_leaf_42 fX9_19 sh0 rfl ?_
  refine m_getr dX9_leaf_45 fX9_140 sh15 rfl ?_
  refine z_iload_n dX9_leaf_48 rfl ?_
  refine m_ialdN (j := j) dX9_leaf_49 sh17 rfl (by omega) rfl ?_
  refine m_iret dX9_leaf_50 rfl rfl ?_
  exact ⟨rfl, rfl, rfl⟩
set_option maxRecDepth 100000 in
set_option maxHeartbeats 400000 in
theorem c_leaf_2 {l : Launch} {G : zG} {μ : Mem} {ν : Lng} {n : Nat} (hn : μ 15 6 = nI n) (h6 : n ≤ 6) (hsd : zSides μ n) {j : Nat} (hj : j ≤ 1)  : Cm l G mX9_leaf [.ref 0, .int (nI j), .int 2] μ ν (fun a9 b9 c9 => gRun μ 22 n (30 + 4 * j) 6 = a9 ∧ gRun μ 22 n = b9 ∧ ν = c9) := by
  refine Con.of (by decide) (Nat.le_of_ble_eq_true rfl) ?_
  show Am l G mX9_leaf 0 [(0, .ref 0), (1, .int (nI j)), (2, .int 2)] [] μ ν _
  refine z_iload_n dX9_leaf_0 rfl ?_
  refine m_callS (As := [.int _]) dX9_leaf_1 kX9_132 ⟨rfl, rfl⟩ rfl ⟨rfl, rfl⟩ rfl rfl rfl (c_noLeaf0 hj) (fun r1 μ1 ν1 hk1 => ?_)
  obtain ⟨rfl, rfl, rfl⟩ := hk1
  refine z_if_eq 10 dX9_leaf_4 (by decide) (fun h4 => ?_) (fun h4 => absurd (by decide) h4)
  refine z_iload_n dX9_leaf_10 rfl ?_
  refine z_if_lt 19 dX9_leaf_11 (by decide) (fun h11 => absurd h11 (by decide)) (fun h11 => ?_)
  refine z_iload_n dX9_leaf_14 rfl ?_
  refine z_iconst (v := 3) dX9_leaf_15 rfl ?_
  refine z_icmp_le 22 dX9_leaf_16 (by decide) (fun h16 => ?_) (fun h16 => absurd (by decide) h16)
  refine z_iload_n dX9_leaf_22 rfl ?_
  refine z_if_ne 36 dX9_leaf_23 (by decide) (fun h23 => ?_) (fun h23 => absurd h23 (by decide))
  refine z_iload_n dX9_leaf_36 rfl ?_
  refine z_iconst (v := 1) dX9_leaf_37 rfl ?_
  refine z_icmp_ne 51 dX9_leaf_38 (by decide) (fun h38 => ?_) (fun h38 => absurd h38 (by decide))
  refine z_aload_n dX9_leaf_51 rfl ?_
  refine m_getr dX9_leaf_52 fX9_35 sh0 rfl ?_
  refine z_aload_n dX9_leaf_55 rfl ?_
  refine m_getr dX9_leaf_56 fX9_26 sh0 rfl ?_
  refine m_callVv (As := [.ref _]) dX9_leaf_59 kX9_113 ⟨rfl, rfl⟩ rfl ⟨rfl, rfl⟩ rfl rfl sh26 rfl rfl (c_run zPlan22 (by omega) hn h6 hsd) (fun μ59 ν59 hk59 => ?_)
  obtain ⟨rfl, rfl⟩ := hk59
  refine z_iload_n dX9_leaf_62 rfl ?_
  refine z_iconst (v := 2) dX9_leaf_63 rfl ?_
  refine z_icmp_ne 82 dX9_leaf_64 (by decide) (fun h64 => absurd (by decide) h64) (fun h64 => ?_)
  refine z_aload_n dX9_leaf_67 rfl ?_
  refine m_getr dX9_leaf_68 fX9_35 sh0 rfl ?_
  refine m_getr dX9_leaf_71 fX9_143 sh26 rfl ?_
  refine z_iload_n dX9_leaf_74 rfl ?_
  refine m_aaldN (j := j) (q := (30 + 4 * j)) dX9_leaf_75 sh27 rfl rfl (by omega) rfl (zSwing_row j (by omega)) ?_
  refine m_geti dX9_leaf_76 fX9_147 (zSwing_of j (by omega)).1 rfl ?_
  refine z_goto 94 dX9_leaf_79 (by decide) ?_
  refine m_iret dX9_leaf_94 rfl rfl ?_
  exact ⟨rfl, rfl, rfl⟩
set_option maxRecDepth 100000 in
set_option maxHeartbeats 400000 in
theorem c_leaf_3 {l : Launch} {G : zG} {μ : Mem} {ν : Lng} {n : Nat} (hn : μ 15 6 = nI n) (h6 : n ≤ 6) (hsd : zSides μ n) {j : Nat} (hj : j ≤ 1)  : Cm l G mX9_leaf [.ref 0, .int (nI j), .int 3] μ ν (fun a9 b9 c9 => gRun μ 22 n (30 + 4 * j) 7 = a9 ∧ gRun μ 22 n = b9 ∧ ν = c9) := by
  refine Con.of (by decide) (Nat.le_of_ble_eq_true rfl) ?_
  show Am l G mX9_leaf 0 [(0, .ref 0), (1, .int (nI j)), (2, .int 3)] [] μ ν _
  refine z_iload_n dX9_leaf_0 rfl ?_
  refine m_callS (As := [.int _]) dX9_leaf_1 kX9_132 ⟨rfl, rfl⟩ rfl ⟨rfl, rfl⟩ rfl rfl rfl (c_noLeaf0 hj) (fun r1 μ1 ν1 hk1 => ?_)
  obtain ⟨rfl, rfl, rfl⟩ := hk1
  refine z_if_eq 10 dX9_leaf_4 (by decide) (fun h4 => ?_) (fun h4 => absurd (by decide) h4)
  refine z_iload_n dX9_leaf_10 rfl ?_
  refine z_if_lt 19 dX9_leaf_11 (by decide) (fun h11 => absurd h11 (by decide)) (fun h11 => ?_)
  refine z_iload_n dX9_leaf_14 rfl ?_
  refine z_iconst (v := 3) dX9_leaf_15 rfl ?_
  refine z_icmp_le 22 dX9_leaf_16 (by decide) (fun h16 => ?_) (fun h16 => absurd (by decide) h16)
  refine z_iload_n dX9_leaf_22 rfl ?_
  refine z_if_ne 36 dX9_leaf_23 (by decide) (fun h23 => ?_) (fun h23 => absurd h23 (by decide))
  refine z_iload_n dX9_leaf_36 rfl ?_
  refine z_iconst (v := 1) dX9_leaf_37 rfl ?_
  refine z_icmp_ne 51 dX9_leaf_38 (by decide) (fun h38 => ?_) (fun h38 => absurd h38 (by decide))
  refine z_aload_n dX9_leaf_51 rfl ?_
  refine m_getr dX9_leaf_52 fX9_35 sh0 rfl ?_
  refine z_aload_n dX9_leaf_55 rfl ?_
  refine m_getr dX9_leaf_56 fX9_26 sh0 rfl ?_
  refine m_callVv (As := [.ref _]) dX9_leaf_59 kX9_113 ⟨rfl, rfl⟩ rfl ⟨rfl, rfl⟩ rfl rfl sh26 rfl rfl (c_run zPlan22 (by omega) hn h6 hsd) (fun μ59 ν59 hk59 => ?_)
  obtain ⟨rfl, rfl⟩ := hk59
  refine z_iload_n dX9_leaf_62 rfl ?_
  refine z_iconst (v := 2) dX9_leaf_63 rfl ?_
  refine z_icmp_ne 82 dX9_leaf_64 (by decide) (fun h64 => ?_) (fun h64 => absurd h64 (by decide))
  refine z_aload_n dX9_leaf_82 rfl ?_
  refine m_getr dX9_leaf_83 fX9_35 sh0 rfl ?_
  refine m_getr dX9_leaf_86 fX9_143 sh26 rfl ?_
  refine z_iload_n dX9_leaf_89 rfl ?_
  refine m_aaldN (j := j) (q := (30 + 4 * j)) dX9_leaf_90 sh27 rfl rfl (by omega) rfl (zSwing_row j (by omega)) ?_
  refine m_geti dX9_leaf_91 fX9_152 (zSwing_of j (by omega)).1 rfl ?_
  refine m_iret dX9_leaf_94 rfl rfl ?_
  exact ⟨rfl, rfl, rfl⟩
set_option maxRecDepth 100000 in
set_option maxHeartbeats 400000 in
theorem c_pass_w {l : Launch} {G : zG} {μ : Mem} {ν : Lng} {n : Nat} (hn : μ 15 6 = nI n) (h6 : n ≤ 6) {w : Int32} (hw : w < 0 ∨ nI n ≤ w) {v : Int32}  : Cm l G mX9_pass [.ref 0, .int w, .int v] μ ν (fun a9 b9 c9 => (-1000000001) = a9 ∧ μ = b9 ∧ ν = c9) := by
  refine Con.of (by decide) (Nat.le_of_ble_eq_true rfl) ?_
  show Am l G mX9_pass 0 [(0, .ref 0), (1, .int w), (2, .int v)] [] μ ν _
  refine z_aload_n dX9_pass_0 rfl ?_
  refine z_iload_n dX9_pass_1 rfl ?_
  refine m_callV (As := [.int _]) dX9_pass_2 kX9_155 ⟨rfl, rfl⟩ rfl ⟨rfl, rfl⟩ rfl rfl sh0 rfl rfl (c_noW1 hn h6 hw) (fun r2 μ2 ν2 hk2 => ?_)
  obtain ⟨rfl, rfl, rfl⟩ := hk2
  refine z_if_eq 11 dX9_pass_5 (by decide) (fun h5 => absurd h5 (by decide)) (fun h5 => ?_)
  refine z_ldc dX9_pass_8 cX9_136 ?_
  refine m_iret dX9_pass_10 rfl rfl ?_
  exact ⟨rfl, rfl, rfl⟩
set_option maxRecDepth 100000 in
set_option maxHeartbeats 400000 in
theorem c_pass_o {l : Launch} {G : zG} {μ : Mem} {ν : Lng} {n : Nat} (hn : μ 15 6 = nI n) (h6 : n ≤ 6) {j : Nat} (hj : j < n) {v : Int32} (hv : v < 0 ∨ 5 < v)  : Cm l G mX9_pass [.ref 0, .int (nI j), .int v] μ ν (fun a9 b9 c9 => (-1000000002) = a9 ∧ μ = b9 ∧ ν = c9) := by
  refine Con.of (by decide) (Nat.le_of_ble_eq_true rfl) ?_
  show Am l G mX9_pass 0 [(0, .ref 0), (1, .int (nI j)), (2, .int v)] [] μ ν _
  refine z_aload_n dX9_pass_0 rfl ?_
  refine z_iload_n dX9_pass_1 rfl ?_
  refine m_callV (As := [.int _]) dX9_pass_2 kX9_155 ⟨rfl, rfl⟩ rfl ⟨rfl, rfl⟩ rfl rfl sh0 rfl rfl (c_noW0 hn h6 hj) (fun r2 μ2 ν2 hk2 => ?_)
  obtain ⟨rfl, rfl, rfl⟩ := hk2
  refine z_if_eq 11 dX9_pass_5 (by decide) (fun h5 => ?_) (fun h5 => absurd (by decide) h5)
  refine z_iload_n dX9_pass_11 rfl ?_
  refine z_if_lt 20 dX9_pass_12 (by decide) (fun h12 => ?_) (fun h12 => ?_)
  · skip
    refine z_ldc dX9_pass_20 cX9_73 ?_
    refine m_iret dX9_pass_22 rfl rfl ?_
    exact ⟨rfl, rfl, rfl⟩
  · skip
    refine z_iload_n dX9_pass_15 rfl ?_
    refine z_iconst (v := 5) dX9_pass_16 rfl ?_
    refine z_icmp_le 23 dX9_pass_17 (by decide) (fun h17 => (zbad hv h12 h17).elim) (fun h17 => ?_)
    refine z_ldc dX9_pass_20 cX9_73 ?_
    refine m_iret dX9_pass_22 rfl rfl ?_
    exact ⟨rfl, rfl, rfl⟩
set_option maxRecDepth 100000 in
set_option maxHeartbeats 400000 in
theorem c_pass_0 {l : Launch} {G : zG} {μ : Mem} {ν : Lng} {n : Nat} (hn : μ 15 6 = nI n) (h6 : n ≤ 6) (hsd : zSides μ n) {j : Nat} (hj : j < n)  : Cm l G mX9_pass [.ref 0, .int (nI j), .int 0] μ ν (fun a9 b9 c9 => gRun μ 22 n (38 + j) 0 = a9 ∧ gRun μ 22 n = b9 ∧ ν = c9) := by
  refine Con.of (by decide) (Nat.le_of_ble_eq_true rfl) ?_
  show Am l G mX9_pass 0 [(0, .ref 0), (1, .int (nI j)), (2, .int 0)] [] μ ν _
  refine z_aload_n dX9_pass_0 rfl ?_
  refine z_iload_n dX9_pass_1 rfl ?_
  refine m_callV (As := [.int _]) dX9_pass_2 kX9_155 ⟨rfl, rfl⟩ rfl ⟨rfl, rfl⟩ rfl rfl sh0 rfl rfl (c_noW0 hn h6 hj) (fun r2 μ2 ν2 hk2 => ?_)
  obtain ⟨rfl, rfl, rfl⟩ := hk2
  refine z_if_eq 11 dX9_pass_5 (by decide) (fun h5 => ?_) (fun h5 => absurd (by decide) h5)
  refine z_iload_n dX9_pass_11 rfl ?_
  refine z_if_lt 20 dX9_pass_12 (by decide) (fun h12 => absurd h12 (by decide)) (fun h12 => ?_)
  refine z_iload_n dX9_pass_15 rfl ?_
  refine z_iconst (v := 5) dX9_pass_16 rfl ?_
  refine z_icmp_le 23 dX9_pass_17 (by decide) (fun h17 => ?_) (fun h17 => absurd (by decide) h17)
  refine z_aload_n dX9_pass_23 rfl ?_
  refine m_getr dX9_pass_24 fX9_35 sh0 rfl ?_
  refine z_aload_n dX9_pass_27 rfl ?_
  refine m_getr dX9_pass_28 fX9_26 sh0 rfl ?_
  refine m_callVv (As := [.ref _]) dX9_pass_31 kX9_113 ⟨rfl, rfl⟩ rfl ⟨rfl, rfl⟩ rfl rfl sh26 rfl rfl (c_run zPlan22 (by omega) hn h6 hsd) (fun μ31 ν31 hk31 => ?_)
  obtain ⟨rfl, rfl⟩ := hk31
  refine z_aload_n dX9_pass_34 rfl ?_
  refine m_getr dX9_pass_35 fX9_35 sh0 rfl ?_
  refine m_getr dX9_pass_38 fX9_194 sh26 rfl ?_
  refine z_iload_n dX9_pass_41 rfl ?_
  refine m_aaldN (j := j) (q := (38 + j)) dX9_pass_42 sh28 rfl rfl (by omega) rfl (zPas_row j (by omega)) ?_
  refine z_astore_n (i := 3) (lv' := [(3, .ref (38 + j)), (0, .ref 0), (1, .int (nI j)), (2, .int 0)]) dX9_pass_43 rfl rfl rfl ?_
  refine z_iload_n dX9_pass_44 rfl ?_
  refine z_tableIn 80 dX9_pass_45 (by decide) (by decide) rfl (by decide) ?_
  refine z_aload_n dX9_pass_80 rfl ?_
  refine m_geti dX9_pass_81 fX9_198 (zPas_of j (by omega)) rfl ?_
  refine m_iret dX9_pass_84 rfl rfl ?_
  exact ⟨rfl, rfl, rfl⟩
set_option maxRecDepth 100000 in
set_option maxHeartbeats 400000 in
theorem c_pass_1 {l : Launch} {G : zG} {μ : Mem} {ν : Lng} {n : Nat} (hn : μ 15 6 = nI n) (h6 : n ≤ 6) (hsd : zSides μ n) {j : Nat} (hj : j < n)  : Cm l G mX9_pass [.ref 0, .int (nI j), .int 1] μ ν (fun a9 b9 c9 => gRun μ 22 n (38 + j) 1 = a9 ∧ gRun μ 22 n = b9 ∧ ν = c9) := by
  refine Con.of (by decide) (Nat.le_of_ble_eq_true rfl) ?_
  show Am l G mX9_pass 0 [(0, .ref 0), (1, .int (nI j)), (2, .int 1)] [] μ ν _
  refine z_aload_n dX9_pass_0 rfl ?_
  refine z_iload_n dX9_pass_1 rfl ?_
  refine m_callV (As := [.int _]) dX9_pass_2 kX9_155 ⟨rfl, rfl⟩ rfl ⟨rfl, rfl⟩ rfl rfl sh0 rfl rfl (c_noW0 hn h6 hj) (fun r2 μ2 ν2 hk2 => ?_)
  obtain ⟨rfl, rfl, rfl⟩ := hk2
  refine z_if_eq 11 dX9_pass_5 (by decide) (fun h5 => ?_) (fun h5 => absurd (by decide) h5)
  refine z_iload_n dX9_pass_11 rfl ?_
  refine z_if_lt 20 dX9_pass_12 (by decide) (fun h12 => absurd h12 (by decide)) (fun h12 => ?_)
  refine z_iload_n dX9_pass_15 rfl ?_
  refine z_iconst (v := 5) dX9_pass_16 rfl ?_
  refine z_icmp_le 23 dX9_pass_17 (by decide) (fun h17 => ?_) (fun h17 => absurd (by decide) h17)
  refine z_aload_n dX9_pass_23 rfl ?_
  refine m_getr dX9_pass_24 fX9_35 sh0 rfl ?_
  refine z_aload_n dX9_pass_27 rfl ?_
  refine m_getr dX9_pass_28 fX9_26 sh0 rfl ?_
  refine m_callVv (As := [.ref _]) dX9_pass_31 kX9_113 ⟨rfl, rfl⟩ rfl ⟨rfl, rfl⟩ rfl rfl sh26 rfl rfl (c_run zPlan22 (by omega) hn h6 hsd) (fun μ31 ν31 hk31 => ?_)
  obtain ⟨rfl, rfl⟩ := hk31
  refine z_aload_n dX9_pass_34 rfl ?_
  refine m_getr dX9_pass_35 fX9_35 sh0 rfl ?_
  refine m_getr dX9_pass_38 fX9_194 sh26 rfl ?_
  refine z_iload_n dX9_pass_41 rfl ?_
  refine m_aaldN (j := j) (q := (38 + j)) dX9_pass_42 sh28 rfl rfl (by omega) rfl (zPas_row j (by omega)) ?_
  refine z_astore_n (i := 3) (lv' := [(3, .ref (38 + j)), (0, .ref 0), (1, .int (nI j)), (2, .int 1)]) dX9_pass_43 rfl rfl rfl ?_
  refine z_iload_n dX9_pass_44 rfl ?_
  refine z_tableIn 85 dX9_pass_45 (by decide) (by decide) rfl (by decide) ?_
  refine z_aload_n dX9_pass_85 rfl ?_
  refine m_geti dX9_pass_86 fX9_203 (zPas_of j (by omega)) rfl ?_
  refine m_iret dX9_pass_89 rfl rfl ?_
  exact ⟨rfl, rfl, rfl⟩
set_option maxRecDepth 100000 in
set_option maxHeartbeats 400000 in
theorem c_pass_2 {l : Launch} {G : zG} {μ : Mem} {ν : Lng} {n : Nat} (hn : μ 15 6 = nI n) (h6 : n ≤ 6) (hsd : zSides μ n) {j : Nat} (hj : j < n)  : Cm l G mX9_pass [.ref 0, .int (nI j), .int 2] μ ν (fun a9 b9 c9 => gRun μ 22 n (38 + j) 2 = a9 ∧ gRun μ 22 n = b9 ∧ ν = c9) := by
  refine Con.of (by decide) (Nat.le_of_ble_eq_true rfl) ?_
  show Am l G mX9_pass 0 [(0, .ref 0), (1, .int (nI j)), (2, .int 2)] [] μ ν _
  refine z_aload_n dX9_pass_0 rfl ?_
  refine z_iload_n dX9_pass_1 rfl ?_
  refine m_callV (As := [.int _]) dX9_pass_2 kX9_155 ⟨rfl, rfl⟩ rfl ⟨rfl, rfl⟩ rfl rfl sh0 rfl rfl (c_noW0 hn h6 hj) (fun r2 μ2 ν2 hk2 => ?_)
  obtain ⟨rfl, rfl, rfl⟩ := hk2
  refine z_if_eq 11 dX9_pass_5 (by decide) (fun h5 => ?_) (fun h5 => absurd (by decide) h5)
  refine z_iload_n dX9_pass_11 rfl ?_
  refine z_if_lt 20 dX9_pass_12 (by decide) (fun h12 => absurd h12 (by decide)) (fun h12 => ?_)
  refine z_iload_n dX9_pass_15 rfl ?_
  refine z_iconst (v := 5) dX9_pass_16 rfl ?_
  refine z_icmp_le 23 dX9_pass_17 (by decide) (fun h17 => ?_) (fun h17 => absurd (by decide) h17)
  refine z_aload_n dX9_pass_23 rfl ?_
  refine m_getr dX9_pass_24 fX9_35 sh0 rfl ?_
  refine z_aload_n dX9_pass_27 rfl ?_
  refine m_getr dX9_pass_28 fX9_26 sh0 rfl ?_
  refine m_callVv (As := [.ref _]) dX9_pass_31 kX9_113 ⟨rfl, rfl⟩ rfl ⟨rfl, rfl⟩ rfl rfl sh26 rfl rfl (c_run zPlan22 (by omega) hn h6 hsd) (fun μ31 ν31 hk31 => ?_)
  obtain ⟨rfl, rfl⟩ := hk31
  refine z_aload_n dX9_pass_34 rfl ?_
  refine m_getr dX9_pass_35 fX9_35 sh0 rfl ?_
  refine m_getr dX9_pass_38 fX9_194 sh26 rfl ?_
  refine z_iload_n dX9_pass_41 rfl ?_
  refine m_aaldN (j := j) (q := (38 + j)) dX9_pass_42 sh28 rfl rfl (by omega) rfl (zPas_row j (by omega)) ?_
  refine z_astore_n (i := 3) (lv' := [(3, .ref (38 + j)), (0, .ref 0), (1, .int (nI j)), (2, .int 2)]) dX9_pass_43 rfl rfl rfl ?_
  refine z_iload_n dX9_pass_44 rfl ?_
  refine z_tableIn 90 dX9_pass_45 (by decide) (by decide) rfl (by decide) ?_
  refine z_aload_n dX9_pass_90 rfl ?_
  refine m_geti dX9_pass_91 fX9_206 (zPas_of j (by omega)) rfl ?_
  refine m_iret dX9_pass_94 rfl rfl ?_
  exact ⟨rfl, rfl, rfl⟩
set_option maxRecDepth 100000 in
set_option maxHeartbeats 400000 in
theorem c_pass_3 {l : Launch} {G : zG} {μ : Mem} {ν : Lng} {n : Nat} (hn : μ 15 6 = nI n) (h6 : n ≤ 6) (hsd : zSides μ n) {j : Nat} (hj : j < n)  : Cm l G mX9_pass [.ref 0, .int (nI j), .int 3] μ ν (fun a9 b9 c9 => gRun μ 22 n (38 + j) 3 = a9 ∧ gRun μ 22 n = b9 ∧ ν = c9) := by
  refine Con.of (by decide) (Nat.le_of_ble_eq_true rfl) ?_
  show Am l G mX9_pass 0 [(0, .ref 0), (1, .int (nI j)), (2, .int 3)] [] μ ν _
  refine z_aload_n dX9_pass_0 rfl ?_
  refine z_iload_n dX9_pass_1 rfl ?_
  refine m_callV (As := [.int _]) dX9_pass_2 kX9_155 ⟨rfl, rfl⟩ rfl ⟨rfl, rfl⟩ rfl rfl sh0 rfl rfl (c_noW0 hn h6 hj) (fun r2 μ2 ν2 hk2 => ?_)
  obtain ⟨rfl, rfl, rfl⟩ := hk2
  refine z_if_eq 11 dX9_pass_5 (by decide) (fun h5 => ?_) (fun h5 => absurd (by decide) h5)
  refine z_iload_n dX9_pass_11 rfl ?_
  refine z_if_lt 20 dX9_pass_12 (by decide) (fun h12 => absurd h12 (by decide)) (fun h12 => ?_)
  refine z_iload_n dX9_pass_15 rfl ?_
  refine z_iconst (v := 5) dX9_pass_16 rfl ?_
  refine z_icmp_le 23 dX9_pass_17 (by decide) (fun h17 => ?_) (fun h17 => absurd (by decide) h17)
  refine z_aload_n dX9_pass_23 rfl ?_
  refine m_getr dX9_pass_24 fX9_35 sh0 rfl ?_
  refine z_aload_n dX9_pass_27 rfl ?_
  refine m_getr dX9_pass_28 fX9_26 sh0 rfl ?_
  refine m_callVv (As := [.ref _]) dX9_pass_31 kX9_113 ⟨rfl, rfl⟩ rfl ⟨rfl, rfl⟩ rfl rfl sh26 rfl rfl (c_run zPlan22 (by omega) hn h6 hsd) (fun μ31 ν31 hk31 => ?_)
  obtain ⟨rfl, rfl⟩ := hk31
  refine z_aload_n dX9_pass_34 rfl ?_
  refine m_getr dX9_pass_35 fX9_35 sh0 rfl ?_
  refine m_getr dX9_pass_38 fX9_194 sh26 rfl ?_
  refine z_iload_n dX9_pass_41 rfl ?_
  refine m_aaldN (j := j) (q := (38 + j)) dX9_pass_42 sh28 rfl rfl (by omega) rfl (zPas_row j (by omega)) ?_
  refine z_astore_n (i := 3) (lv' := [(3, .ref (38 + j)), (0, .ref 0), (1, .int (nI j)), (2, .int 3)]) dX9_pass_43 rfl rfl rfl ?_
  refine z_iload_n dX9_pass_44 rfl ?_
  refine z_tableIn 95 dX9_pass_45 (by decide) (by decide) rfl (by decide) ?_
  refine z_aload_n dX9_pass_95 rfl ?_
  refine m_geti dX9_pass_96 fX9_208 (zPas_of j (by omega)) rfl ?_
  refine m_iret dX9_pass_99 rfl rfl ?_
  exact ⟨rfl, rfl, rfl⟩
set_option maxRecDepth 100000 in
set_option maxHeartbeats 400000 in
theorem c_pass_4 {l : Launch} {G : zG} {μ : Mem} {ν : Lng} {n : Nat} (hn : μ 15 6 = nI n) (h6 : n ≤ 6) (hsd : zSides μ n) {j : Nat} (hj : j < n)  : Cm l G mX9_pass [.ref 0, .int (nI j), .int 4] μ ν (fun a9 b9 c9 => gRun μ 22 n (38 + j) 4 = a9 ∧ gRun μ 22 n = b9 ∧ ν = c9) := by
  refine Con.of (by decide) (Nat.le_of_ble_eq_true rfl) ?_
  show Am l G mX9_pass 0 [(0, .ref 0), (1, .int (nI j)), (2, .int 4)] [] μ ν _
  refine z_aload_n dX9_pass_0 rfl ?_
  refine z_iload_n dX9_pass_1 rfl ?_
  refine m_callV (As := [.int _]) dX9_pass_2 kX9_155 ⟨rfl, rfl⟩ rfl ⟨rfl, rfl⟩ rfl rfl sh0 rfl rfl (c_noW0 hn h6 hj) (fun r2 μ2 ν2 hk2 => ?_)
  obtain ⟨rfl, rfl, rfl⟩ := hk2
  refine z_if_eq 11 dX9_pass_5 (by decide) (fun h5 => ?_) (fun h5 => absurd (by decide) h5)
  refine z_iload_n dX9_pass_11 rfl ?_
  refine z_if_lt 20 dX9_pass_12 (by decide) (fun h12 => absurd h12 (by decide)) (fun h12 => ?_)
  refine z_iload_n dX9_pass_15 rfl ?_
  refine z_iconst (v := 5) dX9_pass_16 rfl ?_
  refine z_icmp_le 23 dX9_pass_17 (by decide) (fun h17 => ?_) (fun h17 => absurd (by decide) h17)
  refine z_aload_n dX9_pass_23 rfl ?_
  refine m_getr dX9_pass_24 fX9_35 sh0 rfl ?_
  refine z_aload_n dX9_pass_27 rfl ?_
  refine m_getr dX9_pass_28 fX9_26 sh0 rfl ?_
  refine m_callVv (As := [.ref _]) dX9_pass_31 kX9_113 ⟨rfl, rfl⟩ rfl ⟨rfl, rfl⟩ rfl rfl sh26 rfl rfl (c_run zPlan22 (by omega) hn h6 hsd) (fun μ31 ν31 hk31 => ?_)
  obtain ⟨rfl, rfl⟩ := hk31
  refine z_aload_n dX9_pass_34 rfl ?_
  refine m_getr dX9_pass_35 fX9_35 sh0 rfl ?_
  refine m_getr dX9_pass_38 fX9_194 sh26 rfl ?_
  refine z_iload_n dX9_pass_41 rfl ?_
  refine m_aaldN (j := j) (q := (38 + j)) dX9_pass_42 sh28 rfl rfl (by omega) rfl (zPas_row j (by omega)) ?_
  refine z_astore_n (i := 3) (lv' := [(3, .ref (38 + j)), (0, .ref 0), (1, .int (nI j)), (2, .int 4)]) dX9_pass_43 rfl rfl rfl ?_
  refine z_iload_n dX9_pass_44 rfl ?_
  refine z_tableIn 100 dX9_pass_45 (by decide) (by decide) rfl (by decide) ?_
  refine z_aload_n dX9_pass_100 rfl ?_
  refine m_geti dX9_pass_101 fX9_211 (zPas_of j (by omega)) rfl ?_
  refine m_iret dX9_pass_104 rfl rfl ?_
  exact ⟨rfl, rfl, rfl⟩
set_option maxRecDepth 100000 in
set_option maxHeartbeats 400000 in
theorem c_pass_5 {l : Launch} {G : zG} {μ : Mem} {ν : Lng} {n : Nat} (hn : μ 15 6 = nI n) (h6 : n ≤ 6) (hsd : zSides μ n) {j : Nat} (hj : j < n)  : Cm l G mX9_pass [.ref 0, .int (nI j), .int 5] μ ν (fun a9 b9 c9 => gRun μ 22 n (38 + j) 5 = a9 ∧ gRun μ 22 n = b9 ∧ ν = c9) := by
  refine Con.of (by decide) (Nat.le_of_ble_eq_true rfl) ?_
  show Am l G mX9_pass 0 [(0, .ref 0), (1, .int (nI j)), (2, .int 5)] [] μ ν _
  refine z_aload_n dX9_pass_0 rfl ?_
  refine z_iload_n dX9_pass_1 rfl ?_
  refine m_callV (As := [.int _]) dX9_pass_2 kX9_155 ⟨rfl, rfl⟩ rfl ⟨rfl, rfl⟩ rfl rfl sh0 rfl rfl (c_noW0 hn h6 hj) (fun r2 μ2 ν2 hk2 => ?_)
  obtain ⟨rfl, rfl, rfl⟩ := hk2
  refine z_if_eq 11 dX9_pass_5 (by decide) (fun h5 => ?_) (fun h5 => absurd (by decide) h5)
  refine z_iload_n dX9_pass_11 rfl ?_
  refine z_if_lt 20 dX9_pass_12 (by decide) (fun h12 => absurd h12 (by decide)) (fun h12 => ?_)
  refine z_iload_n dX9_pass_15 rfl ?_
  refine z_iconst (v := 5) dX9_pass_16 rfl ?_
  refine z_icmp_le 23 dX9_pass_17 (by decide) (fun h17 => ?_) (fun h17 => absurd (by decide) h17)
  refine z_aload_n dX9_pass_23 rfl ?_
  refine m_getr dX9_pass_24 fX9_35 sh0 rfl ?_
  refine z_aload_n dX9_pass_27 rfl ?_
  refine m_getr dX9_pass_28 fX9_26 sh0 rfl ?_
  refine m_callVv (As := [.ref _]) dX9_pass_31 kX9_113 ⟨rfl, rfl⟩ rfl ⟨rfl, rfl⟩ rfl rfl sh26 rfl rfl (c_run zPlan22 (by omega) hn h6 hsd) (fun μ31 ν31 hk31 => ?_)
  obtain ⟨rfl, rfl⟩ := hk31
  refine z_aload_n dX9_pass_34 rfl ?_
  refine m_getr dX9_pass_35 fX9_35 sh0 rfl ?_
  refine m_getr dX9_pass_38 fX9_194 sh26 rfl ?_
  refine z_iload_n dX9_pass_41 rfl ?_
  refine m_aaldN (j := j) (q := (38 + j)) dX9_pass_42 sh28 rfl rfl (by omega) rfl (zPas_row j (by omega)) ?_
  refine z_astore_n (i := 3) (lv' := [(3, .ref (38 + j)), (0, .ref 0), (1, .int (nI j)), (2, .int 5)]) dX9_pass_43 rfl rfl rfl ?_
  refine z_iload_n dX9_pass_44 rfl ?_
  refine z_tableOut 105 dX9_pass_45 (by decide) (by decide) ?_
  refine z_aload_n dX9_pass_105 rfl ?_
  refine m_geti dX9_pass_106 fX9_214 (zPas_of j (by omega)) rfl ?_
  refine m_iret dX9_pass_109 rfl rfl ?_
  exact ⟨rfl, rfl, rfl⟩
set_option maxRecDepth 100000 in
set_option maxHeartbeats 400000 in
theorem c_leafAt_w {l : Launch} {G : zG} {μ : Mem} {ν : Lng} {w : Int32} (hw : w < 0 ∨ 1 < w) {v : Int32}  : Cm l G mX9_leafAt [.ref 0, .int w, .int v] μ ν (fun a9 b9 c9 => (-1000000001) = a9 ∧ μ = b9 ∧ ν = c9) := by
  refine Con.of (by decide) (Nat.le_of_ble_eq_true rfl) ?_
  show Am l G mX9_leafAt 0 [(0, .ref 0), (1, .int w), (2, .int v)] [] μ ν _
  refine z_iload_n dX9_leafAt_0 rfl ?_
  refine m_callS (As := [.int _]) dX9_leafAt_1 kX9_132 ⟨rfl, rfl⟩ rfl ⟨rfl, rfl⟩ rfl rfl rfl (c_noLeaf1 hw) (fun r1 μ1 ν1 hk1 => ?_)
  obtain ⟨rfl, rfl, rfl⟩ := hk1
  refine z_if_eq 10 dX9_leafAt_4 (by decide) (fun h4 => absurd h4 (by decide)) (fun h4 => ?_)
  refine z_ldc dX9_leafAt_7 cX9_136 ?_
  refine m_iret dX9_leafAt_9 rfl rfl ?_
  exact ⟨rfl, rfl, rfl⟩
set_option maxRecDepth 100000 in
set_option maxHeartbeats 400000 in
theorem c_leafAt_o {l : Launch} {G : zG} {μ : Mem} {ν : Lng} {j : Nat} (hj : j ≤ 1) {v : Int32} (hv : v < 0 ∨ 9999 < v)  : Cm l G mX9_leafAt [.ref 0, .int (nI j), .int v] μ ν (fun a9 b9 c9 => (-1000000002) = a9 ∧ μ = b9 ∧ ν = c9) := by
  refine Con.of (by decide) (Nat.le_of_ble_eq_true rfl) ?_
  show Am l G mX9_leafAt 0 [(0, .ref 0), (1, .int (nI j)), (2, .int v)] [] μ ν _
  refine z_iload_n dX9_leafAt_0 rfl ?_
  refine m_callS (As := [.int _]) dX9_leafAt_1 kX9_132 ⟨rfl, rfl⟩ rfl ⟨rfl, rfl⟩ rfl rfl rfl (c_noLeaf0 hj) (fun r1 μ1 ν1 hk1 => ?_)
  obtain ⟨rfl, rfl, rfl⟩ := hk1
  refine z_if_eq 10 dX9_leafAt_4 (by decide) (fun h4 => ?_) (fun h4 => absurd (by decide) h4)
  refine z_iload_n dX9_leafAt_10 rfl ?_
  refine z_if_lt 21 dX9_leafAt_11 (by decide) (fun h11 => ?_) (fun h11 => ?_)
  · skip
    refine z_ldc dX9_leafAt_21 cX9_73 ?_
    refine m_iret dX9_leafAt_23 rfl rfl ?_
    exact ⟨rfl, rfl, rfl⟩
  · skip
    refine z_iload_n dX9_leafAt_14 rfl ?_
    refine z_sipush (v := 9999) dX9_leafAt_15 rfl ?_
    refine z_icmp_le 24 dX9_leafAt_18 (by decide) (fun h18 => (zbad hv h11 h18).elim) (fun h18 => ?_)
    refine z_ldc dX9_leafAt_21 cX9_73 ?_
    refine m_iret dX9_leafAt_23 rfl rfl ?_
    exact ⟨rfl, rfl, rfl⟩
set_option maxRecDepth 100000 in
set_option maxHeartbeats 400000 in
theorem c_leafAt {l : Launch} {G : zG} {μ : Mem} {ν : Lng} {n : Nat} (hn : μ 15 6 = nI n) (h6 : n ≤ 6) (hsd : zSides μ n) {j : Nat} (hj : j ≤ 1) {v : Nat} (hv : v ≤ 9999)  : Cm l G mX9_leafAt [.ref 0, .int (nI j), .int (nI v)] μ ν (fun a9 b9 c9 => fDoing (gRun μ 22 n) (30 + 4 * j) (nI v) = a9 ∧ gRun μ 22 n = b9 ∧ ν = c9) := by
  refine Con.of (by decide) (Nat.le_of_ble_eq_true rfl) ?_
  show Am l G mX9_leafAt 0 [(0, .ref 0), (1, .int (nI j)), (2, .int (nI v))] [] μ ν _
  refine z_iload_n dX9_leafAt_0 rfl ?_
  refine m_callS (As := [.int _]) dX9_leafAt_1 kX9_132 ⟨rfl, rfl⟩ rfl ⟨rfl, rfl⟩ rfl rfl rfl (c_noLeaf0 hj) (fun r1 μ1 ν1 hk1 => ?_)
  obtain ⟨rfl, rfl, rfl⟩ := hk1
  refine z_if_eq 10 dX9_leafAt_4 (by decide) (fun h4 => ?_) (fun h4 => absurd (by decide) h4)
  refine z_iload_n dX9_leafAt_10 rfl ?_
  refine z_if_lt 21 dX9_leafAt_11 (by decide) (fun h11 => absurd h11 (nI_nlt (a := v) (b := 0) (by omega) (by omega))) (fun h11 => ?_)
  refine z_iload_n dX9_leafAt_14 rfl ?_
  refine z_sipush (v := 9999) dX9_leafAt_15 rfl ?_
  refine z_icmp_le 24 dX9_leafAt_18 (by decide) (fun h18 => ?_) (fun h18 => absurd (nI_le (a := v) (b := 9999) (by omega) (by omega)) h18)
  refine z_aload_n dX9_leafAt_24 rfl ?_
  refine m_getr dX9_leafAt_25 fX9_35 sh0 rfl ?_
  refine z_aload_n dX9_leafAt_28 rfl ?_
  refine m_getr dX9_leafAt_29 fX9_26 sh0 rfl ?_
  refine m_callVv (As := [.ref _]) dX9_leafAt_32 kX9_113 ⟨rfl, rfl⟩ rfl ⟨rfl, rfl⟩ rfl rfl sh26 rfl rfl (c_run zPlan22 (by omega) hn h6 hsd) (fun μ32 ν32 hk32 => ?_)
  obtain ⟨rfl, rfl⟩ := hk32
  refine z_aload_n dX9_leafAt_35 rfl ?_
  refine m_getr dX9_leafAt_36 fX9_35 sh0 rfl ?_
  refine m_getr dX9_leafAt_39 fX9_143 sh26 rfl ?_
  refine z_iload_n dX9_leafAt_42 rfl ?_
  refine m_aaldN (j := j) (q := (30 + 4 * j)) dX9_leafAt_43 sh27 rfl rfl (by omega) rfl (zSwing_row j (by omega)) ?_
  refine z_iload_n dX9_leafAt_44 rfl ?_
  refine m_callV (As := [.int _]) dX9_leafAt_45 kX9_217 ⟨rfl, rfl⟩ rfl ⟨rfl, rfl⟩ rfl rfl (zSwing_of j (by omega)).1 rfl rfl (c_doing (zSwing_of j (by omega))) (fun r45 μ45 ν45 hk45 => ?_)
  obtain ⟨rfl, rfl, rfl⟩ := hk45
  refine m_iret dX9_leafAt_48 rfl rfl ?_
  exact ⟨rfl, rfl, rfl⟩

/-- the first line of the book that is not so -/
def zFirst (p : Nat → Bool) : Nat → Nat → Int32
  | _, 0 => -1
  | i, d + 1 => if p i then nI i else zFirst p (i + 1) d
theorem zFirst_at {p : Nat → Bool} {i : Nat} (hp : p i = true) : ∀ (j d : Nat), j ≤ i → i < j + d → (∀ a, j ≤ a → a < i → p a = false) → zFirst p j d = nI i
  | j, 0, h1, h2, _ => by omega
  | j, d + 1, h1, h2, h3 => by
    unfold zFirst
    by_cases e : j = i
    · subst e; rw [if_pos hp]
    · rw [if_neg (by rw [h3 j (Nat.le_refl j) (by omega)]; exact Bool.false_ne_true)]
      exact zFirst_at hp (j + 1) d (by omega) (by omega) (fun a h4 h5 => h3 a (by omega) h5)
theorem zFirst_no {p : Nat → Bool} : ∀ (j d : Nat), (∀ a, j ≤ a → a < j + d → p a = false) → zFirst p j d = -1
  | j, 0, _ => rfl
  | j, d + 1, h => by
    unfold zFirst
    rw [if_neg (by rw [h j (Nat.le_refl j) (by omega)]; exact Bool.false_ne_true)]
    exact zFirst_no (j + 1) d (fun a h1 h2 => h a (by omega) (by omega))
def fJudge (σ : Mem) (i : Nat) : Bool := decide (¬ σ (38 + (σ 54 i).toNatClampNeg) 0 = σ 55 i)
set_option maxRecDepth 100000 in
set_option maxHeartbeats 400000 in
theorem c_judge {l : Launch} {G : zG} {μ : Mem} {ν : Lng} {n : Nat} (hn : μ 15 6 = nI n) (h6 : n ≤ 6) (hsd : zSides μ n) {b : Nat} (hb : μ 0 8 = nI b) (hb2 : b ≤ 20) (hbw : ∀ i, i < b → ∃ m : Nat, m < n ∧ μ 54 i = nI m)  : Cm l G mX9_judge [.ref 0] μ ν (fun a9 b9 c9 => zFirst (fJudge (gRun μ 22 n)) 0 b = a9 ∧ gRun μ 22 n = b9 ∧ ν = c9) := by
  refine Con.of (by decide) (Nat.le_of_ble_eq_true rfl) ?_
  show Am l G mX9_judge 0 [(0, .ref 0)] [] μ ν _
  have hb1 : gRun μ 22 n 0 8 = nI b := by rw [gRun_ne h6 hsd (by omega)]; exact hb
  have hL := m_forP (l := l) (G := G) (M := mX9_judge) (pc := 13) (ν := ν) (K := (fun a9 b9 c9 => zFirst (fJudge (gRun μ 22 n)) 0 b = a9 ∧ gRun μ 22 n = b9 ∧ ν = c9)) (N := b) (fun i => ∀ a, a < i → fJudge (gRun μ 22 n) a = false) (fun i => [(1, .int (nI i)), (0, .ref 0)]) (fun _ => gRun μ 22 n) (fun i hi hP H => by
    obtain ⟨m, hm, em⟩ := hbw i hi
    rw [← gRun_ne (pl := 22) h6 hsd (by omega)] at em
    refine z_iload_n dX9_judge_13 rfl ?_
    refine z_aload_n dX9_judge_14 rfl ?_
    refine m_geti dX9_judge_15 fX9_61 sh0 rfl ?_
    refine z_icmp_ge 55 dX9_judge_18 (by decide) (fun h18 => absurd (hb1 ▸ h18) (nI_ge hi (by omega))) (fun h18 => ?_)
    refine z_aload_n dX9_judge_21 rfl ?_
    refine m_getr dX9_judge_22 fX9_35 sh0 rfl ?_
    refine m_getr dX9_judge_25 fX9_194 sh26 rfl ?_
    refine z_aload_n dX9_judge_28 rfl ?_
    refine m_getr dX9_judge_29 fX9_54 sh0 rfl ?_
    refine z_iload_n dX9_judge_32 rfl ?_
    refine m_ialdN (j := i) dX9_judge_33 sh54 rfl (by omega) rfl ?_
    refine m_aaldN (j := m) (q := (38 + m)) dX9_judge_34 sh28 rfl em (by omega) rfl (zPas_row m (by omega)) ?_
    refine m_geti dX9_judge_35 fX9_198 (zPas_of m (by omega)) rfl ?_
    refine z_aload_n dX9_judge_38 rfl ?_
    refine m_getr dX9_judge_39 fX9_58 sh0 rfl ?_
    refine z_iload_n dX9_judge_42 rfl ?_
    refine m_ialdN (j := i) dX9_judge_43 sh55 rfl (by omega) rfl ?_
    refine z_icmp_eq 49 dX9_judge_44 (by decide) (fun h44 => ?_) (fun h44 => ?_)
    · skip
      refine z_iinc (fun y => [(1, .int y), (0, .ref 0)]) dX9_judge_49 rfl rfl (fun _ => rfl) (fun x1_49 ex1_49 => ?_)
      obtain rfl : x1_49 = nI (i + 1) := by rw [ex1_49]; exact nI_1 i
      refine z_goto 13 dX9_judge_52 (by decide) ?_
      refine H (fun a ha => ?_)
      by_cases e : a = i
      · subst e
        unfold fJudge
        rw [em, nI_clamp (show m < 2 ^ 31 by omega)]
        exact decide_eq_false (fun q => q h44)
      · exact hP a (by omega)
    · skip
      refine z_iload_n dX9_judge_47 rfl ?_
      refine m_iret dX9_judge_48 rfl rfl ?_
      refine ⟨zFirst_at (i := i) ?_ 0 b (by omega) (by omega) (fun a _ h => hP a h), rfl, rfl⟩
      unfold fJudge
      rw [em, nI_clamp (show m < 2 ^ 31 by omega)]
      exact decide_eq_true h44) (fun hP => by
    refine z_iload_n dX9_judge_13 rfl ?_
    refine z_aload_n dX9_judge_14 rfl ?_
    refine m_geti dX9_judge_15 fX9_61 sh0 rfl ?_
    refine z_icmp_ge 55 dX9_judge_18 (by decide) (fun h18 => ?_) (fun h18 => absurd (hb1 ▸ nI_le (Nat.le_refl b) (by omega)) h18)
    refine z_iconst (v := -1) dX9_judge_55 rfl ?_
    refine m_iret dX9_judge_56 rfl rfl ?_
    exact ⟨zFirst_no 0 b (fun a _ h => hP a (by omega)), rfl, rfl⟩)
  refine z_aload_n dX9_judge_0 rfl ?_
  refine m_getr dX9_judge_1 fX9_35 sh0 rfl ?_
  refine z_aload_n dX9_judge_4 rfl ?_
  refine m_getr dX9_judge_5 fX9_26 sh0 rfl ?_
  refine m_callVv (As := [.ref _]) dX9_judge_8 kX9_113 ⟨rfl, rfl⟩ rfl ⟨rfl, rfl⟩ rfl rfl sh26 rfl rfl (c_run zPlan22 (by omega) hn h6 hsd) (fun μ8 ν8 hk8 => ?_)
  obtain ⟨rfl, rfl⟩ := hk8
  refine z_iconst (v := 0) dX9_judge_11 rfl ?_
  refine z_istore_n (i := 1) (fun y => [(1, .int y), (0, .ref 0)]) dX9_judge_12 rfl rfl (fun _ => rfl) (fun x9 e9 => ?_)
  subst e9
  exact hL 0 (Nat.zero_le b) (fun a h => absurd h (Nat.not_lt_zero a))
