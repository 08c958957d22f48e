
theorem gNx_0 {T : Nat → Int32} {L : Nat} {X : Mem × zCu} (h : ¬ X.2.1 = 0) : gNx T L X = X := by unfold gNx; rw [if_neg h]
theorem gNx_1 {T : Nat → Int32} {L : Nat} {X : Mem × zCu} (h : X.2.1 = 0) (h2 : zBk T L X.2.2.2.1 < L) : gNx T L X = gCl T L X.1 (X.2.1, X.2.2.1, zBk T L X.2.2.2.1, X.2.2.2.2) := by unfold gNx; rw [if_pos h, if_pos h2]
theorem gNx_2 {T : Nat → Int32} {L : Nat} {X : Mem × zCu} (h : X.2.1 = 0) (h2 : ¬ zBk T L X.2.2.2.1 < L) : gNx T L X = (X.1, (X.2.1, X.2.2.1, zBk T L X.2.2.2.1, X.2.2.2.2)) := by unfold gNx; rw [if_pos h, if_neg h2]
theorem zBk_L {T : Nat → Int32} {L : Nat} : zBk T L L = L := by
  unfold zBk
  rw [Nat.sub_self]
  rfl
theorem gNx_3 {T : Nat → Int32} {L : Nat} {X : Mem × zCu} (ha : X.2.2.2.1 ≤ L) (h : X.2.1 = 0) (h2 : ¬ zBk T L X.2.2.2.1 < L) : gNx T L (gNx T L X) = gNx T L X := by
  have b := (zBk_sp (T := T) ha).2.1
  rw [gNx_2 h h2, show zBk T L X.2.2.2.1 = L by omega]
  have e : zBk T L L = L := zBk_L
  exact (gNx_2 (X := (X.1, (X.2.1, X.2.2.1, L, X.2.2.2.2))) h (by show ¬ zBk T L L < L; omega)).trans (by show (X.1, (X.2.1, X.2.2.1, zBk T L L, X.2.2.2.2)) = _; rw [e])
/-- all is untold -/
def gR0 (μ : Mem) : Mem := up2 (up2 (fFill (up2 (up2 (up2 (fFill (fFill μ 3 2 2) 4 2 3) 2 6 0) 9 3 0) 9 4 9) 14 2 0) 1 9 0) 1 10 0
def gS0 (μ : Mem) : zCu := (0, -1, 0, μ 1 8)
theorem gR0_mem {μ : Mem} : up2 (up2 (up2 (gR0 μ) 1 5 0) 1 6 (-1)) 1 7 0 = mC (gR0 μ) (gS0 μ) := by
  refine mC_ext (fun c hc => by rw [up2_ne hc, up2_ne hc, up2_ne hc]) ?_ ?_ ?_ ?_ (fun j a1 a2 a3 a4 => by rw [up2_row, if_neg a3, up2_row, if_neg a2, up2_row, if_neg a1])
  · rw [up2_row, if_neg (by decide), up2_row, if_neg (by decide), up2_row, if_pos rfl]; rfl
  · rw [up2_row, if_neg (by decide), up2_row, if_pos rfl]; rfl
  · rw [up2_row, if_pos rfl]; rfl
  · rw [up2_row, if_neg (by decide), up2_row, if_neg (by decide), up2_row, if_neg (by decide)]
    unfold gR0
    rw [up2_row, if_neg (by decide), up2_row, if_neg (by decide)]
    rfl
theorem gR0_ne {μ : Mem} {q : Nat} (h : q = 0 ∨ q = 5 ∨ q = 6 ∨ q = 7 ∨ q = 8 ∨ (10 ≤ q ∧ q ≤ 13) ∨ 15 ≤ q) : gR0 μ q = μ q := by
  unfold gR0 fFill
  rw [up2_ne (by omega), up2_ne (by omega), va_up_ne _ _ (by omega), up2_ne (by omega), up2_ne (by omega), up2_ne (by omega), va_up_ne _ _ (by omega), va_up_ne _ _ (by omega)]
theorem gR0_ri {μ : Mem} {T : Nat → Int32} {L : Nat} (hT : μ 13 = T) (hL : μ 1 4 = nI L) : zRdi T L (gR0 μ, gS0 μ) := by
  refine ⟨(gR0_ne (by omega)).trans hT, ?_, ⟨0, by decide, ?_⟩, Nat.zero_le L⟩
  · show gR0 μ 1 4 = nI L
    unfold gR0
    rw [up2_row, if_neg (by decide), up2_row, if_neg (by decide)]
    exact hL
  · show gR0 μ 2 6 = nI 0
    unfold gR0 fFill
    rw [up2_ne (by decide), up2_ne (by decide), va_up_ne _ _ (by decide), up2_ne (by decide), up2_ne (by decide), up2_same]
    rfl
set_option maxRecDepth 100000 in
set_option maxHeartbeats 400000 in
theorem c_read {l : Launch} {G : zG} {μ : Mem} {ν : Lng} {T : Nat → Int32} {L N : Nat} (hT : μ 13 = T) (hL : μ 1 4 = nI L) (hL2 : L ≤ 250) (hN : N = 250)  : Cm l G mX5_read [.ref 1] μ ν (fun _ b9 c9 => up2 (mC (gIt T L (gR0 μ, gS0 μ) N).1 (gIt T L (gR0 μ, gS0 μ) N).2) 1 4 0 = b9 ∧ ν = c9) := by
  refine Con.of (by decide) (Nat.le_of_ble_eq_true rfl) ?_
  show Am l G mX5_read 0 [(0, .ref 1)] [] μ ν _
  have ri := fun i => gIt_ri (gR0_ri (μ := μ) hT hL) i
  have hE : ∀ xx : Int32, Am l G mX5_read 100 [(1, .int xx), (0, .ref 1)] [] (mC (gIt T L (gR0 μ, gS0 μ) N).1 (gIt T L (gR0 μ, gS0 μ) N).2) ν (fun _ b9 c9 => up2 (mC (gIt T L (gR0 μ, gS0 μ) N).1 (gIt T L (gR0 μ, gS0 μ) N).2) 1 4 0 = b9 ∧ ν = c9) := fun xx => by
    refine z_aload_n dX5_read_100 rfl ?_
    refine z_iconst (v := 0) dX5_read_101 rfl ?_
    refine m_puti dX5_read_102 fX5_32 (fun q h => by cases h; rfl) rfl rfl sh1 rfl ?_
    refine m_ret dX5_read_105 rfl ?_
    exact ⟨rfl, rfl⟩
  have hL1 := m_for (l := l) (G := G) (M := mX5_read) (pc := 49) (ν := ν) (K := (fun _ b9 c9 => up2 (mC (gIt T L (gR0 μ, gS0 μ) N).1 (gIt T L (gR0 μ, gS0 μ) N).2) 1 4 0 = b9 ∧ ν = c9)) (N := N) (fun i => [(1, .int (nI i)), (0, .ref 1)]) (fun i => mC (gIt T L (gR0 μ, gS0 μ) i).1 (gIt T L (gR0 μ, gS0 μ) i).2) (fun i hi H => by
    obtain ⟨r1, r2, r3, r4⟩ := ri i
    have b2 := (zBk_sp (T := T) r4).2.1
    refine z_iload_n dX5_read_49 rfl ?_
    refine z_sipush (v := 250) dX5_read_50 rfl ?_
    refine z_icmp_ge 100 dX5_read_53 (by decide) (fun h53 => absurd h53 (nI_ge (a := i) (b := 250) (by omega) (by omega))) (fun h53 => ?_)
    refine z_aload_n dX5_read_56 rfl ?_
    refine m_geti dX5_read_57 fX5_36 sh1 rfl ?_
    refine z_if_ne 100 dX5_read_60 (by decide) (fun h60 => ?_) (fun h60 => ?_)
    · skip
      first
        | (rw [← gIt_end (Nat.le_of_lt hi) (gNx_0 (show ¬ (gIt T L (gR0 μ, gS0 μ) i).2.1 = 0 from h60))]
           exact hE _)
        | (have hnl : ¬ (zBk T L (gIt T L (gR0 μ, gS0 μ) i).2.2.2.1) < L := fun q => h75 (by rw [mC_L, r2]; exact nI_lt q (by omega))
           have e1 := gNx_2 (show (gIt T L (gR0 μ, gS0 μ) i).2.1 = 0 from h60) hnl
           have e2 := gIt_end (i := i + 1) hi (gNx_3 r4 (show (gIt T L (gR0 μ, gS0 μ) i).2.1 = 0 from h60) hnl)
           have e3 : gIt T L (gR0 μ, gS0 μ) (i + 1) = ((gIt T L (gR0 μ, gS0 μ) i).1, ((gIt T L (gR0 μ, gS0 μ) i).2.1, (gIt T L (gR0 μ, gS0 μ) i).2.2.1, (zBk T L (gIt T L (gR0 μ, gS0 μ) i).2.2.2.1), (gIt T L (gR0 μ, gS0 μ) i).2.2.2.2)) := e1
           have eM : mC (gIt T L (gR0 μ, gS0 μ) i).1 ((gIt T L (gR0 μ, gS0 μ) i).2.1, (gIt T L (gR0 μ, gS0 μ) i).2.2.1, (zBk T L (gIt T L (gR0 μ, gS0 μ) i).2.2.2.1), (gIt T L (gR0 μ, gS0 μ) i).2.2.2.2) = mC (gIt T L (gR0 μ, gS0 μ) N).1 (gIt T L (gR0 μ, gS0 μ) N).2 := by rw [e2, e3]
           rw [eM]
           exact hE _)
    · skip
      refine z_aload_n dX5_read_63 rfl ?_
      refine m_callVv (As := []) dX5_read_64 kX5_65 ⟨rfl, rfl⟩ rfl ⟨rfl, rfl⟩ rfl rfl sh1 rfl rfl (c_skip r1 r2 hL2 r4) (fun μ64 ν64 hk64 => ?_)
      obtain ⟨rfl, rfl⟩ := hk64
      refine z_aload_n dX5_read_67 rfl ?_
      refine m_geti dX5_read_68 fX5_42 sh1 rfl ?_
      rw [show mC (gIt T L (gR0 μ, gS0 μ) i).1 ((gIt T L (gR0 μ, gS0 μ) i).2.1, (gIt T L (gR0 μ, gS0 μ) i).2.2.1, (zBk T L (gIt T L (gR0 μ, gS0 μ) i).2.2.2.1), (gIt T L (gR0 μ, gS0 μ) i).2.2.2.2) 1 7 = nI (zBk T L (gIt T L (gR0 μ, gS0 μ) i).2.2.2.1) from rfl]
      refine z_aload_n dX5_read_71 rfl ?_
      refine m_geti dX5_read_72 fX5_32 sh1 rfl ?_
      refine z_icmp_lt 81 dX5_read_75 (by decide) (fun h75 => ?_) (fun h75 => ?_)
      · skip
        have hlt : (zBk T L (gIt T L (gR0 μ, gS0 μ) i).2.2.2.1) < L := Nat.lt_of_not_le (fun q => absurd h75 (by rw [mC_L, r2]; exact nI_nlt (a := (zBk T L (gIt T L (gR0 μ, gS0 μ) i).2.2.2.1)) (b := L) q (by omega)))
        refine z_aload_n dX5_read_81 rfl ?_
        refine z_aload_n dX5_read_82 rfl ?_
        refine m_getr dX5_read_83 fX5_25 sh1 rfl ?_
        refine z_aload_n dX5_read_86 rfl ?_
        refine m_geti dX5_read_87 fX5_42 sh1 rfl ?_
        rw [show mC (gIt T L (gR0 μ, gS0 μ) i).1 ((gIt T L (gR0 μ, gS0 μ) i).2.1, (gIt T L (gR0 μ, gS0 μ) i).2.2.1, (zBk T L (gIt T L (gR0 μ, gS0 μ) i).2.2.2.1), (gIt T L (gR0 μ, gS0 μ) i).2.2.2.2) 1 7 = nI (zBk T L (gIt T L (gR0 μ, gS0 μ) i).2.2.2.1) from rfl]
        refine m_ialdN (j := (zBk T L (gIt T L (gR0 μ, gS0 μ) i).2.2.2.1)) dX5_read_90 sh13 rfl (by omega) rfl ?_
        rw [mC_ne (show 13 ≠ 1 by decide), r1]
        refine m_callVv (As := [.int _]) dX5_read_91 kX5_68 ⟨rfl, rfl⟩ rfl ⟨rfl, rfl⟩ rfl rfl sh1 rfl rfl (c_clause (s := ((gIt T L (gR0 μ, gS0 μ) i).2.1, (gIt T L (gR0 μ, gS0 μ) i).2.2.1, (zBk T L (gIt T L (gR0 μ, gS0 μ) i).2.2.2.1), (gIt T L (gR0 μ, gS0 μ) i).2.2.2.2)) r1 r2 hL2 (by exact hlt) r3) (fun μ91 ν91 hk91 => ?_)
        obtain ⟨rfl, rfl⟩ := hk91
        refine z_iinc (fun y => [(1, .int y), (0, .ref 1)]) dX5_read_94 rfl rfl (fun _ => rfl) (fun x1_94 ex1_94 => ?_)
        obtain rfl : x1_94 = nI (i + 1) := by rw [ex1_94]; exact nI_1 i
        refine z_goto 49 dX5_read_97 (by decide) ?_
        have e1 : gIt T L (gR0 μ, gS0 μ) (i + 1) = gCl T L (gIt T L (gR0 μ, gS0 μ) i).1 ((gIt T L (gR0 μ, gS0 μ) i).2.1, (gIt T L (gR0 μ, gS0 μ) i).2.2.1, (zBk T L (gIt T L (gR0 μ, gS0 μ) i).2.2.2.1), (gIt T L (gR0 μ, gS0 μ) i).2.2.2.2) := gNx_1 (show (gIt T L (gR0 μ, gS0 μ) i).2.1 = 0 from h60) hlt
        rw [e1] at H
        exact H
      · skip
        refine z_goto 100 dX5_read_78 (by decide) ?_
        first
          | (rw [← gIt_end (Nat.le_of_lt hi) (gNx_0 (show ¬ (gIt T L (gR0 μ, gS0 μ) i).2.1 = 0 from h60))]
             exact hE _)
          | (have hnl : ¬ (zBk T L (gIt T L (gR0 μ, gS0 μ) i).2.2.2.1) < L := fun q => h75 (by rw [mC_L, r2]; exact nI_lt q (by omega))
             have e1 := gNx_2 (show (gIt T L (gR0 μ, gS0 μ) i).2.1 = 0 from h60) hnl
             have e2 := gIt_end (i := i + 1) hi (gNx_3 r4 (show (gIt T L (gR0 μ, gS0 μ) i).2.1 = 0 from h60) hnl)
             have e3 : gIt T L (gR0 μ, gS0 μ) (i + 1) = ((gIt T L (gR0 μ, gS0 μ) i).1, ((gIt T L (gR0 μ, gS0 μ) i).2.1, (gIt T L (gR0 μ, gS0 μ) i).2.2.1, (zBk T L (gIt T L (gR0 μ, gS0 μ) i).2.2.2.1), (gIt T L (gR0 μ, gS0 μ) i).2.2.2.2)) := e1
             have eM : mC (gIt T L (gR0 μ, gS0 μ) i).1 ((gIt T L (gR0 μ, gS0 μ) i).2.1, (gIt T L (gR0 μ, gS0 μ) i).2.2.1, (zBk T L (gIt T L (gR0 μ, gS0 μ) i).2.2.2.1), (gIt T L (gR0 μ, gS0 μ) i).2.2.2.2) = mC (gIt T L (gR0 μ, gS0 μ) N).1 (gIt T L (gR0 μ, gS0 μ) N).2 := by rw [e2, e3]
             rw [eM]
             exact hE _)) (by
    refine z_iload_n dX5_read_49 rfl ?_
    refine z_sipush (v := 250) dX5_read_50 rfl ?_
    refine z_icmp_ge 100 dX5_read_53 (by decide) (fun h53 => ?_) (fun h53 => absurd (nI_le (a := 250) (b := N) (by omega) (by omega)) h53)
    exact hE _)
  refine z_aload_n dX5_read_0 rfl ?_
  refine m_getr dX5_read_1 fX5_12 sh1 rfl ?_
  refine m_callVv (As := []) dX5_read_4 kX5_55 ⟨rfl, rfl⟩ rfl ⟨rfl, rfl⟩ rfl rfl sh2 rfl rfl c_houseUn (fun μ4 ν4 hk4 => ?_)
  obtain ⟨rfl, rfl⟩ := hk4
  refine z_aload_n dX5_read_7 rfl ?_
  refine m_getr dX5_read_8 fX5_21 sh1 rfl ?_
  refine m_callVv (As := []) dX5_read_11 kX5_58 ⟨rfl, rfl⟩ rfl ⟨rfl, rfl⟩ rfl rfl sh9 rfl rfl (c_planUn zPlan9) (fun μ11 ν11 hk11 => ?_)
  obtain ⟨rfl, rfl⟩ := hk11
  refine z_aload_n dX5_read_14 rfl ?_
  refine m_getr dX5_read_15 fX5_29 sh1 rfl ?_
  refine z_iconst (v := 0) dX5_read_18 rfl ?_
  refine m_callSv (As := [.ref _, .int _]) dX5_read_19 kX5_59 ⟨rfl, rfl⟩ rfl ⟨rfl, rfl⟩ rfl rfl rfl (c_fill (k := 14) (n := 2) sh14 (by decide)) (fun μ19 ν19 hk19 => ?_)
  obtain ⟨rfl, rfl⟩ := hk19
  refine z_aload_n dX5_read_22 rfl ?_
  refine z_iconst (v := 0) dX5_read_23 rfl ?_
  refine m_puti dX5_read_24 fX5_48 (fun q h => by cases h; rfl) rfl rfl sh1 rfl ?_
  refine z_aload_n dX5_read_27 rfl ?_
  refine z_iconst (v := 0) dX5_read_28 rfl ?_
  refine m_puti dX5_read_29 fX5_52 (fun q h => by cases h; rfl) rfl rfl sh1 rfl ?_
  refine z_aload_n dX5_read_32 rfl ?_
  refine z_iconst (v := 0) dX5_read_33 rfl ?_
  refine m_puti dX5_read_34 fX5_36 (fun q h => by cases h; rfl) rfl rfl sh1 rfl ?_
  refine z_aload_n dX5_read_37 rfl ?_
  refine z_iconst (v := -1) dX5_read_38 rfl ?_
  refine m_puti dX5_read_39 fX5_39 (fun q h => by cases h; rfl) rfl rfl sh1 rfl ?_
  refine z_aload_n dX5_read_42 rfl ?_
  refine z_iconst (v := 0) dX5_read_43 rfl ?_
  refine m_puti dX5_read_44 fX5_42 (fun q h => by cases h; rfl) rfl rfl sh1 rfl ?_
  refine z_iconst (v := 0) dX5_read_47 rfl ?_
  refine z_istore_n (i := 1) (fun y => [(1, .int y), (0, .ref 1)]) dX5_read_48 rfl rfl (fun _ => rfl) (fun x9 e9 => ?_)
  subst e9
  have e0 := hL1 0 (Nat.zero_le _)
  rw [show mC (gIt T L (gR0 μ, gS0 μ) 0).1 (gIt T L (gR0 μ, gS0 μ) 0).2 = up2 (up2 (up2 (gR0 μ) 1 5 0) 1 6 (-1)) 1 7 0 from gR0_mem.symm] at e0
  exact e0
