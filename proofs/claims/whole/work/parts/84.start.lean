set_option maxRecDepth 100000 in
set_option maxHeartbeats 4000000 in
theorem d_lawAll {l : Launch} {G : zG} (hL : zgL G ≤ 256) : AW l G mL_law 0 [(0, .retAddr 1)] [] [] 0 0 (fun r _ => r = 1) := by
  refine z_new (ci := 9) dL_law_0 rfl llaw_7 wIns_X9 wIni_X9 (zfs9 G) rfl rfl ?_
  refine z_dup dL_law_3 rfl ?_
  refine z_callI (As := []) (b := 0) (st := [.ref 0]) dL_law_4 klaw_9 ⟨rfl, rfl⟩ rfl rfl rfl rfl rfl (b_X9_init (pre := []) (n := 0) rfl) (fun w' hw' => ?_)
  obtain rfl : w' = zWA := hw'
  refine z_astore_n (i := 1) (lv' := [(1, .ref 0), (0, .retAddr 1)]) dL_law_7 rfl rfl rfl ?_
  refine z_new (ci := 10) dL_law_8 rfl llaw_10 wIns_X10 wIni_X10 (zfs10 G) rfl rfl ?_
  refine z_dup dL_law_11 rfl ?_
  refine z_callI (As := []) (b := 66) (st := [.ref 66]) dL_law_12 klaw_12 ⟨rfl, rfl⟩ rfl rfl rfl rfl rfl (b_X10_init (pre := zWA) (n := 66) rfl) (fun w' hw' => ?_)
  obtain rfl : w' = zWA ++ zWB := hw'
  refine z_astore_n (i := 2) (lv' := [(2, .ref 66), (1, .ref 0), (0, .retAddr 1)]) dL_law_15 rfl rfl rfl ?_
  refine z_iconst (v := 0) dL_law_16 rfl ?_
  refine z_istore_n (i := 3) (fun y => [(3, .int y), (2, .ref 66), (1, .ref 0), (0, .retAddr 1)]) dL_law_17 rfl rfl (fun _ => rfl) (fun x9 e9 => ?_)
  subst e9
  rw [zW_first]
  exact d_law hL 65 0 zM0 zN0 0 zRel_first (by decide) (by omega)
theorem zNestIn : znl.all (fun q => decide (Cond.methodLinkNest q.1 q.2.1 q.2.2.1 q.2.2.2 ∈ lw_tbl)) = true := by decide +kernel
theorem zMemA {w : Cond} {i : Nat} (h : tables_1[i]? = some w) : w ∈ lw_tbl := List.mem_append_right _ (List.mem_of_getElem? h)
theorem zArrP {s : State} {args : Array Value} {ty : FieldType} (h : (Cond.arrayClass ty).before args s = true) : ∃ cA, ArrOfT s cA ty ∧ s.vm.findClass ("[" ++ ty.toString) = some cA := by
  obtain ⟨cA, kA, comp, h1, h2, h3⟩ := Cond.arrayClass_spec h
  exact ⟨cA, fun n z => ⟨fun k h => (by cases h), kA, h2, comp, h3⟩, h1⟩
theorem zArrO {s : State} {args : Array Value} {C : String} (h : (Cond.arrayOver (.object C)).before args s = true) : ∃ cA, ArrOfT s cA (.object C) ∧ va_RA s cA (.object C) := by
  obtain ⟨comp, cA, kA, h1, h2, h3, h4, h5⟩ := Cond.arrayOver_spec h
  exact ⟨cA, fun n z => ⟨fun k h => (by cases h), kA, h3, comp, h4⟩, kA, comp, h3, h4, h1, h5⟩
set_option maxRecDepth 100000 in
theorem zEnv_at {s : State} {b L : Nat} {xs : Nat → Int32} (hts : ∀ w ∈ lw_tbl, w.before #[Value.ref b] s = true) (hX : va_X b L xs s s.heap) (hbl : b < s.heap.size) (hgv : (Jvm.Cond.and given_1 narrow_1).before #[Value.ref b] s = true) : ∃ G : zG, zga G = s.heap.size ∧ zgb G = b ∧ zgL G = L ∧ zEnv G s := by
  have hz : ∀ w ∈ zT, w.before #[Value.ref b] s = true := fun w hw => hts w (List.mem_filter.mp hw).1
  have hs := flat_of_before _ hgv
  obtain ⟨c0, i0, k0⟩ := u_known hz (zlay (ci := 0) rfl) (hz _ wIns_X0)
  obtain ⟨c1, i1, k1⟩ := u_known hz (zlay (ci := 1) rfl) (hz _ wIns_X1)
  obtain ⟨c2, i2, k2⟩ := u_known hz (zlay (ci := 2) rfl) (hz _ wIns_X2)
  obtain ⟨c3, i3, k3⟩ := u_known hz (zlay (ci := 3) rfl) (hz _ wIns_X3)
  obtain ⟨c4, i4, k4⟩ := u_known hz (zlay (ci := 4) rfl) (hz _ wIns_X4)
  obtain ⟨c5, i5, k5⟩ := u_known hz (zlay (ci := 5) rfl) (hz _ wIns_X5)
  obtain ⟨c6, i6, k6⟩ := u_known hz (zlay (ci := 6) rfl) (hz _ wIns_X6)
  obtain ⟨c7, i7, k7⟩ := u_known hz (zlay (ci := 7) rfl) (hz _ wIns_X7)
  obtain ⟨c8, i8, k8⟩ := u_known hz (zlay (ci := 8) rfl) (hz _ wIns_X8)
  obtain ⟨c9, i9, k9⟩ := u_known hz (zlay (ci := 9) rfl) (hz _ wIns_X9)
  obtain ⟨c10, i10, k10⟩ := u_known hz (zlay (ci := 10) rfl) (hz _ wIns_X10)
  obtain ⟨t0, a0, r0⟩ := zArrP (hts (Cond.arrayClass .int) (zMemA (i := 90) (by decide +kernel)))
  obtain ⟨t1, a1, r1⟩ := zArrP (hts (Cond.arrayClass .boolean) (zMemA (i := 969) (by decide +kernel)))
  obtain ⟨t2, a2, r2⟩ := zArrO (C := RX2) (hts (Cond.arrayOver (.object RX2)) (zMemA (i := 330) (by decide +kernel)))
  obtain ⟨t3, a3, r3⟩ := zArrO (C := RX3) (hts (Cond.arrayOver (.object RX3)) (zMemA (i := 186) (by decide +kernel)))
  obtain ⟨t4, a4, r4⟩ := zArrO (C := RX7) (hts (Cond.arrayOver (.object RX7)) (zMemA (i := 184) (by decide +kernel)))
  have hA : ∀ a : Nat, a < s.heap.size → ¬ (fun q : Nat => s.heap.size ≤ q) a := fun a h => Nat.not_le.mpr h
  obtain ⟨o, ho, hO⟩ := va_Tof (args := #[Value.ref b]) (s := s) (tm := .static RX6 "ORDERS" "[I") (ty := .int) (N := 7) (f := fun j => .int (zord j)) (A := fun q : Nat => s.heap.size ≤ q) (by decide) (hs _ (by decide +kernel)) (va_eqt (hs (Cond.eq (.length (.static RX6 "ORDERS" "[I")) (.int 7)) (by decide +kernel))) (fun j hj => by
    rcases (show j = 0 ∨ j = 1 ∨ j = 2 ∨ j = 3 ∨ j = 4 ∨ j = 5 ∨ j = 6 by omega) with rfl | rfl | rfl | rfl | rfl | rfl | rfl
    · exact va_eqt (hs (Cond.eq (.elem (.static RX6 "ORDERS" "[I") (.int 0)) (.int 1)) (by decide +kernel))
    · exact va_eqt (hs (Cond.eq (.elem (.static RX6 "ORDERS" "[I") (.int 1)) (.int 1)) (by decide +kernel))
    · exact va_eqt (hs (Cond.eq (.elem (.static RX6 "ORDERS" "[I") (.int 2)) (.int 2)) (by decide +kernel))
    · exact va_eqt (hs (Cond.eq (.elem (.static RX6 "ORDERS" "[I") (.int 3)) (.int 6)) (by decide +kernel))
    · exact va_eqt (hs (Cond.eq (.elem (.static RX6 "ORDERS" "[I") (.int 4)) (.int 24)) (by decide +kernel))
    · exact va_eqt (hs (Cond.eq (.elem (.static RX6 "ORDERS" "[I") (.int 5)) (.int 120)) (by decide +kernel))
    · exact va_eqt (hs (Cond.eq (.elem (.static RX6 "ORDERS" "[I") (.int 6)) (.int 720)) (by decide +kernel))) hA
  have hZ := va_Zref (args := #[Value.ref b]) (s := s) (C := RX6) (n := "ORDERS") (d := "[I") (A := fun q : Nat => s.heap.size ≤ q) (hts (Cond.laysStatic RX6 "ORDERS" "[I") (zMemA (i := 729) (by decide +kernel))) (hz _ wIni_X6) ho hA
  refine ⟨(s.heap.size, (fun k => if k = 0 then c0 else if k = 1 then c1 else if k = 2 then c2 else if k = 3 then c3 else if k = 4 then c4 else if k = 5 then c5 else if k = 6 then c6 else if k = 7 then c7 else if k = 8 then c8 else if k = 9 then c9 else c10), (fun k => if k = 0 then i0 else if k = 1 then i1 else if k = 2 then i2 else if k = 3 then i3 else if k = 4 then i4 else if k = 5 then i5 else if k = 6 then i6 else if k = 7 then i7 else if k = 8 then i8 else if k = 9 then i9 else i10), (fun k => if k = 0 then t0 else if k = 1 then t1 else if k = 2 then t2 else if k = 3 then t3 else t4), o, b, L, xs), rfl, rfl, rfl, ⟨?_, ?_⟩, hZ, hO, hX, hbl, ?_, ⟨?_, ?_, ?_⟩⟩
  · intro k q hq
    match k, hq with
    | 0, hq => cases hq; exact k0
    | 1, hq => cases hq; exact k1
    | 2, hq => cases hq; exact k2
    | 3, hq => cases hq; exact k3
    | 4, hq => cases hq; exact k4
    | 5, hq => cases hq; exact k5
    | 6, hq => cases hq; exact k6
    | 7, hq => cases hq; exact k7
    | 8, hq => cases hq; exact k8
    | 9, hq => cases hq; exact k9
    | 10, hq => cases hq; exact k10
    | k + 11, hq => exact absurd hq (by simp [zcl])
  · intro k q hq
    match k, hq with
    | 0, hq => cases hq; exact ⟨a0, r0⟩
    | 1, hq => cases hq; exact ⟨a1, r1⟩
    | 2, hq => cases hq; exact ⟨a2, r2⟩
    | 3, hq => cases hq; exact ⟨a3, r3⟩
    | 4, hq => cases hq; exact ⟨a4, r4⟩
    | k + 5, hq => exact absurd hq (by simp [ztys])
  · intro q hq
    exact va_Nw.of rfl (hts _ (List.all_eq_true.mp zNestIn q hq |> of_decide_eq_true))
  · exact va_AO.of (hts (Cond.arrayOver (.object RX2)) (zMemA (i := 330) (by decide +kernel)))
  · exact va_AO.of (hts (Cond.arrayOver (.object RX3)) (zMemA (i := 186) (by decide +kernel)))
  · exact va_AO.of (hts (Cond.arrayOver (.object RX7)) (zMemA (i := 184) (by decide +kernel)))
