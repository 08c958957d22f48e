
def zD (s : Nat) : Nat := (s * 1103515245 + 12345) % 2147483648
def zDs (s : Nat) : Nat → Nat
  | 0 => s
  | i + 1 => zD (zDs s i)
def zDv (s m : Nat) : Int32 := nI (s / 65536 % m)
theorem zD_lt (s : Nat) : zD s < 2 ^ 31 := Nat.mod_lt _ (by decide)
theorem zDs_lt {s : Nat} (h : s < 2 ^ 31) : ∀ i, zDs s i < 2 ^ 31
  | 0 => h
  | i + 1 => zD_lt _
theorem va_up2 {α : Type} (f : Nat → α) (k : Nat) (a b : α) : va_up (va_up f k a) k b = va_up f k b := by
  funext j
  unfold va_up
  split
  · rfl
  · rfl
theorem va_same {α : Type} {f : Nat → α} {k : Nat} {a : α} (h : f k = a) : va_up f k a = f := by
  funext j
  unfold va_up
  split
  · rename_i e; rw [e, h]
  · rfl
theorem m_forN {l : Launch} {G : zG} {M : zM} {pc : Nat} {K : Int32 → Mem → Lng → Prop} {N : Nat} (lv' : Nat → List (Nat × Value)) (μ' : Nat → Mem) (ν' : Nat → Lng) (hstep : ∀ i, i < N → Am l G M pc (lv' (i + 1)) [] (μ' (i + 1)) (ν' (i + 1)) K → Am l G M pc (lv' i) [] (μ' i) (ν' i) K) (hend : Am l G M pc (lv' N) [] (μ' N) (ν' N) K) : ∀ i, i ≤ N → Am l G M pc (lv' i) [] (μ' i) (ν' i) K := by
  have h : ∀ d i, i + d = N → Am l G M pc (lv' i) [] (μ' i) (ν' i) K := by
    intro d
    induction d with
    | zero => intro i hi; rw [Nat.add_zero] at hi; subst hi; exact hend
    | succ d ih => intro i hi; exact hstep i (by omega) (ih (i + 1) (by omega))
  intro i hi
  exact h (N - i) i (by omega)
set_option maxRecDepth 100000 in
set_option maxHeartbeats 400000 in
theorem c_draw200 {l : Launch} {G : zG} {μ : Mem} {ν : Lng} {s : Nat} (hs : ν 0 = lN s) (hb : s < 2 ^ 31)  : Cm l G mX9_drawOf [.ref 0, .int (200 : Int32)] μ ν (fun a9 b9 c9 => zDv (zD s) 200 = a9 ∧ μ = b9 ∧ va_up ν 0 (lN (zD s)) = c9) := by
  refine Con.of (by decide) (Nat.le_of_ble_eq_true rfl) ?_
  show Am l G mX9_drawOf 0 [(0, .ref 0), (1, .int (200 : Int32))] [] μ ν _
  refine z_aload_n dX9_drawOf_0 rfl ?_
  refine z_aload_n dX9_drawOf_1 rfl ?_
  refine m_getl dX9_drawOf_2 fX9_65 sh0 rfl ?_
  rw [hs]
  refine z_ldc2 dX9_drawOf_5 cX9_186 ?_
  refine z_lmul dX9_drawOf_8 ?_
  rw [show (lN s * (1103515245)) = lN (s * 1103515245) from lN_mul s 1103515245]
  refine z_ldc2 dX9_drawOf_9 cX9_188 ?_
  refine z_ladd dX9_drawOf_12 ?_
  rw [show (lN (s * 1103515245) + (12345)) = lN (s * 1103515245 + 12345) from lN_add _ 12345]
  refine z_ldc2 dX9_drawOf_13 cX9_190 ?_
  refine z_lrem dX9_drawOf_16 (by decide) ?_
  rw [show (lN (s * 1103515245 + 12345) - lN (s * 1103515245 + 12345) / (2147483648) * (2147483648)) = lN (zD s) from pk_lRem (by omega) (by decide) (by decide)]
  refine m_putl dX9_drawOf_17 fX9_65 (fun q h => by cases h; rfl) rfl sh0 rfl zl0a zl0b ?_
  refine z_iload_n dX9_drawOf_20 rfl ?_
  refine z_iconst (v := 1) dX9_drawOf_21 rfl ?_
  refine z_icmp_ge 29 dX9_drawOf_22 (by decide) (fun h22 => ?_) (fun h22 => absurd (by decide) h22)
  refine z_aload_n dX9_drawOf_29 rfl ?_
  refine m_getl dX9_drawOf_30 fX9_65 sh0 rfl ?_
  rw [va_up_self]
  refine z_ldc2 dX9_drawOf_33 cX9_192 ?_
  refine z_ldiv dX9_drawOf_36 (by decide) ?_
  rw [show (lN (zD s) / (65536)) = lN (zD s / 65536) from pk_lDiv (by have := zD_lt s; omega) (by decide) (by decide)]
  refine z_iload_n dX9_drawOf_37 rfl ?_
  refine z_i2l dX9_drawOf_38 ?_
  rw [show ((200 : Int32)).toInt64 = lN 200 from zI2L (s := 200) (by decide)]
  refine z_lrem dX9_drawOf_39 (by decide) ?_
  rw [show (lN (zD s / 65536) - lN (zD s / 65536) / lN 200 * lN 200) = lN (zD s / 65536 % 200) from pk_lRem (by have := zD_lt s; omega) (by decide) (by decide)]
  refine z_l2i dX9_drawOf_40 ?_
  rw [show (lN (zD s / 65536 % 200)).toInt32 = zDv (zD s) 200 from zL2I (by have := zD_lt s; omega)]
  refine m_iret dX9_drawOf_41 rfl rfl ?_
  exact ⟨rfl, rfl, rfl⟩
set_option maxRecDepth 100000 in
set_option maxHeartbeats 400000 in
theorem d_draw200 {l : Launch} {G : zG} {μ : Mem} {ν : Lng} {s : Nat} (hs : μ 75 20 = nI s) (hb : s < 2 ^ 31)  : Cm l G mX10_draw [.ref 66, .int 200] μ ν (fun a9 b9 c9 => zDv (zD s) 200 = a9 ∧ up2 μ 75 20 (nI (zD s)) = b9 ∧ ν = c9) := by
  refine Con.of (by decide) (Nat.le_of_ble_eq_true rfl) ?_
  show Am l G mX10_draw 0 [(0, .ref 66), (1, .int 200)] [] μ ν _
  refine z_aload_n dX10_draw_0 rfl ?_
  refine m_getr dX10_draw_1 fX10_38 sh66 rfl ?_
  refine z_bipush (v := 20) dX10_draw_4 rfl ?_
  refine m_ialdN (j := 20) dX10_draw_6 sh75 (by decide) (by decide) rfl ?_
  rw [hs]
  refine z_i2l dX10_draw_7 ?_
  rw [show (nI s).toInt64 = lN s from zI2L hb]
  refine z_ldc2 dX10_draw_8 cX10_234 ?_
  refine z_lmul dX10_draw_11 ?_
  rw [show (lN s * (1103515245)) = lN (s * 1103515245) from lN_mul s 1103515245]
  refine z_ldc2 dX10_draw_12 cX10_236 ?_
  refine z_ladd dX10_draw_15 ?_
  rw [show (lN (s * 1103515245) + (12345)) = lN (s * 1103515245 + 12345) from lN_add _ 12345]
  refine z_ldc2 dX10_draw_16 cX10_238 ?_
  refine z_lrem dX10_draw_19 (by decide) ?_
  rw [show (lN (s * 1103515245 + 12345) - lN (s * 1103515245 + 12345) / (2147483648) * (2147483648)) = lN (zD s) from pk_lRem (by omega) (by decide) (by decide)]
  refine z_lstore_n (i := 2) (fun y => [(2, .long y), (0, .ref 66), (1, .int 200)]) dX10_draw_20 rfl rfl (fun _ => rfl) (fun x9 e9 => ?_)
  subst e9
  refine z_aload_n dX10_draw_21 rfl ?_
  refine m_getr dX10_draw_22 fX10_38 sh66 rfl ?_
  refine z_bipush (v := 20) dX10_draw_25 rfl ?_
  refine z_lload_n dX10_draw_27 rfl ?_
  refine z_l2i dX10_draw_28 ?_
  rw [show (lN (zD s)).toInt32 = nI (zD s) from zL2I (zD_lt s)]
  refine m_iastN (j := 20) dX10_draw_29 sh75 (by decide) (by decide) rfl ?_
  refine z_aload_n dX10_draw_30 rfl ?_
  refine m_getr dX10_draw_31 fX10_38 sh66 rfl ?_
  refine z_bipush (v := 20) dX10_draw_34 rfl ?_
  refine m_ialdN (j := 20) dX10_draw_36 sh75 (by decide) (by decide) rfl ?_
  rw [up2_same]
  refine z_ldc dX10_draw_37 cX10_240 ?_
  refine z_idiv dX10_draw_39 (by decide) ?_
  rw [show (nI (zD s) / (65536)) = nI (zD s / 65536) from pk_div (by have := zD_lt s; omega) (by decide) (by decide)]
  refine z_iload_n dX10_draw_40 rfl ?_
  refine z_irem dX10_draw_41 (by decide) ?_
  rw [show (nI (zD s / 65536) - nI (zD s / 65536) / 200 * 200) = zDv (zD s) 200 from pk_rem (by have := zD_lt s; omega) (by decide) (by decide)]
  refine m_iret dX10_draw_42 rfl rfl ?_
  exact ⟨rfl, rfl, rfl⟩
set_option maxRecDepth 100000 in
set_option maxHeartbeats 400000 in
theorem c_draw4 {l : Launch} {G : zG} {μ : Mem} {ν : Lng} {s : Nat} (hs : ν 0 = lN s) (hb : s < 2 ^ 31)  : Cm l G mX9_drawOf [.ref 0, .int (4 : Int32)] μ ν (fun a9 b9 c9 => zDv (zD s) 4 = a9 ∧ μ = b9 ∧ va_up ν 0 (lN (zD s)) = c9) := by
  refine Con.of (by decide) (Nat.le_of_ble_eq_true rfl) ?_
  show Am l G mX9_drawOf 0 [(0, .ref 0), (1, .int (4 : Int32))] [] μ ν _
  refine z_aload_n dX9_drawOf_0 rfl ?_
  refine z_aload_n dX9_drawOf_1 rfl ?_
  refine m_getl dX9_drawOf_2 fX9_65 sh0 rfl ?_
  rw [hs]
  refine z_ldc2 dX9_drawOf_5 cX9_186 ?_
  refine z_lmul dX9_drawOf_8 ?_
  rw [show (lN s * (1103515245)) = lN (s * 1103515245) from lN_mul s 1103515245]
  refine z_ldc2 dX9_drawOf_9 cX9_188 ?_
  refine z_ladd dX9_drawOf_12 ?_
  rw [show (lN (s * 1103515245) + (12345)) = lN (s * 1103515245 + 12345) from lN_add _ 12345]
  refine z_ldc2 dX9_drawOf_13 cX9_190 ?_
  refine z_lrem dX9_drawOf_16 (by decide) ?_
  rw [show (lN (s * 1103515245 + 12345) - lN (s * 1103515245 + 12345) / (2147483648) * (2147483648)) = lN (zD s) from pk_lRem (by omega) (by decide) (by decide)]
  refine m_putl dX9_drawOf_17 fX9_65 (fun q h => by cases h; rfl) rfl sh0 rfl zl0a zl0b ?_
  refine z_iload_n dX9_drawOf_20 rfl ?_
  refine z_iconst (v := 1) dX9_drawOf_21 rfl ?_
  refine z_icmp_ge 29 dX9_drawOf_22 (by decide) (fun h22 => ?_) (fun h22 => absurd (by decide) h22)
  refine z_aload_n dX9_drawOf_29 rfl ?_
  refine m_getl dX9_drawOf_30 fX9_65 sh0 rfl ?_
  rw [va_up_self]
  refine z_ldc2 dX9_drawOf_33 cX9_192 ?_
  refine z_ldiv dX9_drawOf_36 (by decide) ?_
  rw [show (lN (zD s) / (65536)) = lN (zD s / 65536) from pk_lDiv (by have := zD_lt s; omega) (by decide) (by decide)]
  refine z_iload_n dX9_drawOf_37 rfl ?_
  refine z_i2l dX9_drawOf_38 ?_
  rw [show ((4 : Int32)).toInt64 = lN 4 from zI2L (s := 4) (by decide)]
  refine z_lrem dX9_drawOf_39 (by decide) ?_
  rw [show (lN (zD s / 65536) - lN (zD s / 65536) / lN 4 * lN 4) = lN (zD s / 65536 % 4) from pk_lRem (by have := zD_lt s; omega) (by decide) (by decide)]
  refine z_l2i dX9_drawOf_40 ?_
  rw [show (lN (zD s / 65536 % 4)).toInt32 = zDv (zD s) 4 from zL2I (by have := zD_lt s; omega)]
  refine m_iret dX9_drawOf_41 rfl rfl ?_
  exact ⟨rfl, rfl, rfl⟩
set_option maxRecDepth 100000 in
set_option maxHeartbeats 400000 in
theorem d_draw4 {l : Launch} {G : zG} {μ : Mem} {ν : Lng} {s : Nat} (hs : μ 75 20 = nI s) (hb : s < 2 ^ 31)  : Cm l G mX10_draw [.ref 66, .int 4] μ ν (fun a9 b9 c9 => zDv (zD s) 4 = a9 ∧ up2 μ 75 20 (nI (zD s)) = b9 ∧ ν = c9) := by
  refine Con.of (by decide) (Nat.le_of_ble_eq_true rfl) ?_
  show Am l G mX10_draw 0 [(0, .ref 66), (1, .int 4)] [] μ ν _
  refine z_aload_n dX10_draw_0 rfl ?_
  refine m_getr dX10_draw_1 fX10_38 sh66 rfl ?_
  refine z_bipush (v := 20) dX10_draw_4 rfl ?_
  refine m_ialdN (j := 20) dX10_draw_6 sh75 (by decide) (by decide) rfl ?_
  rw [hs]
  refine z_i2l dX10_draw_7 ?_
  rw [show (nI s).toInt64 = lN s from zI2L hb]
  refine z_ldc2 dX10_draw_8 cX10_234 ?_
  refine z_lmul dX10_draw_11 ?_
  rw [show (lN s * (1103515245)) = lN (s * 1103515245) from lN_mul s 1103515245]
  refine z_ldc2 dX10_draw_12 cX10_236 ?_
  refine z_ladd dX10_draw_15 ?_
  rw [show (lN (s * 1103515245) + (12345)) = lN (s * 1103515245 + 12345) from lN_add _ 12345]
  refine z_ldc2 dX10_draw_16 cX10_238 ?_
  refine z_lrem dX10_draw_19 (by decide) ?_
  rw [show (lN (s * 1103515245 + 12345) - lN (s * 1103515245 + 12345) / (2147483648) * (2147483648)) = lN (zD s) from pk_lRem (by omega) (by decide) (by decide)]
  refine z_lstore_n (i := 2) (fun y => [(2, .long y), (0, .ref 66), (1, .int 4)]) dX10_draw_20 rfl rfl (fun _ => rfl) (fun x9 e9 => ?_)
  subst e9
  refine z_aload_n dX10_draw_21 rfl ?_
  refine m_getr dX10_draw_22 fX10_38 sh66 rfl ?_
  refine z_bipush (v := 20) dX10_draw_25 rfl ?_
  refine z_lload_n dX10_draw_27 rfl ?_
  refine z_l2i dX10_draw_28 ?_
  rw [show (lN (zD s)).toInt32 = nI (zD s) from zL2I (zD_lt s)]
  refine m_iastN (j := 20) dX10_draw_29 sh75 (by decide) (by decide) rfl ?_
  refine z_aload_n dX10_draw_30 rfl ?_
  refine m_getr dX10_draw_31 fX10_38 sh66 rfl ?_
  refine z_bipush (v := 20) dX10_draw_34 rfl ?_
  refine m_ialdN (j := 20) dX10_draw_36 sh75 (by decide) (by decide) rfl ?_
  rw [up2_same]
  refine z_ldc dX10_draw_37 cX10_240 ?_
  refine z_idiv dX10_draw_39 (by decide) ?_
  rw [show (nI (zD s) / (65536)) = nI (zD s / 65536) from pk_div (by have := zD_lt s; omega) (by decide) (by decide)]
  refine z_iload_n dX10_draw_40 rfl ?_
  refine z_irem dX10_draw_41 (by decide) ?_
  rw [show (nI (zD s / 65536) - nI (zD s / 65536) / 4 * 4) = zDv (zD s) 4 from pk_rem (by have := zD_lt s; omega) (by decide) (by decide)]
  refine m_iret dX10_draw_42 rfl rfl ?_
  exact ⟨rfl, rfl, rfl⟩

/-- class: the comings of a round -/
def fDi (μ : Mem) (s : Nat) : Nat → Mem
  | 0 => μ
  | i + 1 => up2 (fDi μ s i) 23 i (zDv (zDs s (i + 1)) 200)
def fDg (μ : Mem) (s n : Nat) : Mem := if zDv (zDs s (n + 1)) 4 = 0 then up2 (fDi μ s n) 22 3 (1 - fDi μ s n 22 3) else fDi μ s n
def zDk (s n : Nat) : Nat → Nat
  | 0 => s
  | k + 1 => zDs (zDk s n k) (n + 1)
def fDo (μ : Mem) (s n : Nat) : Nat → Mem
  | 0 => μ
  | k + 1 => gRun (fDg (fDo μ s n k) (zDk s n k) n) 22 n
def fDc (μ : Mem) (s n : Nat) : Nat → Int32
  | 0 => 0
  | k + 1 => fDc μ s n k + fCost (gRun (fDg (fDo μ s n k) (zDk s n k) n) 22 n) n
def rDi (μ : Mem) (s : Nat) : Nat → Mem
  | 0 => μ
  | i + 1 => up2 (up2 (rDi μ s i) 75 20 (nI (zDs s (i + 1)))) 75 i (zDv (zDs s (i + 1)) 200)
def rDg (μ : Mem) (s n : Nat) : Mem :=
  let M := up2 (rDi μ s n) 75 20 (nI (zDs s (n + 1)))
  up2 M 75 18 (if zDv (zDs s (n + 1)) 4 = 0 then 1 - M 75 18 else M 75 18)
def rDo (μ : Mem) (s n : Nat) : Nat → Mem
  | 0 => μ
  | k + 1 => rNow (rDg (rDo μ s n k) (zDk s n k) n) n
def rDc (μ : Mem) (s n : Nat) : Nat → Int32
  | 0 => 0
  | k + 1 => rDc μ s n k + rCost (rNow (rDg (rDo μ s n k) (zDk s n k) n) n)
theorem zDk_lt {s n : Nat} (h : s < 2 ^ 31) : ∀ k, zDk s n k < 2 ^ 31
  | 0 => h
  | k + 1 => zDs_lt (zDk_lt h k) _
theorem fDi_ne {μ : Mem} {s q : Nat} (hq : q ≠ 23) : ∀ i, fDi μ s i q = μ q
  | 0 => rfl
  | i + 1 => by rw [fDi, up2_ne hq, fDi_ne hq i]
theorem fDg_ne {μ : Mem} {s n q : Nat} (h1 : q ≠ 22) (h2 : q ≠ 23) : fDg μ s n q = μ q := by
  unfold fDg
  split
  · rw [up2_ne h1, fDi_ne h2]
  · exact fDi_ne h2 n
theorem fDo_ne {μ : Mem} {s n q : Nat} (h6 : n ≤ 6) (hs : zSides μ n) (h : q < 22 ∨ 43 < q) : ∀ k, fDo μ s n k q = μ q ∧ zSides (fDo μ s n k) n
  | 0 => ⟨rfl, hs⟩
  | k + 1 => by
    obtain ⟨e1, e2⟩ := fDo_ne (q := q) h6 hs h k
    have e3 : zSides (fDg (fDo μ s n k) (zDk s n k) n) n := fun w hw => by rw [fDg_ne (by decide) (by decide)]; exact e2 w hw
    refine ⟨by rw [fDo, gRun_ne h6 e3 (by omega), fDg_ne (by omega) (by omega), e1], fun w hw => ?_⟩
    rw [fDo, gRun_ne h6 e3 (by omega)]
    exact e3 w hw
theorem rDi_ne {μ : Mem} {s q : Nat} (hq : q ≠ 75) : ∀ i, rDi μ s i q = μ q
  | 0 => rfl
  | i + 1 => by rw [rDi, up2_ne hq, up2_ne hq, rDi_ne hq i]
theorem rDg_ne {μ : Mem} {s n q : Nat} (hq : q ≠ 75) : rDg μ s n q = μ q := by
  unfold rDg
  rw [up2_ne hq, up2_ne hq, rDi_ne hq]
theorem rDi_20 {μ : Mem} {s : Nat} (h : μ 75 20 = nI s) : ∀ i, i ≤ 6 → rDi μ s i 75 20 = nI (zDs s i)
  | 0, _ => h
  | i + 1, hi => by rw [rDi, up2_row, if_neg (by omega), up2_same]
set_option maxRecDepth 100000 in
set_option maxHeartbeats 400000 in
theorem c_drift_o {l : Launch} {G : zG} {μ : Mem} {ν : Lng} {v : Int32} (hv : v < 1 ∨ 99 < v)  : Cm l G mX9_drift [.ref 0, .int v] μ ν (fun a9 b9 c9 => (-1000000002) = a9 ∧ μ = b9 ∧ ν = c9) := by
  refine Con.of (by decide) (Nat.le_of_ble_eq_true rfl) ?_
  show Am l G mX9_drift 0 [(0, .ref 0), (1, .int v)] [] μ ν _
  refine z_iload_n dX9_drift_0 rfl ?_
  refine z_iconst (v := 1) dX9_drift_1 rfl ?_
  refine z_icmp_lt 11 dX9_drift_2 (by decide) (fun h2 => ?_) (fun h2 => ?_)
  · skip
    refine z_ldc dX9_drift_11 cX9_73 ?_
    refine m_iret dX9_drift_13 rfl rfl ?_
    exact ⟨rfl, rfl, rfl⟩
  · skip
    refine z_iload_n dX9_drift_5 rfl ?_
    refine z_bipush (v := 99) dX9_drift_6 rfl ?_
    refine z_icmp_le 14 dX9_drift_8 (by decide) (fun h8 => (zbad hv h2 h8).elim) (fun h8 => ?_)
    refine z_ldc dX9_drift_11 cX9_73 ?_
    refine m_iret dX9_drift_13 rfl rfl ?_
    exact ⟨rfl, rfl, rfl⟩
set_option maxRecDepth 100000 in
set_option maxHeartbeats 400000 in
theorem c_drift_n {l : Launch} {G : zG} {μ : Mem} {ν : Lng} (h0 : μ 15 6 = 0) {v : Nat} (hv1 : 1 ≤ v) (hv2 : v ≤ 99)  : Cm l G mX9_drift [.ref 0, .int (nI v)] μ ν (fun a9 b9 c9 => (-1000000003) = a9 ∧ μ = b9 ∧ ν = c9) := by
  refine Con.of (by decide) (Nat.le_of_ble_eq_true rfl) ?_
  show Am l G mX9_drift 0 [(0, .ref 0), (1, .int (nI v))] [] μ ν _
  refine z_iload_n dX9_drift_0 rfl ?_
  refine z_iconst (v := 1) dX9_drift_1 rfl ?_
  refine z_icmp_lt 11 dX9_drift_2 (by decide) (fun h2 => absurd h2 (nI_nlt (a := v) (b := 1) (by omega) (by omega))) (fun h2 => ?_)
  refine z_iload_n dX9_drift_5 rfl ?_
  refine z_bipush (v := 99) dX9_drift_6 rfl ?_
  refine z_icmp_le 14 dX9_drift_8 (by decide) (fun h8 => ?_) (fun h8 => absurd (nI_le (a := v) (b := 99) (by omega) (by omega)) h8)
  refine z_aload_n dX9_drift_14 rfl ?_
  refine m_getr dX9_drift_15 fX9_19 sh0 rfl ?_
  refine m_geti dX9_drift_18 fX9_101 sh15 rfl ?_
  refine z_if_ne 27 dX9_drift_21 (by decide) (fun h21 => absurd h0 h21) (fun h21 => ?_)
  refine z_ldc dX9_drift_24 cX9_182 ?_
  refine m_iret dX9_drift_26 rfl rfl ?_
  exact ⟨rfl, rfl, rfl⟩
set_option maxRecDepth 100000 in
set_option maxHeartbeats 400000 in
theorem c_drift {l : Launch} {G : zG} {μ : Mem} {ν : Lng} {n : Nat} (hn : μ 15 6 = nI n) (hz6 : n ≤ 6) (hsd : zSides μ n) {s : Nat} (hs : ν 0 = lN s) (hb : s < 2 ^ 31) (h0 : 0 < n) {v : Nat} (hv1 : 1 ≤ v) (hv2 : v ≤ 99)  : Cm l G mX9_drift [.ref 0, .int (nI v)] μ ν (fun a9 b9 c9 => fDc μ s n v = a9 ∧ fDo μ s n v = b9 ∧ va_up ν 0 (lN (zDk s n v)) = c9) := by
  refine Con.of (by decide) (Nat.le_of_ble_eq_true rfl) ?_
  show Am l G mX9_drift 0 [(0, .ref 0), (1, .int (nI v))] [] μ ν _
  have g1 : ∀ k, fDo μ s n k 15 6 = nI n := fun k => by rw [(fDo_ne hz6 hsd (by omega) k).1]; exact hn
  have g2 : ∀ k, zSides (fDo μ s n k) n := fun k => (fDo_ne (q := 0) hz6 hsd (by omega) k).2
  have hL := m_forN (l := l) (G := G) (M := mX9_drift) (pc := 31) (K := (fun a9 b9 c9 => fDc μ s n v = a9 ∧ fDo μ s n v = b9 ∧ va_up ν 0 (lN (zDk s n v)) = c9)) (N := v) (fun k => [(3, .int (nI k)), (2, .int (fDc μ s n k)), (0, .ref 0), (1, .int (nI v))]) (fun k => fDo μ s n k) (fun k => va_up ν 0 (lN (zDk s n k))) (fun k hk H0 => by
    have g3 : ∀ i, fDi (fDo μ s n k) (zDk s n k) i 15 6 = nI n := fun i => by rw [fDi_ne (by decide)]; exact g1 k
    have hI := m_forN (l := l) (G := G) (M := mX9_drift) (pc := 39) (K := (fun a9 b9 c9 => fDc μ s n v = a9 ∧ fDo μ s n v = b9 ∧ va_up ν 0 (lN (zDk s n v)) = c9)) (N := n) (fun i => [(4, .int (nI i)), (3, .int (nI k)), (2, .int (fDc μ s n k)), (0, .ref 0), (1, .int (nI v))]) (fun i => fDi (fDo μ s n k) (zDk s n k) i) (fun i => va_up ν 0 (lN (zDs (zDk s n k) i))) (fun i hi H => by
      refine z_iload dX9_drift_39 rfl ?_
      refine z_aload_n dX9_drift_41 rfl ?_
      refine m_getr dX9_drift_42 fX9_19 sh0 rfl ?_
      refine m_geti dX9_drift_45 fX9_101 sh15 rfl ?_
      refine z_icmp_ge 74 dX9_drift_48 (by decide) (fun h48 => absurd (g3 i ▸ h48) (nI_ge hi (by omega))) (fun h48 => ?_)
      refine z_aload_n dX9_drift_51 rfl ?_
      refine m_getr dX9_drift_52 fX9_26 sh0 rfl ?_
      refine m_getr dX9_drift_55 fX9_161 sh22 rfl ?_
      refine z_iload dX9_drift_58 rfl ?_
      refine z_aload_n dX9_drift_60 rfl ?_
      refine z_sipush (v := 200) dX9_drift_61 rfl ?_
      refine m_callV (As := [.int _]) dX9_drift_64 kX9_183 ⟨rfl, rfl⟩ rfl ⟨rfl, rfl⟩ rfl rfl sh0 rfl rfl (c_draw200 (s := zDs (zDk s n k) i) (va_up_self _ _ _) (zDs_lt (zDk_lt hb k) i)) (fun r64 μ64 ν64 hk64 => ?_)
      obtain ⟨rfl, rfl, rfl⟩ := hk64
      refine m_iastN (j := i) dX9_drift_67 sh23 rfl (by omega) rfl ?_
      refine z_iinc (fun y => [(4, .int y), (3, .int (nI k)), (2, .int (fDc μ s n k)), (0, .ref 0), (1, .int (nI v))]) dX9_drift_68 rfl rfl (fun _ => rfl) (fun x4_68 ex4_68 => ?_)
      obtain rfl : x4_68 = nI (i + 1) := by rw [ex4_68]; exact nI_1 i
      refine z_goto 39 dX9_drift_71 (by decide) ?_
      rw [va_up2]
      exact H) (by
      refine z_iload dX9_drift_39 rfl ?_
      refine z_aload_n dX9_drift_41 rfl ?_
      refine m_getr dX9_drift_42 fX9_19 sh0 rfl ?_
      refine m_geti dX9_drift_45 fX9_101 sh15 rfl ?_
      refine z_icmp_ge 74 dX9_drift_48 (by decide) (fun h48 => ?_) (fun h48 => absurd (g3 n ▸ nI_le (Nat.le_refl n) (by omega)) h48)
      refine z_aload_n dX9_drift_74 rfl ?_
      refine z_iconst (v := 4) dX9_drift_75 rfl ?_
      refine m_callV (As := [.int _]) dX9_drift_76 kX9_183 ⟨rfl, rfl⟩ rfl ⟨rfl, rfl⟩ rfl rfl sh0 rfl rfl (c_draw4 (s := zDs (zDk s n k) n) (va_up_self _ _ _) (zDs_lt (zDk_lt hb k) n)) (fun r76 μ76 ν76 hk76 => ?_)
      obtain ⟨rfl, rfl, rfl⟩ := hk76
      refine z_if_ne 98 dX9_drift_79 (by decide) (fun h79 => ?_) (fun h79 => ?_)
      · skip
        rw [va_up2]
        have eg : fDg (fDo μ s n k) (zDk s n k) n = _ := if_neg h79
        rw [← eg]
        have g4 : fDg (fDo μ s n k) (zDk s n k) n 15 6 = nI n := by rw [fDg_ne (by decide) (by decide)]; exact g1 k
        have g5 : zSides (fDg (fDo μ s n k) (zDk s n k) n) n := fun w hw => by rw [fDg_ne (by decide) (by decide)]; exact g2 k w hw
        have g6 : gRun (fDg (fDo μ s n k) (zDk s n k) n) 22 n 15 6 = nI n := by rw [gRun_ne hz6 g5 (by omega)]; exact g4
        refine z_aload_n dX9_drift_98 rfl ?_
        refine m_getr dX9_drift_99 fX9_35 sh0 rfl ?_
        refine z_aload_n dX9_drift_102 rfl ?_
        refine m_getr dX9_drift_103 fX9_26 sh0 rfl ?_
        refine m_callVv (As := [.ref _]) dX9_drift_106 kX9_113 ⟨rfl, rfl⟩ rfl ⟨rfl, rfl⟩ rfl rfl sh26 rfl rfl (c_run zPlan22 (by omega) g4 hz6 g5) (fun μ106 ν106 hk106 => ?_)
        obtain ⟨rfl, rfl⟩ := hk106
        refine z_iload_n dX9_drift_109 rfl ?_
        refine z_aload_n dX9_drift_110 rfl ?_
        refine m_getr dX9_drift_111 fX9_35 sh0 rfl ?_
        refine m_callV (As := []) dX9_drift_114 kX9_123 ⟨rfl, rfl⟩ rfl ⟨rfl, rfl⟩ rfl rfl sh26 rfl rfl (c_cost g6 hz6) (fun r114 μ114 ν114 hk114 => ?_)
        obtain ⟨rfl, rfl, rfl⟩ := hk114
        refine z_iadd dX9_drift_117 ?_
        refine z_istore_n (i := 2) (fun y => [(2, .int y), (4, .int (nI n)), (3, .int (nI k)), (0, .ref 0), (1, .int (nI v))]) dX9_drift_118 rfl rfl (fun _ => rfl) (fun x9 e9 => ?_)
        subst e9
        refine z_iinc (fun y => [(3, .int y), (2, .int (fDc μ s n k + (fCost (gRun (fDg (fDo μ s n k) (zDk s n k) n) 22 n) n))), (4, .int (nI n)), (0, .ref 0), (1, .int (nI v))]) dX9_drift_119 rfl rfl (fun _ => rfl) (fun x3_119 ex3_119 => ?_)
        obtain rfl : x3_119 = nI (k + 1) := by rw [ex3_119]; exact nI_1 k
        refine z_goto 31 dX9_drift_122 (by decide) ?_
        refine z_lv [0, 1, 3, 4] rfl ?_
        exact H0
      · skip
        refine z_aload_n dX9_drift_82 rfl ?_
        refine m_getr dX9_drift_83 fX9_26 sh0 rfl ?_
        refine z_iconst (v := 1) dX9_drift_86 rfl ?_
        refine z_aload_n dX9_drift_87 rfl ?_
        refine m_getr dX9_drift_88 fX9_26 sh0 rfl ?_
        refine m_geti dX9_drift_91 fX9_104 sh22 rfl ?_
        refine z_isub dX9_drift_94 ?_
        refine m_puti dX9_drift_95 fX9_104 (fun q h => by cases h; rfl) rfl rfl sh22 rfl ?_
        rw [va_up2]
        have eg : fDg (fDo μ s n k) (zDk s n k) n = _ := if_pos h79
        rw [← eg]
        have g4 : fDg (fDo μ s n k) (zDk s n k) n 15 6 = nI n := by rw [fDg_ne (by decide) (by decide)]; exact g1 k
        have g5 : zSides (fDg (fDo μ s n k) (zDk s n k) n) n := fun w hw => by rw [fDg_ne (by decide) (by decide)]; exact g2 k w hw
        have g6 : gRun (fDg (fDo μ s n k) (zDk s n k) n) 22 n 15 6 = nI n := by rw [gRun_ne hz6 g5 (by omega)]; exact g4
        refine z_aload_n dX9_drift_98 rfl ?_
        refine m_getr dX9_drift_99 fX9_35 sh0 rfl ?_
        refine z_aload_n dX9_drift_102 rfl ?_
        refine m_getr dX9_drift_103 fX9_26 sh0 rfl ?_
        refine m_callVv (As := [.ref _]) dX9_drift_106 kX9_113 ⟨rfl, rfl⟩ rfl ⟨rfl, rfl⟩ rfl rfl sh26 rfl rfl (c_run zPlan22 (by omega) g4 hz6 g5) (fun μ106 ν106 hk106 => ?_)
        obtain ⟨rfl, rfl⟩ := hk106
        refine z_iload_n dX9_drift_109 rfl ?_
        refine z_aload_n dX9_drift_110 rfl ?_
        refine m_getr dX9_drift_111 fX9_35 sh0 rfl ?_
        refine m_callV (As := []) dX9_drift_114 kX9_123 ⟨rfl, rfl⟩ rfl ⟨rfl, rfl⟩ rfl rfl sh26 rfl rfl (c_cost g6 hz6) (fun r114 μ114 ν114 hk114 => ?_)
        obtain ⟨rfl, rfl, rfl⟩ := hk114
        refine z_iadd dX9_drift_117 ?_
        refine z_istore_n (i := 2) (fun y => [(2, .int y), (4, .int (nI n)), (3, .int (nI k)), (0, .ref 0), (1, .int (nI v))]) dX9_drift_118 rfl rfl (fun _ => rfl) (fun x9 e9 => ?_)
        subst e9
        refine z_iinc (fun y => [(3, .int y), (2, .int (fDc μ s n k + (fCost (gRun (fDg (fDo μ s n k) (zDk s n k) n) 22 n) n))), (4, .int (nI n)), (0, .ref 0), (1, .int (nI v))]) dX9_drift_119 rfl rfl (fun _ => rfl) (fun x3_119 ex3_119 => ?_)
        obtain rfl : x3_119 = nI (k + 1) := by rw [ex3_119]; exact nI_1 k
        refine z_goto 31 dX9_drift_122 (by decide) ?_
        refine z_lv [0, 1, 3, 4] rfl ?_
        exact H0)
    refine z_iload_n dX9_drift_31 rfl ?_
    refine z_iload_n dX9_drift_32 rfl ?_
    refine z_icmp_ge 125 dX9_drift_33 (by decide) (fun h33 => absurd h33 (nI_ge (a := k) (b := v) hk (by omega))) (fun h33 => ?_)
    refine z_iconst (v := 0) dX9_drift_36 rfl ?_
    refine z_istore (i := 4) (fun y => [(4, .int y), (3, .int (nI k)), (2, .int (fDc μ s n k)), (0, .ref 0), (1, .int (nI v))]) dX9_drift_37 rfl (fun _ => rfl) (fun x9 e9 => ?_)
    subst e9
    exact hI 0 (Nat.zero_le n)) (by
    refine z_iload_n dX9_drift_31 rfl ?_
    refine z_iload_n dX9_drift_32 rfl ?_
    refine z_icmp_ge 125 dX9_drift_33 (by decide) (fun h33 => ?_) (fun h33 => absurd (nI_le (Nat.le_refl v) (by omega)) h33)
    refine z_iload_n dX9_drift_125 rfl ?_
    refine m_iret dX9_drift_126 rfl rfl ?_
    exact ⟨rfl, rfl, rfl⟩)
  refine z_iload_n dX9_drift_0 rfl ?_
  refine z_iconst (v := 1) dX9_drift_1 rfl ?_
  refine z_icmp_lt 11 dX9_drift_2 (by decide) (fun h2 => absurd h2 (nI_nlt (a := v) (b := 1) (by omega) (by omega))) (fun h2 => ?_)
  refine z_iload_n dX9_drift_5 rfl ?_
  refine z_bipush (v := 99) dX9_drift_6 rfl ?_
  refine z_icmp_le 14 dX9_drift_8 (by decide) (fun h8 => ?_) (fun h8 => absurd (nI_le (a := v) (b := 99) (by omega) (by omega)) h8)
  refine z_aload_n dX9_drift_14 rfl ?_
  refine m_getr dX9_drift_15 fX9_19 sh0 rfl ?_
  refine m_geti dX9_drift_18 fX9_101 sh15 rfl ?_
  refine z_if_ne 27 dX9_drift_21 (by decide) (fun h21 => ?_) (fun h21 => absurd (hn ▸ h21) (nI_ne0 h0 (by omega)))
  refine z_iconst (v := 0) dX9_drift_27 rfl ?_
  refine z_istore_n (i := 2) (fun y => [(2, .int y), (0, .ref 0), (1, .int (nI v))]) dX9_drift_28 rfl rfl (fun _ => rfl) (fun x9 e9 => ?_)
  subst e9
  refine z_iconst (v := 0) dX9_drift_29 rfl ?_
  refine z_istore_n (i := 3) (fun y => [(3, .int y), (2, .int 0), (0, .ref 0), (1, .int (nI v))]) dX9_drift_30 rfl rfl (fun _ => rfl) (fun x9 e9 => ?_)
  subst e9
  have e0 := hL 0 (Nat.zero_le v)
  rw [show va_up ν 0 (lN (zDk s n 0)) = ν from va_same hs] at e0
  exact e0
