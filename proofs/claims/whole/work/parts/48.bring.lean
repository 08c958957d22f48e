
/-- those behind b moved one place back -/
def zSh (b : Nat) : Nat → (Nat → Int32) → Nat → Int32
  | 0, f => f
  | d + 1, f => zSh b d (zu f (b + d + 1) (f (b + d)))
def zBf (f : Nat → Int32) (b d : Nat) : Nat → Int32 := zu (zSh b d f) b (f (b + d))
set_option maxRecDepth 100000 in
set_option maxHeartbeats 400000 in
theorem c_bfIn {l : Launch} {G : zG} {x u : Int32} {b : Nat} {ν : Lng} {K : Int32 → Mem → Lng → Prop} {μ : Mem} : ∀ (d : Nat) (f : Nat → Int32), b + d < 6 → K 0 (va_up μ 51 (zu (zSh b d f) b x)) ν → Am l G mX6_bringForward 10 [(4, .int (nI (b + d))), (3, .int x), (0, .ref 49), (1, .int u), (2, .int (nI b))] [] (va_up μ 51 f) ν K
  | 0, f, hp, H => by
    refine z_iload dX6_bringForward_10 rfl ?_
    refine z_iload_n dX6_bringForward_12 rfl ?_
    refine z_icmp_le 38 dX6_bringForward_13 (by decide) (fun h13 => ?_) (fun h13 => absurd (nI_le (a := b + 0) (b := b) (by omega) (by omega)) h13)
    refine z_aload_n dX6_bringForward_38 rfl ?_
    refine m_getr dX6_bringForward_39 fX6_15 sh49 rfl ?_
    refine z_iload_n dX6_bringForward_42 rfl ?_
    refine z_iload_n dX6_bringForward_43 rfl ?_
    refine m_iastN (j := b) dX6_bringForward_44 sh51 rfl (by omega) rfl ?_
    refine m_ret dX6_bringForward_45 rfl ?_
    rw [up2_va]
    exact H
  | d + 1, f, hp, H => by
    have e1 : nI (b + (d + 1)) - 1 = nI (b + d) := nI_pred (b + d)
    refine z_iload dX6_bringForward_10 rfl ?_
    refine z_iload_n dX6_bringForward_12 rfl ?_
    refine z_icmp_le 38 dX6_bringForward_13 (by decide) (fun h13 => absurd h13 (nI_ge (a := b) (b := b + (d + 1)) (by omega) (by omega))) (fun h13 => ?_)
    refine z_aload_n dX6_bringForward_16 rfl ?_
    refine m_getr dX6_bringForward_17 fX6_15 sh49 rfl ?_
    refine z_iload dX6_bringForward_20 rfl ?_
    refine z_aload_n dX6_bringForward_22 rfl ?_
    refine m_getr dX6_bringForward_23 fX6_15 sh49 rfl ?_
    refine z_iload dX6_bringForward_26 rfl ?_
    refine z_iconst (v := 1) dX6_bringForward_28 rfl ?_
    refine z_isub dX6_bringForward_29 ?_
    rw [show (nI (b + (d + 1)) - 1) = nI (b + d) from e1]
    refine m_ialdN (j := (b + d)) dX6_bringForward_30 sh51 rfl (by omega) rfl ?_
    refine m_iastN (j := (b + (d + 1))) dX6_bringForward_31 sh51 rfl (by omega) rfl ?_
    refine z_iinc (fun y => [(4, .int y), (3, .int x), (0, .ref 49), (1, .int u), (2, .int (nI b))]) dX6_bringForward_32 rfl rfl (fun _ => rfl) (fun x4_32 ex4_32 => ?_)
    obtain rfl : x4_32 = nI (b + d) := by rw [ex4_32]; exact pk_m1 (b + d)
    refine z_goto 10 dX6_bringForward_35 (by decide) ?_
    rw [va_up_self, up2_va]
    exact c_bfIn d _ (by omega) H
set_option maxRecDepth 100000 in
set_option maxHeartbeats 400000 in
theorem c_bring {l : Launch} {G : zG} {μ : Mem} {ν : Lng} {b d : Nat} (hd : b + d < 6)  : Cm l G mX6_bringForward [.ref 49, .int (nI (b + d)), .int (nI b)] μ ν (fun _ b9 c9 => va_up μ 51 (zBf (μ 51) b d) = b9 ∧ ν = c9) := by
  refine Con.of (by decide) (Nat.le_of_ble_eq_true rfl) ?_
  show Am l G mX6_bringForward 0 [(0, .ref 49), (1, .int (nI (b + d))), (2, .int (nI b))] [] μ ν _
  refine z_aload_n dX6_bringForward_0 rfl ?_
  refine m_getr dX6_bringForward_1 fX6_15 sh49 rfl ?_
  refine z_iload_n dX6_bringForward_4 rfl ?_
  refine m_ialdN (j := (b + d)) dX6_bringForward_5 sh51 rfl (by omega) rfl ?_
  refine z_istore_n (i := 3) (fun y => [(3, .int y), (0, .ref 49), (1, .int (nI (b + d))), (2, .int (nI b))]) dX6_bringForward_6 rfl rfl (fun _ => rfl) (fun x9 e9 => ?_)
  subst e9
  refine z_iload_n dX6_bringForward_7 rfl ?_
  refine z_istore (i := 4) (fun y => [(4, .int y), (3, .int (μ 51 (b + d))), (0, .ref 49), (1, .int (nI (b + d))), (2, .int (nI b))]) dX6_bringForward_8 rfl (fun _ => rfl) (fun x9 e9 => ?_)
  subst e9
  have e := c_bfIn (l := l) (G := G) (x := μ 51 (b + d)) (u := nI (b + d)) (b := b) (ν := ν) (μ := μ) (K := fun _ b9 c9 => va_up μ 51 (zBf (μ 51) b d) = b9 ∧ ν = c9) d (μ 51) hd ⟨rfl, rfl⟩
  rw [va_same rfl] at e
  exact e
