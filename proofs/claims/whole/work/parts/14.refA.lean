
theorem z2s (a b : Nat) : (2 : Int32) * nI a + nI b = nI (2 * a + b) := by
  rw [show (2 : Int32) = nI 2 from rfl, pk_mul, nI_add]
theorem z2o (a : Nat) : (2 : Int32) * nI a + 1 = nI (2 * a + 1) := by
  rw [show (2 : Int32) = nI 2 from rfl, pk_mul, nI_1]
theorem z2n (a : Nat) : (2 : Int32) * nI a = nI (2 * a) := by
  rw [show (2 : Int32) = nI 2 from rfl, pk_mul]
theorem z2x {a s : Nat} (hs : s < 2) : (2 : Int32) * nI a + 1 - nI s = nI (2 * a + (1 - s)) := by
  rw [z2o, pk_sub (by omega), show 2 * a + 1 - s = 2 * a + (1 - s) by omega]
theorem z6a (c a : Nat) : (OfNat.ofNat c : Int32) + nI a = nI (c + a) := by
  rw [show (OfNat.ofNat c : Int32) = nI c from rfl, nI_add]
def fIn (v a b : Int32) : Int32 := if v < a then 0 else if b < v then 0 else 1
def rBusy (μ : Mem) (c : Nat) (t : Int32) : Int32 := if t < μ 84 c then 0 else if μ 85 c ≤ t then 0 else 1
def rWiden (μ : Mem) (c : Nat) (t u : Int32) : Mem :=
  if t < μ 85 c then
    let μ1 := up2 μ 84 c (if t ≤ μ 84 c then t else μ 84 c)
    up2 μ1 85 c (if μ1 85 c ≤ u then u else μ1 85 c)
  else up2 (up2 μ 84 c t) 85 c u
def rSwing (μ : Mem) (lf : Nat) (t : Int32) : Int32 :=
  if μ 87 lf = 0 then 0 else if μ 86 lf ≤ t then
    (if μ 86 lf + μ 87 lf * μ 70 (2 * lf) ≤ t then (if μ 86 lf + μ 87 lf * μ 70 (2 * lf) + μ 70 (2 * lf + 1) ≤ t then 0 else 3) else 2)
  else 0
def rCnt (now : Nat → Int32) (w : Nat) : Nat → Int32
  | 0 => 0
  | i + 1 => rCnt now w i + (if nI i = nI w then 0 else if fIn (now i) (now w - 20) (now w - 1) = 0 then 0 else 1)
def rHeard (μ : Mem) (n w : Nat) : Int32 := if μ 75 19 ≤ rCnt (μ 75) w n then 0 else 1
def rLeaf (μ : Mem) (w s : Nat) : Nat :=
  if 2 ≤ μ 75 (6 + w) then
    (if rBusy μ (2 * s + (1 - s)) (μ 75 w) = 0 then s else if rBusy μ (2 * (1 - s) + (1 - s)) (μ 75 w) = 0 then 1 - s else s)
  else if μ 75 (6 + w) = 0 then s else 1 - s
def rLose (μ : Mem) (w : Nat) : Mem := up2 (up2 μ 66 39 (μ 66 39 + (if μ 83 w = 0 then μ 73 w else 0))) 83 w 1
def rCrash (μ : Mem) (w lf s m : Nat) : Mem :=
  let μ1 := rWiden (rLose (rLose (up2 (up2 μ 78 w 6) 78 m 6) w) m) (2 * lf + s) (μ 75 w) (μ 75 w + 20)
  up2 (up2 μ1 79 w (μ 75 w)) 80 w (μ 75 w + 20)
def rPass (μ : Mem) (w lf s : Nat) (t : Int32) : Mem :=
  let μ1 := rWiden μ (2 * lf + s) t (t + μ 72 w)
  let μ2 := up2 μ1 79 w t
  up2 μ2 80 w (t + μ2 72 w)
def rKicked (μ : Mem) (w lf : Nat) (t : Int32) : Mem :=
  let μ1 := up2 μ 86 lf t
  let μ2 := up2 μ1 87 lf (μ1 75 (12 + w))
  up2 μ2 89 lf (μ2 89 lf + 1)
def rThrough (μ : Mem) (w lf s : Nat) (t : Int32) : Mem :=
  if rBusy μ (2 * lf + s) t = 0 then
    if rSwing μ lf t = 2 then rPass (up2 μ 78 w (if μ 78 w ≤ 1 then 1 else μ 78 w)) w lf s t
    else
      let is : Int32 := if nI lf = nI s then 0 else 2
      let μ1 := up2 μ 78 w (if μ 78 w ≤ is then is else μ 78 w)
      if rSwing μ lf t = 3 then rPass (rKicked (rLose (up2 μ1 78 w 5) w) w lf t) w lf s t else rPass (rKicked μ1 w lf t) w lf s t
  else rPass (up2 μ 78 w (if μ 78 w ≤ 1 then 1 else μ 78 w)) w lf s t
def rWait (μ : Mem) (w lf s : Nat) (t : Int32) : Mem :=
  let μ1 := up2 μ 78 w (if μ 75 18 = 1 then 4 else 3)
  let u := μ1 85 (2 * lf + (1 - s))
  let μ2 := up2 μ1 82 w (u - t)
  rThrough (up2 μ2 66 38 (μ2 66 38 + (u - t))) w lf s u
def rLook2 (μ : Mem) (n w lf s : Nat) (t : Int32) : Mem :=
  if rBusy μ (2 * lf + (1 - s)) t = 0 then rThrough μ w lf s t
  else if μ 75 18 = 1 then rWait μ w lf s t
  else if μ 74 w = 1 then (if rHeard μ n w = 0 then rCrash μ w lf s (μ 90 (2 * lf + (1 - s))).toNatClampNeg else rWait μ w lf s t)
  else rCrash μ w lf s (μ 90 (2 * lf + (1 - s))).toNatClampNeg
def rBegin (μ : Mem) (w lf : Nat) : Mem :=
  let μ1 := up2 μ 81 w (nI lf)
  up2 μ1 88 lf (μ1 88 lf + 1)
def rLook (μ : Mem) (n w s : Nat) : Mem :=
  up2 (rLook2 (rBegin μ w (rLeaf μ w s)) n w (rLeaf μ w s) s (μ 75 w)) 90 (2 * rLeaf μ w s + s) (nI w)
theorem rLeaf_lt {μ : Mem} {w s : Nat} (hs : s < 2) : rLeaf μ w s < 2 := by
  unfold rLeaf
  repeat' split
  all_goals omega
def zLatM (μ : Mem) : Prop := ∀ c, c < 4 → (μ 84 c = 0 ∧ μ 85 c = 0) ∨ ∃ m : Nat, m < 6 ∧ μ 90 c = nI m
theorem rBusy_lat {μ : Mem} {c : Nat} {t : Int32} (h : ¬ rBusy μ c t = 0) (hv : (μ 84 c = 0 ∧ μ 85 c = 0) ∨ ∃ m : Nat, m < 6 ∧ μ 90 c = nI m) : ∃ m : Nat, m < 6 ∧ μ 90 c = nI m := by
  rcases hv with ⟨h1, h2⟩ | hv
  · refine absurd ?_ h
    unfold rBusy
    rw [h1, h2]
    split
    · rfl
    · rename_i q
      rw [if_pos (Int32.not_lt.mp q)]
  · exact hv
theorem fIn_z (v a b : Int32) : narrow .boolean (.int (fIn v a b)) = .int (fIn v a b) := by
  unfold fIn
  repeat' split
  all_goals rfl
set_option maxRecDepth 100000 in
set_option maxHeartbeats 4000000 in
theorem c_in {l : Launch} {G : zG} {μ : Mem} {ν : Lng} {v a b : Int32} : Cm l G mX10_in [.int v, .int a, .int b] μ ν (fun a9 b9 c9 => fIn v a b = a9 ∧ μ = b9 ∧ ν = c9) := by
  refine Con.of (by decide) (Nat.le_of_ble_eq_true rfl) ?_
  show Am l G mX10_in 0 [(0, .int v), (1, .int a), (2, .int b)] [] μ ν _
  refine z_iload_n dX10_in_0 rfl ?_
  refine z_iload_n dX10_in_1 rfl ?_
  refine z_icmp_lt 14 dX10_in_2 (by decide) (fun h2 => ?_) (fun h2 => ?_)
  · skip
    refine z_iconst (v := 0) dX10_in_14 rfl ?_
    refine m_iret dX10_in_15 rfl rfl ?_
    exact ⟨by subst_vars; simp only [fIn, if_pos h2], rfl, rfl⟩
  · skip
    refine z_iload_n dX10_in_5 rfl ?_
    refine z_iload_n dX10_in_6 rfl ?_
    refine z_icmp_gt 14 dX10_in_7 (by decide) (fun h7 => ?_) (fun h7 => ?_)
    · skip
      refine z_iconst (v := 0) dX10_in_14 rfl ?_
      refine m_iret dX10_in_15 rfl rfl ?_
      exact ⟨by subst_vars; simp only [fIn, if_neg h2, if_pos h7], rfl, rfl⟩
    · skip
      refine z_iconst (v := 1) dX10_in_10 rfl ?_
      refine z_goto 15 dX10_in_11 (by decide) ?_
      refine m_iret dX10_in_15 rfl rfl ?_
      exact ⟨by subst_vars; simp only [fIn, if_neg h2, if_neg h7], rfl, rfl⟩
set_option maxRecDepth 100000 in
set_option maxHeartbeats 4000000 in
theorem c_isOne {l : Launch} {G : zG} {μ : Mem} {ν : Lng} {w : Int32} : Cm l G mX10_isOne [.ref 66, .int w] μ ν (fun a9 b9 c9 => fIn w 0 (μ 66 17 - 1) = a9 ∧ μ = b9 ∧ ν = c9) := by
  refine Con.of (by decide) (Nat.le_of_ble_eq_true rfl) ?_
  show Am l G mX10_isOne 0 [(0, .ref 66), (1, .int w)] [] μ ν _
  refine z_iload_n dX10_isOne_0 rfl ?_
  refine z_iconst (v := 0) dX10_isOne_1 rfl ?_
  refine z_aload_n dX10_isOne_2 rfl ?_
  refine m_geti dX10_isOne_3 fX10_105 sh66 rfl ?_
  refine z_iconst (v := 1) dX10_isOne_6 rfl ?_
  refine z_isub dX10_isOne_7 ?_
  refine m_callS (As := [.int _, .int _, .int _]) dX10_isOne_8 kX10_108 ⟨rfl, rfl⟩ rfl ⟨rfl, rfl⟩ rfl rfl rfl c_in (fun r8 μ8 ν8 hk8 => ?_)
  obtain ⟨rfl, rfl, rfl⟩ := hk8
  refine m_iret dX10_isOne_11 rfl (fIn_z _ _ _) ?_
  exact ⟨rfl, rfl, rfl⟩
set_option maxRecDepth 100000 in
set_option maxHeartbeats 4000000 in
theorem c_isBusy {l : Launch} {G : zG} {μ : Mem} {ν : Lng} {lf s : Nat} (hl : lf < 2) (hs : s < 2) {t : Int32} : Cm l G mX10_isBusy [.ref 66, .int (nI lf), .int (nI s), .int t] μ ν (fun a9 b9 c9 => rBusy μ (2 * lf + s) t = a9 ∧ μ = b9 ∧ ν = c9) := by
  refine Con.of (by decide) (Nat.le_of_ble_eq_true rfl) ?_
  show Am l G mX10_isBusy 0 [(0, .ref 66), (1, .int (nI lf)), (2, .int (nI s)), (3, .int t)] [] μ ν _
  refine z_aload_n dX10_isBusy_0 rfl ?_
  refine m_getr dX10_isBusy_1 fX10_66 sh66 rfl ?_
  refine z_iconst (v := 2) dX10_isBusy_4 rfl ?_
  refine z_iload_n dX10_isBusy_5 rfl ?_
  refine z_imul dX10_isBusy_6 ?_
  refine z_iload_n dX10_isBusy_7 rfl ?_
  refine z_iadd dX10_isBusy_8 ?_
  rw [show ((2 * nI lf) + nI s) = nI (2 * lf + s) from z2s lf s]
  refine m_ialdN (j := (2 * lf + s)) dX10_isBusy_9 sh84 rfl (by omega) rfl ?_
  refine z_iload_n dX10_isBusy_10 rfl ?_
  refine z_icmp_gt 32 dX10_isBusy_11 (by decide) (fun h11 => ?_) (fun h11 => ?_)
  · skip
    refine z_iconst (v := 0) dX10_isBusy_32 rfl ?_
    refine m_iret dX10_isBusy_33 rfl rfl ?_
    exact ⟨by subst_vars; simp only [rBusy, if_pos h11], rfl, rfl⟩
  · skip
    refine z_iload_n dX10_isBusy_14 rfl ?_
    refine z_aload_n dX10_isBusy_15 rfl ?_
    refine m_getr dX10_isBusy_16 fX10_69 sh66 rfl ?_
    refine z_iconst (v := 2) dX10_isBusy_19 rfl ?_
    refine z_iload_n dX10_isBusy_20 rfl ?_
    refine z_imul dX10_isBusy_21 ?_
    refine z_iload_n dX10_isBusy_22 rfl ?_
    refine z_iadd dX10_isBusy_23 ?_
    rw [show ((2 * nI lf) + nI s) = nI (2 * lf + s) from z2s lf s]
    refine m_ialdN (j := (2 * lf + s)) dX10_isBusy_24 sh85 rfl (by omega) rfl ?_
    refine z_icmp_ge 32 dX10_isBusy_25 (by decide) (fun h25 => ?_) (fun h25 => ?_)
    · skip
      refine z_iconst (v := 0) dX10_isBusy_32 rfl ?_
      refine m_iret dX10_isBusy_33 rfl rfl ?_
      exact ⟨by subst_vars; simp only [rBusy, if_neg h11, if_pos h25], rfl, rfl⟩
    · skip
      refine z_iconst (v := 1) dX10_isBusy_28 rfl ?_
      refine z_goto 33 dX10_isBusy_29 (by decide) ?_
      refine m_iret dX10_isBusy_33 rfl rfl ?_
      exact ⟨by subst_vars; simp only [rBusy, if_neg h11, if_neg h25], rfl, rfl⟩
set_option maxRecDepth 100000 in
set_option maxHeartbeats 4000000 in
theorem c_widen {l : Launch} {G : zG} {μ : Mem} {ν : Lng} {lf s : Nat} (hl : lf < 2) (hs : s < 2) {t u : Int32} : Cm l G mX10_widen [.ref 66, .int (nI lf), .int (nI s), .int t, .int u] μ ν (fun _ b9 c9 => rWiden μ (2 * lf + s) t u = b9 ∧ ν = c9) := by
  refine Con.of (by decide) (Nat.le_of_ble_eq_true rfl) ?_
  show Am l G mX10_widen 0 [(0, .ref 66), (1, .int (nI lf)), (2, .int (nI s)), (3, .int t), (4, .int u)] [] μ ν _
  refine z_iconst (v := 2) dX10_widen_0 rfl ?_
  refine z_iload_n dX10_widen_1 rfl ?_
  refine z_imul dX10_widen_2 ?_
  refine z_iload_n dX10_widen_3 rfl ?_
  refine z_iadd dX10_widen_4 ?_
  rw [show ((2 * nI lf) + nI s) = nI (2 * lf + s) from z2s lf s]
  refine z_istore (i := 5) (fun y => [(5, .int y), (0, .ref 66), (1, .int (nI lf)), (2, .int (nI s)), (3, .int t), (4, .int u)]) dX10_widen_5 rfl (fun _ => rfl) (fun x9 e9 => ?_)
  subst e9
  refine z_aload_n dX10_widen_7 rfl ?_
  refine m_getr dX10_widen_8 fX10_69 sh66 rfl ?_
  refine z_iload dX10_widen_11 rfl ?_
  refine m_ialdN (j := (2 * lf + s)) dX10_widen_13 sh85 rfl (by omega) rfl ?_
  refine z_iload_n dX10_widen_14 rfl ?_
  refine z_icmp_gt 38 dX10_widen_15 (by decide) (fun h15 => ?_) (fun h15 => ?_)
  · skip
    refine z_aload_n dX10_widen_38 rfl ?_
    refine m_getr dX10_widen_39 fX10_66 sh66 rfl ?_
    refine z_iload dX10_widen_42 rfl ?_
    refine z_aload_n dX10_widen_44 rfl ?_
    refine m_getr dX10_widen_45 fX10_66 sh66 rfl ?_
    refine z_iload dX10_widen_48 rfl ?_
    refine m_ialdN (j := (2 * lf + s)) dX10_widen_50 sh84 rfl (by omega) rfl ?_
    refine z_iload_n dX10_widen_51 rfl ?_
    refine z_icmp_ge 65 dX10_widen_52 (by decide) (fun h52 => ?_) (fun h52 => ?_)
    · skip
      refine z_iload_n dX10_widen_65 rfl ?_
      refine m_iastN (j := (2 * lf + s)) dX10_widen_66 sh84 rfl (by omega) rfl ?_
      refine z_aload_n dX10_widen_67 rfl ?_
      refine m_getr dX10_widen_68 fX10_69 sh66 rfl ?_
      refine z_iload dX10_widen_71 rfl ?_
      refine z_aload_n dX10_widen_73 rfl ?_
      refine m_getr dX10_widen_74 fX10_69 sh66 rfl ?_
      refine z_iload dX10_widen_77 rfl ?_
      refine m_ialdN (j := (2 * lf + s)) dX10_widen_79 sh85 rfl (by omega) rfl ?_
      refine z_iload dX10_widen_80 rfl ?_
      refine z_icmp_le 95 dX10_widen_82 (by decide) (fun h82 => ?_) (fun h82 => ?_)
      · skip
        refine z_iload dX10_widen_95 rfl ?_
        refine m_iastN (j := (2 * lf + s)) dX10_widen_97 sh85 rfl (by omega) rfl ?_
        refine m_ret dX10_widen_98 rfl ?_
        exact ⟨by subst_vars; simp only [rWiden, if_pos h15, if_pos h52, if_pos h82], rfl⟩
      · skip
        refine z_aload_n dX10_widen_85 rfl ?_
        refine m_getr dX10_widen_86 fX10_69 sh66 rfl ?_
        refine z_iload dX10_widen_89 rfl ?_
        refine m_ialdN (j := (2 * lf + s)) dX10_widen_91 sh85 rfl (by omega) rfl ?_
        refine z_goto 97 dX10_widen_92 (by decide) ?_
        refine m_iastN (j := (2 * lf + s)) dX10_widen_97 sh85 rfl (by omega) rfl ?_
        refine m_ret dX10_widen_98 rfl ?_
        exact ⟨by subst_vars; simp only [rWiden, if_pos h15, if_pos h52, if_neg h82], rfl⟩
    · skip
      refine z_aload_n dX10_widen_55 rfl ?_
      refine m_getr dX10_widen_56 fX10_66 sh66 rfl ?_
      refine z_iload dX10_widen_59 rfl ?_
      refine m_ialdN (j := (2 * lf + s)) dX10_widen_61 sh84 rfl (by omega) rfl ?_
      refine z_goto 66 dX10_widen_62 (by decide) ?_
      refine m_iastN (j := (2 * lf + s)) dX10_widen_66 sh84 rfl (by omega) rfl ?_
      refine z_aload_n dX10_widen_67 rfl ?_
      refine m_getr dX10_widen_68 fX10_69 sh66 rfl ?_
      refine z_iload dX10_widen_71 rfl ?_
      refine z_aload_n dX10_widen_73 rfl ?_
      refine m_getr dX10_widen_74 fX10_69 sh66 rfl ?_
      refine z_iload dX10_widen_77 rfl ?_
      refine m_ialdN (j := (2 * lf + s)) dX10_widen_79 sh85 rfl (by omega) rfl ?_
      refine z_iload dX10_widen_80 rfl ?_
      refine z_icmp_le 95 dX10_widen_82 (by decide) (fun h82 => ?_) (fun h82 => ?_)
      · skip
        refine z_iload dX10_widen_95 rfl ?_
        refine m_iastN (j := (2 * lf + s)) dX10_widen_97 sh85 rfl (by omega) rfl ?_
        refine m_ret dX10_widen_98 rfl ?_
        exact ⟨by subst_vars; simp only [rWiden, if_pos h15, if_neg h52, if_pos h82], rfl⟩
      · skip
        refine z_aload_n dX10_widen_85 rfl ?_
        refine m_getr dX10_widen_86 fX10_69 sh66 rfl ?_
        refine z_iload dX10_widen_89 rfl ?_
        refine m_ialdN (j := (2 * lf + s)) dX10_widen_91 sh85 rfl (by omega) rfl ?_
        refine z_goto 97 dX10_widen_92 (by decide) ?_
        refine m_iastN (j := (2 * lf + s)) dX10_widen_97 sh85 rfl (by omega) rfl ?_
        refine m_ret dX10_widen_98 rfl ?_
        exact ⟨by subst_vars; simp only [rWiden, if_pos h15, if_neg h52, if_neg h82], rfl⟩
  · skip
    refine z_aload_n dX10_widen_18 rfl ?_
    refine m_getr dX10_widen_19 fX10_66 sh66 rfl ?_
    refine z_iload dX10_widen_22 rfl ?_
    refine z_iload_n dX10_widen_24 rfl ?_
    refine m_iastN (j := (2 * lf + s)) dX10_widen_25 sh84 rfl (by omega) rfl ?_
    refine z_aload_n dX10_widen_26 rfl ?_
    refine m_getr dX10_widen_27 fX10_69 sh66 rfl ?_
    refine z_iload dX10_widen_30 rfl ?_
    refine z_iload dX10_widen_32 rfl ?_
    refine m_iastN (j := (2 * lf + s)) dX10_widen_34 sh85 rfl (by omega) rfl ?_
    refine z_goto 98 dX10_widen_35 (by decide) ?_
    refine m_ret dX10_widen_98 rfl ?_
    exact ⟨by subst_vars; simp only [rWiden, if_neg h15], rfl⟩
set_option maxRecDepth 100000 in
set_option maxHeartbeats 4000000 in
theorem c_swing {l : Launch} {G : zG} {μ : Mem} {ν : Lng} {lf : Nat} (hl : lf < 2) {t : Int32} : Cm l G mX10_swing [.ref 66, .int (nI lf), .int t] μ ν (fun a9 b9 c9 => rSwing μ lf t = a9 ∧ μ = b9 ∧ ν = c9) := by
  refine Con.of (by decide) (Nat.le_of_ble_eq_true rfl) ?_
  show Am l G mX10_swing 0 [(0, .ref 66), (1, .int (nI lf)), (2, .int t)] [] μ ν _
  refine z_aload_n dX10_swing_0 rfl ?_
  refine m_getr dX10_swing_1 fX10_75 sh66 rfl ?_
  refine z_iload_n dX10_swing_4 rfl ?_
  refine m_ialdN (j := lf) dX10_swing_5 sh87 rfl (by omega) rfl ?_
  refine z_if_eq 19 dX10_swing_6 (by decide) (fun h6 => ?_) (fun h6 => ?_)
  · skip
    refine z_iconst (v := 0) dX10_swing_19 rfl ?_
    refine m_iret dX10_swing_20 rfl rfl ?_
    exact ⟨by subst_vars; simp only [rSwing, if_pos h6], rfl, rfl⟩
  · skip
    refine z_iload_n dX10_swing_9 rfl ?_
    refine z_aload_n dX10_swing_10 rfl ?_
    refine m_getr dX10_swing_11 fX10_72 sh66 rfl ?_
    refine z_iload_n dX10_swing_14 rfl ?_
    refine m_ialdN (j := lf) dX10_swing_15 sh86 rfl (by omega) rfl ?_
    refine z_icmp_ge 21 dX10_swing_16 (by decide) (fun h16 => ?_) (fun h16 => ?_)
    · skip
      refine z_aload_n dX10_swing_21 rfl ?_
      refine m_getr dX10_swing_22 fX10_72 sh66 rfl ?_
      refine z_iload_n dX10_swing_25 rfl ?_
      refine m_ialdN (j := lf) dX10_swing_26 sh86 rfl (by omega) rfl ?_
      refine z_aload_n dX10_swing_27 rfl ?_
      refine m_getr dX10_swing_28 fX10_75 sh66 rfl ?_
      refine z_iload_n dX10_swing_31 rfl ?_
      refine m_ialdN (j := lf) dX10_swing_32 sh87 rfl (by omega) rfl ?_
      refine z_aload_n dX10_swing_33 rfl ?_
      refine m_getr dX10_swing_34 fX10_23 sh66 rfl ?_
      refine z_iconst (v := 2) dX10_swing_37 rfl ?_
      refine z_iload_n dX10_swing_38 rfl ?_
      refine z_imul dX10_swing_39 ?_
      rw [show (2 * nI lf) = nI (2 * lf) from z2n lf]
      refine m_ialdN (j := (2 * lf)) dX10_swing_40 sh70 rfl (by omega) rfl ?_
      refine z_imul dX10_swing_41 ?_
      refine z_iadd dX10_swing_42 ?_
      refine z_istore_n (i := 3) (fun y => [(3, .int y), (0, .ref 66), (1, .int (nI lf)), (2, .int t)]) dX10_swing_43 rfl rfl (fun _ => rfl) (fun x9 e9 => ?_)
      subst e9
      refine z_iload_n dX10_swing_44 rfl ?_
      refine z_iload_n dX10_swing_45 rfl ?_
      refine z_icmp_ge 53 dX10_swing_46 (by decide) (fun h46 => ?_) (fun h46 => ?_)
      · skip
        refine z_iload_n dX10_swing_53 rfl ?_
        refine z_iload_n dX10_swing_54 rfl ?_
        refine z_aload_n dX10_swing_55 rfl ?_
        refine m_getr dX10_swing_56 fX10_23 sh66 rfl ?_
        refine z_iconst (v := 2) dX10_swing_59 rfl ?_
        refine z_iload_n dX10_swing_60 rfl ?_
        refine z_imul dX10_swing_61 ?_
        rw [show (2 * nI lf) = nI (2 * lf) from z2n lf]
        refine z_iconst (v := 1) dX10_swing_62 rfl ?_
        refine z_iadd dX10_swing_63 ?_
        rw [show (nI (2 * lf) + 1) = nI (2 * lf + 1) from nI_1 (2 * lf)]
        refine m_ialdN (j := (2 * lf + 1)) dX10_swing_64 sh70 rfl (by omega) rfl ?_
        refine z_iadd dX10_swing_65 ?_
        refine z_icmp_ge 73 dX10_swing_66 (by decide) (fun h66 => ?_) (fun h66 => ?_)
        · skip
          refine z_iconst (v := 0) dX10_swing_73 rfl ?_
          refine m_iret dX10_swing_74 rfl rfl ?_
          exact ⟨by subst_vars; simp only [rSwing, if_neg h6, if_pos h16, if_pos h46, if_pos h66], rfl, rfl⟩
        · skip
          refine z_iconst (v := 3) dX10_swing_69 rfl ?_
          refine z_goto 74 dX10_swing_70 (by decide) ?_
          refine m_iret dX10_swing_74 rfl rfl ?_
          exact ⟨by subst_vars; simp only [rSwing, if_neg h6, if_pos h16, if_pos h46, if_neg h66], rfl, rfl⟩
      · skip
        refine z_iconst (v := 2) dX10_swing_49 rfl ?_
        refine z_goto 74 dX10_swing_50 (by decide) ?_
        refine m_iret dX10_swing_74 rfl rfl ?_
        exact ⟨by subst_vars; simp only [rSwing, if_neg h6, if_pos h16, if_neg h46], rfl, rfl⟩
    · skip
      refine z_iconst (v := 0) dX10_swing_19 rfl ?_
      refine m_iret dX10_swing_20 rfl rfl ?_
      exact ⟨by subst_vars; simp only [rSwing, if_neg h6, if_neg h16], rfl, rfl⟩
set_option maxRecDepth 100000 in
set_option maxHeartbeats 4000000 in
theorem c_isHeardM {l : Launch} {G : zG} {μ : Mem} {ν : Lng} {n w : Nat} (hn : μ 66 17 = nI n) (h6 : n ≤ 6) (hw : w < 6)  : Cm l G mX10_isHeard [.ref 66, .int (nI w)] μ ν (fun a9 b9 c9 => rHeard μ n w = a9 ∧ μ = b9 ∧ ν = c9) := by
  refine Con.of (by decide) (Nat.le_of_ble_eq_true rfl) ?_
  show Am l G mX10_isHeard 0 [(0, .ref 66), (1, .int (nI w))] [] μ ν _
  have hL := m_for (l := l) (G := G) (M := mX10_isHeard) (pc := 4) (ν := ν) (K := (fun a9 b9 c9 => rHeard μ n w = a9 ∧ μ = b9 ∧ ν = c9)) (N := n) (fun i => [(3, .int (nI i)), (2, .int (rCnt (μ 75) w i)), (0, .ref 66), (1, .int (nI w))]) (fun i => μ) (fun i hi H => by
    refine z_iload_n dX10_isHeard_4 rfl ?_
    refine z_aload_n dX10_isHeard_5 rfl ?_
    refine m_geti dX10_isHeard_6 fX10_105 sh66 rfl ?_
    refine z_icmp_ge 60 dX10_isHeard_9 (by decide) (fun h9 => absurd (hn ▸ h9) (nI_ge hi (by omega))) (fun h9 => ?_)
    refine z_iload_n dX10_isHeard_12 rfl ?_
    refine z_iload_n dX10_isHeard_13 rfl ?_
    refine z_iload_n dX10_isHeard_14 rfl ?_
    refine z_icmp_eq 51 dX10_isHeard_15 (by decide) (fun h15 => ?_) (fun h15 => ?_)
    · skip
      refine z_iconst (v := 0) dX10_isHeard_51 rfl ?_
      refine z_iadd dX10_isHeard_52 ?_
      refine z_istore_n (i := 2) (fun y => [(2, .int y), (3, .int (nI i)), (0, .ref 66), (1, .int (nI w))]) dX10_isHeard_53 rfl rfl (fun _ => rfl) (fun x2_53 ex2_53 => ?_)
      refine z_iinc (fun y => [(3, .int y), (2, .int x2_53), (0, .ref 66), (1, .int (nI w))]) dX10_isHeard_54 rfl rfl (fun _ => rfl) (fun x3_54 ex3_54 => ?_)
      obtain rfl : x3_54 = nI (i + 1) := by rw [ex3_54]; exact nI_1 i
      refine z_goto 4 dX10_isHeard_57 (by decide) ?_
      simp only [rCnt, if_pos h15] at H
      subst ex2_53
      exact H
    · skip
      refine z_aload_n dX10_isHeard_18 rfl ?_
      refine m_getr dX10_isHeard_19 fX10_38 sh66 rfl ?_
      refine z_iload_n dX10_isHeard_22 rfl ?_
      refine m_ialdN (j := i) dX10_isHeard_23 sh75 rfl (by omega) rfl ?_
      refine z_aload_n dX10_isHeard_24 rfl ?_
      refine m_getr dX10_isHeard_25 fX10_38 sh66 rfl ?_
      refine z_iload_n dX10_isHeard_28 rfl ?_
      refine m_ialdN (j := w) dX10_isHeard_29 sh75 rfl (by omega) rfl ?_
      refine z_bipush (v := 20) dX10_isHeard_30 rfl ?_
      refine z_isub dX10_isHeard_32 ?_
      refine z_aload_n dX10_isHeard_33 rfl ?_
      refine m_getr dX10_isHeard_34 fX10_38 sh66 rfl ?_
      refine z_iload_n dX10_isHeard_37 rfl ?_
      refine m_ialdN (j := w) dX10_isHeard_38 sh75 rfl (by omega) rfl ?_
      refine z_iconst (v := 1) dX10_isHeard_39 rfl ?_
      refine z_isub dX10_isHeard_40 ?_
      refine m_callS (As := [.int _, .int _, .int _]) dX10_isHeard_41 kX10_108 ⟨rfl, rfl⟩ rfl ⟨rfl, rfl⟩ rfl rfl rfl c_in (fun r41 μ41 ν41 hk41 => ?_)
      obtain ⟨rfl, rfl, rfl⟩ := hk41
      refine z_if_eq 51 dX10_isHeard_44 (by decide) (fun h44 => ?_) (fun h44 => ?_)
      · skip
        refine z_iconst (v := 0) dX10_isHeard_51 rfl ?_
        refine z_iadd dX10_isHeard_52 ?_
        refine z_istore_n (i := 2) (fun y => [(2, .int y), (3, .int (nI i)), (0, .ref 66), (1, .int (nI w))]) dX10_isHeard_53 rfl rfl (fun _ => rfl) (fun x2_53 ex2_53 => ?_)
        refine z_iinc (fun y => [(3, .int y), (2, .int x2_53), (0, .ref 66), (1, .int (nI w))]) dX10_isHeard_54 rfl rfl (fun _ => rfl) (fun x3_54 ex3_54 => ?_)
        obtain rfl : x3_54 = nI (i + 1) := by rw [ex3_54]; exact nI_1 i
        refine z_goto 4 dX10_isHeard_57 (by decide) ?_
        simp only [rCnt, if_neg h15, if_pos h44] at H
        subst ex2_53
        exact H
      · skip
        refine z_iconst (v := 1) dX10_isHeard_47 rfl ?_
        refine z_goto 52 dX10_isHeard_48 (by decide) ?_
        refine z_iadd dX10_isHeard_52 ?_
        refine z_istore_n (i := 2) (fun y => [(2, .int y), (3, .int (nI i)), (0, .ref 66), (1, .int (nI w))]) dX10_isHeard_53 rfl rfl (fun _ => rfl) (fun x2_53 ex2_53 => ?_)
        refine z_iinc (fun y => [(3, .int y), (2, .int x2_53), (0, .ref 66), (1, .int (nI w))]) dX10_isHeard_54 rfl rfl (fun _ => rfl) (fun x3_54 ex3_54 => ?_)
        obtain rfl : x3_54 = nI (i + 1) := by rw [ex3_54]; exact nI_1 i
        refine z_goto 4 dX10_isHeard_57 (by decide) ?_
        simp only [rCnt, if_neg h15, if_neg h44] at H
        subst ex2_53
        exact H) (by
    refine z_iload_n dX10_isHeard_4 rfl ?_
    refine z_aload_n dX10_isHeard_5 rfl ?_
    refine m_geti dX10_isHeard_6 fX10_105 sh66 rfl ?_
    refine z_icmp_ge 60 dX10_isHeard_9 (by decide) (fun h9 => ?_) (fun h9 => absurd (hn ▸ nI_le (Nat.le_refl n) (by omega)) h9)
    refine z_iload_n dX10_isHeard_60 rfl ?_
    refine z_aload_n dX10_isHeard_61 rfl ?_
    refine m_getr dX10_isHeard_62 fX10_38 sh66 rfl ?_
    refine z_bipush (v := 19) dX10_isHeard_65 rfl ?_
    refine m_ialdN (j := 19) dX10_isHeard_67 sh75 (by decide) (by decide) rfl ?_
    refine z_icmp_ge 75 dX10_isHeard_68 (by decide) (fun h68 => ?_) (fun h68 => ?_)
    · skip
      refine z_iconst (v := 0) dX10_isHeard_75 rfl ?_
      refine m_iret dX10_isHeard_76 rfl rfl ?_
      exact ⟨by subst_vars; simp only [rHeard, if_pos h68], rfl, rfl⟩
    · skip
      refine z_iconst (v := 1) dX10_isHeard_71 rfl ?_
      refine z_goto 76 dX10_isHeard_72 (by decide) ?_
      refine m_iret dX10_isHeard_76 rfl rfl ?_
      exact ⟨by subst_vars; simp only [rHeard, if_neg h68], rfl, rfl⟩)
  refine z_iconst (v := 0) dX10_isHeard_0 rfl ?_
  refine z_istore_n (i := 2) (fun y => [(2, .int y), (0, .ref 66), (1, .int (nI w))]) dX10_isHeard_1 rfl rfl (fun _ => rfl) (fun x9 e9 => ?_)
  subst e9
  refine z_iconst (v := 0) dX10_isHeard_2 rfl ?_
  refine z_istore_n (i := 3) (fun y => [(3, .int y), (2, .int 0), (0, .ref 66), (1, .int (nI w))]) dX10_isHeard_3 rfl rfl (fun _ => rfl) (fun x9 e9 => ?_)
  subst e9
  exact hL 0 (Nat.zero_le n)
set_option maxRecDepth 100000 in
set_option maxHeartbeats 4000000 in
theorem c_leafFor {l : Launch} {G : zG} {μ : Mem} {ν : Lng} {w s : Nat} (hw : w < 6) (hsd : μ 71 w = nI s) (hs : s < 2)  : Cm l G mX10_leafFor [.ref 66, .int (nI w)] μ ν (fun a9 b9 c9 => nI (rLeaf μ w s) = a9 ∧ μ = b9 ∧ ν = c9) := by
  refine Con.of (by decide) (Nat.le_of_ble_eq_true rfl) ?_
  show Am l G mX10_leafFor 0 [(0, .ref 66), (1, .int (nI w))] [] μ ν _
  refine z_aload_n dX10_leafFor_0 rfl ?_
  refine m_getr dX10_leafFor_1 fX10_26 sh66 rfl ?_
  refine z_iload_n dX10_leafFor_4 rfl ?_
  refine m_ialdN (j := w) dX10_leafFor_5 sh71 rfl (by omega) rfl ?_
  rw [hsd]
  refine z_istore_n (i := 2) (fun y => [(2, .int y), (0, .ref 66), (1, .int (nI w))]) dX10_leafFor_6 rfl rfl (fun _ => rfl) (fun x9 e9 => ?_)
  subst e9
  refine z_aload_n dX10_leafFor_7 rfl ?_
  refine m_getr dX10_leafFor_8 fX10_38 sh66 rfl ?_
  refine z_iload_n dX10_leafFor_11 rfl ?_
  refine m_ialdN (j := w) dX10_leafFor_12 sh75 rfl (by omega) rfl ?_
  refine z_istore_n (i := 3) (fun y => [(3, .int y), (2, .int (nI s)), (0, .ref 66), (1, .int (nI w))]) dX10_leafFor_13 rfl rfl (fun _ => rfl) (fun x9 e9 => ?_)
  subst e9
  refine z_aload_n dX10_leafFor_14 rfl ?_
  refine m_getr dX10_leafFor_15 fX10_38 sh66 rfl ?_
  refine z_bipush (v := 6) dX10_leafFor_18 rfl ?_
  refine z_iload_n dX10_leafFor_20 rfl ?_
  refine z_iadd dX10_leafFor_21 ?_
  rw [show (6 + nI w) = nI (6 + w) from z6a 6 w]
  refine m_ialdN (j := (6 + w)) dX10_leafFor_22 sh75 rfl (by omega) rfl ?_
  refine z_istore (i := 4) (fun y => [(4, .int y), (3, .int (μ 75 w)), (2, .int (nI s)), (0, .ref 66), (1, .int (nI w))]) dX10_leafFor_23 rfl (fun _ => rfl) (fun x9 e9 => ?_)
  subst e9
  refine z_iload dX10_leafFor_25 rfl ?_
  refine z_iconst (v := 2) dX10_leafFor_27 rfl ?_
  refine z_icmp_ge 44 dX10_leafFor_28 (by decide) (fun h28 => ?_) (fun h28 => ?_)
  · skip
    refine z_aload_n dX10_leafFor_44 rfl ?_
    refine z_iload_n dX10_leafFor_45 rfl ?_
    refine z_iconst (v := 1) dX10_leafFor_46 rfl ?_
    refine z_iload_n dX10_leafFor_47 rfl ?_
    refine z_isub dX10_leafFor_48 ?_
    rw [show (1 - nI s) = nI (1 - s) from zfar hs]
    refine z_iload_n dX10_leafFor_49 rfl ?_
    refine m_callV (As := [.int _, .int _, .int _]) dX10_leafFor_50 kX10_184 ⟨rfl, rfl⟩ rfl ⟨rfl, rfl⟩ rfl rfl sh66 rfl rfl (c_isBusy (lf := s) (s := (1 - s)) (by omega) (by omega)) (fun r50 μ50 ν50 hk50 => ?_)
    obtain ⟨rfl, rfl, rfl⟩ := hk50
    refine z_istore (i := 5) (fun y => [(5, .int y), (4, .int (μ 75 (6 + w))), (3, .int (μ 75 w)), (2, .int (nI s)), (0, .ref 66), (1, .int (nI w))]) dX10_leafFor_53 rfl (fun _ => rfl) (fun x9 e9 => ?_)
    subst e9
    refine z_iload dX10_leafFor_55 rfl ?_
    refine z_if_eq 80 dX10_leafFor_57 (by decide) (fun h57 => ?_) (fun h57 => ?_)
    · skip
      refine z_iload_n dX10_leafFor_80 rfl ?_
      refine m_iret dX10_leafFor_81 rfl rfl ?_
      exact ⟨by subst_vars; simp only [rLeaf, if_pos h28, if_pos h57], rfl, rfl⟩
    · skip
      refine z_aload_n dX10_leafFor_60 rfl ?_
      refine z_iconst (v := 1) dX10_leafFor_61 rfl ?_
      refine z_iload_n dX10_leafFor_62 rfl ?_
      refine z_isub dX10_leafFor_63 ?_
      rw [show (1 - nI s) = nI (1 - s) from zfar hs]
      refine z_iconst (v := 1) dX10_leafFor_64 rfl ?_
      refine z_iload_n dX10_leafFor_65 rfl ?_
      refine z_isub dX10_leafFor_66 ?_
      rw [show (1 - nI s) = nI (1 - s) from zfar hs]
      refine z_iload_n dX10_leafFor_67 rfl ?_
      refine m_callV (As := [.int _, .int _, .int _]) dX10_leafFor_68 kX10_184 ⟨rfl, rfl⟩ rfl ⟨rfl, rfl⟩ rfl rfl sh66 rfl rfl (c_isBusy (lf := (1 - s)) (s := (1 - s)) (by omega) (by omega)) (fun r68 μ68 ν68 hk68 => ?_)
      obtain ⟨rfl, rfl, rfl⟩ := hk68
      refine z_if_ne 80 dX10_leafFor_71 (by decide) (fun h71 => ?_) (fun h71 => ?_)
      · skip
        refine z_iload_n dX10_leafFor_80 rfl ?_
        refine m_iret dX10_leafFor_81 rfl rfl ?_
        exact ⟨by subst_vars; simp only [rLeaf, if_pos h28, if_neg h57, if_neg h71], rfl, rfl⟩
      · skip
        refine z_iconst (v := 1) dX10_leafFor_74 rfl ?_
        refine z_iload_n dX10_leafFor_75 rfl ?_
        refine z_isub dX10_leafFor_76 ?_
        rw [show (1 - nI s) = nI (1 - s) from zfar hs]
        refine z_goto 81 dX10_leafFor_77 (by decide) ?_
        refine m_iret dX10_leafFor_81 rfl rfl ?_
        exact ⟨by subst_vars; simp only [rLeaf, if_pos h28, if_neg h57, if_pos h71], rfl, rfl⟩
  · skip
    refine z_iload dX10_leafFor_31 rfl ?_
    refine z_if_ne 40 dX10_leafFor_33 (by decide) (fun h33 => ?_) (fun h33 => ?_)
    · skip
      refine z_iconst (v := 1) dX10_leafFor_40 rfl ?_
      refine z_iload_n dX10_leafFor_41 rfl ?_
      refine z_isub dX10_leafFor_42 ?_
      rw [show (1 - nI s) = nI (1 - s) from zfar hs]
      refine m_iret dX10_leafFor_43 rfl rfl ?_
      exact ⟨by subst_vars; simp only [rLeaf, if_neg h28, if_neg h33], rfl, rfl⟩
    · skip
      refine z_iload_n dX10_leafFor_36 rfl ?_
      refine z_goto 43 dX10_leafFor_37 (by decide) ?_
      refine m_iret dX10_leafFor_43 rfl rfl ?_
      exact ⟨by subst_vars; simp only [rLeaf, if_neg h28, if_pos h33], rfl, rfl⟩
set_option maxRecDepth 100000 in
set_option maxHeartbeats 4000000 in
theorem c_lose {l : Launch} {G : zG} {μ : Mem} {ν : Lng} {w : Nat} (hw : w < 6)  : Cm l G mX10_lose [.ref 66, .int (nI w)] μ ν (fun _ b9 c9 => rLose μ w = b9 ∧ ν = c9) := by
  refine Con.of (by decide) (Nat.le_of_ble_eq_true rfl) ?_
  show Am l G mX10_lose 0 [(0, .ref 66), (1, .int (nI w))] [] μ ν _
  refine z_aload_n dX10_lose_0 rfl ?_
  refine z_dup dX10_lose_1 rfl ?_
  refine m_geti dX10_lose_2 fX10_187 sh66 rfl ?_
  refine z_aload_n dX10_lose_5 rfl ?_
  refine m_getr dX10_lose_6 fX10_63 sh66 rfl ?_
  refine z_iload_n dX10_lose_9 rfl ?_
  refine m_zaldN (j := w) dX10_lose_10 sh83 rfl (by omega) rfl ?_
  refine z_if_eq 18 dX10_lose_11 (by decide) (fun h11 => ?_) (fun h11 => ?_)
  · skip
    refine z_aload_n dX10_lose_18 rfl ?_
    refine m_getr dX10_lose_19 fX10_32 sh66 rfl ?_
    refine z_iload_n dX10_lose_22 rfl ?_
    refine m_ialdN (j := w) dX10_lose_23 sh73 rfl (by omega) rfl ?_
    refine z_iadd dX10_lose_24 ?_
    refine m_puti dX10_lose_25 fX10_187 (fun q h => by cases h; rfl) rfl rfl sh66 rfl ?_
    refine z_aload_n dX10_lose_28 rfl ?_
    refine m_getr dX10_lose_29 fX10_63 sh66 rfl ?_
    refine z_iload_n dX10_lose_32 rfl ?_
    refine z_iconst (v := 1) dX10_lose_33 rfl ?_
    refine m_zastN (j := w) dX10_lose_34 sh83 rfl (by omega) rfl rfl ?_
    refine m_ret dX10_lose_35 rfl ?_
    exact ⟨by subst_vars; simp only [rLose, if_pos h11], rfl⟩
  · skip
    refine z_iconst (v := 0) dX10_lose_14 rfl ?_
    refine z_goto 24 dX10_lose_15 (by decide) ?_
    refine z_iadd dX10_lose_24 ?_
    refine m_puti dX10_lose_25 fX10_187 (fun q h => by cases h; rfl) rfl rfl sh66 rfl ?_
    refine z_aload_n dX10_lose_28 rfl ?_
    refine m_getr dX10_lose_29 fX10_63 sh66 rfl ?_
    refine z_iload_n dX10_lose_32 rfl ?_
    refine z_iconst (v := 1) dX10_lose_33 rfl ?_
    refine m_zastN (j := w) dX10_lose_34 sh83 rfl (by omega) rfl rfl ?_
    refine m_ret dX10_lose_35 rfl ?_
    exact ⟨by subst_vars; simp only [rLose, if_neg h11], rfl⟩
set_option maxRecDepth 100000 in
set_option maxHeartbeats 4000000 in
theorem c_crashM {l : Launch} {G : zG} {μ : Mem} {ν : Lng} {w lf s m : Nat} (hw : w < 6) (hl : lf < 2) (hsd : μ 71 w = nI s) (hs : s < 2) (hm : m < 6) (em : μ 90 (2 * lf + (1 - s)) = nI m)  : Cm l G mX10_crash [.ref 66, .int (nI w), .int (nI lf)] μ ν (fun _ b9 c9 => rCrash μ w lf s m = b9 ∧ ν = c9) := by
  refine Con.of (by decide) (Nat.le_of_ble_eq_true rfl) ?_
  show Am l G mX10_crash 0 [(0, .ref 66), (1, .int (nI w)), (2, .int (nI lf))] [] μ ν _
  refine z_aload_n dX10_crash_0 rfl ?_
  refine m_getr dX10_crash_1 fX10_38 sh66 rfl ?_
  refine z_iload_n dX10_crash_4 rfl ?_
  refine m_ialdN (j := w) dX10_crash_5 sh75 rfl (by omega) rfl ?_
  refine z_istore_n (i := 3) (fun y => [(3, .int y), (0, .ref 66), (1, .int (nI w)), (2, .int (nI lf))]) dX10_crash_6 rfl rfl (fun _ => rfl) (fun x9 e9 => ?_)
  subst e9
  refine z_aload_n dX10_crash_7 rfl ?_
  refine m_getr dX10_crash_8 fX10_84 sh66 rfl ?_
  refine z_iconst (v := 2) dX10_crash_11 rfl ?_
  refine z_iload_n dX10_crash_12 rfl ?_
  refine z_imul dX10_crash_13 ?_
  refine z_iconst (v := 1) dX10_crash_14 rfl ?_
  refine z_iadd dX10_crash_15 ?_
  refine z_aload_n dX10_crash_16 rfl ?_
  refine m_getr dX10_crash_17 fX10_26 sh66 rfl ?_
  refine z_iload_n dX10_crash_20 rfl ?_
  refine m_ialdN (j := w) dX10_crash_21 sh71 rfl (by omega) rfl ?_
  rw [hsd]
  refine z_isub dX10_crash_22 ?_
  rw [show (((2 * nI lf) + 1) - nI s) = nI (2 * lf + (1 - s)) from z2x hs]
  refine m_ialdN (j := (2 * lf + (1 - s))) dX10_crash_23 sh90 rfl (by omega) rfl ?_
  rw [em]
  refine z_istore (i := 4) (fun y => [(4, .int y), (3, .int (μ 75 w)), (0, .ref 66), (1, .int (nI w)), (2, .int (nI lf))]) dX10_crash_24 rfl (fun _ => rfl) (fun x9 e9 => ?_)
  subst e9
  refine z_aload_n dX10_crash_26 rfl ?_
  refine m_getr dX10_crash_27 fX10_48 sh66 rfl ?_
  refine z_iload_n dX10_crash_30 rfl ?_
  refine z_bipush (v := 6) dX10_crash_31 rfl ?_
  refine m_iastN (j := w) dX10_crash_33 sh78 rfl (by omega) rfl ?_
  refine z_aload_n dX10_crash_34 rfl ?_
  refine m_getr dX10_crash_35 fX10_48 sh66 rfl ?_
  refine z_iload dX10_crash_38 rfl ?_
  refine z_bipush (v := 6) dX10_crash_40 rfl ?_
  refine m_iastN (j := m) dX10_crash_42 sh78 rfl (by omega) rfl ?_
  refine z_aload_n dX10_crash_43 rfl ?_
  refine z_iload_n dX10_crash_44 rfl ?_
  refine m_callVv (As := [.int _]) dX10_crash_45 kX10_190 ⟨rfl, rfl⟩ rfl ⟨rfl, rfl⟩ rfl rfl sh66 rfl rfl (c_lose hw) (fun μ45 ν45 hk45 => ?_)
  obtain ⟨rfl, rfl⟩ := hk45
  refine z_aload_n dX10_crash_48 rfl ?_
  refine z_iload dX10_crash_49 rfl ?_
  refine m_callVv (As := [.int _]) dX10_crash_51 kX10_190 ⟨rfl, rfl⟩ rfl ⟨rfl, rfl⟩ rfl rfl sh66 rfl rfl (c_lose hm) (fun μ51 ν51 hk51 => ?_)
  obtain ⟨rfl, rfl⟩ := hk51
  refine z_aload_n dX10_crash_54 rfl ?_
  refine z_iload_n dX10_crash_55 rfl ?_
  refine z_aload_n dX10_crash_56 rfl ?_
  refine m_getr dX10_crash_57 fX10_26 sh66 rfl ?_
  refine z_iload_n dX10_crash_60 rfl ?_
  refine m_ialdN (j := w) dX10_crash_61 sh71 rfl (by omega) rfl ?_
  rw [show rLose (rLose (up2 (up2 μ 78 w 6) 78 m 6) w) m 71 w = nI s from hsd]
  refine z_iload_n dX10_crash_62 rfl ?_
  refine z_iload_n dX10_crash_63 rfl ?_
  refine z_bipush (v := 20) dX10_crash_64 rfl ?_
  refine z_iadd dX10_crash_66 ?_
  refine m_callVv (As := [.int _, .int _, .int _, .int _]) dX10_crash_67 kX10_194 ⟨rfl, rfl⟩ rfl ⟨rfl, rfl⟩ rfl rfl sh66 rfl rfl (c_widen hl hs) (fun μ67 ν67 hk67 => ?_)
  obtain ⟨rfl, rfl⟩ := hk67
  refine z_aload_n dX10_crash_70 rfl ?_
  refine m_getr dX10_crash_71 fX10_51 sh66 rfl ?_
  refine z_iload_n dX10_crash_74 rfl ?_
  refine z_iload_n dX10_crash_75 rfl ?_
  refine m_iastN (j := w) dX10_crash_76 sh79 rfl (by omega) rfl ?_
  refine z_aload_n dX10_crash_77 rfl ?_
  refine m_getr dX10_crash_78 fX10_54 sh66 rfl ?_
  refine z_iload_n dX10_crash_81 rfl ?_
  refine z_iload_n dX10_crash_82 rfl ?_
  refine z_bipush (v := 20) dX10_crash_83 rfl ?_
  refine z_iadd dX10_crash_85 ?_
  refine m_iastN (j := w) dX10_crash_86 sh80 rfl (by omega) rfl ?_
  refine m_ret dX10_crash_87 rfl ?_
  exact ⟨rfl, rfl⟩
