
theorem zfar {s : Nat} (hs : s < 2) : (1 : Int32) - nI s = nI (1 - s) := by
  match s, hs with
  | 0, _ => rfl
  | 1, _ => rfl
def fCnt (co : Nat → Int32) (c : Int32) : Nat → Int32
  | 0 => 0
  | i + 1 => if c - co i < 1 then fCnt co c i else if 20 < c - co i then fCnt co c i else fCnt co c i + 1
def fHeard (μ : Mem) (pl n w : Nat) : Int32 := if μ 21 w = 0 then 0 else if μ pl 4 ≤ fCnt (μ (pl + 1)) (μ (pl + 1) w) n then 0 else 1
def gChoose (μ : Mem) (rule : Int32) (s : Nat) (t : Int32) : Nat := if rule = 0 then s else if rule = 1 then 1 - s else if fBusy μ (30 + 4 * s) (1 - s) t = 0 then s else if fBusy μ (30 + 4 * (1 - s)) (1 - s) t = 0 then 1 - s else s
def gThrough (μ : Mem) (pl w lf s : Nat) (t : Int32) : Mem :=
  if fBusy μ (30 + 4 * lf) s t = 0 then
    if fOpen μ (30 + 4 * lf) t = 0 then
      let μ1 := if fBack μ (30 + 4 * lf) t = 0 then (if μ (38 + w) 3 = nI s then μ else up2 μ (38 + w) 0 (if μ (38 + w) 0 < 2 then 2 else μ (38 + w) 0)) else up2 (up2 μ (38 + w) 0 5) (38 + w) 5 1
      fKick μ1 (30 + 4 * lf) t (μ1 (pl + 2) w * μ1 16 lf) (μ1 17 lf)
    else up2 μ (38 + w) 0 (if μ (38 + w) 0 < 1 then 1 else μ (38 + w) 0)
  else up2 μ (38 + w) 0 (if μ (38 + w) 0 < 1 then 1 else μ (38 + w) 0)
def gCrash (μ : Mem) (w : Nat) (v : Int32) : Mem :=
  let μ1 := up2 (up2 μ (38 + w) 0 6) (38 + w) 5 1
  if v < 0 then μ1 else up2 (up2 μ1 (38 + v.toNatClampNeg) 0 6) (38 + v.toNatClampNeg) 5 1
def zLat (v : Int32) : Prop := v < 0 ∨ ∃ m : Nat, m < 6 ∧ v = nI m
def gEnd (μ : Mem) (w lf s : Nat) (t st sp : Int32) : Mem :=
  fLet (up2 (up2 (up2 μ (38 + w) 4 (st - t)) (38 + w) 1 st) (38 + w) 2 (st + sp)) (30 + 4 * lf) s (nI w) st (st + sp)
def gBegin (μ : Mem) (w lf : Nat) : Mem :=
  let μ2 := up2 (up2 (up2 μ (38 + w) 0 0) (38 + w) 5 0) (38 + w) 3 (nI lf)
  up2 μ2 (30 + 4 * lf) 6 (μ2 (30 + 4 * lf) 6 + 1)
def gWait (μ : Mem) (pl w lf s : Nat) (t sp : Int32) : Mem :=
  gEnd (gThrough (up2 μ (38 + w) 0 (if μ pl 3 = 1 then 4 else 3)) pl w lf s (μ (30 + 4 * lf + 2) (1 - s))) w lf s t (μ (30 + 4 * lf + 2) (1 - s)) sp
def gLook2 (μ : Mem) (pl n w lf s : Nat) (t sp : Int32) : Mem :=
  if fBusy μ (30 + 4 * lf) (1 - s) t = 0 then gEnd (gThrough μ pl w lf s t) w lf s t t sp
  else if μ pl 3 = 0 then (if fHeard μ pl n w = 0 then gEnd (gCrash μ w (μ (30 + 4 * lf + 3) (1 - s))) w lf s t t 20 else gWait μ pl w lf s t sp)
  else gWait μ pl w lf s t sp
def gLeaf (μ : Mem) (pl w s : Nat) : Nat :=
  let μ1 := up2 (up2 μ (38 + w) 0 0) (38 + w) 5 0
  gChoose μ1 (μ1 (pl + 3) w) s (μ (pl + 1) w)
def gLook (μ : Mem) (pl n w s : Nat) : Mem := gLook2 (gBegin μ w (gLeaf μ pl w s)) pl n w (gLeaf μ pl w s) s (μ (pl + 1) w) (μ 19 w)
theorem gChoose_lt {μ : Mem} {rule : Int32} {s : Nat} {t : Int32} (hs : s < 2) : gChoose μ rule s t < 2 := by
  unfold gChoose
  repeat' split
  all_goals omega
set_option maxRecDepth 100000 in
set_option maxHeartbeats 4000000 in
theorem c_isHeard {l : Launch} {G : zG} {pl : Nat} (hp : zPlan pl) {μ : Mem} {ν : Lng} {n w : Nat} (hn : μ 15 6 = nI n) (h6 : n ≤ 6) (hw : w < 6) : Cm l G mX0_isHeard [.ref 26, .int (nI w), .ref pl] μ ν (fun a9 b9 c9 => fHeard μ pl n w = a9 ∧ μ = b9 ∧ ν = c9) := by
  refine Con.of (by decide) (Nat.le_of_ble_eq_true rfl) ?_
  show Am l G mX0_isHeard 0 [(0, .ref 26), (1, .int (nI w)), (2, .ref pl)] [] μ ν _
  by_cases h9 : μ 21 w = 0
  · skip
    refine z_aload_n dX0_isHeard_0 rfl ?_
    refine m_getr dX0_isHeard_1 fX0_27 sh26 rfl ?_
    refine m_getr dX0_isHeard_4 fX0_118 sh15 rfl ?_
    refine z_iload_n dX0_isHeard_7 rfl ?_
    refine m_ialdN (j := w) dX0_isHeard_8 sh21 rfl (by omega) rfl ?_
    refine z_if_ne 14 dX0_isHeard_9 (by decide) (fun h9_ => absurd h9 h9_) (fun h9_ => ?_)
    refine z_iconst (v := 0) dX0_isHeard_12 rfl ?_
    refine m_iret dX0_isHeard_13 rfl rfl ?_
    exact ⟨by simp only [fHeard, if_pos h9], rfl, rfl⟩
  · skip
    have hL := m_for (l := l) (G := G) (M := mX0_isHeard) (pc := 19) (ν := ν) (K := (fun a9 b9 c9 => fHeard μ pl n w = a9 ∧ μ = b9 ∧ ν = c9)) (N := n) (fun i => [(4, .int (nI i)), (3, .int (fCnt (μ (pl + 1)) (μ (pl + 1) w) i)), (0, .ref 26), (1, .int (nI w)), (2, .ref pl)]) (fun i => μ) (fun i hi H => by
      refine z_iload dX0_isHeard_19 rfl ?_
      refine z_aload_n dX0_isHeard_21 rfl ?_
      refine m_getr dX0_isHeard_22 fX0_27 sh26 rfl ?_
      refine m_geti dX0_isHeard_25 fX0_40 sh15 rfl ?_
      refine z_icmp_ge 69 dX0_isHeard_28 (by decide) (fun h28 => absurd (hn ▸ h28) (nI_ge hi (by omega))) (fun h28 => ?_)
      refine z_aload_n dX0_isHeard_31 rfl ?_
      refine m_getr dX0_isHeard_32 fX0_50 hp.1 rfl ?_
      refine z_iload_n dX0_isHeard_35 rfl ?_
      refine m_ialdN (j := w) dX0_isHeard_36 hp.2.1 rfl (by omega) rfl ?_
      refine z_aload_n dX0_isHeard_37 rfl ?_
      refine m_getr dX0_isHeard_38 fX0_50 hp.1 rfl ?_
      refine z_iload dX0_isHeard_41 rfl ?_
      refine m_ialdN (j := i) dX0_isHeard_43 hp.2.1 rfl (by omega) rfl ?_
      refine z_isub dX0_isHeard_44 ?_
      refine z_istore (i := 5) (fun y => [(5, .int y), (4, .int (nI i)), (3, .int (fCnt (μ (pl + 1)) (μ (pl + 1) w) i)), (0, .ref 26), (1, .int (nI w)), (2, .ref pl)]) dX0_isHeard_45 rfl (fun _ => rfl) (fun x5_45 ex5_45 => ?_)
      refine z_iload dX0_isHeard_47 rfl ?_
      refine z_iconst (v := 1) dX0_isHeard_49 rfl ?_
      refine z_icmp_lt 63 dX0_isHeard_50 (by decide) (fun h50 => ?_) (fun h50 => ?_)
      · skip
        refine z_iinc (fun y => [(4, .int y), (5, .int x5_45), (3, .int (fCnt (μ (pl + 1)) (μ (pl + 1) w) i)), (0, .ref 26), (1, .int (nI w)), (2, .ref pl)]) dX0_isHeard_63 rfl rfl (fun _ => rfl) (fun x4_63 ex4_63 => ?_)
        obtain rfl : x4_63 = nI (i + 1) := by rw [ex4_63]; exact nI_1 i
        refine z_goto 19 dX0_isHeard_66 (by decide) ?_
        refine z_lv [0, 2, 3, 4, 5] rfl ?_
        simp only [fCnt, ← ex5_45, h50, if_true, if_false] at H
        try simp only [ex3_60] at *
        exact H
      · skip
        refine z_iload dX0_isHeard_53 rfl ?_
        refine z_bipush (v := 20) dX0_isHeard_55 rfl ?_
        refine z_icmp_gt 63 dX0_isHeard_57 (by decide) (fun h57 => ?_) (fun h57 => ?_)
        · skip
          refine z_iinc (fun y => [(4, .int y), (5, .int x5_45), (3, .int (fCnt (μ (pl + 1)) (μ (pl + 1) w) i)), (0, .ref 26), (1, .int (nI w)), (2, .ref pl)]) dX0_isHeard_63 rfl rfl (fun _ => rfl) (fun x4_63 ex4_63 => ?_)
          obtain rfl : x4_63 = nI (i + 1) := by rw [ex4_63]; exact nI_1 i
          refine z_goto 19 dX0_isHeard_66 (by decide) ?_
          refine z_lv [0, 2, 3, 4, 5] rfl ?_
          simp only [fCnt, ← ex5_45, h50, h57, if_true, if_false] at H
          try simp only [ex3_60] at *
          exact H
        · skip
          refine z_iinc (fun y => [(3, .int y), (5, .int x5_45), (4, .int (nI i)), (0, .ref 26), (1, .int (nI w)), (2, .ref pl)]) dX0_isHeard_60 rfl rfl (fun _ => rfl) (fun x3_60 ex3_60 => ?_)
          refine z_iinc (fun y => [(4, .int y), (3, .int x3_60), (5, .int x5_45), (0, .ref 26), (1, .int (nI w)), (2, .ref pl)]) dX0_isHeard_63 rfl rfl (fun _ => rfl) (fun x4_63 ex4_63 => ?_)
          obtain rfl : x4_63 = nI (i + 1) := by rw [ex4_63]; exact nI_1 i
          refine z_goto 19 dX0_isHeard_66 (by decide) ?_
          refine z_lv [0, 1, 3, 4, 5] rfl ?_
          simp only [fCnt, ← ex5_45, h50, h57, if_true, if_false] at H
          try simp only [ex3_60] at *
          exact H) (by
      refine z_iload dX0_isHeard_19 rfl ?_
      refine z_aload_n dX0_isHeard_21 rfl ?_
      refine m_getr dX0_isHeard_22 fX0_27 sh26 rfl ?_
      refine m_geti dX0_isHeard_25 fX0_40 sh15 rfl ?_
      refine z_icmp_ge 69 dX0_isHeard_28 (by decide) (fun h28 => ?_) (fun h28 => absurd (hn ▸ nI_le (Nat.le_refl n) (by omega)) h28)
      refine z_iload_n dX0_isHeard_69 rfl ?_
      refine z_aload_n dX0_isHeard_70 rfl ?_
      refine m_geti dX0_isHeard_71 fX0_121 hp.1 rfl ?_
      refine z_icmp_ge 81 dX0_isHeard_74 (by decide) (fun h74 => ?_) (fun h74 => ?_)
      · skip
        refine z_iconst (v := 0) dX0_isHeard_81 rfl ?_
        refine m_iret dX0_isHeard_82 rfl rfl ?_
        exact ⟨by subst_vars; simp only [fHeard, if_neg h9, if_pos h74], rfl, rfl⟩
      · skip
        refine z_iconst (v := 1) dX0_isHeard_77 rfl ?_
        refine z_goto 82 dX0_isHeard_78 (by decide) ?_
        refine m_iret dX0_isHeard_82 rfl rfl ?_
        exact ⟨by subst_vars; simp only [fHeard, if_neg h9, if_neg h74], rfl, rfl⟩)
    refine z_aload_n dX0_isHeard_0 rfl ?_
    refine m_getr dX0_isHeard_1 fX0_27 sh26 rfl ?_
    refine m_getr dX0_isHeard_4 fX0_118 sh15 rfl ?_
    refine z_iload_n dX0_isHeard_7 rfl ?_
    refine m_ialdN (j := w) dX0_isHeard_8 sh21 rfl (by omega) rfl ?_
    refine z_if_ne 14 dX0_isHeard_9 (by decide) (fun h9_ => ?_) (fun h9_ => absurd h9_ h9)
    refine z_iconst (v := 0) dX0_isHeard_14 rfl ?_
    refine z_istore_n (i := 3) (fun y => [(3, .int y), (0, .ref 26), (1, .int (nI w)), (2, .ref pl)]) dX0_isHeard_15 rfl rfl (fun _ => rfl) (fun x9 e9 => ?_)
    subst e9
    refine z_iconst (v := 0) dX0_isHeard_16 rfl ?_
    refine z_istore (i := 4) (fun y => [(4, .int y), (3, .int 0), (0, .ref 26), (1, .int (nI w)), (2, .ref pl)]) dX0_isHeard_17 rfl (fun _ => rfl) (fun x9 e9 => ?_)
    subst e9
    exact hL 0 (Nat.zero_le n)
def fSum (f : Nat → Int32) : Nat → Int32
  | 0 => 0
  | i + 1 => fSum f i + f i
def fHow (μ : Mem) (kd : Int32) : Nat → Int32
  | 0 => 0
  | i + 1 => if μ (38 + i) 0 = kd then fHow μ kd i + 1 else fHow μ kd i
def fLast (μ : Mem) : Nat → Int32
  | 0 => 0
  | i + 1 => if fLast μ i < μ (38 + i) 2 then μ (38 + i) 2 else fLast μ i
def fSec (μ : Mem) (n : Nat) : Int32 := fSum (fun w => μ (38 + w) 4) n
def fLoss (μ : Mem) (n : Nat) : Int32 := fSum (fun w => μ (38 + w) 5 * μ 20 w) n
def fCost (μ : Mem) (n : Nat) : Int32 := fLoss μ n * 10 + fSec μ n
set_option maxRecDepth 100000 in
set_option maxHeartbeats 4000000 in
theorem c_chooseLeaf {l : Launch} {G : zG} {μ : Mem} {ν : Lng} {rule t : Int32} {s : Nat} (hs : s < 2) : Cm l G mX0_chooseLeaf [.ref 26, .int rule, .int (nI s), .int t] μ ν (fun a9 b9 c9 => nI (gChoose μ rule s t) = a9 ∧ μ = b9 ∧ ν = c9) := by
  refine Con.of (by decide) (Nat.le_of_ble_eq_true rfl) ?_
  show Am l G mX0_chooseLeaf 0 [(0, .ref 26), (1, .int rule), (2, .int (nI s)), (3, .int t)] [] μ ν _
  refine z_iconst (v := 1) dX0_chooseLeaf_0 rfl ?_
  refine z_iload_n dX0_chooseLeaf_1 rfl ?_
  refine z_isub dX0_chooseLeaf_2 ?_
  rw [show (1 - nI s) = nI (1 - s) from zfar hs]
  refine z_istore (i := 4) (fun y => [(4, .int y), (0, .ref 26), (1, .int rule), (2, .int (nI s)), (3, .int t)]) dX0_chooseLeaf_3 rfl (fun _ => rfl) (fun x9 e9 => ?_)
  subst e9
  refine z_iload_n dX0_chooseLeaf_5 rfl ?_
  refine z_if_ne 11 dX0_chooseLeaf_6 (by decide) (fun h6 => ?_) (fun h6 => ?_)
  · skip
    refine z_iload_n dX0_chooseLeaf_11 rfl ?_
    refine z_iconst (v := 1) dX0_chooseLeaf_12 rfl ?_
    refine z_icmp_ne 19 dX0_chooseLeaf_13 (by decide) (fun h13 => ?_) (fun h13 => ?_)
    · skip
      refine z_aload_n dX0_chooseLeaf_19 rfl ?_
      refine m_getr dX0_chooseLeaf_20 fX0_11 sh26 rfl ?_
      refine z_iload_n dX0_chooseLeaf_23 rfl ?_
      refine m_aaldN (j := s) (q := (30 + 4 * s)) dX0_chooseLeaf_24 sh27 rfl rfl (by omega) rfl (zSwing_row s (by omega)) ?_
      refine z_iload dX0_chooseLeaf_25 rfl ?_
      refine z_iload_n dX0_chooseLeaf_27 rfl ?_
      refine m_callV (As := [.int _, .int _]) dX0_chooseLeaf_28 kX0_80 ⟨rfl, rfl⟩ rfl ⟨rfl, rfl⟩ rfl rfl (zSwing_of s (by omega)).1 rfl rfl (c_busyFor (zSwing_of s (by omega)) (s := (1 - s)) (by omega)) (fun r28 μ28 ν28 hk28 => ?_)
      obtain ⟨rfl, rfl, rfl⟩ := hk28
      refine z_if_eq 54 dX0_chooseLeaf_31 (by decide) (fun h31 => ?_) (fun h31 => ?_)
      · skip
        refine z_iconst (v := 0) dX0_chooseLeaf_54 rfl ?_
        refine z_istore (i := 5) (fun y => [(5, .int y), (4, .int (nI (1 - s))), (0, .ref 26), (1, .int rule), (2, .int (nI s)), (3, .int t)]) dX0_chooseLeaf_55 rfl (fun _ => rfl) (fun x5_55 ex5_55 => ?_)
        refine z_iload dX0_chooseLeaf_57 rfl ?_
        refine z_if_eq 67 dX0_chooseLeaf_59 (by decide) (fun h59 => ?_) (fun h59 => ?_)
        · skip
          refine z_iload_n dX0_chooseLeaf_67 rfl ?_
          refine m_iret dX0_chooseLeaf_68 rfl rfl ?_
          first | exact (h59 ex5_55).elim | exact absurd (ex5_55.symm.trans h59) (by decide) | exact ⟨by simp [gChoose, h6, h13, h31, h59], rfl, rfl⟩
        · skip
          refine z_iload dX0_chooseLeaf_62 rfl ?_
          refine z_goto 68 dX0_chooseLeaf_64 (by decide) ?_
          refine m_iret dX0_chooseLeaf_68 rfl rfl ?_
          first | exact (h59 ex5_55).elim | exact absurd (ex5_55.symm.trans h59) (by decide) | exact ⟨by simp [gChoose, h6, h13, h31, h59], rfl, rfl⟩
      · skip
        refine z_aload_n dX0_chooseLeaf_34 rfl ?_
        refine m_getr dX0_chooseLeaf_35 fX0_11 sh26 rfl ?_
        refine z_iload dX0_chooseLeaf_38 rfl ?_
        refine m_aaldN (j := (1 - s)) (q := (30 + 4 * (1 - s))) dX0_chooseLeaf_40 sh27 rfl rfl (by omega) rfl (zSwing_row (1 - s) (by omega)) ?_
        refine z_iload dX0_chooseLeaf_41 rfl ?_
        refine z_iload_n dX0_chooseLeaf_43 rfl ?_
        refine m_callV (As := [.int _, .int _]) dX0_chooseLeaf_44 kX0_80 ⟨rfl, rfl⟩ rfl ⟨rfl, rfl⟩ rfl rfl (zSwing_of (1 - s) (by omega)).1 rfl rfl (c_busyFor (zSwing_of (1 - s) (by omega)) (s := (1 - s)) (by omega)) (fun r44 μ44 ν44 hk44 => ?_)
        obtain ⟨rfl, rfl, rfl⟩ := hk44
        refine z_if_ne 54 dX0_chooseLeaf_47 (by decide) (fun h47 => ?_) (fun h47 => ?_)
        · skip
          refine z_iconst (v := 0) dX0_chooseLeaf_54 rfl ?_
          refine z_istore (i := 5) (fun y => [(5, .int y), (4, .int (nI (1 - s))), (0, .ref 26), (1, .int rule), (2, .int (nI s)), (3, .int t)]) dX0_chooseLeaf_55 rfl (fun _ => rfl) (fun x5_55 ex5_55 => ?_)
          refine z_iload dX0_chooseLeaf_57 rfl ?_
          refine z_if_eq 67 dX0_chooseLeaf_59 (by decide) (fun h59 => ?_) (fun h59 => ?_)
          · skip
            refine z_iload_n dX0_chooseLeaf_67 rfl ?_
            refine m_iret dX0_chooseLeaf_68 rfl rfl ?_
            first | exact (h59 ex5_55).elim | exact absurd (ex5_55.symm.trans h59) (by decide) | exact ⟨by simp [gChoose, h6, h13, h31, h47, h59], rfl, rfl⟩
          · skip
            refine z_iload dX0_chooseLeaf_62 rfl ?_
            refine z_goto 68 dX0_chooseLeaf_64 (by decide) ?_
            refine m_iret dX0_chooseLeaf_68 rfl rfl ?_
            first | exact (h59 ex5_55).elim | exact absurd (ex5_55.symm.trans h59) (by decide) | exact ⟨by simp [gChoose, h6, h13, h31, h47, h59], rfl, rfl⟩
        · skip
          refine z_iconst (v := 1) dX0_chooseLeaf_50 rfl ?_
          refine z_goto 55 dX0_chooseLeaf_51 (by decide) ?_
          refine z_istore (i := 5) (fun y => [(5, .int y), (4, .int (nI (1 - s))), (0, .ref 26), (1, .int rule), (2, .int (nI s)), (3, .int t)]) dX0_chooseLeaf_55 rfl (fun _ => rfl) (fun x5_55 ex5_55 => ?_)
          refine z_iload dX0_chooseLeaf_57 rfl ?_
          refine z_if_eq 67 dX0_chooseLeaf_59 (by decide) (fun h59 => ?_) (fun h59 => ?_)
          · skip
            refine z_iload_n dX0_chooseLeaf_67 rfl ?_
            refine m_iret dX0_chooseLeaf_68 rfl rfl ?_
            first | exact (h59 ex5_55).elim | exact absurd (ex5_55.symm.trans h59) (by decide) | exact ⟨by simp [gChoose, h6, h13, h31, h47, h59], rfl, rfl⟩
          · skip
            refine z_iload dX0_chooseLeaf_62 rfl ?_
            refine z_goto 68 dX0_chooseLeaf_64 (by decide) ?_
            refine m_iret dX0_chooseLeaf_68 rfl rfl ?_
            first | exact (h59 ex5_55).elim | exact absurd (ex5_55.symm.trans h59) (by decide) | exact ⟨by simp [gChoose, h6, h13, h31, h47, h59], rfl, rfl⟩
    · skip
      refine z_iload dX0_chooseLeaf_16 rfl ?_
      refine m_iret dX0_chooseLeaf_18 rfl rfl ?_
      first | exact (h59 ex5_55).elim | exact absurd (ex5_55.symm.trans h59) (by decide) | exact ⟨by simp [gChoose, h6, h13], rfl, rfl⟩
  · skip
    refine z_iload_n dX0_chooseLeaf_9 rfl ?_
    refine m_iret dX0_chooseLeaf_10 rfl rfl ?_
    first | exact (h59 ex5_55).elim | exact absurd (ex5_55.symm.trans h59) (by decide) | exact ⟨by simp [gChoose, h6], rfl, rfl⟩
set_option maxRecDepth 100000 in
set_option maxHeartbeats 4000000 in
theorem c_goThrough {l : Launch} {G : zG} {pl : Nat} (hp : zPlan pl) {μ : Mem} {ν : Lng} {w lf s : Nat} (hw : w < 6) (hlf : μ (38 + w) 3 = nI lf) (hl2 : lf < 2) (hsd : μ 18 w = nI s) (hs : s < 2) {t : Int32} : Cm l G mX0_goThrough [.ref 26, .int (nI w), .ref pl, .int t] μ ν (fun _ b9 c9 => gThrough μ pl w lf s t = b9 ∧ ν = c9) := by
  refine Con.of (by decide) (Nat.le_of_ble_eq_true rfl) ?_
  show Am l G mX0_goThrough 0 [(0, .ref 26), (1, .int (nI w)), (2, .ref pl), (3, .int t)] [] μ ν _
  refine z_aload_n dX0_goThrough_0 rfl ?_
  refine m_getr dX0_goThrough_1 fX0_19 sh26 rfl ?_
  refine z_iload_n dX0_goThrough_4 rfl ?_
  refine m_aaldN (j := w) (q := (38 + w)) dX0_goThrough_5 sh28 rfl rfl (by omega) rfl (zPas_row w (by omega)) ?_
  refine z_astore (i := 4) (lv' := [(4, .ref (38 + w)), (0, .ref 26), (1, .int (nI w)), (2, .ref pl), (3, .int t)]) dX0_goThrough_6 rfl rfl ?_
  refine z_aload_n dX0_goThrough_8 rfl ?_
  refine m_getr dX0_goThrough_9 fX0_11 sh26 rfl ?_
  refine z_aload dX0_goThrough_12 rfl ?_
  refine m_geti dX0_goThrough_14 fX0_74 (zPas_of w (by omega)) rfl ?_
  refine m_aaldN (j := lf) (q := (30 + 4 * lf)) dX0_goThrough_17 sh27 rfl hlf hl2 rfl (zSwing_row lf hl2) ?_
  refine z_astore (i := 5) (lv' := [(5, .ref (30 + 4 * lf)), (4, .ref (38 + w)), (0, .ref 26), (1, .int (nI w)), (2, .ref pl), (3, .int t)]) dX0_goThrough_18 rfl rfl ?_
  refine z_aload_n dX0_goThrough_20 rfl ?_
  refine m_getr dX0_goThrough_21 fX0_27 sh26 rfl ?_
  refine m_getr dX0_goThrough_24 fX0_55 sh15 rfl ?_
  refine z_iload_n dX0_goThrough_27 rfl ?_
  refine m_ialdN (j := w) dX0_goThrough_28 sh18 rfl (by omega) rfl ?_
  rw [hsd]
  refine z_istore (i := 6) (fun y => [(6, .int y), (5, .ref (30 + 4 * lf)), (4, .ref (38 + w)), (0, .ref 26), (1, .int (nI w)), (2, .ref pl), (3, .int t)]) dX0_goThrough_29 rfl (fun _ => rfl) (fun x9 e9 => ?_)
  subst e9
  refine z_aload dX0_goThrough_31 rfl ?_
  refine z_iload dX0_goThrough_33 rfl ?_
  refine z_iload_n dX0_goThrough_35 rfl ?_
  refine m_callV (As := [.int _, .int _]) dX0_goThrough_36 kX0_80 ⟨rfl, rfl⟩ rfl ⟨rfl, rfl⟩ rfl rfl (zSwing_of lf hl2).1 rfl rfl (c_busyFor (zSwing_of lf hl2) (s := s) hs) (fun r36 μ36 ν36 hk36 => ?_)
  obtain ⟨rfl, rfl, rfl⟩ := hk36
  refine z_if_ne 51 dX0_goThrough_39 (by decide) (fun h39 => ?_) (fun h39 => ?_)
  · skip
    refine z_aload dX0_goThrough_51 rfl ?_
    refine z_aload dX0_goThrough_53 rfl ?_
    refine m_geti dX0_goThrough_55 fX0_61 (zPas_of w (by omega)) rfl ?_
    refine z_iconst (v := 1) dX0_goThrough_58 rfl ?_
    refine z_max dX0_goThrough_59 kX0_128 wSt_max wIniMath wCo_max rfl rfl rfl rfl ?_
    refine m_puti dX0_goThrough_62 fX0_61 (fun q h => by cases h; rfl) rfl rfl (zPas_of w (by omega)) rfl ?_
    refine z_goto 155 dX0_goThrough_65 (by decide) ?_
    refine m_ret dX0_goThrough_155 rfl ?_
    exact ⟨by subst_vars; simp only [gThrough, if_neg h39], rfl⟩
  · skip
    refine z_aload dX0_goThrough_42 rfl ?_
    refine z_iload_n dX0_goThrough_44 rfl ?_
    refine m_callV (As := [.int _]) dX0_goThrough_45 kX0_124 ⟨rfl, rfl⟩ rfl ⟨rfl, rfl⟩ rfl rfl (zSwing_of lf hl2).1 rfl rfl (c_openAt (zSwing_of lf hl2)) (fun r45 μ45 ν45 hk45 => ?_)
    obtain ⟨rfl, rfl, rfl⟩ := hk45
    refine z_if_eq 68 dX0_goThrough_48 (by decide) (fun h48 => ?_) (fun h48 => ?_)
    · skip
      refine z_aload dX0_goThrough_68 rfl ?_
      refine z_iload_n dX0_goThrough_70 rfl ?_
      refine m_callV (As := [.int _]) dX0_goThrough_71 kX0_134 ⟨rfl, rfl⟩ rfl ⟨rfl, rfl⟩ rfl rfl (zSwing_of lf hl2).1 rfl rfl (c_comesBackAt (zSwing_of lf hl2)) (fun r71 μ71 ν71 hk71 => ?_)
      obtain ⟨rfl, rfl, rfl⟩ := hk71
      refine z_if_eq 92 dX0_goThrough_74 (by decide) (fun h74 => ?_) (fun h74 => ?_)
      · skip
        refine z_aload dX0_goThrough_92 rfl ?_
        refine m_geti dX0_goThrough_94 fX0_74 (zPas_of w (by omega)) rfl ?_
        refine z_iload dX0_goThrough_97 rfl ?_
        refine z_icmp_eq 116 dX0_goThrough_99 (by decide) (fun h99 => ?_) (fun h99 => ?_)
        · skip
          refine z_aload dX0_goThrough_116 rfl ?_
          refine z_iload_n dX0_goThrough_118 rfl ?_
          refine z_aload_n dX0_goThrough_119 rfl ?_
          refine m_getr dX0_goThrough_120 fX0_137 hp.1 rfl ?_
          refine z_iload_n dX0_goThrough_123 rfl ?_
          refine m_ialdN (j := w) dX0_goThrough_124 hp.2.2.1 rfl (by omega) rfl ?_
          refine z_aload_n dX0_goThrough_125 rfl ?_
          refine m_getr dX0_goThrough_126 fX0_27 sh26 rfl ?_
          refine m_getr dX0_goThrough_129 fX0_140 sh15 rfl ?_
          refine z_aload dX0_goThrough_132 rfl ?_
          refine m_geti dX0_goThrough_134 fX0_74 (zPas_of w (by omega)) rfl ?_
          refine m_ialdN (j := lf) dX0_goThrough_137 sh16 (by simp [up2_at, hlf]) hl2 rfl ?_
          refine z_imul dX0_goThrough_138 ?_
          refine z_aload_n dX0_goThrough_139 rfl ?_
          refine m_getr dX0_goThrough_140 fX0_27 sh26 rfl ?_
          refine m_getr dX0_goThrough_143 fX0_143 sh15 rfl ?_
          refine z_aload dX0_goThrough_146 rfl ?_
          refine m_geti dX0_goThrough_148 fX0_74 (zPas_of w (by omega)) rfl ?_
          refine m_ialdN (j := lf) dX0_goThrough_151 sh17 (by simp [up2_at, hlf]) hl2 rfl ?_
          refine m_callVv (As := [.int _, .int _, .int _]) dX0_goThrough_152 kX0_146 ⟨rfl, rfl⟩ rfl ⟨rfl, rfl⟩ rfl rfl (zSwing_of lf hl2).1 rfl rfl (c_takeKick (zSwing_of lf hl2)) (fun μ152 ν152 hk152 => ?_)
          obtain ⟨rfl, rfl⟩ := hk152
          refine m_ret dX0_goThrough_155 rfl ?_
          exact ⟨by subst_vars; simp only [gThrough, if_pos h39, if_pos h48, if_pos h74, if_pos h99], rfl⟩
        · skip
          refine z_aload dX0_goThrough_102 rfl ?_
          refine z_aload dX0_goThrough_104 rfl ?_
          refine m_geti dX0_goThrough_106 fX0_61 (zPas_of w (by omega)) rfl ?_
          refine z_iconst (v := 2) dX0_goThrough_109 rfl ?_
          refine z_max dX0_goThrough_110 kX0_128 wSt_max wIniMath wCo_max rfl rfl rfl rfl ?_
          refine m_puti dX0_goThrough_113 fX0_61 (fun q h => by cases h; rfl) rfl rfl (zPas_of w (by omega)) rfl ?_
          refine z_aload dX0_goThrough_116 rfl ?_
          refine z_iload_n dX0_goThrough_118 rfl ?_
          refine z_aload_n dX0_goThrough_119 rfl ?_
          refine m_getr dX0_goThrough_120 fX0_137 hp.1 rfl ?_
          refine z_iload_n dX0_goThrough_123 rfl ?_
          refine m_ialdN (j := w) dX0_goThrough_124 hp.2.2.1 rfl (by omega) rfl ?_
          refine z_aload_n dX0_goThrough_125 rfl ?_
          refine m_getr dX0_goThrough_126 fX0_27 sh26 rfl ?_
          refine m_getr dX0_goThrough_129 fX0_140 sh15 rfl ?_
          refine z_aload dX0_goThrough_132 rfl ?_
          refine m_geti dX0_goThrough_134 fX0_74 (zPas_of w (by omega)) rfl ?_
          refine m_ialdN (j := lf) dX0_goThrough_137 sh16 (by simp [up2_at, hlf]) hl2 rfl ?_
          refine z_imul dX0_goThrough_138 ?_
          refine z_aload_n dX0_goThrough_139 rfl ?_
          refine m_getr dX0_goThrough_140 fX0_27 sh26 rfl ?_
          refine m_getr dX0_goThrough_143 fX0_143 sh15 rfl ?_
          refine z_aload dX0_goThrough_146 rfl ?_
          refine m_geti dX0_goThrough_148 fX0_74 (zPas_of w (by omega)) rfl ?_
          refine m_ialdN (j := lf) dX0_goThrough_151 sh17 (by simp [up2_at, hlf]) hl2 rfl ?_
          refine m_callVv (As := [.int _, .int _, .int _]) dX0_goThrough_152 kX0_146 ⟨rfl, rfl⟩ rfl ⟨rfl, rfl⟩ rfl rfl (zSwing_of lf hl2).1 rfl rfl (c_takeKick (zSwing_of lf hl2)) (fun μ152 ν152 hk152 => ?_)
          obtain ⟨rfl, rfl⟩ := hk152
          refine m_ret dX0_goThrough_155 rfl ?_
          exact ⟨by subst_vars; simp only [gThrough, if_pos h39, if_pos h48, if_pos h74, if_neg h99], rfl⟩
      · skip
        refine z_aload dX0_goThrough_77 rfl ?_
        refine z_iconst (v := 5) dX0_goThrough_79 rfl ?_
        refine m_puti dX0_goThrough_80 fX0_61 (fun q h => by cases h; rfl) rfl rfl (zPas_of w (by omega)) rfl ?_
        refine z_aload dX0_goThrough_83 rfl ?_
        refine z_iconst (v := 1) dX0_goThrough_85 rfl ?_
        refine m_puti dX0_goThrough_86 fX0_64 (fun q h => by cases h; rfl) rfl rfl (zPas_of w (by omega)) rfl ?_
        refine z_goto 116 dX0_goThrough_89 (by decide) ?_
        refine z_aload dX0_goThrough_116 rfl ?_
        refine z_iload_n dX0_goThrough_118 rfl ?_
        refine z_aload_n dX0_goThrough_119 rfl ?_
        refine m_getr dX0_goThrough_120 fX0_137 hp.1 rfl ?_
        refine z_iload_n dX0_goThrough_123 rfl ?_
        refine m_ialdN (j := w) dX0_goThrough_124 hp.2.2.1 rfl (by omega) rfl ?_
        refine z_aload_n dX0_goThrough_125 rfl ?_
        refine m_getr dX0_goThrough_126 fX0_27 sh26 rfl ?_
        refine m_getr dX0_goThrough_129 fX0_140 sh15 rfl ?_
        refine z_aload dX0_goThrough_132 rfl ?_
        refine m_geti dX0_goThrough_134 fX0_74 (zPas_of w (by omega)) rfl ?_
        refine m_ialdN (j := lf) dX0_goThrough_137 sh16 (by simp [up2_at, hlf]) hl2 rfl ?_
        refine z_imul dX0_goThrough_138 ?_
        refine z_aload_n dX0_goThrough_139 rfl ?_
        refine m_getr dX0_goThrough_140 fX0_27 sh26 rfl ?_
        refine m_getr dX0_goThrough_143 fX0_143 sh15 rfl ?_
        refine z_aload dX0_goThrough_146 rfl ?_
        refine m_geti dX0_goThrough_148 fX0_74 (zPas_of w (by omega)) rfl ?_
        refine m_ialdN (j := lf) dX0_goThrough_151 sh17 (by simp [up2_at, hlf]) hl2 rfl ?_
        refine m_callVv (As := [.int _, .int _, .int _]) dX0_goThrough_152 kX0_146 ⟨rfl, rfl⟩ rfl ⟨rfl, rfl⟩ rfl rfl (zSwing_of lf hl2).1 rfl rfl (c_takeKick (zSwing_of lf hl2)) (fun μ152 ν152 hk152 => ?_)
        obtain ⟨rfl, rfl⟩ := hk152
        refine m_ret dX0_goThrough_155 rfl ?_
        exact ⟨by subst_vars; simp only [gThrough, if_pos h39, if_pos h48, if_neg h74], rfl⟩
    · skip
      refine z_aload dX0_goThrough_51 rfl ?_
      refine z_aload dX0_goThrough_53 rfl ?_
      refine m_geti dX0_goThrough_55 fX0_61 (zPas_of w (by omega)) rfl ?_
      refine z_iconst (v := 1) dX0_goThrough_58 rfl ?_
      refine z_max dX0_goThrough_59 kX0_128 wSt_max wIniMath wCo_max rfl rfl rfl rfl ?_
      refine m_puti dX0_goThrough_62 fX0_61 (fun q h => by cases h; rfl) rfl rfl (zPas_of w (by omega)) rfl ?_
      refine z_goto 155 dX0_goThrough_65 (by decide) ?_
      refine m_ret dX0_goThrough_155 rfl ?_
      exact ⟨by subst_vars; simp only [gThrough, if_pos h39, if_neg h48], rfl⟩
set_option maxRecDepth 100000 in
set_option maxHeartbeats 4000000 in
theorem c_crashBothN {l : Launch} {G : zG} {μ : Mem} {ν : Lng} {w : Nat} (hw : w < 6) {v : Int32} (hv : v < 0) : Cm l G mX0_crashBoth [.ref 26, .int (nI w), .int v] μ ν (fun _ b9 c9 => gCrash μ w v = b9 ∧ ν = c9) := by
  refine Con.of (by decide) (Nat.le_of_ble_eq_true rfl) ?_
  show Am l G mX0_crashBoth 0 [(0, .ref 26), (1, .int (nI w)), (2, .int v)] [] μ ν _
  refine z_aload_n dX0_crashBoth_0 rfl ?_
  refine m_getr dX0_crashBoth_1 fX0_19 sh26 rfl ?_
  refine z_iload_n dX0_crashBoth_4 rfl ?_
  refine m_aaldN (j := w) (q := (38 + w)) dX0_crashBoth_5 sh28 rfl rfl (by omega) rfl (zPas_row w (by omega)) ?_
  refine m_callVv (As := []) dX0_crashBoth_6 kX0_150 ⟨rfl, rfl⟩ rfl ⟨rfl, rfl⟩ rfl rfl (zPas_of w (by omega)) rfl rfl (c_crash (zPas_of w (by omega))) (fun μ6 ν6 hk6 => ?_)
  obtain ⟨rfl, rfl⟩ := hk6
  refine z_iload_n dX0_crashBoth_9 rfl ?_
  refine z_if_lt 22 dX0_crashBoth_10 (by decide) (fun h10 => ?_) (fun h10 => absurd hv h10)
  refine m_ret dX0_crashBoth_22 rfl ?_
  exact ⟨by simp only [gCrash, if_pos hv], rfl⟩
set_option maxRecDepth 100000 in
set_option maxHeartbeats 4000000 in
theorem c_crashBothP {l : Launch} {G : zG} {μ : Mem} {ν : Lng} {w m : Nat} (hw : w < 6) (hm : m < 6) : Cm l G mX0_crashBoth [.ref 26, .int (nI w), .int (nI m)] μ ν (fun _ b9 c9 => gCrash μ w (nI m) = b9 ∧ ν = c9) := by
  refine Con.of (by decide) (Nat.le_of_ble_eq_true rfl) ?_
  show Am l G mX0_crashBoth 0 [(0, .ref 26), (1, .int (nI w)), (2, .int (nI m))] [] μ ν _
  refine z_aload_n dX0_crashBoth_0 rfl ?_
  refine m_getr dX0_crashBoth_1 fX0_19 sh26 rfl ?_
  refine z_iload_n dX0_crashBoth_4 rfl ?_
  refine m_aaldN (j := w) (q := (38 + w)) dX0_crashBoth_5 sh28 rfl rfl (by omega) rfl (zPas_row w (by omega)) ?_
  refine m_callVv (As := []) dX0_crashBoth_6 kX0_150 ⟨rfl, rfl⟩ rfl ⟨rfl, rfl⟩ rfl rfl (zPas_of w (by omega)) rfl rfl (c_crash (zPas_of w (by omega))) (fun μ6 ν6 hk6 => ?_)
  obtain ⟨rfl, rfl⟩ := hk6
  refine z_iload_n dX0_crashBoth_9 rfl ?_
  refine z_if_lt 22 dX0_crashBoth_10 (by decide) (fun h10 => absurd h10 (nI_pos (by omega))) (fun h10 => ?_)
  refine z_aload_n dX0_crashBoth_13 rfl ?_
  refine m_getr dX0_crashBoth_14 fX0_19 sh26 rfl ?_
  refine z_iload_n dX0_crashBoth_17 rfl ?_
  refine m_aaldN (j := m) (q := (38 + m)) dX0_crashBoth_18 sh28 rfl rfl (by omega) rfl (zPas_row m (by omega)) ?_
  refine m_callVv (As := []) dX0_crashBoth_19 kX0_150 ⟨rfl, rfl⟩ rfl ⟨rfl, rfl⟩ rfl rfl (zPas_of m (by omega)) rfl rfl (c_crash (zPas_of m (by omega))) (fun μ19 ν19 hk19 => ?_)
  obtain ⟨rfl, rfl⟩ := hk19
  refine m_ret dX0_crashBoth_22 rfl ?_
  exact ⟨by simp only [gCrash, if_neg h10, nI_clamp (show m < 2 ^ 31 by omega)], rfl⟩
theorem c_crashBoth {l : Launch} {G : zG} {μ : Mem} {ν : Lng} {w : Nat} (hw : w < 6) {v : Int32} (hv : zLat v) : Cm l G mX0_crashBoth [.ref 26, .int (nI w), .int v] μ ν (fun _ b9 c9 => gCrash μ w v = b9 ∧ ν = c9) := by
  rcases hv with hv | ⟨m, hm, rfl⟩
  · exact c_crashBothN hw hv
  · exact c_crashBothP hw hm
theorem gBegin_ne {μ : Mem} {w lf q : Nat} (hw : w < 6) (hl : lf < 2) (h : q < 30 ∨ 43 < q) : gBegin μ w lf q = μ q := by
  unfold gBegin
  rw [up2_ne (by omega), up2_ne (by omega), up2_ne (by omega), up2_ne (by omega)]
theorem gBegin_lf {μ : Mem} {w lf : Nat} (hw : w < 6) (hl : lf < 2) : gBegin μ w lf (38 + w) 3 = nI lf := by
  unfold gBegin
  rw [up2_ne (by omega), up2_same]
theorem gBegin_sw {μ : Mem} {w lf a c : Nat} (hw : w < 6) (hl : lf < 2) (h : 30 + 4 * lf + 1 ≤ a ∧ a ≤ 30 + 4 * lf + 3) : gBegin μ w lf a c = μ a c := by
  unfold gBegin
  rw [up2_ne (by omega), up2_ne (by omega), up2_ne (by omega), up2_ne (by omega)]
set_option maxRecDepth 100000 in
set_option maxHeartbeats 4000000 in
theorem c_lookAt {l : Launch} {G : zG} {pl : Nat} (hp : zPlan pl) {μ : Mem} {ν : Lng} {n w s : Nat} (hw : w < 6) (hn : μ 15 6 = nI n) (h6 : n ≤ 6) (hsd : μ 18 w = nI s) (hs : s < 2) (hpe : pl < 30 ∨ 43 < pl) (hlat : ∀ a b, a < 2 → b < 2 → zLat (μ (30 + 4 * a + 3) b)) : Cm l G mX0_lookAt [.ref 26, .int (nI w), .ref pl] μ ν (fun _ b9 c9 => gLook μ pl n w s = b9 ∧ ν = c9) := by
  refine Con.of (by decide) (Nat.le_of_ble_eq_true rfl) ?_
  show Am l G mX0_lookAt 0 [(0, .ref 26), (1, .int (nI w)), (2, .ref pl)] [] μ ν _
  refine z_aload_n dX0_lookAt_0 rfl ?_
  refine m_getr dX0_lookAt_1 fX0_27 sh26 rfl ?_
  refine m_getr dX0_lookAt_4 fX0_55 sh15 rfl ?_
  refine z_iload_n dX0_lookAt_7 rfl ?_
  refine m_ialdN (j := w) dX0_lookAt_8 sh18 rfl (by omega) rfl ?_
  rw [hsd]
  refine z_istore_n (i := 3) (fun y => [(3, .int y), (0, .ref 26), (1, .int (nI w)), (2, .ref pl)]) dX0_lookAt_9 rfl rfl (fun _ => rfl) (fun x9 e9 => ?_)
  subst e9
  refine z_iconst (v := 1) dX0_lookAt_10 rfl ?_
  refine z_iload_n dX0_lookAt_11 rfl ?_
  refine z_isub dX0_lookAt_12 ?_
  rw [show (1 - nI s) = nI (1 - s) from zfar hs]
  refine z_istore (i := 4) (fun y => [(4, .int y), (3, .int (nI s)), (0, .ref 26), (1, .int (nI w)), (2, .ref pl)]) dX0_lookAt_13 rfl (fun _ => rfl) (fun x9 e9 => ?_)
  subst e9
  refine z_aload_n dX0_lookAt_15 rfl ?_
  refine m_getr dX0_lookAt_16 fX0_50 hp.1 rfl ?_
  refine z_iload_n dX0_lookAt_19 rfl ?_
  refine m_ialdN (j := w) dX0_lookAt_20 hp.2.1 rfl (by omega) rfl ?_
  refine z_istore (i := 5) (fun y => [(5, .int y), (4, .int (nI (1 - s))), (3, .int (nI s)), (0, .ref 26), (1, .int (nI w)), (2, .ref pl)]) dX0_lookAt_21 rfl (fun _ => rfl) (fun x9 e9 => ?_)
  subst e9
  refine z_iload dX0_lookAt_23 rfl ?_
  refine z_istore (i := 6) (fun y => [(6, .int y), (5, .int (μ (pl + 1) w)), (4, .int (nI (1 - s))), (3, .int (nI s)), (0, .ref 26), (1, .int (nI w)), (2, .ref pl)]) dX0_lookAt_25 rfl (fun _ => rfl) (fun x9 e9 => ?_)
  subst e9
  refine z_aload_n dX0_lookAt_27 rfl ?_
  refine m_getr dX0_lookAt_28 fX0_27 sh26 rfl ?_
  refine m_getr dX0_lookAt_31 fX0_58 sh15 rfl ?_
  refine z_iload_n dX0_lookAt_34 rfl ?_
  refine m_ialdN (j := w) dX0_lookAt_35 sh19 rfl (by omega) rfl ?_
  refine z_istore (i := 7) (fun y => [(7, .int y), (6, .int (μ (pl + 1) w)), (5, .int (μ (pl + 1) w)), (4, .int (nI (1 - s))), (3, .int (nI s)), (0, .ref 26), (1, .int (nI w)), (2, .ref pl)]) dX0_lookAt_36 rfl (fun _ => rfl) (fun x9 e9 => ?_)
  subst e9
  refine z_aload_n dX0_lookAt_38 rfl ?_
  refine m_getr dX0_lookAt_39 fX0_19 sh26 rfl ?_
  refine z_iload_n dX0_lookAt_42 rfl ?_
  refine m_aaldN (j := w) (q := (38 + w)) dX0_lookAt_43 sh28 rfl rfl (by omega) rfl (zPas_row w (by omega)) ?_
  refine z_astore (i := 8) (lv' := [(8, .ref (38 + w)), (7, .int (μ 19 w)), (6, .int (μ (pl + 1) w)), (5, .int (μ (pl + 1) w)), (4, .int (nI (1 - s))), (3, .int (nI s)), (0, .ref 26), (1, .int (nI w)), (2, .ref pl)]) dX0_lookAt_44 rfl rfl ?_
  refine z_aload dX0_lookAt_46 rfl ?_
  refine z_iconst (v := 0) dX0_lookAt_48 rfl ?_
  refine m_puti dX0_lookAt_49 fX0_61 (fun q h => by cases h; rfl) rfl rfl (zPas_of w (by omega)) rfl ?_
  refine z_aload dX0_lookAt_52 rfl ?_
  refine z_iconst (v := 0) dX0_lookAt_54 rfl ?_
  refine m_puti dX0_lookAt_55 fX0_64 (fun q h => by cases h; rfl) rfl rfl (zPas_of w (by omega)) rfl ?_
  refine z_aload dX0_lookAt_58 rfl ?_
  refine z_aload_n dX0_lookAt_60 rfl ?_
  refine z_aload_n dX0_lookAt_61 rfl ?_
  refine m_getr dX0_lookAt_62 fX0_67 hp.1 rfl ?_
  refine z_iload_n dX0_lookAt_65 rfl ?_
  refine m_ialdN (j := w) dX0_lookAt_66 hp.2.2.2 rfl (by omega) rfl ?_
  refine z_iload_n dX0_lookAt_67 rfl ?_
  refine z_iload dX0_lookAt_68 rfl ?_
  refine m_callV (As := [.int _, .int _, .int _]) dX0_lookAt_70 kX0_70 ⟨rfl, rfl⟩ rfl ⟨rfl, rfl⟩ rfl rfl sh26 rfl rfl (c_chooseLeaf (s := s) hs) (fun r70 μ70 ν70 hk70 => ?_)
  obtain ⟨rfl, rfl, rfl⟩ := hk70
  have hl2 : gLeaf μ pl w s < 2 := gChoose_lt hs
  unfold gLook
  rw [show gChoose (up2 (up2 μ (38 + w) 0 0) (38 + w) 5 0) (up2 (up2 μ (38 + w) 0 0) (38 + w) 5 0 (pl + 3) w) s (μ (pl + 1) w) = gLeaf μ pl w s from rfl]
  generalize gLeaf μ pl w s = lf at hl2 ⊢
  refine m_puti dX0_lookAt_73 fX0_74 (fun q h => by cases h; rfl) rfl rfl (zPas_of w (by omega)) rfl ?_
  refine z_aload_n dX0_lookAt_76 rfl ?_
  refine m_getr dX0_lookAt_77 fX0_11 sh26 rfl ?_
  refine z_aload dX0_lookAt_80 rfl ?_
  refine m_geti dX0_lookAt_82 fX0_74 (zPas_of w (by omega)) rfl ?_
  refine m_aaldN (j := lf) (q := (30 + 4 * lf)) dX0_lookAt_85 sh27 rfl (by rw [up2_same]) hl2 rfl (zSwing_row lf hl2) ?_
  refine z_astore (i := 9) (lv' := [(9, .ref (30 + 4 * lf)), (8, .ref (38 + w)), (7, .int (μ 19 w)), (6, .int (μ (pl + 1) w)), (5, .int (μ (pl + 1) w)), (4, .int (nI (1 - s))), (3, .int (nI s)), (0, .ref 26), (1, .int (nI w)), (2, .ref pl)]) dX0_lookAt_86 rfl rfl ?_
  refine z_aload dX0_lookAt_88 rfl ?_
  refine z_dup dX0_lookAt_90 rfl ?_
  refine m_geti dX0_lookAt_91 fX0_77 (zSwing_of lf hl2).1 rfl ?_
  refine z_iconst (v := 1) dX0_lookAt_94 rfl ?_
  refine z_iadd dX0_lookAt_95 ?_
  refine m_puti dX0_lookAt_96 fX0_77 (fun q h => by cases h; rfl) rfl rfl (zSwing_of lf hl2).1 rfl ?_
  change Am l G mX0_lookAt 99 _ [] (gBegin μ w lf) ν _
  have f1 : gBegin μ w lf 15 6 = nI n := by rw [gBegin_ne hw hl2 (by omega)]; exact hn
  have f2 : gBegin μ w lf 18 w = nI s := by rw [gBegin_ne hw hl2 (by omega)]; exact hsd
  have f3 : gBegin μ w lf (38 + w) 3 = nI lf := gBegin_lf hw hl2
  have f4 : zLat (gBegin μ w lf (30 + 4 * lf + 3) (1 - s)) := by rw [gBegin_sw hw hl2 (by omega)]; exact hlat lf (1 - s) hl2 (by omega)
  generalize gBegin μ w lf = μ3 at f1 f2 f3 f4 ⊢
  refine z_aload dX0_lookAt_99 rfl ?_
  refine z_iload dX0_lookAt_101 rfl ?_
  refine z_iload dX0_lookAt_103 rfl ?_
  refine m_callV (As := [.int _, .int _]) dX0_lookAt_105 kX0_80 ⟨rfl, rfl⟩ rfl ⟨rfl, rfl⟩ rfl rfl (zSwing_of lf hl2).1 rfl rfl (c_busyFor (zSwing_of lf hl2) (s := 1 - s) (by omega)) (fun r105 μ105 ν105 hk105 => ?_)
  obtain ⟨rfl, rfl, rfl⟩ := hk105
  refine z_if_eq 147 dX0_lookAt_108 (by decide) (fun h108 => ?_) (fun h108 => ?_)
  · skip
    refine z_aload dX0_lookAt_147 rfl ?_
    refine z_iload dX0_lookAt_149 rfl ?_
    refine z_iload dX0_lookAt_151 rfl ?_
    refine m_callV (As := [.int _, .int _]) dX0_lookAt_153 kX0_80 ⟨rfl, rfl⟩ rfl ⟨rfl, rfl⟩ rfl rfl (zSwing_of lf hl2).1 rfl rfl (c_busyFor (zSwing_of lf hl2) (s := 1 - s) (by omega)) (fun r153 μ153 ν153 hk153 => ?_)
    obtain ⟨rfl, rfl, rfl⟩ := hk153
    refine z_if_eq 187 dX0_lookAt_156 (by decide) (fun h156 => ?_) (fun h156 => ?_)
    · skip
      refine z_aload_n dX0_lookAt_187 rfl ?_
      refine z_iload_n dX0_lookAt_188 rfl ?_
      refine z_aload_n dX0_lookAt_189 rfl ?_
      refine z_iload dX0_lookAt_190 rfl ?_
      refine m_callVv (As := [.int _, .ref _, .int _]) dX0_lookAt_192 kX0_101 ⟨rfl, rfl⟩ rfl ⟨rfl, rfl⟩ rfl rfl sh26 rfl rfl (c_goThrough hp (w := w) (lf := lf) (s := s) hw (by first | exact f3 | (rw [up2_at, if_neg (by omega)]; exact f3)) hl2 (by first | exact f2 | (rw [up2_at, if_neg (by omega)]; exact f2)) hs) (fun μ192 ν192 hk192 => ?_)
      obtain ⟨rfl, rfl⟩ := hk192
      refine z_aload dX0_lookAt_195 rfl ?_
      refine z_iload dX0_lookAt_197 rfl ?_
      refine z_iload dX0_lookAt_199 rfl ?_
      refine z_isub dX0_lookAt_201 ?_
      refine m_puti dX0_lookAt_202 fX0_105 (fun q h => by cases h; rfl) rfl rfl (zPas_of w (by omega)) rfl ?_
      refine z_aload dX0_lookAt_205 rfl ?_
      refine z_iload dX0_lookAt_207 rfl ?_
      refine m_puti dX0_lookAt_209 fX0_108 (fun q h => by cases h; rfl) rfl rfl (zPas_of w (by omega)) rfl ?_
      refine z_aload dX0_lookAt_212 rfl ?_
      refine z_iload dX0_lookAt_214 rfl ?_
      refine z_iload dX0_lookAt_216 rfl ?_
      refine z_iadd dX0_lookAt_218 ?_
      refine m_puti dX0_lookAt_219 fX0_111 (fun q h => by cases h; rfl) rfl rfl (zPas_of w (by omega)) rfl ?_
      refine z_aload dX0_lookAt_222 rfl ?_
      refine z_iload_n dX0_lookAt_224 rfl ?_
      refine z_iload_n dX0_lookAt_225 rfl ?_
      refine z_iload dX0_lookAt_226 rfl ?_
      refine z_iload dX0_lookAt_228 rfl ?_
      refine z_iload dX0_lookAt_230 rfl ?_
      refine z_iadd dX0_lookAt_232 ?_
      refine m_callVv (As := [.int _, .int _, .int _, .int _]) dX0_lookAt_233 kX0_114 ⟨rfl, rfl⟩ rfl ⟨rfl, rfl⟩ rfl rfl (zSwing_of lf hl2).1 rfl rfl (c_letThrough (zSwing_of lf hl2) (s := s) hs) (fun μ233 ν233 hk233 => ?_)
      obtain ⟨rfl, rfl⟩ := hk233
      refine m_ret dX0_lookAt_236 rfl ?_
      first | exact (h156 h108).elim | exact (h108 h156).elim | exact ⟨by subst_vars; simp only [gLook2, gWait, gEnd, if_pos h108, if_pos h156], rfl⟩
    · skip
      refine z_aload dX0_lookAt_159 rfl ?_
      refine m_getr dX0_lookAt_161 fX0_98 (zSwing_of lf hl2).1 rfl ?_
      refine z_iload dX0_lookAt_164 rfl ?_
      refine m_ialdN (j := (1 - s)) dX0_lookAt_166 (zSwing_of lf hl2).2.2.1 rfl (by omega) rfl ?_
      refine z_istore (i := 6) (fun y => [(6, .int y), (9, .ref (30 + 4 * lf)), (8, .ref (38 + w)), (7, .int (μ 19 w)), (5, .int (μ (pl + 1) w)), (4, .int (nI (1 - s))), (3, .int (nI s)), (0, .ref 26), (1, .int (nI w)), (2, .ref pl)]) dX0_lookAt_167 rfl (fun _ => rfl) (fun x6_167 ex6_167 => ?_)
      refine z_aload dX0_lookAt_169 rfl ?_
      refine z_aload_n dX0_lookAt_171 rfl ?_
      refine m_geti dX0_lookAt_172 fX0_84 hp.1 rfl ?_
      refine z_iconst (v := 1) dX0_lookAt_175 rfl ?_
      refine z_icmp_ne 183 dX0_lookAt_176 (by decide) (fun h176 => ?_) (fun h176 => ?_)
      · skip
        refine z_iconst (v := 3) dX0_lookAt_183 rfl ?_
        refine m_puti dX0_lookAt_184 fX0_61 (fun q h => by cases h; rfl) rfl rfl (zPas_of w (by omega)) rfl ?_
        refine z_aload_n dX0_lookAt_187 rfl ?_
        refine z_iload_n dX0_lookAt_188 rfl ?_
        refine z_aload_n dX0_lookAt_189 rfl ?_
        refine z_iload dX0_lookAt_190 rfl ?_
        refine m_callVv (As := [.int _, .ref _, .int _]) dX0_lookAt_192 kX0_101 ⟨rfl, rfl⟩ rfl ⟨rfl, rfl⟩ rfl rfl sh26 rfl rfl (c_goThrough hp (w := w) (lf := lf) (s := s) hw (by first | exact f3 | (rw [up2_at, if_neg (by omega)]; exact f3)) hl2 (by first | exact f2 | (rw [up2_at, if_neg (by omega)]; exact f2)) hs) (fun μ192 ν192 hk192 => ?_)
        obtain ⟨rfl, rfl⟩ := hk192
        refine z_aload dX0_lookAt_195 rfl ?_
        refine z_iload dX0_lookAt_197 rfl ?_
        refine z_iload dX0_lookAt_199 rfl ?_
        refine z_isub dX0_lookAt_201 ?_
        refine m_puti dX0_lookAt_202 fX0_105 (fun q h => by cases h; rfl) rfl rfl (zPas_of w (by omega)) rfl ?_
        refine z_aload dX0_lookAt_205 rfl ?_
        refine z_iload dX0_lookAt_207 rfl ?_
        refine m_puti dX0_lookAt_209 fX0_108 (fun q h => by cases h; rfl) rfl rfl (zPas_of w (by omega)) rfl ?_
        refine z_aload dX0_lookAt_212 rfl ?_
        refine z_iload dX0_lookAt_214 rfl ?_
        refine z_iload dX0_lookAt_216 rfl ?_
        refine z_iadd dX0_lookAt_218 ?_
        refine m_puti dX0_lookAt_219 fX0_111 (fun q h => by cases h; rfl) rfl rfl (zPas_of w (by omega)) rfl ?_
        refine z_aload dX0_lookAt_222 rfl ?_
        refine z_iload_n dX0_lookAt_224 rfl ?_
        refine z_iload_n dX0_lookAt_225 rfl ?_
        refine z_iload dX0_lookAt_226 rfl ?_
        refine z_iload dX0_lookAt_228 rfl ?_
        refine z_iload dX0_lookAt_230 rfl ?_
        refine z_iadd dX0_lookAt_232 ?_
        refine m_callVv (As := [.int _, .int _, .int _, .int _]) dX0_lookAt_233 kX0_114 ⟨rfl, rfl⟩ rfl ⟨rfl, rfl⟩ rfl rfl (zSwing_of lf hl2).1 rfl rfl (c_letThrough (zSwing_of lf hl2) (s := s) hs) (fun μ233 ν233 hk233 => ?_)
        obtain ⟨rfl, rfl⟩ := hk233
        refine m_ret dX0_lookAt_236 rfl ?_
        first | exact (h156 h108).elim | exact (h108 h156).elim | exact ⟨by subst_vars; simp only [gLook2, gWait, gEnd, if_pos h108, if_neg h156, if_neg h176], rfl⟩
      · skip
        refine z_iconst (v := 4) dX0_lookAt_179 rfl ?_
        refine z_goto 184 dX0_lookAt_180 (by decide) ?_
        refine m_puti dX0_lookAt_184 fX0_61 (fun q h => by cases h; rfl) rfl rfl (zPas_of w (by omega)) rfl ?_
        refine z_aload_n dX0_lookAt_187 rfl ?_
        refine z_iload_n dX0_lookAt_188 rfl ?_
        refine z_aload_n dX0_lookAt_189 rfl ?_
        refine z_iload dX0_lookAt_190 rfl ?_
        refine m_callVv (As := [.int _, .ref _, .int _]) dX0_lookAt_192 kX0_101 ⟨rfl, rfl⟩ rfl ⟨rfl, rfl⟩ rfl rfl sh26 rfl rfl (c_goThrough hp (w := w) (lf := lf) (s := s) hw (by first | exact f3 | (rw [up2_at, if_neg (by omega)]; exact f3)) hl2 (by first | exact f2 | (rw [up2_at, if_neg (by omega)]; exact f2)) hs) (fun μ192 ν192 hk192 => ?_)
        obtain ⟨rfl, rfl⟩ := hk192
        refine z_aload dX0_lookAt_195 rfl ?_
        refine z_iload dX0_lookAt_197 rfl ?_
        refine z_iload dX0_lookAt_199 rfl ?_
        refine z_isub dX0_lookAt_201 ?_
        refine m_puti dX0_lookAt_202 fX0_105 (fun q h => by cases h; rfl) rfl rfl (zPas_of w (by omega)) rfl ?_
        refine z_aload dX0_lookAt_205 rfl ?_
        refine z_iload dX0_lookAt_207 rfl ?_
        refine m_puti dX0_lookAt_209 fX0_108 (fun q h => by cases h; rfl) rfl rfl (zPas_of w (by omega)) rfl ?_
        refine z_aload dX0_lookAt_212 rfl ?_
        refine z_iload dX0_lookAt_214 rfl ?_
        refine z_iload dX0_lookAt_216 rfl ?_
        refine z_iadd dX0_lookAt_218 ?_
        refine m_puti dX0_lookAt_219 fX0_111 (fun q h => by cases h; rfl) rfl rfl (zPas_of w (by omega)) rfl ?_
        refine z_aload dX0_lookAt_222 rfl ?_
        refine z_iload_n dX0_lookAt_224 rfl ?_
        refine z_iload_n dX0_lookAt_225 rfl ?_
        refine z_iload dX0_lookAt_226 rfl ?_
        refine z_iload dX0_lookAt_228 rfl ?_
        refine z_iload dX0_lookAt_230 rfl ?_
        refine z_iadd dX0_lookAt_232 ?_
        refine m_callVv (As := [.int _, .int _, .int _, .int _]) dX0_lookAt_233 kX0_114 ⟨rfl, rfl⟩ rfl ⟨rfl, rfl⟩ rfl rfl (zSwing_of lf hl2).1 rfl rfl (c_letThrough (zSwing_of lf hl2) (s := s) hs) (fun μ233 ν233 hk233 => ?_)
        obtain ⟨rfl, rfl⟩ := hk233
        refine m_ret dX0_lookAt_236 rfl ?_
        first | exact (h156 h108).elim | exact (h108 h156).elim | exact ⟨by subst_vars; simp only [gLook2, gWait, gEnd, if_pos h108, if_neg h156, if_pos h176], rfl⟩
  · skip
    refine z_aload_n dX0_lookAt_111 rfl ?_
    refine m_geti dX0_lookAt_112 fX0_84 hp.1 rfl ?_
    refine z_if_ne 147 dX0_lookAt_115 (by decide) (fun h115 => ?_) (fun h115 => ?_)
    · skip
      refine z_aload dX0_lookAt_147 rfl ?_
      refine z_iload dX0_lookAt_149 rfl ?_
      refine z_iload dX0_lookAt_151 rfl ?_
      refine m_callV (As := [.int _, .int _]) dX0_lookAt_153 kX0_80 ⟨rfl, rfl⟩ rfl ⟨rfl, rfl⟩ rfl rfl (zSwing_of lf hl2).1 rfl rfl (c_busyFor (zSwing_of lf hl2) (s := 1 - s) (by omega)) (fun r153 μ153 ν153 hk153 => ?_)
      obtain ⟨rfl, rfl, rfl⟩ := hk153
      refine z_if_eq 187 dX0_lookAt_156 (by decide) (fun h156 => ?_) (fun h156 => ?_)
      · skip
        refine z_aload_n dX0_lookAt_187 rfl ?_
        refine z_iload_n dX0_lookAt_188 rfl ?_
        refine z_aload_n dX0_lookAt_189 rfl ?_
        refine z_iload dX0_lookAt_190 rfl ?_
        refine m_callVv (As := [.int _, .ref _, .int _]) dX0_lookAt_192 kX0_101 ⟨rfl, rfl⟩ rfl ⟨rfl, rfl⟩ rfl rfl sh26 rfl rfl (c_goThrough hp (w := w) (lf := lf) (s := s) hw (by first | exact f3 | (rw [up2_at, if_neg (by omega)]; exact f3)) hl2 (by first | exact f2 | (rw [up2_at, if_neg (by omega)]; exact f2)) hs) (fun μ192 ν192 hk192 => ?_)
        obtain ⟨rfl, rfl⟩ := hk192
        refine z_aload dX0_lookAt_195 rfl ?_
        refine z_iload dX0_lookAt_197 rfl ?_
        refine z_iload dX0_lookAt_199 rfl ?_
        refine z_isub dX0_lookAt_201 ?_
        refine m_puti dX0_lookAt_202 fX0_105 (fun q h => by cases h; rfl) rfl rfl (zPas_of w (by omega)) rfl ?_
        refine z_aload dX0_lookAt_205 rfl ?_
        refine z_iload dX0_lookAt_207 rfl ?_
        refine m_puti dX0_lookAt_209 fX0_108 (fun q h => by cases h; rfl) rfl rfl (zPas_of w (by omega)) rfl ?_
        refine z_aload dX0_lookAt_212 rfl ?_
        refine z_iload dX0_lookAt_214 rfl ?_
        refine z_iload dX0_lookAt_216 rfl ?_
        refine z_iadd dX0_lookAt_218 ?_
        refine m_puti dX0_lookAt_219 fX0_111 (fun q h => by cases h; rfl) rfl rfl (zPas_of w (by omega)) rfl ?_
        refine z_aload dX0_lookAt_222 rfl ?_
        refine z_iload_n dX0_lookAt_224 rfl ?_
        refine z_iload_n dX0_lookAt_225 rfl ?_
        refine z_iload dX0_lookAt_226 rfl ?_
        refine z_iload dX0_lookAt_228 rfl ?_
        refine z_iload dX0_lookAt_230 rfl ?_
        refine z_iadd dX0_lookAt_232 ?_
        refine m_callVv (As := [.int _, .int _, .int _, .int _]) dX0_lookAt_233 kX0_114 ⟨rfl, rfl⟩ rfl ⟨rfl, rfl⟩ rfl rfl (zSwing_of lf hl2).1 rfl rfl (c_letThrough (zSwing_of lf hl2) (s := s) hs) (fun μ233 ν233 hk233 => ?_)
        obtain ⟨rfl, rfl⟩ := hk233
        refine m_ret dX0_lookAt_236 rfl ?_
        first | exact (h156 h108).elim | exact (h108 h156).elim | exact ⟨by subst_vars; simp only [gLook2, gWait, gEnd, if_neg h108, if_neg h115, if_pos h156], rfl⟩
      · skip
        refine z_aload dX0_lookAt_159 rfl ?_
        refine m_getr dX0_lookAt_161 fX0_98 (zSwing_of lf hl2).1 rfl ?_
        refine z_iload dX0_lookAt_164 rfl ?_
        refine m_ialdN (j := (1 - s)) dX0_lookAt_166 (zSwing_of lf hl2).2.2.1 rfl (by omega) rfl ?_
        refine z_istore (i := 6) (fun y => [(6, .int y), (9, .ref (30 + 4 * lf)), (8, .ref (38 + w)), (7, .int (μ 19 w)), (5, .int (μ (pl + 1) w)), (4, .int (nI (1 - s))), (3, .int (nI s)), (0, .ref 26), (1, .int (nI w)), (2, .ref pl)]) dX0_lookAt_167 rfl (fun _ => rfl) (fun x6_167 ex6_167 => ?_)
        refine z_aload dX0_lookAt_169 rfl ?_
        refine z_aload_n dX0_lookAt_171 rfl ?_
        refine m_geti dX0_lookAt_172 fX0_84 hp.1 rfl ?_
        refine z_iconst (v := 1) dX0_lookAt_175 rfl ?_
        refine z_icmp_ne 183 dX0_lookAt_176 (by decide) (fun h176 => ?_) (fun h176 => ?_)
        · skip
          refine z_iconst (v := 3) dX0_lookAt_183 rfl ?_
          refine m_puti dX0_lookAt_184 fX0_61 (fun q h => by cases h; rfl) rfl rfl (zPas_of w (by omega)) rfl ?_
          refine z_aload_n dX0_lookAt_187 rfl ?_
          refine z_iload_n dX0_lookAt_188 rfl ?_
          refine z_aload_n dX0_lookAt_189 rfl ?_
          refine z_iload dX0_lookAt_190 rfl ?_
          refine m_callVv (As := [.int _, .ref _, .int _]) dX0_lookAt_192 kX0_101 ⟨rfl, rfl⟩ rfl ⟨rfl, rfl⟩ rfl rfl sh26 rfl rfl (c_goThrough hp (w := w) (lf := lf) (s := s) hw (by first | exact f3 | (rw [up2_at, if_neg (by omega)]; exact f3)) hl2 (by first | exact f2 | (rw [up2_at, if_neg (by omega)]; exact f2)) hs) (fun μ192 ν192 hk192 => ?_)
          obtain ⟨rfl, rfl⟩ := hk192
          refine z_aload dX0_lookAt_195 rfl ?_
          refine z_iload dX0_lookAt_197 rfl ?_
          refine z_iload dX0_lookAt_199 rfl ?_
          refine z_isub dX0_lookAt_201 ?_
          refine m_puti dX0_lookAt_202 fX0_105 (fun q h => by cases h; rfl) rfl rfl (zPas_of w (by omega)) rfl ?_
          refine z_aload dX0_lookAt_205 rfl ?_
          refine z_iload dX0_lookAt_207 rfl ?_
          refine m_puti dX0_lookAt_209 fX0_108 (fun q h => by cases h; rfl) rfl rfl (zPas_of w (by omega)) rfl ?_
          refine z_aload dX0_lookAt_212 rfl ?_
          refine z_iload dX0_lookAt_214 rfl ?_
          refine z_iload dX0_lookAt_216 rfl ?_
          refine z_iadd dX0_lookAt_218 ?_
          refine m_puti dX0_lookAt_219 fX0_111 (fun q h => by cases h; rfl) rfl rfl (zPas_of w (by omega)) rfl ?_
          refine z_aload dX0_lookAt_222 rfl ?_
          refine z_iload_n dX0_lookAt_224 rfl ?_
          refine z_iload_n dX0_lookAt_225 rfl ?_
          refine z_iload dX0_lookAt_226 rfl ?_
          refine z_iload dX0_lookAt_228 rfl ?_
          refine z_iload dX0_lookAt_230 rfl ?_
          refine z_iadd dX0_lookAt_232 ?_
          refine m_callVv (As := [.int _, .int _, .int _, .int _]) dX0_lookAt_233 kX0_114 ⟨rfl, rfl⟩ rfl ⟨rfl, rfl⟩ rfl rfl (zSwing_of lf hl2).1 rfl rfl (c_letThrough (zSwing_of lf hl2) (s := s) hs) (fun μ233 ν233 hk233 => ?_)
          obtain ⟨rfl, rfl⟩ := hk233
          refine m_ret dX0_lookAt_236 rfl ?_
          first | exact (h156 h108).elim | exact (h108 h156).elim | exact ⟨by subst_vars; simp only [gLook2, gWait, gEnd, if_neg h108, if_neg h115, if_neg h156, if_neg h176], rfl⟩
        · skip
          refine z_iconst (v := 4) dX0_lookAt_179 rfl ?_
          refine z_goto 184 dX0_lookAt_180 (by decide) ?_
          refine m_puti dX0_lookAt_184 fX0_61 (fun q h => by cases h; rfl) rfl rfl (zPas_of w (by omega)) rfl ?_
          refine z_aload_n dX0_lookAt_187 rfl ?_
          refine z_iload_n dX0_lookAt_188 rfl ?_
          refine z_aload_n dX0_lookAt_189 rfl ?_
          refine z_iload dX0_lookAt_190 rfl ?_
          refine m_callVv (As := [.int _, .ref _, .int _]) dX0_lookAt_192 kX0_101 ⟨rfl, rfl⟩ rfl ⟨rfl, rfl⟩ rfl rfl sh26 rfl rfl (c_goThrough hp (w := w) (lf := lf) (s := s) hw (by first | exact f3 | (rw [up2_at, if_neg (by omega)]; exact f3)) hl2 (by first | exact f2 | (rw [up2_at, if_neg (by omega)]; exact f2)) hs) (fun μ192 ν192 hk192 => ?_)
          obtain ⟨rfl, rfl⟩ := hk192
          refine z_aload dX0_lookAt_195 rfl ?_
          refine z_iload dX0_lookAt_197 rfl ?_
          refine z_iload dX0_lookAt_199 rfl ?_
          refine z_isub dX0_lookAt_201 ?_
          refine m_puti dX0_lookAt_202 fX0_105 (fun q h => by cases h; rfl) rfl rfl (zPas_of w (by omega)) rfl ?_
          refine z_aload dX0_lookAt_205 rfl ?_
          refine z_iload dX0_lookAt_207 rfl ?_
          refine m_puti dX0_lookAt_209 fX0_108 (fun q h => by cases h; rfl) rfl rfl (zPas_of w (by omega)) rfl ?_
          refine z_aload dX0_lookAt_212 rfl ?_
          refine z_iload dX0_lookAt_214 rfl ?_
          refine z_iload dX0_lookAt_216 rfl ?_
          refine z_iadd dX0_lookAt_218 ?_
          refine m_puti dX0_lookAt_219 fX0_111 (fun q h => by cases h; rfl) rfl rfl (zPas_of w (by omega)) rfl ?_
          refine z_aload dX0_lookAt_222 rfl ?_
          refine z_iload_n dX0_lookAt_224 rfl ?_
          refine z_iload_n dX0_lookAt_225 rfl ?_
          refine z_iload dX0_lookAt_226 rfl ?_
          refine z_iload dX0_lookAt_228 rfl ?_
          refine z_iload dX0_lookAt_230 rfl ?_
          refine z_iadd dX0_lookAt_232 ?_
          refine m_callVv (As := [.int _, .int _, .int _, .int _]) dX0_lookAt_233 kX0_114 ⟨rfl, rfl⟩ rfl ⟨rfl, rfl⟩ rfl rfl (zSwing_of lf hl2).1 rfl rfl (c_letThrough (zSwing_of lf hl2) (s := s) hs) (fun μ233 ν233 hk233 => ?_)
          obtain ⟨rfl, rfl⟩ := hk233
          refine m_ret dX0_lookAt_236 rfl ?_
          first | exact (h156 h108).elim | exact (h108 h156).elim | exact ⟨by subst_vars; simp only [gLook2, gWait, gEnd, if_neg h108, if_neg h115, if_neg h156, if_pos h176], rfl⟩
    · skip
      refine z_aload_n dX0_lookAt_118 rfl ?_
      refine z_iload_n dX0_lookAt_119 rfl ?_
      refine z_aload_n dX0_lookAt_120 rfl ?_
      refine m_callV (As := [.int _, .ref _]) dX0_lookAt_121 kX0_87 ⟨rfl, rfl⟩ rfl ⟨rfl, rfl⟩ rfl rfl sh26 rfl rfl (c_isHeard hp (n := n) (w := w) f1 h6 hw) (fun r121 μ121 ν121 hk121 => ?_)
      obtain ⟨rfl, rfl, rfl⟩ := hk121
      refine z_if_ne 147 dX0_lookAt_124 (by decide) (fun h124 => ?_) (fun h124 => ?_)
      · skip
        refine z_aload dX0_lookAt_147 rfl ?_
        refine z_iload dX0_lookAt_149 rfl ?_
        refine z_iload dX0_lookAt_151 rfl ?_
        refine m_callV (As := [.int _, .int _]) dX0_lookAt_153 kX0_80 ⟨rfl, rfl⟩ rfl ⟨rfl, rfl⟩ rfl rfl (zSwing_of lf hl2).1 rfl rfl (c_busyFor (zSwing_of lf hl2) (s := 1 - s) (by omega)) (fun r153 μ153 ν153 hk153 => ?_)
        obtain ⟨rfl, rfl, rfl⟩ := hk153
        refine z_if_eq 187 dX0_lookAt_156 (by decide) (fun h156 => ?_) (fun h156 => ?_)
        · skip
          refine z_aload_n dX0_lookAt_187 rfl ?_
          refine z_iload_n dX0_lookAt_188 rfl ?_
          refine z_aload_n dX0_lookAt_189 rfl ?_
          refine z_iload dX0_lookAt_190 rfl ?_
          refine m_callVv (As := [.int _, .ref _, .int _]) dX0_lookAt_192 kX0_101 ⟨rfl, rfl⟩ rfl ⟨rfl, rfl⟩ rfl rfl sh26 rfl rfl (c_goThrough hp (w := w) (lf := lf) (s := s) hw (by first | exact f3 | (rw [up2_at, if_neg (by omega)]; exact f3)) hl2 (by first | exact f2 | (rw [up2_at, if_neg (by omega)]; exact f2)) hs) (fun μ192 ν192 hk192 => ?_)
          obtain ⟨rfl, rfl⟩ := hk192
          refine z_aload dX0_lookAt_195 rfl ?_
          refine z_iload dX0_lookAt_197 rfl ?_
          refine z_iload dX0_lookAt_199 rfl ?_
          refine z_isub dX0_lookAt_201 ?_
          refine m_puti dX0_lookAt_202 fX0_105 (fun q h => by cases h; rfl) rfl rfl (zPas_of w (by omega)) rfl ?_
          refine z_aload dX0_lookAt_205 rfl ?_
          refine z_iload dX0_lookAt_207 rfl ?_
          refine m_puti dX0_lookAt_209 fX0_108 (fun q h => by cases h; rfl) rfl rfl (zPas_of w (by omega)) rfl ?_
          refine z_aload dX0_lookAt_212 rfl ?_
          refine z_iload dX0_lookAt_214 rfl ?_
          refine z_iload dX0_lookAt_216 rfl ?_
          refine z_iadd dX0_lookAt_218 ?_
          refine m_puti dX0_lookAt_219 fX0_111 (fun q h => by cases h; rfl) rfl rfl (zPas_of w (by omega)) rfl ?_
          refine z_aload dX0_lookAt_222 rfl ?_
          refine z_iload_n dX0_lookAt_224 rfl ?_
          refine z_iload_n dX0_lookAt_225 rfl ?_
          refine z_iload dX0_lookAt_226 rfl ?_
          refine z_iload dX0_lookAt_228 rfl ?_
          refine z_iload dX0_lookAt_230 rfl ?_
          refine z_iadd dX0_lookAt_232 ?_
          refine m_callVv (As := [.int _, .int _, .int _, .int _]) dX0_lookAt_233 kX0_114 ⟨rfl, rfl⟩ rfl ⟨rfl, rfl⟩ rfl rfl (zSwing_of lf hl2).1 rfl rfl (c_letThrough (zSwing_of lf hl2) (s := s) hs) (fun μ233 ν233 hk233 => ?_)
          obtain ⟨rfl, rfl⟩ := hk233
          refine m_ret dX0_lookAt_236 rfl ?_
          first | exact (h156 h108).elim | exact (h108 h156).elim | exact ⟨by subst_vars; simp only [gLook2, gWait, gEnd, if_neg h108, if_pos h115, if_neg h124, if_pos h156], rfl⟩
        · skip
          refine z_aload dX0_lookAt_159 rfl ?_
          refine m_getr dX0_lookAt_161 fX0_98 (zSwing_of lf hl2).1 rfl ?_
          refine z_iload dX0_lookAt_164 rfl ?_
          refine m_ialdN (j := (1 - s)) dX0_lookAt_166 (zSwing_of lf hl2).2.2.1 rfl (by omega) rfl ?_
          refine z_istore (i := 6) (fun y => [(6, .int y), (9, .ref (30 + 4 * lf)), (8, .ref (38 + w)), (7, .int (μ 19 w)), (5, .int (μ (pl + 1) w)), (4, .int (nI (1 - s))), (3, .int (nI s)), (0, .ref 26), (1, .int (nI w)), (2, .ref pl)]) dX0_lookAt_167 rfl (fun _ => rfl) (fun x6_167 ex6_167 => ?_)
          refine z_aload dX0_lookAt_169 rfl ?_
          refine z_aload_n dX0_lookAt_171 rfl ?_
          refine m_geti dX0_lookAt_172 fX0_84 hp.1 rfl ?_
          refine z_iconst (v := 1) dX0_lookAt_175 rfl ?_
          refine z_icmp_ne 183 dX0_lookAt_176 (by decide) (fun h176 => ?_) (fun h176 => ?_)
          · skip
            refine z_iconst (v := 3) dX0_lookAt_183 rfl ?_
            refine m_puti dX0_lookAt_184 fX0_61 (fun q h => by cases h; rfl) rfl rfl (zPas_of w (by omega)) rfl ?_
            refine z_aload_n dX0_lookAt_187 rfl ?_
            refine z_iload_n dX0_lookAt_188 rfl ?_
            refine z_aload_n dX0_lookAt_189 rfl ?_
            refine z_iload dX0_lookAt_190 rfl ?_
            refine m_callVv (As := [.int _, .ref _, .int _]) dX0_lookAt_192 kX0_101 ⟨rfl, rfl⟩ rfl ⟨rfl, rfl⟩ rfl rfl sh26 rfl rfl (c_goThrough hp (w := w) (lf := lf) (s := s) hw (by first | exact f3 | (rw [up2_at, if_neg (by omega)]; exact f3)) hl2 (by first | exact f2 | (rw [up2_at, if_neg (by omega)]; exact f2)) hs) (fun μ192 ν192 hk192 => ?_)
            obtain ⟨rfl, rfl⟩ := hk192
            refine z_aload dX0_lookAt_195 rfl ?_
            refine z_iload dX0_lookAt_197 rfl ?_
            refine z_iload dX0_lookAt_199 rfl ?_
            refine z_isub dX0_lookAt_201 ?_
            refine m_puti dX0_lookAt_202 fX0_105 (fun q h => by cases h; rfl) rfl rfl (zPas_of w (by omega)) rfl ?_
            refine z_aload dX0_lookAt_205 rfl ?_
            refine z_iload dX0_lookAt_207 rfl ?_
            refine m_puti dX0_lookAt_209 fX0_108 (fun q h => by cases h; rfl) rfl rfl (zPas_of w (by omega)) rfl ?_
            refine z_aload dX0_lookAt_212 rfl ?_
            refine z_iload dX0_lookAt_214 rfl ?_
            refine z_iload dX0_lookAt_216 rfl ?_
            refine z_iadd dX0_lookAt_218 ?_
            refine m_puti dX0_lookAt_219 fX0_111 (fun q h => by cases h; rfl) rfl rfl (zPas_of w (by omega)) rfl ?_
            refine z_aload dX0_lookAt_222 rfl ?_
            refine z_iload_n dX0_lookAt_224 rfl ?_
            refine z_iload_n dX0_lookAt_225 rfl ?_
            refine z_iload dX0_lookAt_226 rfl ?_
            refine z_iload dX0_lookAt_228 rfl ?_
            refine z_iload dX0_lookAt_230 rfl ?_
            refine z_iadd dX0_lookAt_232 ?_
            refine m_callVv (As := [.int _, .int _, .int _, .int _]) dX0_lookAt_233 kX0_114 ⟨rfl, rfl⟩ rfl ⟨rfl, rfl⟩ rfl rfl (zSwing_of lf hl2).1 rfl rfl (c_letThrough (zSwing_of lf hl2) (s := s) hs) (fun μ233 ν233 hk233 => ?_)
            obtain ⟨rfl, rfl⟩ := hk233
            refine m_ret dX0_lookAt_236 rfl ?_
            first | exact (h156 h108).elim | exact (h108 h156).elim | exact ⟨by subst_vars; simp only [gLook2, gWait, gEnd, if_neg h108, if_pos h115, if_neg h124, if_neg h156, if_neg h176], rfl⟩
          · skip
            refine z_iconst (v := 4) dX0_lookAt_179 rfl ?_
            refine z_goto 184 dX0_lookAt_180 (by decide) ?_
            refine m_puti dX0_lookAt_184 fX0_61 (fun q h => by cases h; rfl) rfl rfl (zPas_of w (by omega)) rfl ?_
            refine z_aload_n dX0_lookAt_187 rfl ?_
            refine z_iload_n dX0_lookAt_188 rfl ?_
            refine z_aload_n dX0_lookAt_189 rfl ?_
            refine z_iload dX0_lookAt_190 rfl ?_
            refine m_callVv (As := [.int _, .ref _, .int _]) dX0_lookAt_192 kX0_101 ⟨rfl, rfl⟩ rfl ⟨rfl, rfl⟩ rfl rfl sh26 rfl rfl (c_goThrough hp (w := w) (lf := lf) (s := s) hw (by first | exact f3 | (rw [up2_at, if_neg (by omega)]; exact f3)) hl2 (by first | exact f2 | (rw [up2_at, if_neg (by omega)]; exact f2)) hs) (fun μ192 ν192 hk192 => ?_)
            obtain ⟨rfl, rfl⟩ := hk192
            refine z_aload dX0_lookAt_195 rfl ?_
            refine z_iload dX0_lookAt_197 rfl ?_
            refine z_iload dX0_lookAt_199 rfl ?_
            refine z_isub dX0_lookAt_201 ?_
            refine m_puti dX0_lookAt_202 fX0_105 (fun q h => by cases h; rfl) rfl rfl (zPas_of w (by omega)) rfl ?_
            refine z_aload dX0_lookAt_205 rfl ?_
            refine z_iload dX0_lookAt_207 rfl ?_
            refine m_puti dX0_lookAt_209 fX0_108 (fun q h => by cases h; rfl) rfl rfl (zPas_of w (by omega)) rfl ?_
            refine z_aload dX0_lookAt_212 rfl ?_
            refine z_iload dX0_lookAt_214 rfl ?_
            refine z_iload dX0_lookAt_216 rfl ?_
            refine z_iadd dX0_lookAt_218 ?_
            refine m_puti dX0_lookAt_219 fX0_111 (fun q h => by cases h; rfl) rfl rfl (zPas_of w (by omega)) rfl ?_
            refine z_aload dX0_lookAt_222 rfl ?_
            refine z_iload_n dX0_lookAt_224 rfl ?_
            refine z_iload_n dX0_lookAt_225 rfl ?_
            refine z_iload dX0_lookAt_226 rfl ?_
            refine z_iload dX0_lookAt_228 rfl ?_
            refine z_iload dX0_lookAt_230 rfl ?_
            refine z_iadd dX0_lookAt_232 ?_
            refine m_callVv (As := [.int _, .int _, .int _, .int _]) dX0_lookAt_233 kX0_114 ⟨rfl, rfl⟩ rfl ⟨rfl, rfl⟩ rfl rfl (zSwing_of lf hl2).1 rfl rfl (c_letThrough (zSwing_of lf hl2) (s := s) hs) (fun μ233 ν233 hk233 => ?_)
            obtain ⟨rfl, rfl⟩ := hk233
            refine m_ret dX0_lookAt_236 rfl ?_
            first | exact (h156 h108).elim | exact (h108 h156).elim | exact ⟨by subst_vars; simp only [gLook2, gWait, gEnd, if_neg h108, if_pos h115, if_neg h124, if_neg h156, if_pos h176], rfl⟩
      · skip
        refine z_bipush (v := 20) dX0_lookAt_127 rfl ?_
        refine z_istore (i := 7) (fun y => [(7, .int y), (9, .ref (30 + 4 * lf)), (8, .ref (38 + w)), (6, .int (μ (pl + 1) w)), (5, .int (μ (pl + 1) w)), (4, .int (nI (1 - s))), (3, .int (nI s)), (0, .ref 26), (1, .int (nI w)), (2, .ref pl)]) dX0_lookAt_129 rfl (fun _ => rfl) (fun x7_129 ex7_129 => ?_)
        refine z_aload_n dX0_lookAt_131 rfl ?_
        refine z_iload_n dX0_lookAt_132 rfl ?_
        refine z_aload dX0_lookAt_133 rfl ?_
        refine m_getr dX0_lookAt_135 fX0_91 (zSwing_of lf hl2).1 rfl ?_
        refine z_iload dX0_lookAt_138 rfl ?_
        refine m_ialdN (j := (1 - s)) dX0_lookAt_140 (zSwing_of lf hl2).2.2.2 rfl (by omega) rfl ?_
        refine m_callVv (As := [.int _, .int _]) dX0_lookAt_141 kX0_94 ⟨rfl, rfl⟩ rfl ⟨rfl, rfl⟩ rfl rfl sh26 rfl rfl (c_crashBoth hw f4) (fun μ141 ν141 hk141 => ?_)
        obtain ⟨rfl, rfl⟩ := hk141
        refine z_goto 195 dX0_lookAt_144 (by decide) ?_
        refine z_aload dX0_lookAt_195 rfl ?_
        refine z_iload dX0_lookAt_197 rfl ?_
        refine z_iload dX0_lookAt_199 rfl ?_
        refine z_isub dX0_lookAt_201 ?_
        refine m_puti dX0_lookAt_202 fX0_105 (fun q h => by cases h; rfl) rfl rfl (zPas_of w (by omega)) rfl ?_
        refine z_aload dX0_lookAt_205 rfl ?_
        refine z_iload dX0_lookAt_207 rfl ?_
        refine m_puti dX0_lookAt_209 fX0_108 (fun q h => by cases h; rfl) rfl rfl (zPas_of w (by omega)) rfl ?_
        refine z_aload dX0_lookAt_212 rfl ?_
        refine z_iload dX0_lookAt_214 rfl ?_
        refine z_iload dX0_lookAt_216 rfl ?_
        refine z_iadd dX0_lookAt_218 ?_
        refine m_puti dX0_lookAt_219 fX0_111 (fun q h => by cases h; rfl) rfl rfl (zPas_of w (by omega)) rfl ?_
        refine z_aload dX0_lookAt_222 rfl ?_
        refine z_iload_n dX0_lookAt_224 rfl ?_
        refine z_iload_n dX0_lookAt_225 rfl ?_
        refine z_iload dX0_lookAt_226 rfl ?_
        refine z_iload dX0_lookAt_228 rfl ?_
        refine z_iload dX0_lookAt_230 rfl ?_
        refine z_iadd dX0_lookAt_232 ?_
        refine m_callVv (As := [.int _, .int _, .int _, .int _]) dX0_lookAt_233 kX0_114 ⟨rfl, rfl⟩ rfl ⟨rfl, rfl⟩ rfl rfl (zSwing_of lf hl2).1 rfl rfl (c_letThrough (zSwing_of lf hl2) (s := s) hs) (fun μ233 ν233 hk233 => ?_)
        obtain ⟨rfl, rfl⟩ := hk233
        refine m_ret dX0_lookAt_236 rfl ?_
        first | exact (h156 h108).elim | exact (h108 h156).elim | exact ⟨by subst_vars; simp only [gLook2, gWait, gEnd, if_neg h108, if_pos h115, if_pos h124], rfl⟩
