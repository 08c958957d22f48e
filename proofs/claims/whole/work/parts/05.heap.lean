
set_option maxRecDepth 100000 in
theorem zlay0 : (zcl.flatMap fun q => u_ws q.1 q.2.1 q.2.2).all (fun w => decide (w ∈ tables_1) && goodWord w) = true := by decide +kernel
theorem zlay {ci : Nat} {q : vw_C} (hc : zcl[ci]? = some q) : ∀ w ∈ u_ws q.1 q.2.1 q.2.2, w ∈ zT := by
  intro w hw
  have h := List.all_eq_true.mp zlay0 w (List.mem_flatMap.mpr ⟨q, List.mem_of_getElem? hc, hw⟩)
  simp only [Bool.and_eq_true, decide_eq_true_eq] at h
  exact List.mem_filter.mpr ⟨List.mem_append_right _ h.1, h.2⟩
def zty : Nat → Nat → FieldType := fun ci => match ci with
  | 0 => tyX0 | 1 => tyX1 | 2 => tyX2 | 3 => tyX3 | 4 => tyX4 | 5 => tyX5 | 6 => tyX6 | 7 => tyX7 | 8 => tyX8 | 9 => tyX9 | _ => tyX10
theorem zty_ok {ci : Nat} {q : vw_C} (hc : zcl[ci]? = some q) : ∀ k, k < q.2.2 → parseFieldDescriptor (q.2.1 k).2.2.1 = some (zty ci k) := by
  match ci, hc with
  | 0, hc => cases hc; exact tyX0_ok
  | 1, hc => cases hc; exact tyX1_ok
  | 2, hc => cases hc; exact tyX2_ok
  | 3, hc => cases hc; exact tyX3_ok
  | 4, hc => cases hc; exact tyX4_ok
  | 5, hc => cases hc; exact tyX5_ok
  | 6, hc => cases hc; exact tyX6_ok
  | 7, hc => cases hc; exact tyX7_ok
  | 8, hc => cases hc; exact tyX8_ok
  | 9, hc => cases hc; exact tyX9_ok
  | 10, hc => cases hc; exact tyX10_ok
  | n + 11, hc => simp [zcl] at hc
theorem znm_ok {ci : Nat} {q : vw_C} (hc : zcl[ci]? = some q) : ∀ a, a < q.2.2 → ∀ b, b < q.2.2 → a ≠ b → (q.2.1 a).2.1 ≠ (q.2.1 b).2.1 := by
  match ci, hc with
  | 0, hc => cases hc; exact nmX0
  | 1, hc => cases hc; exact nmX1
  | 2, hc => cases hc; exact nmX2
  | 3, hc => cases hc; exact nmX3
  | 4, hc => cases hc; exact nmX4
  | 5, hc => cases hc; exact nmX5
  | 6, hc => cases hc; exact nmX6
  | 7, hc => cases hc; exact nmX7
  | 8, hc => cases hc; exact nmX8
  | 9, hc => cases hc; exact nmX9
  | 10, hc => cases hc; exact nmX10
  | n + 11, hc => simp [zcl] at hc
/-- a field's row in a type's pool: type ci, field j -/
def zF (own : String) (idx ci j : Nat) : Prop := ∃ q : vw_C, zcl[ci]? = some q ∧ j < q.2.2 ∧ Cond.fieldLink own idx q.1 (q.2.1 j).2.1 (q.2.1 j).2.2.1 ∈ zT ∧ (q.2.1 j).1 = q.1
theorem zF.mk {own : String} {idx ci j : Nat} (q : vw_C) (i : Nat) (hc : zcl[ci]? = some q) (hj : Nat.blt j q.2.2 = true) (h : tables_1[i]? = some (Cond.fieldLink own idx q.1 (q.2.1 j).2.1 (q.2.1 j).2.2.1)) (he : (q.2.1 j).1 = q.1) : zF own idx ci j := ⟨q, hc, Nat.blt_eq.mp hj, zT_mem h rfl, he⟩
section ZHP
variable {l : Launch} {G : zG} {M : zM} {pc : Nat} {lv : List (Nat × Value)} {st : List Value} {w : List zC} {cs ss : Nat} {K : Int32 → List zC → Prop}
theorem z_get {idx ci j k : Nat} {fs : List Value} {v : Value} (hd : decode (zcc M) pc = .ok (.getfield idx, 3)) (hf : zF (zy M).cls idx ci j) (he : w[k]? = some (.inr (ci, fs))) (hv : fs[j]? = some v)
    (kk : AW l G M (pc + 3) lv (v :: st) w cs ss K) : AW l G M pc lv (.ref k :: st) w cs ss K := by
  intro p e s m args below meth c H locs ls Q C R hH hl
  obtain ⟨q, hc, hj, hlk, hq⟩ := hf
  exact va_get (D := zgD G) (ci := ci) (C := q.1) (T := q.2.1) (N := q.2.2) C.1 C.2.1 C.2.2.2.2.1 (fun w hw => List.mem_cons_of_mem _ (zlay hc w hw)) C.2.2.2.1 C.2.2.2.2.2.1.1 hH.2.1 k (zw_at he) hc j hj (C.2.2.2.2.1 _ (List.mem_cons_of_mem _ hlk)) (fun x hx => by rw [← hq]; exact hx) (v := zv G v) (by rw [List.getElem?_map, hv]; rfl) hd (kk p e s m args below meth c H locs ls Q C R hH hl)
theorem zH.set {e0 e : zC} {k : Nat} {H0 H H1 : Heap} {locs : List Loc} {i : Nat} (h : zH G w H0 H locs) (hk : w[k]? = some e0) (ha : va_at (zgD G) zcl (zga G + k, zc G e) H1) (z : H1.size = H.size) (oq : ∀ q : Nat, q ≠ zga G + k → H1[q]? = H[q]?) : zH G (w.set k e) H0 H1 (locs ++ [⟨zga G + k, i⟩]) :=
  ⟨by rw [z, List.length_set]; exact h.1, by rw [zw_put]; exact h.2.1.set (zw_D G w) (zw_at hk) ha oq, h.2.2.put z oq (Nat.le_add_right _ _)⟩
theorem z_put {idx ci j k : Nat} {fs : List Value} {v : Value} (hd : decode (zcc M) pc = .ok (.putfield idx, 3)) (hf : zF (zy M).cls idx ci j) (hfin : ∀ q : vw_C, zcl[ci]? = some q → (q.2.1 j).2.2.2 = false) (hn : narrow (zty ci j) (zv G v) = zv G v) (hfit : fits (zty ci j) (zv G v) = true) (he : w[k]? = some (.inr (ci, fs))) (hl0 : Nat.blt j fs.length = true)
    (kk : AW l G M (pc + 3) lv st (w.set k (.inr (ci, fs.set j v))) cs ss K) : AW l G M pc lv (v :: .ref k :: st) w cs ss K := by
  intro p e s m args below meth c H locs ls Q C R hH hl
  obtain ⟨q, hc, hj, hlk, hq⟩ := hf
  have hts := C.2.2.2.2.1
  have hin : ∀ x ∈ u_ws q.1 q.2.1 q.2.2, x ∈ zws M := fun x hx => List.mem_cons_of_mem _ (zlay hc x hx)
  have hK := C.2.2.2.2.2.1.1
  have hap := va_apart (own := q.1) hts hin (zty ci) (zty_ok hc) (znm_ok hc) hK hc
  obtain ⟨r, h1, cell, q1, q2, q3, q4⟩ := hH.2.1 k _ (zw_at he)
  have hr : r = q := Option.some.inj (h1.symm.trans hc)
  subst hr
  obtain ⟨hS, hfc, kC, hkC, hkind⟩ := hK.1 ci _ hc
  obtain ⟨cf, kf, fi, f, hi, hsl⟩ := hS j hj
  have hlay := hts _ (hin _ (u_in_lay hj))
  unfold u_lay at hlay
  rw [if_neg (by rw [hfin _ hc]; decide)] at hlay
  have hst := (u_facts hfc hkC (u_lays hts hin hj) hi).1
  have h6 := u_store hfc hkC hkind hlay hi (zty_ok hc j hj) hn hfit
  refine W.putK C.1 C.2.1 (f := f) ⟨C.2.2.2.1, hts _ (List.mem_cons_of_mem _ hlk), ⟨_, _, _, by rw [← hq]; exact hi⟩, hst⟩ (by rw [q2]; exact h6) q1 q3 (by rw [hsl]; exact k2_hasslot (q4 j hj)) rfl rfl hd fun H' e1 e2 e3 => ?_
  rw [hsl] at e1 ⊢
  refine kk p e s m args below meth c H' _ ls Q C R (hH.set he ?_ e2 e3) hl
  refine ⟨_, hc, t_OB.to (V := updV (vp_V (fs.map (zv G))) j (zv G v)) ⟨_, e1, q2, q3, t_set q4 hap hj (zv G v)⟩ (fun i _ => ?_)⟩
  rw [vp_updV_set (by rw [List.length_map]; exact Nat.blt_eq.mp hl0), ← List.map_set]
theorem z_putF {idx ci j k : Nat} {fs : List Value} {v : Value} (hd : decode (zcc M) pc = .ok (.putfield idx, 3)) (hf : zF (zy M).cls idx ci j) (hfin : ∀ q : vw_C, zcl[ci]? = some q → (q.2.1 j).2.2.2 = true ∧ (q.2.1 j).1 = (zy M).cls) (hin2 : (zy M).name = "<init>") (hn : narrow (zty ci j) (zv G v) = zv G v) (hfit : fits (zty ci j) (zv G v) = true) (he : w[k]? = some (.inr (ci, fs))) (hl0 : Nat.blt j fs.length = true)
    (kk : AW l G M (pc + 3) lv st (w.set k (.inr (ci, fs.set j v))) cs ss K) : AW l G M pc lv (v :: .ref k :: st) w cs ss K := by
  intro p e s m args below meth c H locs ls Q C R hH hl
  obtain ⟨q, hc, hj, hlk, hq⟩ := hf
  have hts := C.2.2.2.2.1
  have hin : ∀ x ∈ u_ws q.1 q.2.1 q.2.2, x ∈ zws M := fun x hx => List.mem_cons_of_mem _ (zlay hc x hx)
  have hK := C.2.2.2.2.2.1.1
  have hap := va_apart (own := q.1) hts hin (zty ci) (zty_ok hc) (znm_ok hc) hK hc
  obtain ⟨r, h1, cell, q1, q2, q3, q4⟩ := hH.2.1 k _ (zw_at he)
  have hr : r = q := Option.some.inj (h1.symm.trans hc)
  subst hr
  obtain ⟨hS, hfc, kC, hkC, hkind⟩ := hK.1 ci _ hc
  obtain ⟨cf, kf, fi, f, hi, hsl⟩ := hS j hj
  have hlay := hts _ (hin _ (u_in_lay hj))
  unfold u_lay at hlay
  rw [if_pos (hfin _ hc).1] at hlay
  have hst := (u_facts hfc hkC (u_lays hts hin hj) hi).1
  have hcf : m.cls = cf := by
    obtain ⟨_, _, c', _, _, _, -, -, hf', -, -, -, hown2, -⟩ := Cond.laysFinal_spec hlay
    have e1 : c' = cf := by have := hi.symm.trans hf'; simp at this; exact this.1.symm
    rw [(hfin _ hc).2] at hown2
    rw [← e1]; exact Option.some.inj (C.2.2.2.1.symm.trans hown2)
  have h6 := u_fits hfc hkC hkind (Or.inr hlay) hi (zty_ok hc j hj) hn hfit
  refine W.putFinK C.1 C.2.1 C.2.2.2.1 (hts _ (List.mem_cons_of_mem _ hlk)) (by rw [← hq]; exact hi) hst hcf (C.2.2.2.2.2.2.1.trans hin2) (by rw [q2]; exact h6) q1 q3 (by rw [hsl]; exact k2_hasslot (q4 j hj)) rfl rfl hd fun H' e1 e2 e3 => ?_
  rw [hsl] at e1 ⊢
  refine kk p e s m args below meth c H' _ ls Q C R (hH.set he ?_ e2 e3) hl
  refine ⟨_, hc, t_OB.to (V := updV (vp_V (fs.map (zv G))) j (zv G v)) ⟨_, e1, q2, q3, t_set q4 hap hj (zv G v)⟩ (fun i _ => ?_)⟩
  rw [vp_updV_set (by rw [List.length_map]; exact Nat.blt_eq.mp hl0), ← List.map_set]
theorem z_iald {k n : Nat} {f : Nat → Int32} {i : Int32} (hd : decode (zcc M) pc = .ok (.iaload, 1)) (he : w[k]? = some (.inl (0, n, .inl f))) (hi : vp_in i n) (kk : AW l G M (pc + 1) lv (.int (f i.toNatClampNeg) :: st) w cs ss K) : AW l G M pc lv (.int i :: .ref k :: st) w cs ss K := by
  intro p e s m args below meth c H locs ls Q C R hH hl
  exact va_iald (t0 := 0) C.1 C.2.1 C.2.2.2.2.2.1.1 hH.2.1 k (zw_at he) rfl hi hd (kk p e s m args below meth c H locs ls Q C R hH hl)
theorem z_zald {k n : Nat} {f : Nat → Int32} {i : Int32} (hd : decode (zcc M) pc = .ok (.baload, 1)) (he : w[k]? = some (.inl (1, n, .inl f))) (hi : vp_in i n) (kk : AW l G M (pc + 1) lv (.int (f i.toNatClampNeg) :: st) w cs ss K) : AW l G M pc lv (.int i :: .ref k :: st) w cs ss K := by
  intro p e s m args below meth c H locs ls Q C R hH hl
  exact va_zald (t0 := 1) C.1 C.2.1 C.2.2.2.2.2.1.1 hH.2.1 k (zw_at he) rfl hi hd (kk p e s m args below meth c H locs ls Q C R hH hl)
theorem z_oald {i : Int32} (hd : decode (zcc M) pc = .ok (.iaload, 1)) (hi : vp_in i 7) (kk : AW l G M (pc + 1) lv (.int (zord i.toNatClampNeg) :: st) w cs ss K) : AW l G M pc lv (.int i :: .retAddr 0 :: st) w cs ss K := by
  intro p e s m args below meth c H locs ls Q C R hH hl
  exact va_ti C.1 C.2.1 C.2.2.2.2.2.1.2.2.1 hH.2.2 hi rfl hd (kk p e s m args below meth c H locs ls Q C R hH hl)
theorem z_sald {i : Int32} (hd : decode (zcc M) pc = .ok (.iaload, 1)) (hi : vp_in i (zgL G)) (kk : AW l G M (pc + 1) lv (.int (zgx G i.toNatClampNeg) :: st) w cs ss K) : AW l G M pc lv (.int i :: .retAddr 1 :: st) w cs ss K := by
  intro p e s m args below meth c H locs ls Q C R hH hl
  have hb := C.2.2.2.2.2.1.2.2.2.2.1
  exact va_sld C.1 C.2.1 C.2.2.2.2.2.1.2.2.2.1 (Nat.lt_of_lt_of_le hb C.2.2.2.2.2.2.2) (Nat.not_le.mpr hb) hH.2.2 hi hd (kk p e s m args below meth c H locs ls Q C R hH hl)
theorem z_slen (hd : decode (zcc M) pc = .ok (.arraylength, 1)) (kk : AW l G M (pc + 1) lv (.int (Int32.ofNat (zgL G)) :: st) w cs ss K) : AW l G M pc lv (.retAddr 1 :: st) w cs ss K := by
  intro p e s m args below meth c H locs ls Q C R hH hl
  have hb := C.2.2.2.2.2.1.2.2.2.2.1
  exact va_slen C.1 C.2.1 C.2.2.2.2.2.1.2.2.2.1 (Nat.lt_of_lt_of_le hb C.2.2.2.2.2.2.2) (Nat.not_le.mpr hb) hH.2.2 hd (kk p e s m args below meth c H locs ls Q C R hH hl)
theorem z_alen {k n : Nat} {f : Nat → Int32} (hd : decode (zcc M) pc = .ok (.arraylength, 1)) (he : w[k]? = some (.inl (0, n, .inl f))) (kk : AW l G M (pc + 1) lv (.int (Int32.ofNat n) :: st) w cs ss K) : AW l G M pc lv (.ref k :: st) w cs ss K := by
  intro p e s m args below meth c H locs ls Q C R hH hl
  exact va_alen (t0 := 0) (ty := .int) C.1 C.2.1 C.2.2.2.2.2.1.1 hH.2.1 k (zw_at he) rfl rfl hd (kk p e s m args below meth c H locs ls Q C R hH hl)
theorem z_aald {k n t q : Nat} {C0 : String} {f : Nat → Option Nat} {i : Int32} (hd : decode (zcc M) pc = .ok (.aaload, 1)) (he : w[k]? = some (.inl (t, n, .inr f))) (ht : (ztys (zgt G))[t]? = some (zgt G t, .object C0)) (hi : vp_in i n) (hf : f i.toNatClampNeg = some q) (kk : AW l G M (pc + 1) lv (.ref q :: st) w cs ss K) : AW l G M pc lv (.int i :: .ref k :: st) w cs ss K := by
  intro p e s m args below meth c H locs ls Q C R hH hl
  refine va_aldq (t0 := t) C.1 C.2.1 C.2.2.2.2.2.1.1 hH.2.1 k (zw_at he) ht hi hd ?_
  show W p l e (zrm M) s m args below meth c H locs cs ss Q (F0 m (pc + 1) ls (va_rf ((f i.toNatClampNeg).map _) :: _))
  rw [hf]
  exact kk p e s m args below meth c H locs ls Q C R hH hl
theorem z_iast {k n : Nat} {f : Nat → Int32} {i x : Int32} (hd : decode (zcc M) pc = .ok (.iastore, 1)) (he : w[k]? = some (.inl (0, n, .inl f))) (hi : vp_in i n) (kk : AW l G M (pc + 1) lv st (w.set k (.inl (0, n, .inl (upd f i.toNatClampNeg x)))) cs ss K) : AW l G M pc lv (.int x :: .int i :: .ref k :: st) w cs ss K := by
  intro p e s m args below meth c H locs ls Q C R hH hl
  refine W.iast C.1 C.2.1 (hH.2.1 k _ (zw_at he)) ((C.2.2.2.2.2.1.1.2 0 _ rfl).1 n (fun j => .int (f j))) (fun q => by cases q) (by show ¬ (i < 0 ∨ (arrV _ _ _).slots.size ≤ _); rw [arrV_size]; exact hi) rfl rfl hd fun H1 e1 z oq => ?_
  refine kk p e s m args below meth c H1 _ ls Q C R (hH.set he ?_ z oq) hl
  show H1[_]? = some (vp_cell _ _)
  rw [e1]
  show some ((vp_cell _ _).setSlot _ _) = _
  rw [vp_cell_i, vp_cell_i, arrV_store]
  congr 2
  funext q
  by_cases hq : q = i.toNatClampNeg
  · subst hq
    simp [updV, upd]
  · simp [updV, upd, hq]
theorem z_zast {k n : Nat} {f : Nat → Int32} {i x : Int32} (hd : decode (zcc M) pc = .ok (.bastore, 1)) (he : w[k]? = some (.inl (1, n, .inl f))) (hi : vp_in i n) (hx : narrow .boolean (.int x) = .int x) (kk : AW l G M (pc + 1) lv st (w.set k (.inl (1, n, .inl (upd f i.toNatClampNeg x)))) cs ss K) : AW l G M pc lv (.int x :: .int i :: .ref k :: st) w cs ss K := by
  intro p e s m args below meth c H locs ls Q C R hH hl
  refine W.zast C.1 C.2.1 (hH.2.1 k _ (zw_at he)) ((C.2.2.2.2.2.1.1.2 1 _ rfl).1 n (fun j => .int (f j))) (fun q => by cases q) (by show ¬ (i < 0 ∨ (arrV _ _ _).slots.size ≤ _); rw [arrV_size]; exact hi) rfl rfl hd fun H1 e1 z oq => ?_
  refine kk p e s m args below meth c H1 _ ls Q C R (hH.set he ?_ z oq) hl
  show H1[_]? = some (vp_cell _ _)
  rw [e1, hx]
  show some ((vp_cell _ _).setSlot _ _) = _
  rw [vp_cell_i, vp_cell_i, arrV_store]
  congr 2
  funext q
  by_cases hq : q = i.toNatClampNeg
  · subst hq
    simp [updV, upd]
  · simp [updV, upd, hq]
theorem z_aast {k n t ci q : Nat} {r : vw_C} {fs : List Value} {f : Nat → Option Nat} {i : Int32} (hd : decode (zcc M) pc = .ok (.aastore, 1)) (he : w[k]? = some (.inl (t, n, .inr f))) (ht : (ztys (zgt G))[t]? = some (zgt G t, .object r.1)) (hc : zcl[ci]? = some r) (hv : w[q]? = some (.inr (ci, fs))) (hi : vp_in i n)
    (kk : AW l G M (pc + 1) lv st (w.set k (.inl (t, n, .inr (va_up f i.toNatClampNeg (some q))))) cs ss K) : AW l G M pc lv (.ref q :: .int i :: .ref k :: st) w cs ss K := by
  intro p e s m args below meth c H locs ls Q C R hH hl
  have hlt : i.toNatClampNeg < n := Nat.not_le.mp fun q => hi (Or.inr q)
  have h0 : ¬ i < 0 := fun q => hi (Or.inl q)
  obtain ⟨r', hr', cellV, g1, g2, g3, -⟩ := hH.2.1 q _ (zw_at hv)
  have hK := C.2.2.2.2.2.1.1
  have hcls := (hK.1 ci r hc).2
  obtain ⟨kA, comp, k1, k2, k3, -⟩ := (hK.2 t _ ht).2
  have hcomp : comp = (zgD G).1 ci := Option.some.inj (k3.symm.trans hcls.1)
  subst hcomp
  obtain ⟨kC, hkC, -⟩ := hcls.2
  refine W.aast C.1 C.2.1 (hH.2.1 k _ (zw_at he)) (fun q h => by cases h) (fun h => by cases h) k1 k2 rfl hkC ⟨h0, by show _ < (arrV _ _ _).slots.size; rw [arrV_size]; exact hlt⟩ g1 (fun q h => by rw [g3] at h; cases h) (by rw [g2]; exact hkC) (by rw [g2]; exact va_assign hcls) rfl rfl hd fun H1 e1 z oq => ?_
  refine kk p e s m args below meth c H1 _ ls Q C R (hH.set he ?_ z oq) hl
  show H1[_]? = some (vp_cell _ _)
  rw [e1]
  show some ((vp_cell _ _).setSlot _ _) = _
  rw [vp_cell_q, vp_cell_q, arrV_store]
  congr 2
  funext a
  by_cases hq : a = i.toNatClampNeg
  · subst hq
    simp [updV, va_up, va_rf]
  · simp [updV, va_up, hq]
theorem z_gets {idx : Nat} (hd : decode (zcc M) pc = .ok (.getstatic idx, 3)) (hf : Cond.fieldLink (zy M).cls idx RX6 "ORDERS" "[I" ∈ zT) (kk : AW l G M (pc + 3) lv (.retAddr 0 :: st) w cs ss K) : AW l G M pc lv st w cs ss K := by
  intro p e s m args below meth c H locs ls Q C R hH hl
  exact va_gets C.1 C.2.1 C.2.2.2.2.2.1.2.1 hH.2.2 C.2.2.2.1 (C.2.2.2.2.1 _ (List.mem_cons_of_mem _ hf)) (fun x hx => hx) hd (kk p e s m args below meth c H locs ls Q C R hH hl)
theorem zH.push {e : zC} {H0 H H1 : Heap} {locs : List Loc} (h : zH G w H0 H locs) (ha : va_at (zgD G) zcl (zga G + w.length, zc G e) H1) (z : H1.size = H.size + 1) (o1 : ∀ q : Nat, q < H.size → H1[q]? = H[q]?) : zH G (w ++ [e]) H0 H1 locs := by
  refine ⟨by rw [z, List.length_append, h.1]; simp; omega, ?_, Nat.le_trans h.2.2.1 (by omega), fun x h1 h2 => (o1 x (Nat.lt_of_lt_of_le h1 h.2.2.1)).trans (h.2.2.2.1 x h1 h2), h.2.2.2.2⟩
  rw [zw_new]
  refine (h.2.1.kept (fun k q hk => o1 q.1 ((h.2.1 k q hk).lt))).app (fun k x hx => ?_)
  have hz : k < 1 := (List.getElem?_eq_some_iff.mp hx).1
  rw [show k = 0 by omega] at hx
  cases hx
  exact ha
theorem z_new {idx ci : Nat} {q : vw_C} {fs : List Value} (hd : decode (zcc M) pc = .ok (.new idx, 3)) (hc : zcl[ci]? = some q) (h1 : Cond.classLink (zy M).cls idx q.1 ∈ zT) (h2 : Cond.instantiable q.1 q.2.2 ∈ zT) (h3 : Cond.initialized q.1 ∈ zT) (hfs : ∀ j, j < q.2.2 → defaultValue (zty ci j) = vp_V (fs.map (zv G)) j) (hcs : Nat.ble (cs + 1) (zrm M).cells = true) (hss : Nat.ble (ss + q.2.2) (zrm M).slots = true)
    (kk : AW l G M (pc + 3) lv (.ref w.length :: st) (w ++ [.inr (ci, fs)]) (cs + 1) (ss + q.2.2) K) : AW l G M pc lv st w cs ss K := by
  intro p e s m args below meth c H locs ls Q C R hH hl
  have hts := C.2.2.2.2.1
  have hKn := C.2.2.2.2.2.1.1.1 ci _ hc
  refine W.newcK C.1 C.2.1 C.2.2.2.1 (hts _ (List.mem_cons_of_mem _ h1)) (hts _ (List.mem_cons_of_mem _ h2)) (hts _ (List.mem_cons_of_mem _ h3)) rfl hd (Nat.le_of_ble_eq_true hcs) (Nat.le_of_ble_eq_true hss) hKn.2.1 hH.1 fun H1 kC hkC e1 z1 o1 => ?_
  exact kk p e s m args below meth c H1 locs ls Q C R (hH.push ⟨_, hc, (u_born (zty ci) hts (fun w hw => List.mem_cons_of_mem _ (zlay hc w hw)) hKn hkC e1 (zty_ok hc)).to hfs⟩ (by rw [z1, hH.1]) (fun q hq => o1 q (by rw [← hH.1]; exact hq))) hl
theorem z_newa {atype : ArrayType} {t n : Nat} {x : Int32} (hd : decode (zcc M) pc = .ok (.newarray atype, 2)) (hw : Cond.arrayClass (newarray.typeOf atype) ∈ zT) (ht : (ztys (zgt G))[t]? = some (zgt G t, newarray.typeOf atype)) (hdv : defaultValue (newarray.typeOf atype) = .int 0) (hra : ∀ U cA, va_RA U cA (newarray.typeOf atype) → U.vm.findClass ("[" ++ (newarray.typeOf atype).toString) = some cA) (hx : ¬ x < 0) (hn : x.toNatClampNeg = n) (hb : Nat.ble (n * componentBytes (newarray.typeOf atype)) 536870912 = true) (hcs : Nat.ble (cs + 1) (zrm M).cells = true) (hss : Nat.ble (ss + n) (zrm M).slots = true)
    (kk : AW l G M (pc + 2) lv (.ref w.length :: st) (w ++ [.inl (t, n, .inl (fun _ => 0))]) (cs + 1) (ss + n) K) : AW l G M pc lv (.int x :: st) w cs ss K := by
  intro p e s m args below meth c H locs ls Q C R hH hl
  refine va_newaK C.1 C.2.1 (C.2.2.2.2.1 _ (List.mem_cons_of_mem _ hw)) rfl hd rfl hx hn (Nat.le_of_ble_eq_true hb) (Nat.le_of_ble_eq_true hcs) (Nat.le_of_ble_eq_true hss) hH.1 fun H1 cA e1 z1 o1 hAr hNm => ?_
  have hcA : cA = zgt G t := Option.some.inj (hNm.symm.trans (hra _ _ (C.2.2.2.2.2.1.1.2 t _ ht).2))
  subst hcA
  refine kk p e s m args below meth c H1 locs ls Q C R (hH.push ?_ (by rw [z1, hH.1]) (fun q hq => o1 q (by rw [← hH.1]; exact hq))) hl
  show H1[_]? = some (vp_cell _ _)
  rw [e1, hdv]
  rfl
theorem z_anew {idx t n : Nat} {C0 : String} {x : Int32} (hd : decode (zcc M) pc = .ok (.anewarray idx, 3)) (hlk : Cond.classLink (zy M).cls idx C0 ∈ zT) (hov : ∀ U, zOvers U → va_AO C0 U) (ht : (ztys (zgt G))[t]? = some (zgt G t, .object C0)) (hx : ¬ x < 0) (hn : x.toNatClampNeg = n) (hb : Nat.ble (n * 4) 536870912 = true) (hcs : Nat.ble (cs + 1) (zrm M).cells = true) (hss : Nat.ble (ss + n) (zrm M).slots = true)
    (kk : AW l G M (pc + 3) lv (.ref w.length :: st) (w ++ [.inl (t, n, .inr (fun _ => none))]) (cs + 1) (ss + n) K) : AW l G M pc lv (.int x :: st) w cs ss K := by
  intro p e s m args below meth c H locs ls Q C R hH hl
  subst hn
  refine W.anew C.1 C.2.1 C.2.2.2.1 (C.2.2.2.2.1 _ (List.mem_cons_of_mem _ hlk)) (va_AO.use (hov _ C.2.2.2.2.2.1.2.2.2.2.2.2)) rfl hd rfl hx (Nat.le_of_ble_eq_true hb) (Nat.le_of_ble_eq_true hcs) (Nat.le_of_ble_eq_true hss) fun cA kA comp f1 f2 f3 f4 => ?_
  obtain ⟨kA', comp', -, -, -, f5⟩ := (C.2.2.2.2.2.1.1.2 t _ ht).2
  have hcA : cA = zgt G t := Option.some.inj (f1.symm.trans f5)
  subst hcA
  rw [hH.1]
  refine kk p e s m args below meth c _ locs ls Q C R (hH.push ?_ (by simp) (fun q hq => by rw [Array.getElem?_push, if_neg (Nat.ne_of_lt hq)])) hl
  show _ = some (vp_cell _ _)
  rw [← hH.1, Array.getElem?_push_size]
  show some ({ cls := zgt G t, slots := Array.replicate x.toNatClampNeg .null, vm := .none } : Cell) = _
  rw [arrV_new]
  rfl
end ZHP
