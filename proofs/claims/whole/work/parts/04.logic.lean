
abbrev zM : Type := MethodName × ByteArray × Nat × Option FieldType × Room
abbrev zy (M : zM) : MethodName := M.1
abbrev zcc (M : zM) : ByteArray := M.2.1
abbrev znL (M : zM) : Nat := M.2.2.1
abbrev zrt (M : zM) : Option FieldType := M.2.2.2.1
abbrev zrm (M : zM) : Room := M.2.2.2.2
def zT : List Cond := lw_tbl.filter goodWord
def zws (M : zM) : List Cond := Cond.code (zy M) (zcc M) (znL M) (zrt M) :: zT
theorem zT_mem {w : Cond} {i : Nat} (h : tables_1[i]? = some w) (hg : goodWord w = true) : w ∈ zT := List.mem_filter.mpr ⟨List.mem_append_right _ (List.mem_of_getElem? h), hg⟩
theorem zT_memS {w : Cond} {i : Nat} (h : (k2_sels lw_privs)[i]? = some w) (hg : goodWord w = true) : w ∈ zT := List.mem_filter.mpr ⟨List.mem_append_left _ (List.mem_of_getElem? h), hg⟩
theorem zT_good {w : Cond} (h : w ∈ zT) : (w.onTables && w.keeps) = true ∨ ∃ ty, w = .arrayClass ty := good_of_word (List.mem_filter.mp h).2
/-- base; numbers and slots of the types; array types; the constant row; the script: its cell, length, ints -/
abbrev zG : Type := Nat × (Nat → ClassId) × (Nat → Nat → Nat) × (Nat → ClassId) × Nat × Nat × Nat × (Nat → Int32)
abbrev zga (G : zG) : Nat := G.1
abbrev zgD (G : zG) : va_G := (G.2.1, G.2.2.1)
abbrev zgt (G : zG) : Nat → ClassId := G.2.2.2.1
abbrev zgo (G : zG) : Nat := G.2.2.2.2.1
abbrev zgb (G : zG) : Nat := G.2.2.2.2.2.1
abbrev zgL (G : zG) : Nat := G.2.2.2.2.2.2.1
abbrev zgx (G : zG) : Nat → Int32 := G.2.2.2.2.2.2.2
abbrev zcl : List vw_C := [(RX0, TX0, 4), (RX1, TX1, 7), (RX2, TX2, 3), (RX3, TX3, 6), (RX4, TX4, 5), (RX5, TX5, 11), (RX6, TX6, 4), (RX7, TX7, 8), (RX8, TX8, 7), (RX9, TX9, 11), (RX10, TX10, 47)]
abbrev ztys (t : Nat → ClassId) : List (ClassId × FieldType) := [(t 0, .int), (t 1, .boolean), (t 2, .object RX2), (t 3, .object RX3), (t 4, .object RX7)]
abbrev zA (G : zG) : Nat → Prop := fun q => zga G ≤ q
def zord : Nat → Int32 := fun k => [1, 1, 2, 6, 24, 120, 720].getD k 0
abbrev znl : List (String × Nat × MethodName × String) := [("SwingLeaves", 9, ⟨"SwingLeaves$Reader", "<init>", "()V"⟩, "SwingLeaves"), ("SwingLeaves$Reader", 20, ⟨"SwingLeaves$Plan", "<init>", "()V"⟩, "SwingLeaves"), ("SwingLeaves", 25, ⟨"SwingLeaves$Plan", "<init>", "()V"⟩, "SwingLeaves"), ("SwingLeaves$Evening", 31, ⟨"SwingLeaves$Swing", "<init>", "()V"⟩, "SwingLeaves"), ("SwingLeaves$Evening", 32, ⟨"SwingLeaves$Passage", "<init>", "()V"⟩, "SwingLeaves"), ("SwingLeaves$Trials", 11, ⟨"SwingLeaves$Plan", "<init>", "()V"⟩, "SwingLeaves"), ("SwingLeaves$Trials", 20, ⟨"SwingLeaves$Seating", "<init>", "()V"⟩, "SwingLeaves"), ("SwingLeaves", 72, ⟨"SwingLeaves$Image", "<init>", "()V"⟩, "SwingLeaves"), ("SwingLeaves$Image", 9, ⟨"SwingLeaves$Plan", "<init>", "()V"⟩, "SwingLeaves")]
def zNests (U : State) : Prop := ∀ q ∈ znl, va_Nw (.methodLinkNest q.1 q.2.1 q.2.2.1 q.2.2.2) U
def zOvers (U : State) : Prop := va_AO RX2 U ∧ va_AO RX3 U ∧ va_AO RX7 U
def zEnv (G : zG) (U : State) : Prop :=
  va_K (zgD G) zcl (ztys (zgt G)) U ∧ va_Z RX6 "ORDERS" "[I" (.ref (zgo G)) (zA G) U U.heap ∧ va_T .int (zgo G) 7 (fun j => .int (zord j)) (zA G) U U.heap ∧ va_X (zgb G) (zgL G) (zgx G) U U.heap ∧ zgb G < zga G ∧ zNests U ∧ zOvers U
theorem zEnv.at {G : zG} {s U : State} {H : Heap} {locs : List Loc} (h : zEnv G s) (hS : va_S (zA G) s.heap H locs) (hU : U.heap = H) (hW : s.WarmedH U.vm) : zEnv G U := by
  obtain ⟨h1, h2, h3, h4, h5, h6, h7, h8, h9⟩ := h
  have hk : ∀ a : Nat, a < s.heap.size → ¬ zA G a → U.heap[a]? = s.heap[a]? := fun a ha hn => by rw [hU]; exact hS.2.1 a ha hn
  refine ⟨va_K.moved hW.alike h1, (h2.kept hk).moved hW.alike, (h3.kept hk).moved hW.alike, (h4.kept ?_).moved hW.alike, h5, fun q hq => va_Nw.warmM hW (h6 q hq), h7.moved hW.alike, h8.moved hW.alike, h9.moved hW.alike⟩
  obtain ⟨scr, hc, -⟩ := h4
  exact hk _ (Array.getElem?_eq_some_iff.mp hc).1 (Nat.not_le.mpr h5)
theorem zEnv.blind {G : zG} {U : State} (h : zEnv G U) (g : JFrame) (mk : MethodId) (a : Array Value) : zEnv G (U.calling g mk a) := by
  obtain ⟨h1, h2, h3, h4, h5, h6, h7, h8, h9⟩ := h
  have e : U.vm.Alike (U.calling g mk a).vm := Vm.Alike.refl U.vm
  exact ⟨va_K.moved e h1, va_Z.moved (H := U.heap) e h2, va_T.moved (H := U.heap) e h3, va_X.moved (H := U.heap) e h4, h5, fun q hq => va_Nw.same rfl (u := U) rfl (h6 q hq), h7.moved e, h8.moved e, h9.moved e⟩
abbrev zC : Type := (Nat × Nat × ((Nat → Int32) ⊕ (Nat → Option Nat))) ⊕ (Nat × List Value)
def zv (G : zG) : Value → Value
  | .ref k => .ref (zga G + k)
  | .retAddr k => if k = 0 then .ref (zgo G) else .ref (zgb G)
  | .int x => .int x
  | .long x => .long x
  | .null => .null
  | .float x => .float x
  | .double x => .double x
theorem zv_cat (G : zG) (v : Value) : (zv G v).category = v.category := by
  cases v <;> try rfl
  case retAddr k => by_cases h : k = 0 <;> simp [zv, h, Value.category]
def zc (G : zG) : zC → va_E
  | .inl (t, n, .inl f) => .inl (zgt G t, n, .inl f)
  | .inl (t, n, .inr f) => .inl (zgt G t, n, .inr (.inr (.inr (.inr (fun j => (f j).map (fun k => zga G + k))))))
  | .inr (ci, fs) => .inr (ci, fs.map (zv G))
def zwf (G : zG) : Nat → List zC → va_W
  | _, [] => []
  | k, e :: w => (zga G + k, zc G e) :: zwf G (k + 1) w
theorem zw_get (G : zG) : ∀ (w : List zC) (k0 k : Nat), (zwf G k0 w)[k]? = (w[k]?).map (fun e => (zga G + (k0 + k), zc G e))
  | [], _, _ => by simp [zwf]
  | e :: w, k0, 0 => by simp [zwf]
  | e :: w, k0, k + 1 => by
    rw [zwf, List.getElem?_cons_succ, List.getElem?_cons_succ, zw_get G w (k0 + 1) k]
    rw [show k0 + 1 + k = k0 + (k + 1) by omega]
theorem zw_at {G : zG} {w : List zC} {k : Nat} {e : zC} (h : w[k]? = some e) : (zwf G 0 w)[k]? = some (zga G + k, zc G e) := by
  rw [zw_get, h, Option.map_some, Nat.zero_add]
theorem zw_set (G : zG) (e : zC) : ∀ (w : List zC) (k0 k : Nat), zwf G k0 (w.set k e) = (zwf G k0 w).set k (zga G + (k0 + k), zc G e)
  | [], _, _ => rfl
  | x :: w, k0, 0 => rfl
  | x :: w, k0, k + 1 => by
    rw [List.set_cons_succ, zwf, zwf, List.set_cons_succ, zw_set G e w (k0 + 1) k]
    rw [show k0 + 1 + k = k0 + (k + 1) by omega]
theorem zw_put {G : zG} {e : zC} {w : List zC} {k : Nat} : zwf G 0 (w.set k e) = (zwf G 0 w).set k (zga G + k, zc G e) := by
  rw [zw_set, Nat.zero_add]
theorem zw_push (G : zG) (e : zC) : ∀ (w : List zC) (k0 : Nat), zwf G k0 (w ++ [e]) = zwf G k0 w ++ [(zga G + (k0 + w.length), zc G e)]
  | [], k0 => rfl
  | x :: w, k0 => by
    rw [List.cons_append, zwf, zwf, zw_push G e w (k0 + 1), List.cons_append, List.length_cons]
    rw [show k0 + 1 + w.length = k0 + (w.length + 1) by omega]
theorem zw_new {G : zG} {e : zC} {w : List zC} : zwf G 0 (w ++ [e]) = zwf G 0 w ++ [(zga G + w.length, zc G e)] := by
  rw [zw_push, Nat.zero_add]
theorem zw_D (G : zG) (w : List zC) : va_D (zA G) (zwf G 0 w) := by
  refine ⟨fun i j p q hi hj hpq => ?_, fun k q hk => ?_⟩
  · rw [zw_get] at hi hj
    cases h1 : w[i]? with
    | none => rw [h1] at hi; cases hi
    | some a =>
      cases h2 : w[j]? with
      | none => rw [h2] at hj; cases hj
      | some b =>
        rw [h1] at hi; rw [h2] at hj
        cases hi; cases hj
        dsimp only at hpq
        omega
  · rw [zw_get] at hk
    cases h1 : w[k]? with
    | none => rw [h1] at hk; cases hk
    | some a =>
      rw [h1] at hk
      cases hk
      exact Nat.le_add_right _ _
def zH (G : zG) (w : List zC) (H0 H : Heap) (locs : List Loc) : Prop := H.size = zga G + w.length ∧ va_P (zgD G) zcl (zwf G 0 w) H ∧ va_S (zA G) H0 H locs
def zCtx (G : zG) (M : zM) (p : Program) (s : State) (m : MethodId) (args : Array Value) (meth : Method) (c : Code) : Prop :=
  p.tables.exec = Jvm.exec ∧ c.code = zcc M ∧ c.maxLocals = znL M ∧ s.vm.findClass (zy M).cls = some m.cls ∧ (∀ w ∈ zws M, w.before args s = true) ∧ zEnv G s ∧ meth.name = (zy M).name ∧ zga G ≤ s.heap.size
def zRet (l : Launch) (G : zG) (M : zM) (K : Int32 → List zC → Prop) (p : Program) (e : Env) (s : State) (m : MethodId) (args : Array Value) (below : List Frame) (meth : Method) (c : Code) (Q : State → Prop) : Prop :=
  ∀ (H : Heap) (locs : List Loc) (cells slots : Nat) (w : List zC) (pc : Nat) (ls : Array Slot), zH G w s.heap H locs → cells ≤ (zrm M).cells → slots ≤ (zrm M).slots →
    (∀ (v : Int32) (ty : FieldType), K v w → zrt M = some ty → narrow ty (.int v) = .int v → decode (zcc M) pc = .ok (.ireturn, 1) → W p l e (zrm M) s m args below meth c H locs cells slots Q (F0 m pc ls [.int v])) ∧
    (K 0 w → zrt M = none → decode (zcc M) pc = .ok (.return_, 1) → W p l e (zrm M) s m args below meth c H locs cells slots Q (F0 m pc ls []))
def zlv (G : zG) (lv : List (Nat × Value)) : List (Nat × Value) := lv.map (fun q => (q.1, zv G q.2))
def AW (l : Launch) (G : zG) (M : zM) (pc : Nat) (lv : List (Nat × Value)) (st : List Value) (w : List zC) (cs ss : Nat) (K : Int32 → List zC → Prop) : Prop :=
  ∀ (p : Program) (e : Env) (s : State) (m : MethodId) (args : Array Value) (below : List Frame) (meth : Method) (c : Code) (H : Heap) (locs : List Loc) (ls : Array Slot) (Q : State → Prop),
    zCtx G M p s m args meth c → zRet l G M K p e s m args below meth c Q → zH G w s.heap H locs → lv_has ls (znL M) (zlv G lv) →
      W p l e (zrm M) s m args below meth c H locs cs ss Q (F0 m pc ls (st.map (zv G)))
def zl : List (Nat × Value) → Nat → Option Value
  | [], _ => none
  | q :: lv, i => if q.1 = i then some q.2 else zl lv i
theorem zl_mem {i : Nat} {v : Value} : ∀ {lv : List (Nat × Value)}, zl lv i = some v → (i, v) ∈ lv
  | [], h => by cases h
  | q :: lv, h => by
    unfold zl at h
    split at h
    next he => cases h; subst he; exact List.mem_cons_self
    next he => exact List.mem_cons_of_mem _ (zl_mem h)
theorem zl_at {G : zG} {lv : List (Nat × Value)} {ls : Array Slot} {n i : Nat} {v : Value} (h : lv_has ls n (zlv G lv)) (hv : zl lv i = some v) : ls[i]? = some (.val (zv G v)) :=
  h.2.2 (i, zv G v) (List.mem_map.mpr ⟨(i, v), zl_mem hv, rfl⟩)
def zs1 (lv : List (Nat × Value)) (i : Nat) (v : Value) : List (Nat × Value) := (i, v) :: lv.filter (fun q => !(q.1 == i) && !(q.1 + 1 == i && q.2.category == 2))
def zs2 (lv : List (Nat × Value)) (i : Nat) (v : Value) : List (Nat × Value) := (i, v) :: lv.filter (fun q => !(q.1 == i) && (!(q.1 == i + 1) && !(q.1 + 1 == i && q.2.category == 2)))
theorem zlv_s1 (G : zG) (lv : List (Nat × Value)) (i : Nat) (v : Value) : (i, zv G v) :: (zlv G lv).filter (fun q => !(q.1 == i) && !(q.1 + 1 == i && q.2.category == 2)) = zlv G (zs1 lv i v) := by
  unfold zlv zs1
  rw [List.map_cons, List.filter_map]
  congr 2
  apply List.filter_congr
  intro q _
  simp [Function.comp, zv_cat]
theorem zlv_s2 (G : zG) (lv : List (Nat × Value)) (i : Nat) (v : Value) : (i, zv G v) :: (zlv G lv).filter (fun q => !(q.1 == i) && (!(q.1 == i + 1) && !(q.1 + 1 == i && q.2.category == 2))) = zlv G (zs2 lv i v) := by
  unfold zlv zs2
  rw [List.map_cons, List.filter_map]
  congr 2
  apply List.filter_congr
  intro q _
  simp [Function.comp, zv_cat]
theorem zlv_args (G : zG) : ∀ (vs : List Value) (i : Nat), lv_args i (vs.map (zv G)) = zlv G (lv_args i vs)
  | [], _ => rfl
  | v :: vs, i => by
    rw [List.map_cons, lv_args, lv_args, zv_cat, zlv_args G vs]
    rfl
theorem lg_sl_zv (G : zG) : ∀ (vs : List Value), (lg_sl (vs.map (zv G))).length = (lg_sl vs).length
  | [] => rfl
  | v :: vs => by
    have ih := lg_sl_zv G vs
    unfold lg_sl at ih ⊢
    rw [List.map_cons, List.flatMap_cons, List.flatMap_cons, List.length_append, List.length_append, ih, zv_cat]
    by_cases h : v.category = 2 <;> simp [h]
theorem zcat_sum (G : zG) : ∀ (st : List Value), ((st.map (zv G)).map fun v => v.category).sum = (st.map fun v => v.category).sum
  | [] => rfl
  | v :: st => by
    have ih := zcat_sum G st
    simp only [List.map_cons, List.sum_cons, zv_cat, ih]
def zB (G : zG) (w : List zC) (t : State) : Prop := t.heap.size = zga G + w.length ∧ va_P (zgD G) zcl (zwf G 0 w) t.heap
def zPre (G : zG) (w : List zC) (U : State) : Prop := zEnv G U ∧ zB G w U
def zQ (G : zG) (rt : Option FieldType) (K : Int32 → List zC → Prop) : Array Value → State → Outcome → State → Prop := match rt with
  | none => va_Qv (K 0) (zB G) (zA G)
  | some _ => va_Qi K (zB G) (zA G)
/-- a method called with these values over these cells comes back with K of its answer and the cells -/
def Con (l : Launch) (G : zG) (M : zM) (As : List Value) (w : List zC) (K : Int32 → List zC → Prop) : Prop :=
  Met l (zy M) (zws M) (zrm M) (va_Pc (As.map (zv G)) (zPre G w)) (zQ G (zrt M) K) (zrm M).cells (zrm M).slots (zA G)
theorem zPre.blind {G : zG} {w : List zC} {As : List Value} : FrameBlind (va_Pc As (zPre G w)) := fun a U g mk h => ⟨h.1, h.2.1.blind g mk a, h.2.2⟩
theorem Con.of {l : Launch} {G : zG} {M : zM} {As : List Value} {w : List zC} {K : Int32 → List zC → Prop} (hy : plainName (zy M).cls = true) (hn : (lg_sl As).length ≤ znL M)
    (k : AW l G M 0 (lv_args 0 As) [] w 0 0 K) : Con l G M As w K := by
  refine Met.ofW (cc := zcc M) (maxL := znL M) (ret := zrt M) hy rfl ?_
  intro p e s m args below meth c s₁ B hml hv
  obtain ⟨rfl, hE, hsz, hP⟩ := hv
  have hlocks := B.notSynchronized
  have hret := B.returns
  have hl := lv_entry (As.map (zv G)) (n := znL M) (by rw [lg_sl_zv]; exact hn)
  rw [lg_entry_eq]
  rw [zlv_args] at hl
  refine k p e s m _ below meth c s.heap [] _ _ ⟨B.exec, B.bytes, hml, findClass_of_methodNamed B.named, atoms_spec (ws := zws M) B.pre, hE, (name_of_methodNamed B.named B.method).1, by rw [hsz]; exact Nat.le_add_right _ _⟩ ?_ ⟨hsz, hP, va_S.rf⟩ hl
  intro H locs cells slots w' pc ls hH hc hs
  refine ⟨fun v ty hK hty hn hd => ?_, fun hK hty hd => ?_⟩
  · refine W.widen hc hs ?_
    refine W.zret B.exec B.bytes (hret.trans hty) hn (fun t ht hW => ?_) hH.2.2.2.2 hd
    rw [hty]
    exact ⟨⟨v, w', rfl, hK, by rw [ht]; exact hH.1, by rw [ht]; exact hH.2.1⟩, hH.2.2.F ht⟩
  · refine W.widen hc hs ?_
    refine W.vret B.exec B.bytes (hret.trans hty) (fun t ht hW => ?_) hH.2.2.2.2 hd
    rw [hty]
    exact ⟨⟨w', rfl, hK, by rw [ht]; exact hH.1, by rw [ht]; exact hH.2.1⟩, hH.2.2.F ht⟩
section ZR
variable {l : Launch} {G : zG} {M : zM} {pc : Nat} {lv : List (Nat × Value)} {st : List Value} {w : List zC} {cs ss : Nat} {K : Int32 → List zC → Prop}
theorem z_iconst {n : Int} {v : Int32} (hd : decode (zcc M) pc = .ok (.iconst n, 1)) (hv : Int32.ofInt n = v) (kk : AW l G M (pc + 1) lv (.int v :: st) w cs ss K) : AW l G M pc lv st w cs ss K := by
  intro p e s m args below meth c H locs ls Q C R hH hl
  exact lv_iconst C.1 C.2.1 hd hv (kk p e s m args below meth c H locs ls Q C R hH hl)
theorem z_bipush {n : Int} {v : Int32} (hd : decode (zcc M) pc = .ok (.bipush n, 2)) (hv : (Int8.ofInt n).toInt32 = v) (kk : AW l G M (pc + 2) lv (.int v :: st) w cs ss K) : AW l G M pc lv st w cs ss K := by
  intro p e s m args below meth c H locs ls Q C R hH hl
  exact lv_bipush C.1 C.2.1 hd hv (kk p e s m args below meth c H locs ls Q C R hH hl)
theorem z_sipush {n : Int} {v : Int32} (hd : decode (zcc M) pc = .ok (.sipush n, 3)) (hv : (Int16.ofInt n).toInt32 = v) (kk : AW l G M (pc + 3) lv (.int v :: st) w cs ss K) : AW l G M pc lv st w cs ss K := by
  intro p e s m args below meth c H locs ls Q C R hH hl
  exact lv_sipush C.1 C.2.1 hd hv (kk p e s m args below meth c H locs ls Q C R hH hl)
theorem z_lconst {n : Fin 2} {v : Int64} (hd : decode (zcc M) pc = .ok (.lconst n, 1)) (hv : Int64.ofNat (n : Nat) = v) (kk : AW l G M (pc + 1) lv (.long v :: st) w cs ss K) : AW l G M pc lv st w cs ss K := by
  intro p e s m args below meth c H locs ls Q C R hH hl
  exact lv_lconst C.1 C.2.1 hd hv (kk p e s m args below meth c H locs ls Q C R hH hl)
theorem z_ldc {i : Nat} {v : Int32} (hd : decode (zcc M) pc = .ok (.ldc i, 2)) (hc : Cond.constant (zy M).cls i v ∈ zT) (kk : AW l G M (pc + 2) lv (.int v :: st) w cs ss K) : AW l G M pc lv st w cs ss K := by
  intro p e s m args below meth c H locs ls Q C R hH hl
  exact lv_ldc C.1 C.2.1 C.2.2.2.1 (C.2.2.2.2.1 _ (List.mem_cons_of_mem _ hc)) hd (kk p e s m args below meth c H locs ls Q C R hH hl)
theorem z_ldc2 {i : Nat} {v : Int64} (hd : decode (zcc M) pc = .ok (.ldc2_w i, 3)) (hc : Cond.constantLong (zy M).cls i v ∈ zT) (kk : AW l G M (pc + 3) lv (.long v :: st) w cs ss K) : AW l G M pc lv st w cs ss K := by
  intro p e s m args below meth c H locs ls Q C R hH hl
  exact lv_ldc2 C.1 C.2.1 C.2.2.2.1 (C.2.2.2.2.1 _ (List.mem_cons_of_mem _ hc)) hd (kk p e s m args below meth c H locs ls Q C R hH hl)
theorem z_iload_n {k : Fin 4} {x : Int32} (hd : decode (zcc M) pc = .ok (.iload_n k, 1)) (hv : zl lv k = some (.int x)) (kk : AW l G M (pc + 1) lv (.int x :: st) w cs ss K) : AW l G M pc lv st w cs ss K := by
  intro p e s m args below meth c H locs ls Q C R hH hl
  exact lv_iload_n C.1 C.2.1 hd rfl (zl_at hl hv) (kk p e s m args below meth c H locs ls Q C R hH hl)
theorem z_iload {i : Nat} {x : Int32} (hd : decode (zcc M) pc = .ok (.iload i, 2)) (hv : zl lv i = some (.int x)) (kk : AW l G M (pc + 2) lv (.int x :: st) w cs ss K) : AW l G M pc lv st w cs ss K := by
  intro p e s m args below meth c H locs ls Q C R hH hl
  exact lv_iload C.1 C.2.1 hd (zl_at hl hv) (kk p e s m args below meth c H locs ls Q C R hH hl)
theorem z_lload_n {k : Fin 4} {x : Int64} (hd : decode (zcc M) pc = .ok (.lload_n k, 1)) (hv : zl lv k = some (.long x)) (kk : AW l G M (pc + 1) lv (.long x :: st) w cs ss K) : AW l G M pc lv st w cs ss K := by
  intro p e s m args below meth c H locs ls Q C R hH hl
  exact lv_lload_n C.1 C.2.1 hd rfl (zl_at hl hv) (kk p e s m args below meth c H locs ls Q C R hH hl)
theorem z_lload {i : Nat} {x : Int64} (hd : decode (zcc M) pc = .ok (.lload i, 2)) (hv : zl lv i = some (.long x)) (kk : AW l G M (pc + 2) lv (.long x :: st) w cs ss K) : AW l G M pc lv st w cs ss K := by
  intro p e s m args below meth c H locs ls Q C R hH hl
  exact lv_lload C.1 C.2.1 hd (zl_at hl hv) (kk p e s m args below meth c H locs ls Q C R hH hl)
theorem z_aload_n {k : Fin 4} {x : Nat} (hd : decode (zcc M) pc = .ok (.aload_n k, 1)) (hv : zl lv k = some (.ref x)) (kk : AW l G M (pc + 1) lv (.ref x :: st) w cs ss K) : AW l G M pc lv st w cs ss K := by
  intro p e s m args below meth c H locs ls Q C R hH hl
  exact lv_aload_n C.1 C.2.1 hd rfl (zl_at hl hv) (kk p e s m args below meth c H locs ls Q C R hH hl)
theorem z_aload {i : Nat} {x : Nat} (hd : decode (zcc M) pc = .ok (.aload i, 2)) (hv : zl lv i = some (.ref x)) (kk : AW l G M (pc + 2) lv (.ref x :: st) w cs ss K) : AW l G M pc lv st w cs ss K := by
  intro p e s m args below meth c H locs ls Q C R hH hl
  exact lv_aload C.1 C.2.1 hd (zl_at hl hv) (kk p e s m args below meth c H locs ls Q C R hH hl)
theorem z_aloadX {k : Fin 4} (hd : decode (zcc M) pc = .ok (.aload_n k, 1)) (hv : zl lv k = some (.retAddr 1)) (kk : AW l G M (pc + 1) lv (.retAddr 1 :: st) w cs ss K) : AW l G M pc lv st w cs ss K := by
  intro p e s m args below meth c H locs ls Q C R hH hl
  exact lv_aload_n (x := zgb G) C.1 C.2.1 hd rfl (zl_at hl hv) (kk p e s m args below meth c H locs ls Q C R hH hl)
theorem z_istore_n {k : Fin 4} {i : Nat} {x : Int32} (lv' : Int32 → List (Nat × Value)) (hd : decode (zcc M) pc = .ok (.istore_n k, 1)) (hk : (k : Nat) = i) (hi : Nat.blt i (znL M) = true) (hs : ∀ y : Int32, zs1 lv i (.int y) = lv' y) (kk : ∀ y : Int32, y = x → AW l G M (pc + 1) (lv' y) st w cs ss K) : AW l G M pc lv (.int x :: st) w cs ss K := by
  intro p e s m args below meth c H locs ls Q C R hH hl
  have hs := hs x
  have kk := kk x rfl
  rw [← hs] at kk
  exact lv_istore_n C.1 C.2.1 hd hk hl (Nat.blt_eq.mp hi) (zlv_s1 G lv i (.int x)) (fun ls9 h9 => kk p e s m args below meth c H locs ls9 Q C R hH h9)
theorem z_istore {i : Nat} {x : Int32} (lv' : Int32 → List (Nat × Value)) (hd : decode (zcc M) pc = .ok (.istore i, 2)) (hi : Nat.blt i (znL M) = true) (hs : ∀ y : Int32, zs1 lv i (.int y) = lv' y) (kk : ∀ y : Int32, y = x → AW l G M (pc + 2) (lv' y) st w cs ss K) : AW l G M pc lv (.int x :: st) w cs ss K := by
  intro p e s m args below meth c H locs ls Q C R hH hl
  have hs := hs x
  have kk := kk x rfl
  rw [← hs] at kk
  exact lv_istore C.1 C.2.1 hd hl (Nat.blt_eq.mp hi) (zlv_s1 G lv i (.int x)) (fun ls9 h9 => kk p e s m args below meth c H locs ls9 Q C R hH h9)
theorem z_lstore_n {k : Fin 4} {i : Nat} {x : Int64} (lv' : Int64 → List (Nat × Value)) (hd : decode (zcc M) pc = .ok (.lstore_n k, 1)) (hk : (k : Nat) = i) (hi : Nat.blt (i + 1) (znL M) = true) (hs : ∀ y : Int64, zs2 lv i (.long y) = lv' y) (kk : ∀ y : Int64, y = x → AW l G M (pc + 1) (lv' y) st w cs ss K) : AW l G M pc lv (.long x :: st) w cs ss K := by
  intro p e s m args below meth c H locs ls Q C R hH hl
  have hs := hs x
  have kk := kk x rfl
  rw [← hs] at kk
  exact lv_lstore_n C.1 C.2.1 hd hk hl (Nat.blt_eq.mp hi) (zlv_s2 G lv i (.long x)) (fun ls9 h9 => kk p e s m args below meth c H locs ls9 Q C R hH h9)
theorem z_lstore {i : Nat} {x : Int64} (lv' : Int64 → List (Nat × Value)) (hd : decode (zcc M) pc = .ok (.lstore i, 2)) (hi : Nat.blt (i + 1) (znL M) = true) (hs : ∀ y : Int64, zs2 lv i (.long y) = lv' y) (kk : ∀ y : Int64, y = x → AW l G M (pc + 2) (lv' y) st w cs ss K) : AW l G M pc lv (.long x :: st) w cs ss K := by
  intro p e s m args below meth c H locs ls Q C R hH hl
  have hs := hs x
  have kk := kk x rfl
  rw [← hs] at kk
  exact lv_lstore C.1 C.2.1 hd hl (Nat.blt_eq.mp hi) (zlv_s2 G lv i (.long x)) (fun ls9 h9 => kk p e s m args below meth c H locs ls9 Q C R hH h9)
theorem z_astore_n {k : Fin 4} {i x : Nat} {lv' : List (Nat × Value)} (hd : decode (zcc M) pc = .ok (.astore_n k, 1)) (hk : (k : Nat) = i) (hi : Nat.blt i (znL M) = true) (hs : zs1 lv i (.ref x) = lv') (kk : AW l G M (pc + 1) lv' st w cs ss K) : AW l G M pc lv (.ref x :: st) w cs ss K := by
  intro p e s m args below meth c H locs ls Q C R hH hl
  subst hs
  exact lv_astore_n C.1 C.2.1 hd hk hl (Nat.blt_eq.mp hi) (zlv_s1 G lv i (.ref x)) (fun ls9 h9 => kk p e s m args below meth c H locs ls9 Q C R hH h9)
theorem z_astore {i x : Nat} {lv' : List (Nat × Value)} (hd : decode (zcc M) pc = .ok (.astore i, 2)) (hi : Nat.blt i (znL M) = true) (hs : zs1 lv i (.ref x) = lv') (kk : AW l G M (pc + 2) lv' st w cs ss K) : AW l G M pc lv (.ref x :: st) w cs ss K := by
  intro p e s m args below meth c H locs ls Q C R hH hl
  subst hs
  exact lv_astore C.1 C.2.1 hd hl (Nat.blt_eq.mp hi) (zlv_s1 G lv i (.ref x)) (fun ls9 h9 => kk p e s m args below meth c H locs ls9 Q C R hH h9)
theorem z_iinc {i : Nat} {n : Int} {x : Int32} (lv' : Int32 → List (Nat × Value)) (hd : decode (zcc M) pc = .ok (.iinc i n, 3)) (hv : zl lv i = some (.int x)) (hi : Nat.blt i (znL M) = true) (hs : ∀ y : Int32, zs1 lv i (.int y) = lv' y) (kk : ∀ y : Int32, y = x + Int32.ofInt n → AW l G M (pc + 3) (lv' y) st w cs ss K) : AW l G M pc lv st w cs ss K := by
  intro p e s m args below meth c H locs ls Q C R hH hl
  have hs := hs (x + Int32.ofInt n)
  have kk := kk _ rfl
  rw [← hs] at kk
  obtain ⟨j, hj⟩ := List.getElem?_of_mem (List.mem_map.mpr ⟨(i, Value.int x), zl_mem hv, rfl⟩ : (i, zv G (Value.int x)) ∈ zlv G lv)
  exact lv_iinc (k := j) C.1 C.2.1 hd hl hj rfl (Nat.blt_eq.mp hi) (zlv_s1 G lv i (.int (x + Int32.ofInt n))) (fun ls9 h9 => kk p e s m args below meth c H locs ls9 Q C R hH h9)
theorem z_iadd {x y : Int32} (hd : decode (zcc M) pc = .ok (.iadd, 1)) (kk : AW l G M (pc + 1) lv (.int (x + y) :: st) w cs ss K) : AW l G M pc lv (.int y :: .int x :: st) w cs ss K := by
  intro p e s m args below meth c H locs ls Q C R hH hl
  exact lv_iadd C.1 C.2.1 hd (kk p e s m args below meth c H locs ls Q C R hH hl)
theorem z_isub {x y : Int32} (hd : decode (zcc M) pc = .ok (.isub, 1)) (kk : AW l G M (pc + 1) lv (.int (x - y) :: st) w cs ss K) : AW l G M pc lv (.int y :: .int x :: st) w cs ss K := by
  intro p e s m args below meth c H locs ls Q C R hH hl
  exact lv_isub C.1 C.2.1 hd (kk p e s m args below meth c H locs ls Q C R hH hl)
theorem z_imul {x y : Int32} (hd : decode (zcc M) pc = .ok (.imul, 1)) (kk : AW l G M (pc + 1) lv (.int (x * y) :: st) w cs ss K) : AW l G M pc lv (.int y :: .int x :: st) w cs ss K := by
  intro p e s m args below meth c H locs ls Q C R hH hl
  exact lv_imul C.1 C.2.1 hd (kk p e s m args below meth c H locs ls Q C R hH hl)
theorem z_iand {x y : Int32} (hd : decode (zcc M) pc = .ok (.iand, 1)) (kk : AW l G M (pc + 1) lv (.int (x &&& y) :: st) w cs ss K) : AW l G M pc lv (.int y :: .int x :: st) w cs ss K := by
  intro p e s m args below meth c H locs ls Q C R hH hl
  exact lv_iand C.1 C.2.1 hd (kk p e s m args below meth c H locs ls Q C R hH hl)
theorem z_ior {x y : Int32} (hd : decode (zcc M) pc = .ok (.ior, 1)) (kk : AW l G M (pc + 1) lv (.int (x ||| y) :: st) w cs ss K) : AW l G M pc lv (.int y :: .int x :: st) w cs ss K := by
  intro p e s m args below meth c H locs ls Q C R hH hl
  exact lv_ior C.1 C.2.1 hd (kk p e s m args below meth c H locs ls Q C R hH hl)
theorem z_ishl {x y : Int32} (hd : decode (zcc M) pc = .ok (.ishl, 1)) (kk : AW l G M (pc + 1) lv (.int (x <<< (y &&& 31)) :: st) w cs ss K) : AW l G M pc lv (.int y :: .int x :: st) w cs ss K := by
  intro p e s m args below meth c H locs ls Q C R hH hl
  exact lv_ishl C.1 C.2.1 hd (kk p e s m args below meth c H locs ls Q C R hH hl)
theorem z_ishr {x y : Int32} (hd : decode (zcc M) pc = .ok (.ishr, 1)) (kk : AW l G M (pc + 1) lv (.int (x >>> (y &&& 31)) :: st) w cs ss K) : AW l G M pc lv (.int y :: .int x :: st) w cs ss K := by
  intro p e s m args below meth c H locs ls Q C R hH hl
  exact lv_ishr C.1 C.2.1 hd (kk p e s m args below meth c H locs ls Q C R hH hl)
theorem z_idiv {x y : Int32} (hd : decode (zcc M) pc = .ok (.idiv, 1)) (hne : ¬ y = 0) (kk : AW l G M (pc + 1) lv (.int (x / y) :: st) w cs ss K) : AW l G M pc lv (.int y :: .int x :: st) w cs ss K := by
  intro p e s m args below meth c H locs ls Q C R hH hl
  exact lv_idiv C.1 C.2.1 hd hne (kk p e s m args below meth c H locs ls Q C R hH hl)
theorem z_irem {x y : Int32} (hd : decode (zcc M) pc = .ok (.irem, 1)) (hne : ¬ y = 0) (kk : AW l G M (pc + 1) lv (.int (x - x / y * y) :: st) w cs ss K) : AW l G M pc lv (.int y :: .int x :: st) w cs ss K := by
  intro p e s m args below meth c H locs ls Q C R hH hl
  exact lv_irem C.1 C.2.1 hd hne (kk p e s m args below meth c H locs ls Q C R hH hl)
theorem z_ladd {x y : Int64} (hd : decode (zcc M) pc = .ok (.ladd, 1)) (kk : AW l G M (pc + 1) lv (.long (x + y) :: st) w cs ss K) : AW l G M pc lv (.long y :: .long x :: st) w cs ss K := by
  intro p e s m args below meth c H locs ls Q C R hH hl
  exact lv_ladd C.1 C.2.1 hd (kk p e s m args below meth c H locs ls Q C R hH hl)
theorem z_lmul {x y : Int64} (hd : decode (zcc M) pc = .ok (.lmul, 1)) (kk : AW l G M (pc + 1) lv (.long (x * y) :: st) w cs ss K) : AW l G M pc lv (.long y :: .long x :: st) w cs ss K := by
  intro p e s m args below meth c H locs ls Q C R hH hl
  exact lv_lmul C.1 C.2.1 hd (kk p e s m args below meth c H locs ls Q C R hH hl)
theorem z_ldiv {x y : Int64} (hd : decode (zcc M) pc = .ok (.ldiv, 1)) (hne : ¬ y = 0) (kk : AW l G M (pc + 1) lv (.long (x / y) :: st) w cs ss K) : AW l G M pc lv (.long y :: .long x :: st) w cs ss K := by
  intro p e s m args below meth c H locs ls Q C R hH hl
  exact lv_ldiv C.1 C.2.1 hd hne (kk p e s m args below meth c H locs ls Q C R hH hl)
theorem z_lrem {x y : Int64} (hd : decode (zcc M) pc = .ok (.lrem, 1)) (hne : ¬ y = 0) (kk : AW l G M (pc + 1) lv (.long (x - x / y * y) :: st) w cs ss K) : AW l G M pc lv (.long y :: .long x :: st) w cs ss K := by
  intro p e s m args below meth c H locs ls Q C R hH hl
  exact lv_lrem C.1 C.2.1 hd hne (kk p e s m args below meth c H locs ls Q C R hH hl)
theorem z_lcmp {x y : Int64} (hd : decode (zcc M) pc = .ok (.lcmp, 1)) (kk : AW l G M (pc + 1) lv (.int (lg_cmp x y) :: st) w cs ss K) : AW l G M pc lv (.long y :: .long x :: st) w cs ss K := by
  intro p e s m args below meth c H locs ls Q C R hH hl
  exact W.lcmp C.1 C.2.1 hd (kk p e s m args below meth c H locs ls Q C R hH hl)
theorem z_i2l {x : Int32} (hd : decode (zcc M) pc = .ok (.i2l, 1)) (kk : AW l G M (pc + 1) lv (.long x.toInt64 :: st) w cs ss K) : AW l G M pc lv (.int x :: st) w cs ss K := by
  intro p e s m args below meth c H locs ls Q C R hH hl
  exact lv_i2l C.1 C.2.1 hd rfl (kk p e s m args below meth c H locs ls Q C R hH hl)
theorem z_l2i {x : Int64} (hd : decode (zcc M) pc = .ok (.l2i, 1)) (kk : AW l G M (pc + 1) lv (.int x.toInt32 :: st) w cs ss K) : AW l G M pc lv (.long x :: st) w cs ss K := by
  intro p e s m args below meth c H locs ls Q C R hH hl
  exact lv_l2i C.1 C.2.1 hd rfl (kk p e s m args below meth c H locs ls Q C R hH hl)
theorem z_dup {v : Value} (hd : decode (zcc M) pc = .ok (.dup, 1)) (hv : v.category = 1) (kk : AW l G M (pc + 1) lv (v :: v :: st) w cs ss K) : AW l G M pc lv (v :: st) w cs ss K := by
  intro p e s m args below meth c H locs ls Q C R hH hl
  exact lv_dup C.1 C.2.1 hd (by rw [zv_cat]; exact hv) (kk p e s m args below meth c H locs ls Q C R hH hl)
theorem z_pop {v : Value} (hd : decode (zcc M) pc = .ok (.pop, 1)) (hv : v.category = 1) (kk : AW l G M (pc + 1) lv st w cs ss K) : AW l G M pc lv (v :: st) w cs ss K := by
  intro p e s m args below meth c H locs ls Q C R hH hl
  exact lv_pop C.1 C.2.1 hd (by rw [zv_cat]; exact hv) (kk p e s m args below meth c H locs ls Q C R hH hl)
theorem z_dup2 {v u : Value} (hd : decode (zcc M) pc = .ok (.dup2, 1)) (hv : v.category = 1) (hu : u.category = 1) (kk : AW l G M (pc + 1) lv (v :: u :: v :: u :: st) w cs ss K) : AW l G M pc lv (v :: u :: st) w cs ss K := by
  intro p e s m args below meth c H locs ls Q C R hH hl
  exact lv_dup2_11 C.1 C.2.1 hd (by rw [zv_cat]; exact hv) (by rw [zv_cat]; exact hu) (kk p e s m args below meth c H locs ls Q C R hH hl)
theorem z_goto {off : Int} (tgt : Nat) (hd : decode (zcc M) pc = .ok (.goto off, 3)) (ht : (pc : Int) + off = (tgt : Int)) (kk : AW l G M tgt lv st w cs ss K) : AW l G M pc lv st w cs ss K := by
  intro p e s m args below meth c H locs ls Q C R hH hl
  exact lv_goto C.1 C.2.1 hd ht (kk p e s m args below meth c H locs ls Q C R hH hl)
theorem z_if_eq {off : Int} (tgt : Nat) {x : Int32} (hd : decode (zcc M) pc = .ok (.ifCond .eq off, 3)) (ht : (pc : Int) + off = (tgt : Int)) (kt : x = 0 → AW l G M tgt lv st w cs ss K) (kf : ¬ x = 0 → AW l G M (pc + 3) lv st w cs ss K) : AW l G M pc lv (.int x :: st) w cs ss K := by
  intro p e s m args below meth c H locs ls Q C R hH hl
  exact lv_if_eq C.1 C.2.1 hd ht (fun h => kt h p e s m args below meth c H locs ls Q C R hH hl) (fun h => kf h p e s m args below meth c H locs ls Q C R hH hl)
theorem z_if_ne {off : Int} (tgt : Nat) {x : Int32} (hd : decode (zcc M) pc = .ok (.ifCond .ne off, 3)) (ht : (pc : Int) + off = (tgt : Int)) (kt : ¬ x = 0 → AW l G M tgt lv st w cs ss K) (kf : x = 0 → AW l G M (pc + 3) lv st w cs ss K) : AW l G M pc lv (.int x :: st) w cs ss K := by
  intro p e s m args below meth c H locs ls Q C R hH hl
  exact lv_if_ne C.1 C.2.1 hd ht (fun h => kt h p e s m args below meth c H locs ls Q C R hH hl) (fun h => kf h p e s m args below meth c H locs ls Q C R hH hl)
theorem z_if_lt {off : Int} (tgt : Nat) {x : Int32} (hd : decode (zcc M) pc = .ok (.ifCond .lt off, 3)) (ht : (pc : Int) + off = (tgt : Int)) (kt : x < 0 → AW l G M tgt lv st w cs ss K) (kf : ¬ x < 0 → AW l G M (pc + 3) lv st w cs ss K) : AW l G M pc lv (.int x :: st) w cs ss K := by
  intro p e s m args below meth c H locs ls Q C R hH hl
  exact lv_if_lt C.1 C.2.1 hd ht (fun h => kt h p e s m args below meth c H locs ls Q C R hH hl) (fun h => kf h p e s m args below meth c H locs ls Q C R hH hl)
theorem z_if_ge {off : Int} (tgt : Nat) {x : Int32} (hd : decode (zcc M) pc = .ok (.ifCond .ge off, 3)) (ht : (pc : Int) + off = (tgt : Int)) (kt : 0 ≤ x → AW l G M tgt lv st w cs ss K) (kf : ¬ 0 ≤ x → AW l G M (pc + 3) lv st w cs ss K) : AW l G M pc lv (.int x :: st) w cs ss K := by
  intro p e s m args below meth c H locs ls Q C R hH hl
  exact lv_if_ge C.1 C.2.1 hd ht (fun h => kt h p e s m args below meth c H locs ls Q C R hH hl) (fun h => kf h p e s m args below meth c H locs ls Q C R hH hl)
theorem z_if_gt {off : Int} (tgt : Nat) {x : Int32} (hd : decode (zcc M) pc = .ok (.ifCond .gt off, 3)) (ht : (pc : Int) + off = (tgt : Int)) (kt : 0 < x → AW l G M tgt lv st w cs ss K) (kf : ¬ 0 < x → AW l G M (pc + 3) lv st w cs ss K) : AW l G M pc lv (.int x :: st) w cs ss K := by
  intro p e s m args below meth c H locs ls Q C R hH hl
  exact lv_if_gt C.1 C.2.1 hd ht (fun h => kt h p e s m args below meth c H locs ls Q C R hH hl) (fun h => kf h p e s m args below meth c H locs ls Q C R hH hl)
theorem z_if_le {off : Int} (tgt : Nat) {x : Int32} (hd : decode (zcc M) pc = .ok (.ifCond .le off, 3)) (ht : (pc : Int) + off = (tgt : Int)) (kt : x ≤ 0 → AW l G M tgt lv st w cs ss K) (kf : ¬ x ≤ 0 → AW l G M (pc + 3) lv st w cs ss K) : AW l G M pc lv (.int x :: st) w cs ss K := by
  intro p e s m args below meth c H locs ls Q C R hH hl
  exact lv_if_le C.1 C.2.1 hd ht (fun h => kt h p e s m args below meth c H locs ls Q C R hH hl) (fun h => kf h p e s m args below meth c H locs ls Q C R hH hl)
theorem z_icmp_eq {off : Int} (tgt : Nat) {x y : Int32} (hd : decode (zcc M) pc = .ok (.if_icmp .eq off, 3)) (ht : (pc : Int) + off = (tgt : Int)) (kt : x = y → AW l G M tgt lv st w cs ss K) (kf : ¬ x = y → AW l G M (pc + 3) lv st w cs ss K) : AW l G M pc lv (.int y :: .int x :: st) w cs ss K := by
  intro p e s m args below meth c H locs ls Q C R hH hl
  exact lv_icmp_eq C.1 C.2.1 hd ht (fun h => kt h p e s m args below meth c H locs ls Q C R hH hl) (fun h => kf h p e s m args below meth c H locs ls Q C R hH hl)
theorem z_icmp_ne {off : Int} (tgt : Nat) {x y : Int32} (hd : decode (zcc M) pc = .ok (.if_icmp .ne off, 3)) (ht : (pc : Int) + off = (tgt : Int)) (kt : ¬ x = y → AW l G M tgt lv st w cs ss K) (kf : x = y → AW l G M (pc + 3) lv st w cs ss K) : AW l G M pc lv (.int y :: .int x :: st) w cs ss K := by
  intro p e s m args below meth c H locs ls Q C R hH hl
  exact lv_icmp_ne C.1 C.2.1 hd ht (fun h => kt h p e s m args below meth c H locs ls Q C R hH hl) (fun h => kf h p e s m args below meth c H locs ls Q C R hH hl)
theorem z_icmp_lt {off : Int} (tgt : Nat) {x y : Int32} (hd : decode (zcc M) pc = .ok (.if_icmp .lt off, 3)) (ht : (pc : Int) + off = (tgt : Int)) (kt : x < y → AW l G M tgt lv st w cs ss K) (kf : ¬ x < y → AW l G M (pc + 3) lv st w cs ss K) : AW l G M pc lv (.int y :: .int x :: st) w cs ss K := by
  intro p e s m args below meth c H locs ls Q C R hH hl
  exact lv_icmp_lt C.1 C.2.1 hd ht (fun h => kt h p e s m args below meth c H locs ls Q C R hH hl) (fun h => kf h p e s m args below meth c H locs ls Q C R hH hl)
theorem z_icmp_ge {off : Int} (tgt : Nat) {x y : Int32} (hd : decode (zcc M) pc = .ok (.if_icmp .ge off, 3)) (ht : (pc : Int) + off = (tgt : Int)) (kt : y ≤ x → AW l G M tgt lv st w cs ss K) (kf : ¬ y ≤ x → AW l G M (pc + 3) lv st w cs ss K) : AW l G M pc lv (.int y :: .int x :: st) w cs ss K := by
  intro p e s m args below meth c H locs ls Q C R hH hl
  exact lv_icmp_ge C.1 C.2.1 hd ht (fun h => kt h p e s m args below meth c H locs ls Q C R hH hl) (fun h => kf h p e s m args below meth c H locs ls Q C R hH hl)
theorem z_icmp_gt {off : Int} (tgt : Nat) {x y : Int32} (hd : decode (zcc M) pc = .ok (.if_icmp .gt off, 3)) (ht : (pc : Int) + off = (tgt : Int)) (kt : y < x → AW l G M tgt lv st w cs ss K) (kf : ¬ y < x → AW l G M (pc + 3) lv st w cs ss K) : AW l G M pc lv (.int y :: .int x :: st) w cs ss K := by
  intro p e s m args below meth c H locs ls Q C R hH hl
  exact lv_icmp_gt C.1 C.2.1 hd ht (fun h => kt h p e s m args below meth c H locs ls Q C R hH hl) (fun h => kf h p e s m args below meth c H locs ls Q C R hH hl)
theorem z_icmp_le {off : Int} (tgt : Nat) {x y : Int32} (hd : decode (zcc M) pc = .ok (.if_icmp .le off, 3)) (ht : (pc : Int) + off = (tgt : Int)) (kt : x ≤ y → AW l G M tgt lv st w cs ss K) (kf : ¬ x ≤ y → AW l G M (pc + 3) lv st w cs ss K) : AW l G M pc lv (.int y :: .int x :: st) w cs ss K := by
  intro p e s m args below meth c H locs ls Q C R hH hl
  exact lv_icmp_le C.1 C.2.1 hd ht (fun h => kt h p e s m args below meth c H locs ls Q C R hH hl) (fun h => kf h p e s m args below meth c H locs ls Q C R hH hl)
theorem z_tableIn {dflt lo hi : Int} {offs : Array Int} {len : Nat} {x : Int32} {off : Int} (tgt : Nat) (hd : decode (zcc M) pc = .ok (.tableswitch dflt lo hi offs, len)) (h1 : ¬ x.toInt < lo) (h2 : ¬ hi < x.toInt) (ho : offs[(x.toInt - lo).toNat]? = some off) (ht : (pc : Int) + off = (tgt : Int)) (kk : AW l G M tgt lv st w cs ss K) : AW l G M pc lv (.int x :: st) w cs ss K := by
  intro p e s m args below meth c H locs ls Q C R hH hl
  exact lv_tableIn C.1 C.2.1 hd h1 h2 ho ht (kk p e s m args below meth c H locs ls Q C R hH hl)
theorem z_tableOut {dflt lo hi : Int} {offs : Array Int} {len : Nat} {x : Int32} (tgt : Nat) (hd : decode (zcc M) pc = .ok (.tableswitch dflt lo hi offs, len)) (h : x.toInt < lo ∨ hi < x.toInt) (ht : (pc : Int) + dflt = (tgt : Int)) (kk : AW l G M tgt lv st w cs ss K) : AW l G M pc lv (.int x :: st) w cs ss K := by
  intro p e s m args below meth c H locs ls Q C R hH hl
  exact lv_tableOut C.1 C.2.1 hd h ht (kk p e s m args below meth c H locs ls Q C R hH hl)
theorem z_lookup {dflt : Int} {ps : Array (Int × Int)} {len : Nat} {x : Int32} {off : Int} (tgt : Nat) (hd : decode (zcc M) pc = .ok (.lookupswitch dflt ps, len)) (hp : (ps.toList.zip (ps.toList.drop 1)).all (fun (a, next) => a.1 < next.1) = true) (ho : Op.lookupswitch.offset ps.toList dflt x.toInt = off) (ht : (pc : Int) + off = (tgt : Int)) (kk : AW l G M tgt lv st w cs ss K) : AW l G M pc lv (.int x :: st) w cs ss K := by
  intro p e s m args below meth c H locs ls Q C R hH hl
  exact lv_lookup C.1 C.2.1 hd hp ho ht (kk p e s m args below meth c H locs ls Q C R hH hl)
theorem z_iret {v : Int32} {ty : FieldType} (hd : decode (zcc M) pc = .ok (.ireturn, 1)) (hty : zrt M = some ty) (hn : narrow ty (.int v) = .int v) (hc : Nat.ble cs (zrm M).cells = true) (hs : Nat.ble ss (zrm M).slots = true) (kk : K v w) : AW l G M pc lv [.int v] w cs ss K := by
  intro p e s m args below meth c H locs ls Q C R hH hl
  exact (R H locs cs ss w pc ls hH (Nat.le_of_ble_eq_true hc) (Nat.le_of_ble_eq_true hs)).1 v ty kk hty hn hd
theorem z_ret (hd : decode (zcc M) pc = .ok (.return_, 1)) (hty : zrt M = none) (hc : Nat.ble cs (zrm M).cells = true) (hs : Nat.ble ss (zrm M).slots = true) (kk : K 0 w) : AW l G M pc lv [] w cs ss K := by
  intro p e s m args below meth c H locs ls Q C R hH hl
  exact (R H locs cs ss w pc ls hH (Nat.le_of_ble_eq_true hc) (Nat.le_of_ble_eq_true hs)).2 kk hty hd
end ZR
