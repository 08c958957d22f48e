
def zYN (M' : zM) (n : Nat) : Prop := (zy M').cls ≠ "java/lang/invoke/MethodHandle" ∧ (zy M').cls ≠ "java/lang/invoke/VarHandle" ∧ (parseMethodDescriptor (zy M').desc).map (fun d => d.parameters.length) = some n
def zKV (own : String) (idx : Nat) (M' : zM) (n : Nat) : Prop := Cond.methodLink own idx (zy M') ∈ zT ∧ Cond.instanceMethod (zy M') ∈ zT ∧ Cond.selects (zy M').cls (zy M') (zy M') ∈ zT ∧ Cond.initialized (zy M').cls ∈ zT ∧ Cond.code (zy M') (zcc M') (znL M') (zrt M') ∈ zT ∧ zYN M' n
def zKS (own : String) (idx : Nat) (M' : zM) (n : Nat) : Prop := Cond.methodLink own idx (zy M') ∈ zT ∧ Cond.static (zy M') ∈ zT ∧ Cond.initialized (zy M').cls ∈ zT ∧ Cond.code (zy M') (zcc M') (znL M') (zrt M') ∈ zT ∧ zYN M' n
def zKI (own : String) (idx : Nat) (M' : zM) (n : Nat) : Prop := Cond.methodLink own idx (zy M') ∈ zT ∧ Cond.instanceMethod (zy M') ∈ zT ∧ Cond.initialized (zy M').cls ∈ zT ∧ Cond.code (zy M') (zcc M') (znL M') (zrt M') ∈ zT ∧ zYN M' n ∧ (zy M').name = "<init>" ∧ zrt M' = none
def zKN (own : String) (idx : Nat) (M' : zM) (n : Nat) : Prop := (∃ host, (own, idx, zy M', host) ∈ znl) ∧ Cond.instanceMethod (zy M') ∈ zT ∧ Cond.initialized (zy M').cls ∈ zT ∧ Cond.code (zy M') (zcc M') (znL M') (zrt M') ∈ zT ∧ zYN M' n ∧ (zy M').name = "<init>" ∧ zrt M' = none
def zR (M M' : zM) : Prop := Nat.ble ((zrm M').frames + 1) (zrm M).frames = true ∧ Nat.ble (8 + (znL M' + 11) + (zrm M').locals) (zrm M).locals = true
theorem z_good {M M' : zM} (hc : Cond.code (zy M') (zcc M') (znL M') (zrt M') ∈ zT) : GoodIn (zws M) (zws M') := by
  intro x hx
  have h : x ∈ zT := by
    rcases List.mem_cons.mp hx with rfl | h
    · exact hc
    · exact h
  exact ⟨List.mem_cons_of_mem _ h, zT_good h⟩
section ZCL
variable {l : Launch} {G : zG} {M : zM} {pc : Nat} {lv : List (Nat × Value)} {st st0 : List Value} {w : List zC} {cs ss : Nat} {K K' : Int32 → List zC → Prop} {M' : zM} {As : List Value} {idx n b ci : Nat} {fs : List Value}
theorem z_stk (hst : st0 = As.reverse ++ .ref b :: st) : st0.map (zv G) = (As.map (zv G)).reverse ++ .ref (zga G + b) :: st.map (zv G) := by
  rw [hst, List.map_append, List.map_reverse]; rfl
theorem z_callV0 {p : Program} {e : Env} {s : State} {m : MethodId} {args : Array Value} {below : List Frame} {meth : Method} {c : Code} {H : Heap} {locs : List Loc} {ls : Array Slot}
    (C : zCtx G M p s m args meth c) (hH : zH G w s.heap H locs) (hl : lv_has ls (znL M) (zlv G lv)) (hd : decode (zcc M) pc = .ok (.invokevirtual idx, 3)) (hk : zKV (zy M).cls idx M' n) (hR : zR M M') (hn : As.length = n) (hb : w[b]? = some (.inr (ci, fs))) (hci : zcl[ci]?.map (fun q => q.1) = some (zy M').cls) (h8 : Nat.ble (st.map fun v => v.category).sum 8 = true) (hcs : Nat.ble (cs + (zrm M').cells) (zrm M).cells = true) (hss : Nat.ble (ss + (zrm M').slots) (zrm M).slots = true)
    (hC : Con l G M' (.ref b :: As) w K') (hst : st0 = As.reverse ++ .ref b :: st) :
    va_Run p l e (zrm M) s m args below meth c H locs cs ss (zrm M').cells (zrm M').slots (F0 m pc ls (st0.map (zv G))) (st.map (zv G)) (zQ G (zrt M') K' ((Value.ref b :: As).map (zv G)).toArray) (zA G) := by
  obtain ⟨k1, k2, k3, k4, k5, k6⟩ := hk
  have hts := C.2.2.2.2.1
  have up : ∀ x, x ∈ zT → x.before args s = true := fun x hx => hts x (List.mem_cons_of_mem _ hx)
  obtain ⟨q, hq, hqc⟩ := Option.map_eq_some_iff.mp hci
  obtain ⟨cellB, r1, r2, r3⟩ := va_recv C.2.2.2.2.2.1.1 hH.2.1 hq (zw_at hb)
  exact va_runV (l := l) (Ts := zws M) (C := (zy M').cls) (b := zga G + b) (As := As.map (zv G)) (rest := st.map (zv G)) ⟨C.1, C.2.1, C.2.2.1, C.2.2.2.1, hts⟩ hC
    ⟨callB_of n hts (z_good k5) rfl rfl rfl (up _ k4) (up _ k1) k6 ⟨Nat.le_of_ble_eq_true hR.1, Nat.le_of_ble_eq_true hR.2⟩, up _ k2, up _ k3⟩
    ⟨zPre.blind, ⟨cellB, r1, r2, by rw [← hqc]; exact r3⟩, fun U hU hW => ⟨rfl, C.2.2.2.2.2.1.at hH.2.2 hU hW, by rw [hU]; exact hH.1, by rw [hU]; exact hH.2.1⟩⟩
    rfl (by rw [List.length_map]; exact hn) hl.1 (z_stk hst) (lv_room (by rw [zcat_sum]; exact Nat.le_of_ble_eq_true h8)) hd ⟨Nat.le_of_ble_eq_true hcs, Nat.le_of_ble_eq_true hss⟩
theorem z_callV {ty : FieldType} (hd : decode (zcc M) pc = .ok (.invokevirtual idx, 3)) (hk : zKV (zy M).cls idx M' n) (hR : zR M M') (hrt : zrt M' = some ty) (hn : As.length = n) (hst : st0 = As.reverse ++ .ref b :: st) (hb : w[b]? = some (.inr (ci, fs))) (hci : zcl[ci]?.map (fun q => q.1) = some (zy M').cls) (h8 : Nat.ble (st.map fun v => v.category).sum 8 = true) (hcs : Nat.ble (cs + (zrm M').cells) (zrm M).cells = true) (hss : Nat.ble (ss + (zrm M').slots) (zrm M).slots = true)
    (hC : Con l G M' (.ref b :: As) w K') (kk : ∀ r w', K' r w' → AW l G M (pc + 3) lv (.int r :: st) w' (cs + (zrm M').cells) (ss + (zrm M').slots) K) : AW l G M pc lv st0 w cs ss K := by
  intro p e s m args below meth c H locs ls Q C R hH hl
  have hr := z_callV0 (e := e) (below := below) C hH hl hd hk hR hn hb hci h8 hcs hss hC hst
  rw [hrt] at hr
  exact va_calli (a := #[]) hr hH.2.2 (fun q _ h => h) (fun q h => h) (fun r w' t H1 locs1 ht hvm hK hB _ _ hS1 => kk r w' hK p e s m args below meth c H1 locs1 ls Q C R ⟨by rw [← ht]; exact hB.1, by rw [← ht]; exact hB.2, hS1⟩ hl)
theorem z_callVv (hd : decode (zcc M) pc = .ok (.invokevirtual idx, 3)) (hk : zKV (zy M).cls idx M' n) (hR : zR M M') (hrt : zrt M' = none) (hn : As.length = n) (hst : st0 = As.reverse ++ .ref b :: st) (hb : w[b]? = some (.inr (ci, fs))) (hci : zcl[ci]?.map (fun q => q.1) = some (zy M').cls) (h8 : Nat.ble (st.map fun v => v.category).sum 8 = true) (hcs : Nat.ble (cs + (zrm M').cells) (zrm M).cells = true) (hss : Nat.ble (ss + (zrm M').slots) (zrm M).slots = true)
    (hC : Con l G M' (.ref b :: As) w K') (kk : ∀ w', K' 0 w' → AW l G M (pc + 3) lv st w' (cs + (zrm M').cells) (ss + (zrm M').slots) K) : AW l G M pc lv st0 w cs ss K := by
  intro p e s m args below meth c H locs ls Q C R hH hl
  have hr := z_callV0 (e := e) (below := below) C hH hl hd hk hR hn hb hci h8 hcs hss hC hst
  rw [hrt] at hr
  exact va_callv (a := #[]) hr hH.2.2 (fun q _ h => h) (fun q h => h) (fun w' t H1 locs1 ht hvm hK hB _ _ hS1 => kk w' hK p e s m args below meth c H1 locs1 ls Q C R ⟨by rw [← ht]; exact hB.1, by rw [← ht]; exact hB.2, hS1⟩ hl)
theorem z_callS0 {p : Program} {e : Env} {s : State} {m : MethodId} {args : Array Value} {below : List Frame} {meth : Method} {c : Code} {H : Heap} {locs : List Loc} {ls : Array Slot}
    (C : zCtx G M p s m args meth c) (hH : zH G w s.heap H locs) (hl : lv_has ls (znL M) (zlv G lv)) (hd : decode (zcc M) pc = .ok (.invokestatic idx, 3)) (hk : zKS (zy M).cls idx M' n) (hR : zR M M') (hn : As.length = n) (h8 : Nat.ble (st.map fun v => v.category).sum 8 = true) (hcs : Nat.ble (cs + (zrm M').cells) (zrm M).cells = true) (hss : Nat.ble (ss + (zrm M').slots) (zrm M).slots = true)
    (hC : Con l G M' As w K') (hst : st0 = As.reverse ++ st) :
    va_Run p l e (zrm M) s m args below meth c H locs cs ss (zrm M').cells (zrm M').slots (F0 m pc ls (st0.map (zv G))) (st.map (zv G)) (zQ G (zrt M') K' (As.map (zv G)).toArray) (zA G) := by
  obtain ⟨k1, k2, k4, k5, k6⟩ := hk
  have hts := C.2.2.2.2.1
  have up : ∀ x, x ∈ zT → x.before args s = true := fun x hx => hts x (List.mem_cons_of_mem _ hx)
  exact va_runS (l := l) (Ts := zws M) (As := As.map (zv G)) (rest := st.map (zv G)) ⟨C.1, C.2.1, C.2.2.1, C.2.2.2.1, hts⟩ hC
    ⟨callB_of n hts (z_good k5) rfl rfl rfl (up _ k4) (up _ k1) k6 ⟨Nat.le_of_ble_eq_true hR.1, Nat.le_of_ble_eq_true hR.2⟩, up _ k2⟩
    ⟨zPre.blind, fun U hU hW => ⟨rfl, C.2.2.2.2.2.1.at hH.2.2 hU hW, by rw [hU]; exact hH.1, by rw [hU]; exact hH.2.1⟩⟩
    rfl (by rw [List.length_map]; exact hn) hl.1 (by rw [hst, List.map_append, List.map_reverse]) (lv_room (by rw [zcat_sum]; exact Nat.le_of_ble_eq_true h8)) hd ⟨Nat.le_of_ble_eq_true hcs, Nat.le_of_ble_eq_true hss⟩
theorem z_callS {ty : FieldType} (hd : decode (zcc M) pc = .ok (.invokestatic idx, 3)) (hk : zKS (zy M).cls idx M' n) (hR : zR M M') (hrt : zrt M' = some ty) (hn : As.length = n) (hst : st0 = As.reverse ++ st) (h8 : Nat.ble (st.map fun v => v.category).sum 8 = true) (hcs : Nat.ble (cs + (zrm M').cells) (zrm M).cells = true) (hss : Nat.ble (ss + (zrm M').slots) (zrm M).slots = true)
    (hC : Con l G M' As w K') (kk : ∀ r w', K' r w' → AW l G M (pc + 3) lv (.int r :: st) w' (cs + (zrm M').cells) (ss + (zrm M').slots) K) : AW l G M pc lv st0 w cs ss K := by
  intro p e s m args below meth c H locs ls Q C R hH hl
  have hr := z_callS0 (e := e) (below := below) C hH hl hd hk hR hn h8 hcs hss hC hst
  rw [hrt] at hr
  exact va_calli (a := #[]) hr hH.2.2 (fun q _ h => h) (fun q h => h) (fun r w' t H1 locs1 ht hvm hK hB _ _ hS1 => kk r w' hK p e s m args below meth c H1 locs1 ls Q C R ⟨by rw [← ht]; exact hB.1, by rw [← ht]; exact hB.2, hS1⟩ hl)
theorem z_callSv (hd : decode (zcc M) pc = .ok (.invokestatic idx, 3)) (hk : zKS (zy M).cls idx M' n) (hR : zR M M') (hrt : zrt M' = none) (hn : As.length = n) (hst : st0 = As.reverse ++ st) (h8 : Nat.ble (st.map fun v => v.category).sum 8 = true) (hcs : Nat.ble (cs + (zrm M').cells) (zrm M).cells = true) (hss : Nat.ble (ss + (zrm M').slots) (zrm M).slots = true)
    (hC : Con l G M' As w K') (kk : ∀ w', K' 0 w' → AW l G M (pc + 3) lv st w' (cs + (zrm M').cells) (ss + (zrm M').slots) K) : AW l G M pc lv st0 w cs ss K := by
  intro p e s m args below meth c H locs ls Q C R hH hl
  have hr := z_callS0 (e := e) (below := below) C hH hl hd hk hR hn h8 hcs hss hC hst
  rw [hrt] at hr
  exact va_callv (a := #[]) hr hH.2.2 (fun q _ h => h) (fun q h => h) (fun w' t H1 locs1 ht hvm hK hB _ _ hS1 => kk w' hK p e s m args below meth c H1 locs1 ls Q C R ⟨by rw [← ht]; exact hB.1, by rw [← ht]; exact hB.2, hS1⟩ hl)
theorem z_callI (hd : decode (zcc M) pc = .ok (.invokespecial idx, 3)) (hk : zKI (zy M).cls idx M' n) (hR : zR M M') (hn : As.length = n) (hst : st0 = As.reverse ++ .ref b :: st) (h8 : Nat.ble (st.map fun v => v.category).sum 8 = true) (hcs : Nat.ble (cs + (zrm M').cells) (zrm M).cells = true) (hss : Nat.ble (ss + (zrm M').slots) (zrm M).slots = true)
    (hC : Con l G M' (.ref b :: As) w K') (kk : ∀ w', K' 0 w' → AW l G M (pc + 3) lv st w' (cs + (zrm M').cells) (ss + (zrm M').slots) K) : AW l G M pc lv st0 w cs ss K := by
  intro p e s m args below meth c H locs ls Q C R hH hl
  obtain ⟨k1, k2, k4, k5, k6, k7, hrt⟩ := hk
  have hts := C.2.2.2.2.1
  have up : ∀ x, x ∈ zT → x.before args s = true := fun x hx => hts x (List.mem_cons_of_mem _ hx)
  have hcb : CallB (zrm M) s args (zy M).cls idx (zy M') (zcc M') (znL M') none (zws M') (zrm M') (zrm M').cells (zrm M').slots n := by
    have h := callB_of (R := zrm M) (args := args) (s := s) (own := (zy M).cls) (index := idx) (y := zy M') (bytes := zcc M') (maxL := znL M') (ret := zrt M') (Ts := zws M) (ws := zws M') (rm := zrm M') n hts (z_good k5) rfl rfl rfl (up _ k4) (up _ k1) k6 ⟨Nat.le_of_ble_eq_true hR.1, Nat.le_of_ble_eq_true hR.2⟩
    rw [hrt] at h
    exact h
  have hr := va_runI (l := l) (p := p) (e := e) (below := below) (meth := meth) (c := c) (H := H) (locs := locs) (cells := cs) (slots := ss) (Ts := zws M) (b := zga G + b) (As := As.map (zv G)) (rest := st.map (zv G)) (g := F0 m pc ls (st0.map (zv G))) ⟨C.1, C.2.1, C.2.2.1, C.2.2.2.1, hts⟩ hC
    ⟨hcb, k7, up _ k2⟩
    ⟨zPre.blind, fun U hU hW => ⟨rfl, C.2.2.2.2.2.1.at hH.2.2 hU hW, by rw [hU]; exact hH.1, by rw [hU]; exact hH.2.1⟩⟩
    rfl (by rw [List.length_map]; exact hn) hl.1 (z_stk hst) (lv_room (by rw [zcat_sum]; exact Nat.le_of_ble_eq_true h8)) hd ⟨Nat.le_of_ble_eq_true hcs, Nat.le_of_ble_eq_true hss⟩
  rw [hrt] at hr
  exact va_callv (a := #[]) hr hH.2.2 (fun q _ h => h) (fun q h => h) (fun w' t H1 locs1 ht hvm hK hB _ _ hS1 => kk w' hK p e s m args below meth c H1 locs1 ls Q C R ⟨by rw [← ht]; exact hB.1, by rw [← ht]; exact hB.2, hS1⟩ hl)
theorem z_callIN (hd : decode (zcc M) pc = .ok (.invokespecial idx, 3)) (hk : zKN (zy M).cls idx M' n) (hR : zR M M') (hn : As.length = n) (hst : st0 = As.reverse ++ .ref b :: st) (h8 : Nat.ble (st.map fun v => v.category).sum 8 = true) (hcs : Nat.ble (cs + (zrm M').cells) (zrm M).cells = true) (hss : Nat.ble (ss + (zrm M').slots) (zrm M).slots = true)
    (hC : Con l G M' (.ref b :: As) w K') (kk : ∀ w', K' 0 w' → AW l G M (pc + 3) lv st w' (cs + (zrm M').cells) (ss + (zrm M').slots) K) : AW l G M pc lv st0 w cs ss K := by
  intro p e s m args below meth c H locs ls Q C R hH hl
  obtain ⟨⟨host, k1⟩, k2, k4, k5, k6, k7, hrt⟩ := hk
  have hts := C.2.2.2.2.1
  have up : ∀ x, x ∈ zT → x.before args s = true := fun x hx => hts x (List.mem_cons_of_mem _ hx)
  have hcb : va_CN (zrm M) s args (zy M).cls idx (zy M') host (zcc M') (znL M') none (zws M') (zrm M') (zrm M').cells (zrm M').slots n := by
    have h := va_cnB (R := zrm M) (args := args) (s := s) (own := (zy M).cls) (host := host) (index := idx) (y := zy M') (bytes := zcc M') (maxL := znL M') (ret := zrt M') (Ts := zws M) (ws := zws M') (rm := zrm M') n hts (z_good k5) rfl rfl rfl (C.2.2.2.2.2.1.2.2.2.2.2.1 _ k1) (up _ k4) k6 ⟨Nat.le_of_ble_eq_true hR.1, Nat.le_of_ble_eq_true hR.2⟩
    rw [hrt] at h
    exact h
  have hr := va_runIN (l := l) (p := p) (e := e) (below := below) (meth := meth) (c := c) (H := H) (locs := locs) (cells := cs) (slots := ss) (Ts := zws M) (b := zga G + b) (As := As.map (zv G)) (rest := st.map (zv G)) (g := F0 m pc ls (st0.map (zv G))) ⟨C.1, C.2.1, C.2.2.1, C.2.2.2.1, hts⟩ hC
    ⟨hcb, k7, up _ k2⟩
    ⟨zPre.blind, fun U hU hW => ⟨rfl, C.2.2.2.2.2.1.at hH.2.2 hU hW, by rw [hU]; exact hH.1, by rw [hU]; exact hH.2.1⟩⟩
    rfl (by rw [List.length_map]; exact hn) hl.1 (z_stk hst) (lv_room (by rw [zcat_sum]; exact Nat.le_of_ble_eq_true h8)) hd ⟨Nat.le_of_ble_eq_true hcs, Nat.le_of_ble_eq_true hss⟩
  rw [hrt] at hr
  exact va_callv (a := #[]) hr hH.2.2 (fun q _ h => h) (fun q h => h) (fun w' t H1 locs1 ht hvm hK hB _ _ hS1 => kk w' hK p e s m args below meth c H1 locs1 ls Q C R ⟨by rw [← ht]; exact hB.1, by rw [← ht]; exact hB.2, hS1⟩ hl)
theorem z_objInit (hd : decode (zcc M) pc = .ok (.invokespecial idx, 3)) (h1 : Cond.methodLink (zy M).cls idx Lib.objectInit ∈ zT) (h2 : Cond.instanceMethod Lib.objectInit ∈ zT) (h3 : Cond.code Lib.objectInit ⟨#[0xb1]⟩ 1 none ∈ zT) (hf : Nat.ble 1 (zrm M).frames = true) (hlo : Nat.ble ((st.map fun v => v.category).sum + 12) (zrm M).locals = true) (kk : AW l G M (pc + 3) lv st w cs ss K) : AW l G M pc lv (.ref b :: st) w cs ss K := by
  intro p e s m args below meth c H locs ls Q C R hH hl
  have up : ∀ x, x ∈ zT → x.before args s = true := fun x hx => C.2.2.2.2.1 x (List.mem_cons_of_mem _ hx)
  exact W.objInit C.1 C.2.1 C.2.2.2.1 (up _ h1) (up _ h2) (up _ h3) rfl (by rw [C.2.2.1]; exact hl.1) rfl hd (Nat.le_of_ble_eq_true hf) (by show 2 * 0 + _ + 12 ≤ _; rw [zcat_sum, Nat.zero_add]; exact Nat.le_of_ble_eq_true hlo) (kk p e s m args below meth c H locs ls Q C R hH hl)
theorem z_max {x y : Int32} (hd : decode (zcc M) pc = .ok (.invokestatic idx, 3)) (h1 : Cond.methodLink (zy M).cls idx Lib.Math.max.name ∈ zT) (h2 : Cond.static Lib.Math.max.name ∈ zT) (h3 : Cond.initialized "java/lang/Math" ∈ zT) (h4 : Cond.code Lib.Math.max.name Lib.Math.max.code 2 (some .int) ∈ zT) (hf : Nat.ble 1 (zrm M).frames = true) (hlo : Nat.ble ((st.map fun v => v.category).sum + 13) (zrm M).locals = true) (hc : Nat.ble cs (zrm M).cells = true) (hs : Nat.ble ss (zrm M).slots = true)
    (kk : AW l G M (pc + 3) lv (.int (if x < y then y else x) :: st) w cs ss K) : AW l G M pc lv (.int y :: .int x :: st) w cs ss K := by
  intro p e s m args below meth c H locs ls Q C R hH hl
  have up : ∀ x, x ∈ zT → x.before args s = true := fun x hx => C.2.2.2.2.1 x (List.mem_cons_of_mem _ hx)
  exact va_mmax C.1 C.2.1 (by rw [C.2.2.1]; exact hl.1.symm) C.2.2.2.1 (up _ h1) (up _ h2) (up _ h3) (up _ h4) (Nat.le_of_ble_eq_true hf) (by rw [zcat_sum]; exact Nat.le_of_ble_eq_true hlo) (Nat.le_of_ble_eq_true hc) (Nat.le_of_ble_eq_true hs) hd (kk p e s m args below meth c H locs ls Q C R hH hl)
theorem z_min {x y : Int32} (hd : decode (zcc M) pc = .ok (.invokestatic idx, 3)) (h1 : Cond.methodLink (zy M).cls idx Lib.Math.min.name ∈ zT) (h2 : Cond.static Lib.Math.min.name ∈ zT) (h3 : Cond.initialized "java/lang/Math" ∈ zT) (h4 : Cond.code Lib.Math.min.name Lib.Math.min.code 2 (some .int) ∈ zT) (hf : Nat.ble 1 (zrm M).frames = true) (hlo : Nat.ble ((st.map fun v => v.category).sum + 13) (zrm M).locals = true) (hc : Nat.ble cs (zrm M).cells = true) (hs : Nat.ble ss (zrm M).slots = true)
    (kk : AW l G M (pc + 3) lv (.int (if y < x then y else x) :: st) w cs ss K) : AW l G M pc lv (.int y :: .int x :: st) w cs ss K := by
  intro p e s m args below meth c H locs ls Q C R hH hl
  have up : ∀ x, x ∈ zT → x.before args s = true := fun x hx => C.2.2.2.2.1 x (List.mem_cons_of_mem _ hx)
  exact va_mmin C.1 C.2.1 (by rw [C.2.2.1]; exact hl.1.symm) C.2.2.2.1 (up _ h1) (up _ h2) (up _ h3) (up _ h4) (Nat.le_of_ble_eq_true hf) (by rw [zcat_sum]; exact Nat.le_of_ble_eq_true hlo) (Nat.le_of_ble_eq_true hc) (Nat.le_of_ble_eq_true hs) hd (kk p e s m args below meth c H locs ls Q C R hH hl)
theorem z_copy {k0 k1 n0 n1 : Nat} {f g : Nat → Int32} {sp dp nn : Int32} (hd : decode (zcc M) pc = .ok (.invokestatic idx, 3)) (w1 : Cond.methodLink (zy M).cls idx arraycopyName ∈ zT) (w2 : Cond.native arraycopyName ∈ zT) (w3 : Cond.static arraycopyName ∈ zT) (w4 : Cond.initialized "java/lang/System" ∈ zT)
    (he0 : w[k0]? = some (.inl (0, n0, .inl f))) (he1 : w[k1]? = some (.inl (0, n1, .inl g))) (h1 : ¬ sp < 0) (h2 : ¬ dp < 0) (h3 : ¬ nn < 0) (h4 : sp.toNatClampNeg + nn.toNatClampNeg ≤ n0) (h5 : dp.toNatClampNeg + nn.toNatClampNeg ≤ n1) (hf : Nat.ble 1 (zrm M).frames = true) (hlo : Nat.ble ((st.map fun v => v.category).sum + (nativeFrameWords "java/lang/System" "arraycopy" 5 + 11)) (zrm M).locals = true)
    (kk : AW l G M (pc + 3) lv st (w.set k1 (.inl (0, n1, .inl (va_cpy f g sp.toNatClampNeg dp.toNatClampNeg nn.toNatClampNeg)))) cs ss K) : AW l G M pc lv (.int nn :: .int dp :: .ref k1 :: .int sp :: .ref k0 :: st) w cs ss K := by
  intro p e s m args below meth c H locs ls Q C R hH hl
  have up : ∀ x, x ∈ zT → x.before args s = true := fun x hx => C.2.2.2.2.1 x (List.mem_cons_of_mem _ hx)
  have nn' : ∀ z : Int32, ¬ z < 0 → z.toInt = (z.toNatClampNeg : Int) := by
    intro z hz
    have hz0 : (0 : Int) ≤ z.toInt := by
      have := Int32.not_lt.mp hz
      simpa using Int32.le_iff_toInt_le.mp this
    show z.toInt = ((z.toInt.toNat : Nat) : Int)
    omega
  intro T hT X
  have hc0 : H[zga G + k0]? = some (vp_cell (zgt G 0) (n0, .inl f)) := hH.2.1 k0 _ (zw_at he0)
  have hc1 : H[zga G + k1]? = some (vp_cell (zgt G 0) (n1, .inl g)) := hH.2.1 k1 _ (zw_at he1)
  have hK := C.2.2.2.2.2.1.1
  obtain ⟨-, c0, hk0, cm0, hkk0⟩ := (hK.2 0 _ rfl).1 n0 (fun j => .int (f j))
  obtain ⟨-, c1, hk1, cm1, hkk1⟩ := (hK.2 0 _ rfl).1 n1 (fun j => .int (g j))
  obtain ⟨vm', X', step⟩ := X.arraycopy C.1 C.2.2.2.1 (up _ w1) (up _ w2) (up _ w3) (up _ w4) (src := zga G + k0) (dst := zga G + k1) (cs := vp_cell (zgt G 0) (n0, .inl f)) (cd := vp_cell (zgt G 0) (n1, .inl g)) (srcPos := sp) (destPos := dp) (n := nn) (by rw [hT]; exact hc0) (by rw [hT]; exact hc1)
    (fun _ h => by cases h) (fun _ h => by cases h) (fun h => by cases h) (fun h => by cases h) hk0 hk1 hkk0 hkk1 (by simp [refKind]) h1 h2 h3
    (by rw [nn' sp h1, nn' nn h3]; show ¬ _ > ((arrV _ n0 (fun j => .int (f j))).slots.size : Int); rw [arrV_size]; omega)
    (by rw [nn' dp h2, nn' nn h3]; show ¬ _ > ((arrV _ n1 (fun j => .int (g j))).slots.size : Int); rw [arrV_size]; omega)
    (fun vm₁ _ i hi => by
      have e : (vp_cell (zgt G 0) (n0, .inl f)).slots.getD (sp.toNatClampNeg + i) .null = .int (f (sp.toNatClampNeg + i)) := by
        show (arrV _ n0 (fun j => .int (f j))).slots.getD _ _ = _
        rw [Array.getD_eq_getD_getElem?, arrV_read _ _ (by omega)]
        rfl
      refine ⟨?_, ?_⟩
      · rw [e]
        rfl
      · rw [e]
        exact trivial)
    (g := F0 m pc ls (.int nn :: .int dp :: .ref (zga G + k1) :: .int sp :: .ref (zga G + k0) :: st.map (zv G))) rfl (by rw [C.2.2.1]; exact hl.1) (rest := st.map (zv G)) rfl (by rw [C.2.1]; exact hd) (Nat.le_of_ble_eq_true hf) (by have := Nat.le_of_ble_eq_true hlo; show 2 * 0 + _ + _ ≤ _; rw [zcat_sum]; omega)
  have e1 : copied (vp_cell (zgt G 0) (n0, .inl f)) (vp_cell (zgt G 0) (n1, .inl g)) sp dp nn = vp_cell (zgt G 0) (n1, .inl (va_cpy f g sp.toNatClampNeg dp.toNatClampNeg nn.toNatClampNeg)) := va_copied (fun z => .int z) (zgt G 0) (zgt G 0) f g h4
  rw [e1] at X' step
  have hlt : zga G + k1 < H.size := (Array.getElem?_eq_some_iff.mp hc1).1
  have oq : ∀ q : Nat, q ≠ zga G + k1 → (H.setIfInBounds (zga G + k1) (vp_cell (zgt G 0) (n1, .inl (va_cpy f g sp.toNatClampNeg dp.toNatClampNeg nn.toNatClampNeg))))[q]? = H[q]? := fun q hq => by simp [Array.getElem?_setIfInBounds, Ne.symm hq]
  have h0 := hH.set (i := 0) (e := .inl (0, n1, .inl (va_cpy f g sp.toNatClampNeg dp.toNatClampNeg nn.toNatClampNeg))) he1 (show (H.setIfInBounds (zga G + k1) _)[zga G + k1]? = some _ by simp [Array.getElem?_setIfInBounds, hlt]) (by simp) oq
  obtain ⟨t, a1, b1⟩ := kk p e s m args below meth c _ _ ls Q C R ⟨h0.1, h0.2.1, h0.2.2.1, h0.2.2.2.1, fun q hq => by
      rcases List.mem_append.mp hq with h | h
      · exact hH.2.2.2.2 q h
      · obtain ⟨z, -, hz⟩ := List.mem_map.mp h
        rw [← hz]
        exact Nat.le_add_right _ _⟩ hl _ (by rw [← hT]; rfl) X'
  exact ⟨t, step t a1, b1⟩
end ZCL
