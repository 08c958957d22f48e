
abbrev Mem : Type := Nat → Nat → Int32
abbrev Lng : Type := Nat → Int64
abbrev zz : Nat → Int32 := fun _ => 0
def zi1 (v : Value) (x : Int32) (z : Int64) : Value := match v with
  | .int _ => .int x
  | .long _ => .long z
  | v => v
def zif : Nat → List Value → (Nat → Int32) → Int64 → List Value
  | _, [], _, _ => []
  | j, v :: fs, r, z => zi1 v (r j) z :: zif (j + 1) fs r z
def zin (c : zC) (r : Nat → Int32) (z : Int64) : zC := match c with
  | .inl (t, n, .inl _) => .inl (t, n, .inl r)
  | .inl (t, n, .inr f) => .inl (t, n, .inr f)
  | .inr (ci, fs) => .inr (ci, zif 0 fs r z)
def wdf : Nat → List zC → Mem → Lng → List zC
  | _, [], _, _ => []
  | k, c :: w, μ, ν => zin c (μ k) (ν k) :: wdf (k + 1) w μ ν
/-- the cells of both objects -/
def zsh : List zC := [.inr (9, [.ref 1, .ref 15, .ref 22, .ref 26, .ref 44, .ref 53, .ref 54, .ref 55, .int 0, .long 0, .int 0]), .inr (5, [.ref 2, .ref 9, .ref 13, .ref 14, .int 0, .int 0, .int 0, .int 0, .int 0, .int 0, .int 0]), .inr (1, [.ref 3, .ref 4, .ref 5, .ref 6, .ref 7, .ref 8, .int 0]), .inl (0, 2, .inl zz), .inl (0, 2, .inl zz), .inl (0, 6, .inl zz), .inl (0, 6, .inl zz), .inl (0, 6, .inl zz), .inl (0, 6, .inl zz), .inr (4, [.ref 10, .ref 11, .ref 12, .int 0, .int 0]), .inl (0, 6, .inl zz), .inl (0, 6, .inl zz), .inl (0, 6, .inl zz), .inl (0, 250, .inl zz), .inl (0, 2, .inl zz), .inr (1, [.ref 16, .ref 17, .ref 18, .ref 19, .ref 20, .ref 21, .int 0]), .inl (0, 2, .inl zz), .inl (0, 2, .inl zz), .inl (0, 6, .inl zz), .inl (0, 6, .inl zz), .inl (0, 6, .inl zz), .inl (0, 6, .inl zz), .inr (4, [.ref 23, .ref 24, .ref 25, .int 0, .int 0]), .inl (0, 6, .inl zz), .inl (0, 6, .inl zz), .inl (0, 6, .inl zz), .inr (0, [.ref 15, .ref 27, .ref 28, .ref 29]), .inl (4, 2, .inr (fun j => [some 30, some 34].getD j none)), .inl (3, 6, .inr (fun j => [some 38, some 39, some 40, some 41, some 42, some 43].getD j none)), .inl (0, 6, .inl zz), .inr (7, [.ref 31, .ref 32, .ref 33, .int 0, .int 0, .int 0, .int 0, .int 0]), .inl (0, 2, .inl zz), .inl (0, 2, .inl zz), .inl (0, 2, .inl zz), .inr (7, [.ref 35, .ref 36, .ref 37, .int 0, .int 0, .int 0, .int 0, .int 0]), .inl (0, 2, .inl zz), .inl (0, 2, .inl zz), .inl (0, 2, .inl zz), .inr (3, [.int 0, .int 0, .int 0, .int 0, .int 0, .int 0]), .inr (3, [.int 0, .int 0, .int 0, .int 0, .int 0, .int 0]), .inr (3, [.int 0, .int 0, .int 0, .int 0, .int 0, .int 0]), .inr (3, [.int 0, .int 0, .int 0, .int 0, .int 0, .int 0]), .inr (3, [.int 0, .int 0, .int 0, .int 0, .int 0, .int 0]), .inr (3, [.int 0, .int 0, .int 0, .int 0, .int 0, .int 0]), .inr (8, [.ref 15, .ref 22, .ref 26, .ref 45, .ref 49, .int 0, .int 0]), .inr (4, [.ref 46, .ref 47, .ref 48, .int 0, .int 0]), .inl (0, 6, .inl zz), .inl (0, 6, .inl zz), .inl (0, 6, .inl zz), .inr (6, [.ref 50, .ref 51, .ref 52, .int 0]), .inl (0, 6, .inl zz), .inl (0, 6, .inl zz), .inl (0, 6, .inl zz), .inl (2, 2, .inr (fun j => [some 56, some 61].getD j none)), .inl (0, 20, .inl zz), .inl (0, 20, .inl zz), .inr (2, [.ref 57, .long 0, .int 0]), .inr (4, [.ref 58, .ref 59, .ref 60, .int 0, .int 0]), .inl (0, 6, .inl zz), .inl (0, 6, .inl zz), .inl (0, 6, .inl zz), .inr (2, [.ref 62, .long 0, .int 0]), .inr (4, [.ref 63, .ref 64, .ref 65, .int 0, .int 0]), .inl (0, 6, .inl zz), .inl (0, 6, .inl zz), .inl (0, 6, .inl zz), .inr (10, [.int 0, .ref 67, .int 0, .int 0, .int 0, .int 0, .int 0, .int 0, .int 0, .ref 68, .ref 69, .int 0, .int 0, .int 0, .int 0, .int 0, .ref 70, .int 0, .ref 71, .ref 72, .ref 73, .ref 74, .ref 75, .ref 76, .ref 77, .ref 78, .ref 79, .ref 80, .ref 81, .ref 82, .ref 83, .ref 84, .ref 85, .ref 86, .ref 87, .ref 88, .ref 89, .ref 90, .int 0, .int 0, .ref 91, .ref 92, .ref 93, .ref 94, .ref 95, .int 0, .ref 96]), .inl (0, 250, .inl zz), .inl (0, 42, .inl zz), .inl (0, 4, .inl zz), .inl (0, 4, .inl zz), .inl (0, 6, .inl zz), .inl (0, 6, .inl zz), .inl (0, 6, .inl zz), .inl (0, 6, .inl zz), .inl (0, 21, .inl zz), .inl (0, 42, .inl zz), .inl (1, 2, .inl zz), .inl (0, 6, .inl zz), .inl (0, 6, .inl zz), .inl (0, 6, .inl zz), .inl (0, 6, .inl zz), .inl (0, 6, .inl zz), .inl (1, 6, .inl zz), .inl (0, 4, .inl zz), .inl (0, 4, .inl zz), .inl (0, 2, .inl zz), .inl (0, 2, .inl zz), .inl (0, 2, .inl zz), .inl (0, 2, .inl zz), .inl (0, 4, .inl zz), .inl (0, 21, .inl zz), .inl (0, 6, .inl zz), .inl (0, 6, .inl zz), .inl (0, 6, .inl zz), .inl (0, 6, .inl zz), .inl (0, 40, .inl zz)]
def wd (μ : Mem) (ν : Lng) : List zC := wdf 0 zsh μ ν
def up2 (μ : Mem) (k j : Nat) (v : Int32) : Mem := va_up μ k (upd (μ k) j v)
theorem up2_same (μ : Mem) (k j : Nat) (v : Int32) : up2 μ k j v k j = v := by simp [up2, va_up, upd]
theorem up2_row (μ : Mem) (k j i : Nat) (v : Int32) : up2 μ k j v k i = if i = j then v else μ k i := by simp [up2, va_up, upd]
theorem up2_ne {μ : Mem} {k j q : Nat} {v : Int32} (h : q ≠ k) : up2 μ k j v q = μ q := by simp [up2, va_up, h]
theorem up2_at (μ : Mem) (k j q i : Nat) (v : Int32) : up2 μ k j v q i = if q = k ∧ i = j then v else μ q i := by
  unfold up2 va_up upd
  by_cases h : q = k
  · subst h; by_cases h2 : i = j <;> simp [h2]
  · simp [h]
theorem zif_get (r : Nat → Int32) (z : Int64) : ∀ (fs : List Value) (j0 j : Nat), (zif j0 fs r z)[j]? = (fs[j]?).map (fun v => zi1 v (r (j0 + j)) z)
  | [], _, _ => by simp [zif]
  | v :: fs, j0, 0 => by simp [zif]
  | v :: fs, j0, j + 1 => by
    rw [zif, List.getElem?_cons_succ, List.getElem?_cons_succ, zif_get r z fs (j0 + 1) j]
    rw [show j0 + 1 + j = j0 + (j + 1) by omega]
theorem zif_len (r : Nat → Int32) (z : Int64) : ∀ (fs : List Value) (j0 : Nat), (zif j0 fs r z).length = fs.length
  | [], _ => rfl
  | v :: fs, j0 => by rw [zif, List.length_cons, List.length_cons, zif_len r z fs]
theorem wdf_get (μ : Mem) (ν : Lng) : ∀ (w : List zC) (k0 k : Nat), (wdf k0 w μ ν)[k]? = (w[k]?).map (fun c => zin c (μ (k0 + k)) (ν (k0 + k)))
  | [], _, _ => by simp [wdf]
  | c :: w, k0, 0 => by simp [wdf]
  | c :: w, k0, k + 1 => by
    rw [wdf, List.getElem?_cons_succ, List.getElem?_cons_succ, wdf_get μ ν w (k0 + 1) k]
    rw [show k0 + 1 + k = k0 + (k + 1) by omega]
theorem wd_get {μ : Mem} {ν : Lng} {k : Nat} {c : zC} (h : zsh[k]? = some c) : (wd μ ν)[k]? = some (zin c (μ k) (ν k)) := by
  unfold wd
  rw [wdf_get, h, Option.map_some, Nat.zero_add]
theorem wd_len (μ : Mem) (ν : Lng) : (wd μ ν).length = zsh.length := by
  have h : ∀ (w : List zC) (k0 : Nat), (wdf k0 w μ ν).length = w.length := by
    intro w
    induction w with
    | nil => intro k0; rfl
    | cons c w ih => intro k0; rw [wdf, List.length_cons, List.length_cons, ih]
  exact h _ _
theorem wd_set {μ μ' : Mem} {ν ν' : Lng} {k : Nat} {c c' : zC} (h : zsh[k]? = some c) (hc : zin c (μ' k) (ν' k) = c') (hμ : ∀ q, q ≠ k → μ' q = μ q) (hν : ∀ q, q ≠ k → ν' q = ν q) : (wd μ ν).set k c' = wd μ' ν' := by
  apply List.ext_getElem?
  intro i
  have hlen : k < (wd μ ν).length := by rw [wd_len]; exact (List.getElem?_eq_some_iff.mp h).1
  by_cases hi : i = k
  · subst hi
    rw [List.getElem?_set_self hlen, wd_get h, hc]
  · rw [List.getElem?_set_ne (Ne.symm hi)]
    unfold wd
    rw [wdf_get, wdf_get, Nat.zero_add, hμ i hi, hν i hi]
theorem zif_set (μ : Mem) (k j : Nat) (x v : Int32) (z : Int64) (fs : List Value) (hj : fs[j]? = some (.int x)) : (zif 0 fs (μ k) z).set j (.int v) = zif 0 fs (up2 μ k j v k) z := by
  apply List.ext_getElem?
  intro i
  have hl : j < (zif 0 fs (μ k) z).length := by rw [zif_len]; exact (List.getElem?_eq_some_iff.mp hj).1
  by_cases hi : i = j
  · subst hi
    rw [List.getElem?_set_self hl, zif_get, hj, Option.map_some, Nat.zero_add, up2_same]; rfl
  · rw [List.getElem?_set_ne (Ne.symm hi), zif_get, zif_get]
    congr 1
    funext y
    rw [Nat.zero_add, up2_row, if_neg hi]
theorem wd_put {μ : Mem} {ν : Lng} {k ci j : Nat} {fs : List Value} {x v : Int32} (h : zsh[k]? = some (.inr (ci, fs))) (hj : fs[j]? = some (.int x)) : (wd μ ν).set k (.inr (ci, (zif 0 fs (μ k) (ν k)).set j (.int v))) = wd (up2 μ k j v) ν :=
  wd_set h (by rw [zif_set μ k j x v (ν k) fs hj]; rfl) (fun q hq => up2_ne hq) (fun _ _ => rfl)
theorem zif_long (r : Nat → Int32) (z z' : Int64) : ∀ (fs : List Value) (j0 j : Nat), fs[j]? = some (Value.long 0) → (∀ i : Nat, fs[i]? = some (Value.long 0) → i = j) → (∀ (i : Nat) (v : Int64), fs[i]? = some (Value.long v) → v = 0) → (zif j0 fs r z).set j (.long z') = zif j0 fs r z' := by
  intro fs j0 j hj h1 h0
  apply List.ext_getElem?
  intro i
  have hl : j < (zif j0 fs r z).length := by rw [zif_len]; exact (List.getElem?_eq_some_iff.mp hj).1
  by_cases hi : i = j
  · subst hi
    rw [List.getElem?_set_self hl, zif_get, hj]; rfl
  · rw [List.getElem?_set_ne (Ne.symm hi), zif_get, zif_get]
    cases hf : fs[i]? with
    | none => rfl
    | some y =>
      cases y with
      | long q =>
        have := h0 i q hf
        subst this
        exact absurd (h1 i hf) hi
      | _ => rfl
theorem wd_row {μ : Mem} {ν : Lng} {k t n : Nat} {f g : Nat → Int32} (h : zsh[k]? = some (.inl (t, n, .inl g))) : (wd μ ν).set k (.inl (t, n, .inl f)) = wd (va_up μ k f) ν :=
  wd_set h (by simp [zin, va_up]) (fun q hq => by simp [va_up, hq]) (fun _ _ => rfl)
def zK (K : Int32 → Mem → Lng → Prop) : Int32 → List zC → Prop := fun r w => ∃ μ ν, w = wd μ ν ∧ K r μ ν
abbrev Am (l : Launch) (G : zG) (M : zM) (pc : Nat) (lv : List (Nat × Value)) (st : List Value) (μ : Mem) (ν : Lng) (K : Int32 → Mem → Lng → Prop) : Prop := AW l G M pc lv st (wd μ ν) 0 0 (zK K)
abbrev Cm (l : Launch) (G : zG) (M : zM) (As : List Value) (μ : Mem) (ν : Lng) (K : Int32 → Mem → Lng → Prop) : Prop := Con l G M As (wd μ ν) (zK K)
section ZMM
variable {l : Launch} {G : zG} {M : zM} {pc : Nat} {lv : List (Nat × Value)} {st st0 : List Value} {μ : Mem} {ν : Lng} {K K' : Int32 → Mem → Lng → Prop} {idx ci j k t n q b : Nat} {fs As : List Value} {M' : zM}
theorem m_geti {x : Int32} (hd : decode (zcc M) pc = .ok (.getfield idx, 3)) (hf : zF (zy M).cls idx ci j) (hs : zsh[k]? = some (.inr (ci, fs))) (hj : fs[j]? = some (.int x)) (kk : Am l G M (pc + 3) lv (.int (μ k j) :: st) μ ν K) : Am l G M pc lv (.ref k :: st) μ ν K :=
  z_get hd hf (wd_get hs) (by rw [zif_get, hj, Option.map_some, Nat.zero_add]; rfl) kk
theorem m_getr (hd : decode (zcc M) pc = .ok (.getfield idx, 3)) (hf : zF (zy M).cls idx ci j) (hs : zsh[k]? = some (.inr (ci, fs))) (hj : fs[j]? = some (.ref q)) (kk : Am l G M (pc + 3) lv (.ref q :: st) μ ν K) : Am l G M pc lv (.ref k :: st) μ ν K :=
  z_get hd hf (wd_get hs) (by rw [zif_get, hj, Option.map_some]; rfl) kk
theorem m_getl {x : Int64} (hd : decode (zcc M) pc = .ok (.getfield idx, 3)) (hf : zF (zy M).cls idx ci j) (hs : zsh[k]? = some (.inr (ci, fs))) (hj : fs[j]? = some (.long x)) (kk : Am l G M (pc + 3) lv (.long (ν k) :: st) μ ν K) : Am l G M pc lv (.ref k :: st) μ ν K :=
  z_get hd hf (wd_get hs) (by rw [zif_get, hj, Option.map_some]; rfl) kk
theorem m_puti {x v : Int32} (hd : decode (zcc M) pc = .ok (.putfield idx, 3)) (hf : zF (zy M).cls idx ci j) (hfin : ∀ q : vw_C, zcl[ci]? = some q → (q.2.1 j).2.2.2 = false) (hn : narrow (zty ci j) (.int v) = .int v) (hfit : fits (zty ci j) (.int v) = true) (hs : zsh[k]? = some (.inr (ci, fs))) (hj : fs[j]? = some (.int x)) (kk : Am l G M (pc + 3) lv st (up2 μ k j v) ν K) : Am l G M pc lv (.int v :: .ref k :: st) μ ν K :=
  z_put hd hf hfin hn hfit (wd_get hs) (Nat.blt_eq.mpr (by rw [zif_len]; exact (List.getElem?_eq_some_iff.mp hj).1)) (by rw [wd_put hs hj]; exact kk)
theorem m_putl {v : Int64} (hd : decode (zcc M) pc = .ok (.putfield idx, 3)) (hf : zF (zy M).cls idx ci j) (hfin : ∀ q : vw_C, zcl[ci]? = some q → (q.2.1 j).2.2.2 = false) (hty : zty ci j = .long) (hs : zsh[k]? = some (.inr (ci, fs))) (hj : fs[j]? = some (.long 0)) (h1 : ∀ i : Nat, fs[i]? = some (Value.long 0) → i = j) (h0 : ∀ (i : Nat) (v : Int64), fs[i]? = some (Value.long v) → v = 0) (kk : Am l G M (pc + 3) lv st μ (va_up ν k v) K) : Am l G M pc lv (.long v :: .ref k :: st) μ ν K :=
  z_put hd hf hfin (by rw [hty]; rfl) (by rw [hty]; rfl) (wd_get hs) (Nat.blt_eq.mpr (by rw [zif_len]; exact (List.getElem?_eq_some_iff.mp hj).1)) (by
    rw [wd_set (μ' := μ) (ν' := va_up ν k v) hs (by rw [zif_long (μ k) (ν k) v fs 0 j hj h1 h0]; simp [zin, va_up]) (fun _ _ => rfl) (fun q hq => by simp [va_up, hq])]
    exact kk)
theorem m_iald {g : Nat → Int32} {i : Int32} (hd : decode (zcc M) pc = .ok (.iaload, 1)) (hs : zsh[k]? = some (.inl (0, n, .inl g))) (hi : vp_in i n) (kk : Am l G M (pc + 1) lv (.int (μ k i.toNatClampNeg) :: st) μ ν K) : Am l G M pc lv (.int i :: .ref k :: st) μ ν K :=
  z_iald hd (wd_get hs) hi kk
theorem m_zald {g : Nat → Int32} {i : Int32} (hd : decode (zcc M) pc = .ok (.baload, 1)) (hs : zsh[k]? = some (.inl (1, n, .inl g))) (hi : vp_in i n) (kk : Am l G M (pc + 1) lv (.int (μ k i.toNatClampNeg) :: st) μ ν K) : Am l G M pc lv (.int i :: .ref k :: st) μ ν K :=
  z_zald hd (wd_get hs) hi kk
theorem m_alen {g : Nat → Int32} (hd : decode (zcc M) pc = .ok (.arraylength, 1)) (hs : zsh[k]? = some (.inl (0, n, .inl g))) (kk : Am l G M (pc + 1) lv (.int (nI n) :: st) μ ν K) : Am l G M pc lv (.ref k :: st) μ ν K :=
  z_alen hd (wd_get hs) kk
theorem m_iast {g : Nat → Int32} {i x : Int32} (hd : decode (zcc M) pc = .ok (.iastore, 1)) (hs : zsh[k]? = some (.inl (0, n, .inl g))) (hi : vp_in i n) (kk : Am l G M (pc + 1) lv st (up2 μ k i.toNatClampNeg x) ν K) : Am l G M pc lv (.int x :: .int i :: .ref k :: st) μ ν K :=
  z_iast hd (wd_get hs) hi (by rw [wd_row hs]; exact kk)
theorem m_zast {g : Nat → Int32} {i x : Int32} (hd : decode (zcc M) pc = .ok (.bastore, 1)) (hs : zsh[k]? = some (.inl (1, n, .inl g))) (hi : vp_in i n) (hx : narrow .boolean (.int x) = .int x) (kk : Am l G M (pc + 1) lv st (up2 μ k i.toNatClampNeg x) ν K) : Am l G M pc lv (.int x :: .int i :: .ref k :: st) μ ν K :=
  z_zast hd (wd_get hs) hi hx (by rw [wd_row hs]; exact kk)
theorem m_aald {f : Nat → Option Nat} {C0 : String} {i : Int32} (hd : decode (zcc M) pc = .ok (.aaload, 1)) (hs : zsh[k]? = some (.inl (t, n, .inr f))) (ht : (ztys (zgt G))[t]? = some (zgt G t, .object C0)) (hi : vp_in i n) (hf : f i.toNatClampNeg = some q) (kk : Am l G M (pc + 1) lv (.ref q :: st) μ ν K) : Am l G M pc lv (.int i :: .ref k :: st) μ ν K :=
  z_aald hd (wd_get hs) ht hi hf kk
theorem m_copy {k0 k1 n0 n1 : Nat} {g0 g1 : Nat → Int32} {sp dp nn : Int32} (hd : decode (zcc M) pc = .ok (.invokestatic idx, 3)) (w1 : Cond.methodLink (zy M).cls idx arraycopyName ∈ zT) (w2 : Cond.native arraycopyName ∈ zT) (w3 : Cond.static arraycopyName ∈ zT) (w4 : Cond.initialized "java/lang/System" ∈ zT)
    (hs0 : zsh[k0]? = some (.inl (0, n0, .inl g0))) (hs1 : zsh[k1]? = some (.inl (0, n1, .inl g1))) (h1 : ¬ sp < 0) (h2 : ¬ dp < 0) (h3 : ¬ nn < 0) (h4 : sp.toNatClampNeg + nn.toNatClampNeg ≤ n0) (h5 : dp.toNatClampNeg + nn.toNatClampNeg ≤ n1) (hf : Nat.ble 1 (zrm M).frames = true) (hlo : Nat.ble ((st.map fun v => v.category).sum + (nativeFrameWords "java/lang/System" "arraycopy" 5 + 11)) (zrm M).locals = true)
    (kk : Am l G M (pc + 3) lv st (va_up μ k1 (va_cpy (μ k0) (μ k1) sp.toNatClampNeg dp.toNatClampNeg nn.toNatClampNeg)) ν K) : Am l G M pc lv (.int nn :: .int dp :: .ref k1 :: .int sp :: .ref k0 :: st) μ ν K :=
  z_copy hd w1 w2 w3 w4 (wd_get hs0) (wd_get hs1) h1 h2 h3 h4 h5 hf hlo (by rw [wd_row hs1]; exact kk)
theorem m_iret {v : Int32} {ty : FieldType} (hd : decode (zcc M) pc = .ok (.ireturn, 1)) (hty : zrt M = some ty) (hn : narrow ty (.int v) = .int v) (kk : K v μ ν) : Am l G M pc lv [.int v] μ ν K :=
  z_iret hd hty hn (by cases h : (zrm M).cells <;> rfl) (by cases h : (zrm M).slots <;> rfl) ⟨μ, ν, rfl, kk⟩
theorem m_ret (hd : decode (zcc M) pc = .ok (.return_, 1)) (hty : zrt M = none) (kk : K 0 μ ν) : Am l G M pc lv [] μ ν K :=
  z_ret hd hty (by cases h : (zrm M).cells <;> rfl) (by cases h : (zrm M).slots <;> rfl) ⟨μ, ν, rfl, kk⟩
theorem z_ble0 {a b c : Nat} (h : c = 0) (ha : a = 0) : Nat.ble (a + c) b = true := by subst h; subst ha; cases b <;> rfl
theorem m_callV {ty : FieldType} (hd : decode (zcc M) pc = .ok (.invokevirtual idx, 3)) (hk : zKV (zy M).cls idx M' n) (hR : zR M M') (hrt : zrt M' = some ty) (hz : (zrm M').cells = 0 ∧ (zrm M').slots = 0) (hn : As.length = n) (hst : st0 = As.reverse ++ .ref b :: st) (hs : zsh[b]? = some (.inr (ci, fs))) (hci : zcl[ci]?.map (fun q => q.1) = some (zy M').cls) (h8 : Nat.ble (st.map fun v => v.category).sum 8 = true)
    (hC : Cm l G M' (.ref b :: As) μ ν K') (kk : ∀ r μ' ν', K' r μ' ν' → Am l G M (pc + 3) lv (.int r :: st) μ' ν' K) : Am l G M pc lv st0 μ ν K :=
  z_callV hd hk hR hrt hn hst (wd_get hs) hci h8 (z_ble0 hz.1 rfl) (z_ble0 hz.2 rfl) hC (fun r w' h => by
    obtain ⟨μ', ν', rfl, h⟩ := h
    rw [hz.1, hz.2]
    exact kk r μ' ν' h)
theorem m_callVv (hd : decode (zcc M) pc = .ok (.invokevirtual idx, 3)) (hk : zKV (zy M).cls idx M' n) (hR : zR M M') (hrt : zrt M' = none) (hz : (zrm M').cells = 0 ∧ (zrm M').slots = 0) (hn : As.length = n) (hst : st0 = As.reverse ++ .ref b :: st) (hs : zsh[b]? = some (.inr (ci, fs))) (hci : zcl[ci]?.map (fun q => q.1) = some (zy M').cls) (h8 : Nat.ble (st.map fun v => v.category).sum 8 = true)
    (hC : Cm l G M' (.ref b :: As) μ ν K') (kk : ∀ μ' ν', K' 0 μ' ν' → Am l G M (pc + 3) lv st μ' ν' K) : Am l G M pc lv st0 μ ν K :=
  z_callVv hd hk hR hrt hn hst (wd_get hs) hci h8 (z_ble0 hz.1 rfl) (z_ble0 hz.2 rfl) hC (fun w' h => by
    obtain ⟨μ', ν', rfl, h⟩ := h
    rw [hz.1, hz.2]
    exact kk μ' ν' h)
theorem m_callS {ty : FieldType} (hd : decode (zcc M) pc = .ok (.invokestatic idx, 3)) (hk : zKS (zy M).cls idx M' n) (hR : zR M M') (hrt : zrt M' = some ty) (hz : (zrm M').cells = 0 ∧ (zrm M').slots = 0) (hn : As.length = n) (hst : st0 = As.reverse ++ st) (h8 : Nat.ble (st.map fun v => v.category).sum 8 = true)
    (hC : Cm l G M' As μ ν K') (kk : ∀ r μ' ν', K' r μ' ν' → Am l G M (pc + 3) lv (.int r :: st) μ' ν' K) : Am l G M pc lv st0 μ ν K :=
  z_callS hd hk hR hrt hn hst h8 (z_ble0 hz.1 rfl) (z_ble0 hz.2 rfl) hC (fun r w' h => by
    obtain ⟨μ', ν', rfl, h⟩ := h
    rw [hz.1, hz.2]
    exact kk r μ' ν' h)
theorem m_callSv (hd : decode (zcc M) pc = .ok (.invokestatic idx, 3)) (hk : zKS (zy M).cls idx M' n) (hR : zR M M') (hrt : zrt M' = none) (hz : (zrm M').cells = 0 ∧ (zrm M').slots = 0) (hn : As.length = n) (hst : st0 = As.reverse ++ st) (h8 : Nat.ble (st.map fun v => v.category).sum 8 = true)
    (hC : Cm l G M' As μ ν K') (kk : ∀ μ' ν', K' 0 μ' ν' → Am l G M (pc + 3) lv st μ' ν' K) : Am l G M pc lv st0 μ ν K :=
  z_callSv hd hk hR hrt hn hst h8 (z_ble0 hz.1 rfl) (z_ble0 hz.2 rfl) hC (fun w' h => by
    obtain ⟨μ', ν', rfl, h⟩ := h
    rw [hz.1, hz.2]
    exact kk μ' ν' h)
theorem Am.mono (h : Am l G M pc lv st μ ν K) (hK : ∀ r μ' ν', K r μ' ν' → K' r μ' ν') : Am l G M pc lv st μ ν K' := by
  intro p e s m args below meth c H locs ls Q C R hH hl
  refine h p e s m args below meth c H locs ls Q C (fun H locs cells slots w pc ls a1 a2 a3 => ?_) hH hl
  have up : ∀ v w, zK K v w → zK K' v w := fun v w hq => by
    obtain ⟨μ', ν', e, hq⟩ := hq
    exact ⟨μ', ν', e, hK _ _ _ hq⟩
  have hR := R H locs cells slots w pc ls a1 a2 a3
  exact ⟨fun v ty hq => hR.1 v ty (up _ _ hq), fun hq => hR.2 (up _ _ hq)⟩
/-- a counted loop, from its head: what holds of the next turn's head gives it of this one's -/
theorem m_for {N : Nat} (lv' : Nat → List (Nat × Value)) (μ' : Nat → Mem) (hstep : ∀ i, i < N → Am l G M pc (lv' (i + 1)) [] (μ' (i + 1)) ν K → Am l G M pc (lv' i) [] (μ' i) ν K) (hend : Am l G M pc (lv' N) [] (μ' N) ν K) : ∀ i, i ≤ N → Am l G M pc (lv' i) [] (μ' i) ν K := by
  have h : ∀ d i, i + d = N → Am l G M pc (lv' i) [] (μ' i) ν K := by
    intro d
    induction d with
    | zero => intro i hi; rw [Nat.add_zero] at hi; subst hi; exact hend
    | succ d ih => intro i hi; exact hstep i (by omega) (ih (i + 1) (by omega))
  intro i hi
  exact h (N - i) i (by omega)
end ZMM
theorem sh0 : zsh[0]? = some (.inr (9, [.ref 1, .ref 15, .ref 22, .ref 26, .ref 44, .ref 53, .ref 54, .ref 55, .int 0, .long 0, .int 0])) := rfl
theorem sh1 : zsh[1]? = some (.inr (5, [.ref 2, .ref 9, .ref 13, .ref 14, .int 0, .int 0, .int 0, .int 0, .int 0, .int 0, .int 0])) := rfl
theorem sh2 : zsh[2]? = some (.inr (1, [.ref 3, .ref 4, .ref 5, .ref 6, .ref 7, .ref 8, .int 0])) := rfl
theorem sh3 : zsh[3]? = some (.inl (0, 2, .inl zz)) := rfl
theorem sh4 : zsh[4]? = some (.inl (0, 2, .inl zz)) := rfl
theorem sh5 : zsh[5]? = some (.inl (0, 6, .inl zz)) := rfl
theorem sh6 : zsh[6]? = some (.inl (0, 6, .inl zz)) := rfl
theorem sh7 : zsh[7]? = some (.inl (0, 6, .inl zz)) := rfl
theorem sh8 : zsh[8]? = some (.inl (0, 6, .inl zz)) := rfl
theorem sh9 : zsh[9]? = some (.inr (4, [.ref 10, .ref 11, .ref 12, .int 0, .int 0])) := rfl
theorem sh10 : zsh[10]? = some (.inl (0, 6, .inl zz)) := rfl
theorem sh11 : zsh[11]? = some (.inl (0, 6, .inl zz)) := rfl
theorem sh12 : zsh[12]? = some (.inl (0, 6, .inl zz)) := rfl
theorem sh13 : zsh[13]? = some (.inl (0, 250, .inl zz)) := rfl
theorem sh14 : zsh[14]? = some (.inl (0, 2, .inl zz)) := rfl
theorem sh15 : zsh[15]? = some (.inr (1, [.ref 16, .ref 17, .ref 18, .ref 19, .ref 20, .ref 21, .int 0])) := rfl
theorem sh16 : zsh[16]? = some (.inl (0, 2, .inl zz)) := rfl
theorem sh17 : zsh[17]? = some (.inl (0, 2, .inl zz)) := rfl
theorem sh18 : zsh[18]? = some (.inl (0, 6, .inl zz)) := rfl
theorem sh19 : zsh[19]? = some (.inl (0, 6, .inl zz)) := rfl
theorem sh20 : zsh[20]? = some (.inl (0, 6, .inl zz)) := rfl
theorem sh21 : zsh[21]? = some (.inl (0, 6, .inl zz)) := rfl
theorem sh22 : zsh[22]? = some (.inr (4, [.ref 23, .ref 24, .ref 25, .int 0, .int 0])) := rfl
theorem sh23 : zsh[23]? = some (.inl (0, 6, .inl zz)) := rfl
theorem sh24 : zsh[24]? = some (.inl (0, 6, .inl zz)) := rfl
theorem sh25 : zsh[25]? = some (.inl (0, 6, .inl zz)) := rfl
theorem sh26 : zsh[26]? = some (.inr (0, [.ref 15, .ref 27, .ref 28, .ref 29])) := rfl
theorem sh27 : zsh[27]? = some (.inl (4, 2, .inr (fun j => [some 30, some 34].getD j none))) := rfl
theorem sh28 : zsh[28]? = some (.inl (3, 6, .inr (fun j => [some 38, some 39, some 40, some 41, some 42, some 43].getD j none))) := rfl
theorem sh29 : zsh[29]? = some (.inl (0, 6, .inl zz)) := rfl
theorem sh30 : zsh[30]? = some (.inr (7, [.ref 31, .ref 32, .ref 33, .int 0, .int 0, .int 0, .int 0, .int 0])) := rfl
theorem sh31 : zsh[31]? = some (.inl (0, 2, .inl zz)) := rfl
theorem sh32 : zsh[32]? = some (.inl (0, 2, .inl zz)) := rfl
theorem sh33 : zsh[33]? = some (.inl (0, 2, .inl zz)) := rfl
theorem sh34 : zsh[34]? = some (.inr (7, [.ref 35, .ref 36, .ref 37, .int 0, .int 0, .int 0, .int 0, .int 0])) := rfl
theorem sh35 : zsh[35]? = some (.inl (0, 2, .inl zz)) := rfl
theorem sh36 : zsh[36]? = some (.inl (0, 2, .inl zz)) := rfl
theorem sh37 : zsh[37]? = some (.inl (0, 2, .inl zz)) := rfl
theorem sh38 : zsh[38]? = some (.inr (3, [.int 0, .int 0, .int 0, .int 0, .int 0, .int 0])) := rfl
theorem sh39 : zsh[39]? = some (.inr (3, [.int 0, .int 0, .int 0, .int 0, .int 0, .int 0])) := rfl
theorem sh40 : zsh[40]? = some (.inr (3, [.int 0, .int 0, .int 0, .int 0, .int 0, .int 0])) := rfl
theorem sh41 : zsh[41]? = some (.inr (3, [.int 0, .int 0, .int 0, .int 0, .int 0, .int 0])) := rfl
theorem sh42 : zsh[42]? = some (.inr (3, [.int 0, .int 0, .int 0, .int 0, .int 0, .int 0])) := rfl
theorem sh43 : zsh[43]? = some (.inr (3, [.int 0, .int 0, .int 0, .int 0, .int 0, .int 0])) := rfl
theorem sh44 : zsh[44]? = some (.inr (8, [.ref 15, .ref 22, .ref 26, .ref 45, .ref 49, .int 0, .int 0])) := rfl
theorem sh45 : zsh[45]? = some (.inr (4, [.ref 46, .ref 47, .ref 48, .int 0, .int 0])) := rfl
theorem sh46 : zsh[46]? = some (.inl (0, 6, .inl zz)) := rfl
theorem sh47 : zsh[47]? = some (.inl (0, 6, .inl zz)) := rfl
theorem sh48 : zsh[48]? = some (.inl (0, 6, .inl zz)) := rfl
theorem sh49 : zsh[49]? = some (.inr (6, [.ref 50, .ref 51, .ref 52, .int 0])) := rfl
theorem sh50 : zsh[50]? = some (.inl (0, 6, .inl zz)) := rfl
theorem sh51 : zsh[51]? = some (.inl (0, 6, .inl zz)) := rfl
theorem sh52 : zsh[52]? = some (.inl (0, 6, .inl zz)) := rfl
theorem sh53 : zsh[53]? = some (.inl (2, 2, .inr (fun j => [some 56, some 61].getD j none))) := rfl
theorem sh54 : zsh[54]? = some (.inl (0, 20, .inl zz)) := rfl
theorem sh55 : zsh[55]? = some (.inl (0, 20, .inl zz)) := rfl
theorem sh56 : zsh[56]? = some (.inr (2, [.ref 57, .long 0, .int 0])) := rfl
theorem sh57 : zsh[57]? = some (.inr (4, [.ref 58, .ref 59, .ref 60, .int 0, .int 0])) := rfl
theorem sh58 : zsh[58]? = some (.inl (0, 6, .inl zz)) := rfl
theorem sh59 : zsh[59]? = some (.inl (0, 6, .inl zz)) := rfl
theorem sh60 : zsh[60]? = some (.inl (0, 6, .inl zz)) := rfl
theorem sh61 : zsh[61]? = some (.inr (2, [.ref 62, .long 0, .int 0])) := rfl
theorem sh62 : zsh[62]? = some (.inr (4, [.ref 63, .ref 64, .ref 65, .int 0, .int 0])) := rfl
theorem sh63 : zsh[63]? = some (.inl (0, 6, .inl zz)) := rfl
theorem sh64 : zsh[64]? = some (.inl (0, 6, .inl zz)) := rfl
theorem sh65 : zsh[65]? = some (.inl (0, 6, .inl zz)) := rfl
theorem sh66 : zsh[66]? = some (.inr (10, [.int 0, .ref 67, .int 0, .int 0, .int 0, .int 0, .int 0, .int 0, .int 0, .ref 68, .ref 69, .int 0, .int 0, .int 0, .int 0, .int 0, .ref 70, .int 0, .ref 71, .ref 72, .ref 73, .ref 74, .ref 75, .ref 76, .ref 77, .ref 78, .ref 79, .ref 80, .ref 81, .ref 82, .ref 83, .ref 84, .ref 85, .ref 86, .ref 87, .ref 88, .ref 89, .ref 90, .int 0, .int 0, .ref 91, .ref 92, .ref 93, .ref 94, .ref 95, .int 0, .ref 96])) := rfl
theorem sh67 : zsh[67]? = some (.inl (0, 250, .inl zz)) := rfl
theorem sh68 : zsh[68]? = some (.inl (0, 42, .inl zz)) := rfl
theorem sh69 : zsh[69]? = some (.inl (0, 4, .inl zz)) := rfl
theorem sh70 : zsh[70]? = some (.inl (0, 4, .inl zz)) := rfl
theorem sh71 : zsh[71]? = some (.inl (0, 6, .inl zz)) := rfl
theorem sh72 : zsh[72]? = some (.inl (0, 6, .inl zz)) := rfl
theorem sh73 : zsh[73]? = some (.inl (0, 6, .inl zz)) := rfl
theorem sh74 : zsh[74]? = some (.inl (0, 6, .inl zz)) := rfl
theorem sh75 : zsh[75]? = some (.inl (0, 21, .inl zz)) := rfl
theorem sh76 : zsh[76]? = some (.inl (0, 42, .inl zz)) := rfl
theorem sh77 : zsh[77]? = some (.inl (1, 2, .inl zz)) := rfl
theorem sh78 : zsh[78]? = some (.inl (0, 6, .inl zz)) := rfl
theorem sh79 : zsh[79]? = some (.inl (0, 6, .inl zz)) := rfl
theorem sh80 : zsh[80]? = some (.inl (0, 6, .inl zz)) := rfl
theorem sh81 : zsh[81]? = some (.inl (0, 6, .inl zz)) := rfl
theorem sh82 : zsh[82]? = some (.inl (0, 6, .inl zz)) := rfl
theorem sh83 : zsh[83]? = some (.inl (1, 6, .inl zz)) := rfl
theorem sh84 : zsh[84]? = some (.inl (0, 4, .inl zz)) := rfl
theorem sh85 : zsh[85]? = some (.inl (0, 4, .inl zz)) := rfl
theorem sh86 : zsh[86]? = some (.inl (0, 2, .inl zz)) := rfl
theorem sh87 : zsh[87]? = some (.inl (0, 2, .inl zz)) := rfl
theorem sh88 : zsh[88]? = some (.inl (0, 2, .inl zz)) := rfl
theorem sh89 : zsh[89]? = some (.inl (0, 2, .inl zz)) := rfl
theorem sh90 : zsh[90]? = some (.inl (0, 4, .inl zz)) := rfl
theorem sh91 : zsh[91]? = some (.inl (0, 21, .inl zz)) := rfl
theorem sh92 : zsh[92]? = some (.inl (0, 6, .inl zz)) := rfl
theorem sh93 : zsh[93]? = some (.inl (0, 6, .inl zz)) := rfl
theorem sh94 : zsh[94]? = some (.inl (0, 6, .inl zz)) := rfl
theorem sh95 : zsh[95]? = some (.inl (0, 6, .inl zz)) := rfl
theorem sh96 : zsh[96]? = some (.inl (0, 40, .inl zz)) := rfl
