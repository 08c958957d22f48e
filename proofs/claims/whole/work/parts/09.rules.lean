
section ZR2
variable {l : Launch} {G : zG} {M : zM} {pc : Nat} {lv : List (Nat × Value)} {st : List Value} {μ : Mem} {ν : Lng} {K : Int32 → Mem → Lng → Prop} {k t n q j : Nat}
theorem nI_lt_in {i : Int32} (hi : i = nI j) (hj : j < n) (hn : Nat.blt n 2147483648 = true) : vp_in i n := by rw [hi]; exact vp_in_nI hj (Nat.blt_eq.mp hn)
theorem nI_cl {i : Int32} (hi : i = nI j) (hj : j < n) (hn : Nat.blt n 2147483648 = true) : i.toNatClampNeg = j := by rw [hi]; exact nI_clamp (Nat.lt_trans hj (Nat.blt_eq.mp hn))
theorem m_ialdN {g : Nat → Int32} {i : Int32} (hd : decode (zcc M) pc = .ok (.iaload, 1)) (hs : zsh[k]? = some (.inl (0, n, .inl g))) (hi : i = nI j) (hj : j < n) (hn : Nat.blt n 2147483648 = true) (kk : Am l G M (pc + 1) lv (.int (μ k j) :: st) μ ν K) : Am l G M pc lv (.int i :: .ref k :: st) μ ν K :=
  m_iald hd hs (nI_lt_in hi hj hn) (by rw [nI_cl hi hj hn]; exact kk)
theorem m_zaldN {g : Nat → Int32} {i : Int32} (hd : decode (zcc M) pc = .ok (.baload, 1)) (hs : zsh[k]? = some (.inl (1, n, .inl g))) (hi : i = nI j) (hj : j < n) (hn : Nat.blt n 2147483648 = true) (kk : Am l G M (pc + 1) lv (.int (μ k j) :: st) μ ν K) : Am l G M pc lv (.int i :: .ref k :: st) μ ν K :=
  m_zald hd hs (nI_lt_in hi hj hn) (by rw [nI_cl hi hj hn]; exact kk)
theorem m_oald {i : Int32} (hd : decode (zcc M) pc = .ok (.iaload, 1)) (hi : i = nI j) (hj : j < 7) (kk : Am l G M (pc + 1) lv (.int (zord j) :: st) μ ν K) : Am l G M pc lv (.int i :: .retAddr 0 :: st) μ ν K :=
  z_oald hd (nI_lt_in hi hj rfl) (by rw [nI_cl hi hj rfl]; exact kk)
theorem m_sald {i : Int32} (hd : decode (zcc M) pc = .ok (.iaload, 1)) (hi : i = nI j) (hj : j < zgL G) (hn : zgL G < 2147483648) (kk : Am l G M (pc + 1) lv (.int (zgx G j) :: st) μ ν K) : Am l G M pc lv (.int i :: .retAddr 1 :: st) μ ν K :=
  z_sald hd (nI_lt_in hi hj (Nat.blt_eq.mpr hn)) (by rw [nI_cl hi hj (Nat.blt_eq.mpr hn)]; exact kk)
theorem m_iastN {g : Nat → Int32} {i x : Int32} (hd : decode (zcc M) pc = .ok (.iastore, 1)) (hs : zsh[k]? = some (.inl (0, n, .inl g))) (hi : i = nI j) (hj : j < n) (hn : Nat.blt n 2147483648 = true) (kk : Am l G M (pc + 1) lv st (up2 μ k j x) ν K) : Am l G M pc lv (.int x :: .int i :: .ref k :: st) μ ν K :=
  m_iast hd hs (nI_lt_in hi hj hn) (by rw [nI_cl hi hj hn]; exact kk)
theorem m_zastN {g : Nat → Int32} {i x : Int32} (hd : decode (zcc M) pc = .ok (.bastore, 1)) (hs : zsh[k]? = some (.inl (1, n, .inl g))) (hi : i = nI j) (hj : j < n) (hn : Nat.blt n 2147483648 = true) (hx : narrow .boolean (.int x) = .int x) (kk : Am l G M (pc + 1) lv st (up2 μ k j x) ν K) : Am l G M pc lv (.int x :: .int i :: .ref k :: st) μ ν K :=
  m_zast hd hs (nI_lt_in hi hj hn) hx (by rw [nI_cl hi hj hn]; exact kk)
theorem m_aaldN {f : Nat → Option Nat} {C0 : String} {i : Int32} (hd : decode (zcc M) pc = .ok (.aaload, 1)) (hs : zsh[k]? = some (.inl (t, n, .inr f))) (ht : (ztys (zgt G))[t]? = some (zgt G t, .object C0)) (hi : i = nI j) (hj : j < n) (hn : Nat.blt n 2147483648 = true) (hf : f j = some q) (kk : Am l G M (pc + 1) lv (.ref q :: st) μ ν K) : Am l G M pc lv (.int i :: .ref k :: st) μ ν K :=
  m_aald hd hs ht (nI_lt_in hi hj hn) (by rw [nI_cl hi hj hn]; exact hf) kk
theorem z_lv {w : List zC} {cs ss : Nat} {K : Int32 → List zC → Prop} {lv' : List (Nat × Value)} (ks : List Nat) (h : lv_pick lv ks = lv') (kk : AW l G M pc lv' st w cs ss K) : AW l G M pc lv st w cs ss K := by
  intro p e s m args below meth c H locs ls Q C R hH hl
  refine kk p e s m args below meth c H locs ls Q C R hH ⟨hl.1, hl.2.1, fun q hq => ?_⟩
  obtain ⟨a, ha, rfl⟩ := List.mem_map.mp hq
  rw [← h] at ha
  obtain ⟨i, -, hi⟩ := List.mem_filterMap.mp ha
  exact hl.2.2 _ (List.mem_map.mpr ⟨a, List.mem_of_getElem? hi, rfl⟩)
end ZR2
def zSwing (k : Nat) : Prop := zsh[k]? = some (.inr (7, [.ref (k + 1), .ref (k + 2), .ref (k + 3), .int 0, .int 0, .int 0, .int 0, .int 0])) ∧ zsh[k + 1]? = some (.inl (0, 2, .inl zz)) ∧ zsh[k + 2]? = some (.inl (0, 2, .inl zz)) ∧ zsh[k + 3]? = some (.inl (0, 2, .inl zz))
def zPas (k : Nat) : Prop := zsh[k]? = some (.inr (3, [.int 0, .int 0, .int 0, .int 0, .int 0, .int 0]))
def zPlan (k : Nat) : Prop := zsh[k]? = some (.inr (4, [.ref (k + 1), .ref (k + 2), .ref (k + 3), .int 0, .int 0])) ∧ zsh[k + 1]? = some (.inl (0, 6, .inl zz)) ∧ zsh[k + 2]? = some (.inl (0, 6, .inl zz)) ∧ zsh[k + 3]? = some (.inl (0, 6, .inl zz))
def zHouse (k : Nat) : Prop := zsh[k]? = some (.inr (1, [.ref (k + 1), .ref (k + 2), .ref (k + 3), .ref (k + 4), .ref (k + 5), .ref (k + 6), .int 0])) ∧ zsh[k + 1]? = some (.inl (0, 2, .inl zz)) ∧ zsh[k + 2]? = some (.inl (0, 2, .inl zz)) ∧ zsh[k + 3]? = some (.inl (0, 6, .inl zz)) ∧ zsh[k + 4]? = some (.inl (0, 6, .inl zz)) ∧ zsh[k + 5]? = some (.inl (0, 6, .inl zz)) ∧ zsh[k + 6]? = some (.inl (0, 6, .inl zz))
def zImage (k : Nat) : Prop := zsh[k]? = some (.inr (2, [.ref (k + 1), .long 0, .int 0])) ∧ zPlan (k + 1)
theorem zSwing_of (i : Nat) (h : i < 2) : zSwing (30 + 4 * i) := by
  match i, h with
  | 0, _ => exact ⟨rfl, rfl, rfl, rfl⟩
  | 1, _ => exact ⟨rfl, rfl, rfl, rfl⟩
theorem zPas_of (i : Nat) (h : i < 6) : zPas (38 + i) := by
  match i, h with
  | 0, _ => exact rfl
  | 1, _ => exact rfl
  | 2, _ => exact rfl
  | 3, _ => exact rfl
  | 4, _ => exact rfl
  | 5, _ => exact rfl
theorem zImage_of (i : Nat) (h : i < 2) : zImage (56 + 5 * i) := by
  match i, h with
  | 0, _ => exact ⟨rfl, rfl, rfl, rfl, rfl⟩
  | 1, _ => exact ⟨rfl, rfl, rfl, rfl, rfl⟩
theorem zPlan9 : zPlan 9 := ⟨rfl, rfl, rfl, rfl⟩
theorem zPlan22 : zPlan 22 := ⟨rfl, rfl, rfl, rfl⟩
theorem zPlan45 : zPlan 45 := ⟨rfl, rfl, rfl, rfl⟩
theorem zHouse2 : zHouse 2 := ⟨rfl, rfl, rfl, rfl, rfl, rfl, rfl⟩
theorem zHouse15 : zHouse 15 := ⟨rfl, rfl, rfl, rfl, rfl, rfl, rfl⟩
theorem zSwing_row (i : Nat) (h : i < 2) : (fun j => [some 30, some 34].getD j none) i = some (30 + 4 * i) := by
  match i, h with
  | 0, _ => rfl
  | 1, _ => rfl
theorem zPas_row (i : Nat) (h : i < 6) : (fun j => [some 38, some 39, some 40, some 41, some 42, some 43].getD j none) i = some (38 + i) := by
  match i, h with
  | 0, _ => rfl
  | 1, _ => rfl
  | 2, _ => rfl
  | 3, _ => rfl
  | 4, _ => rfl
  | 5, _ => rfl
theorem zImage_row (i : Nat) (h : i < 2) : (fun j => [some 56, some 61].getD j none) i = some (56 + 5 * i) := by
  match i, h with
  | 0, _ => rfl
  | 1, _ => rfl
/-- a truth value as an int -/
def zb (c : Prop) [Decidable c] : Int32 := if c then 1 else 0
