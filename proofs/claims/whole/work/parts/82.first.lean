def zWA : List zC := (.inr (9, [.ref 1, .ref 15, .ref 22, .ref 26, .ref 44, .ref 53, .ref 54, .ref 55, .int 0, .long 0, .int (-1)]) :: .inr (5, [.ref 2, .ref 9, .ref 13, .ref 14, .int 0, .int 0, .int (-1), .int 0, .int 0, .int 0, .int 0]) :: .inr (1, [.ref 3, .ref 4, .ref 5, .ref 6, .ref 7, .ref 8, .int 0]) :: .inl (0, 2, .inl (upd (upd zz 0 2) 1 2)) :: .inl (0, 2, .inl (upd (upd zz 0 3) 1 3)) :: .inl (0, 6, .inl zz) :: .inl (0, 6, .inl zz) :: .inl (0, 6, .inl zz) :: .inl (0, 6, .inl zz) :: .inr (4, [.ref 10, .ref 11, .ref 12, .int 0, .int 9]) :: .inl (0, 6, .inl zz) :: .inl (0, 6, .inl zz) :: .inl (0, 6, .inl zz) :: .inl (0, 250, .inl zz) :: .inl (0, 2, .inl zz) :: .inr (1, [.ref 16, .ref 17, .ref 18, .ref 19, .ref 20, .ref 21, .int 0]) :: .inl (0, 2, .inl (upd (upd zz 0 2) 1 2)) :: .inl (0, 2, .inl (upd (upd zz 0 3) 1 3)) :: .inl (0, 6, .inl zz) :: .inl (0, 6, .inl zz) :: .inl (0, 6, .inl zz) :: .inl (0, 6, .inl zz) :: .inr (4, [.ref 23, .ref 24, .ref 25, .int 0, .int 9]) :: .inl (0, 6, .inl zz) :: .inl (0, 6, .inl zz) :: .inl (0, 6, .inl zz) :: .inr (0, [.ref 15, .ref 27, .ref 28, .ref 29]) :: .inl (4, 2, .inr (va_up (va_up (fun _ => none) 0 (some (30))) 1 (some (34)))) :: .inl (3, 6, .inr (va_up (va_up (va_up (va_up (va_up (va_up (fun _ => none) 0 (some (38))) 1 (some (39))) 2 (some (40))) 3 (some (41))) 4 (some (42))) 5 (some (43)))) :: .inl (0, 6, .inl zz) :: .inr (7, [.ref 31, .ref 32, .ref 33, .int 0, .int 0, .int 0, .int 0, .int 0]) :: .inl (0, 2, .inl zz) :: .inl (0, 2, .inl zz) :: .inl (0, 2, .inl zz) :: .inr (7, [.ref 35, .ref 36, .ref 37, .int 0, .int 0, .int 0, .int 0, .int 0]) :: .inl (0, 2, .inl zz) :: .inl (0, 2, .inl zz) :: .inl (0, 2, .inl zz) :: .inr (3, [.int 0, .int 0, .int 0, .int 0, .int 0, .int 0]) :: .inr (3, [.int 0, .int 0, .int 0, .int 0, .int 0, .int 0]) :: .inr (3, [.int 0, .int 0, .int 0, .int 0, .int 0, .int 0]) :: .inr (3, [.int 0, .int 0, .int 0, .int 0, .int 0, .int 0]) :: .inr (3, [.int 0, .int 0, .int 0, .int 0, .int 0, .int 0]) :: .inr (3, [.int 0, .int 0, .int 0, .int 0, .int 0, .int 0]) :: .inr (8, [.ref 15, .ref 22, .ref 26, .ref 45, .ref 49, .int 0, .int 0]) :: .inr (4, [.ref 46, .ref 47, .ref 48, .int 0, .int 9]) :: .inl (0, 6, .inl zz) :: .inl (0, 6, .inl zz) :: .inl (0, 6, .inl zz) :: .inr (6, [.ref 50, .ref 51, .ref 52, .int 0]) :: .inl (0, 6, .inl zz) :: .inl (0, 6, .inl zz) :: .inl (0, 6, .inl zz) :: .inl (2, 2, .inr (va_up (va_up (fun _ => none) 0 (some (56))) 1 (some (61)))) :: .inl (0, 20, .inl zz) :: .inl (0, 20, .inl zz) :: .inr (2, [.ref 57, .long 0, .int 0]) :: .inr (4, [.ref 58, .ref 59, .ref 60, .int 0, .int 9]) :: .inl (0, 6, .inl zz) :: .inl (0, 6, .inl zz) :: .inl (0, 6, .inl zz) :: .inr (2, [.ref 62, .long 0, .int 0]) :: .inr (4, [.ref 63, .ref 64, .ref 65, .int 0, .int 9]) :: .inl (0, 6, .inl zz) :: .inl (0, 6, .inl zz) :: .inl (0, 6, .inl zz) :: [] : List zC)
def zWB : List zC := (.inr (10, [.int 0, .ref 67, .int 0, .int 0, .int 0, .int 0, .int (-1), .int 0, .int 0, .ref 68, .ref 69, .int 0, .int 0, .int 0, .int 0, .int 0, .ref 70, .int 0, .ref 71, .ref 72, .ref 73, .ref 74, .ref 75, .ref 76, .ref 77, .ref 78, .ref 79, .ref 80, .ref 81, .ref 82, .ref 83, .ref 84, .ref 85, .ref 86, .ref 87, .ref 88, .ref 89, .ref 90, .int 0, .int 0, .ref 91, .ref 92, .ref 93, .ref 94, .ref 95, .int 0, .ref 96]) :: .inl (0, 250, .inl zz) :: .inl (0, 42, .inl zz) :: .inl (0, 4, .inl zz) :: .inl (0, 4, .inl (upd (upd (upd (upd zz 0 2) 1 3) 2 2) 3 3)) :: .inl (0, 6, .inl zz) :: .inl (0, 6, .inl zz) :: .inl (0, 6, .inl zz) :: .inl (0, 6, .inl zz) :: .inl (0, 21, .inl (upd zz 19 9)) :: .inl (0, 42, .inl zz) :: .inl (1, 2, .inl zz) :: .inl (0, 6, .inl zz) :: .inl (0, 6, .inl zz) :: .inl (0, 6, .inl zz) :: .inl (0, 6, .inl zz) :: .inl (0, 6, .inl zz) :: .inl (1, 6, .inl zz) :: .inl (0, 4, .inl zz) :: .inl (0, 4, .inl zz) :: .inl (0, 2, .inl zz) :: .inl (0, 2, .inl zz) :: .inl (0, 2, .inl zz) :: .inl (0, 2, .inl zz) :: .inl (0, 4, .inl zz) :: .inl (0, 21, .inl zz) :: .inl (0, 6, .inl zz) :: .inl (0, 6, .inl zz) :: .inl (0, 6, .inl zz) :: .inl (0, 6, .inl zz) :: .inl (0, 40, .inl zz) :: [] : List zC)
def zM0 : Mem := fun k => if k = 0 then (fun j => if j = 10 then -1 else 0) else if k = 1 then (fun j => if j = 6 then -1 else 0) else if k = 3 then upd (upd zz 0 2) 1 2 else if k = 4 then upd (upd zz 0 3) 1 3 else if k = 9 then (fun j => if j = 4 then 9 else 0) else if k = 16 then upd (upd zz 0 2) 1 2 else if k = 17 then upd (upd zz 0 3) 1 3 else if k = 22 then (fun j => if j = 4 then 9 else 0) else if k = 45 then (fun j => if j = 4 then 9 else 0) else if k = 57 then (fun j => if j = 4 then 9 else 0) else if k = 62 then (fun j => if j = 4 then 9 else 0) else if k = 66 then (fun j => if j = 6 then -1 else 0) else if k = 70 then upd (upd (upd (upd zz 0 2) 1 3) 2 2) 3 3 else if k = 75 then upd zz 19 9 else zz
def zN0 : Lng := fun _ => 0
theorem zf27 : (va_up (va_up (fun _ => none) 0 (some (30))) 1 (some (34))) = (fun j => [some 30, some 34].getD j none) := by
  funext j
  rcases (show j = 0 ∨ j = 1 ∨ 2 ≤ j by omega) with rfl | rfl | h
  · rfl
  · rfl
  · obtain ⟨i, rfl⟩ : ∃ i, j = i + 2 := ⟨j - 2, by omega⟩
    rfl
theorem zf28 : (va_up (va_up (va_up (va_up (va_up (va_up (fun _ => none) 0 (some (38))) 1 (some (39))) 2 (some (40))) 3 (some (41))) 4 (some (42))) 5 (some (43))) = (fun j => [some 38, some 39, some 40, some 41, some 42, some 43].getD j none) := by
  funext j
  rcases (show j = 0 ∨ j = 1 ∨ j = 2 ∨ j = 3 ∨ j = 4 ∨ j = 5 ∨ 6 ≤ j by omega) with rfl | rfl | rfl | rfl | rfl | rfl | h
  · rfl
  · rfl
  · rfl
  · rfl
  · rfl
  · rfl
  · obtain ⟨i, rfl⟩ : ∃ i, j = i + 6 := ⟨j - 6, by omega⟩
    rfl
theorem zf53 : (va_up (va_up (fun _ => none) 0 (some (56))) 1 (some (61))) = (fun j => [some 56, some 61].getD j none) := by
  funext j
  rcases (show j = 0 ∨ j = 1 ∨ 2 ≤ j by omega) with rfl | rfl | h
  · rfl
  · rfl
  · obtain ⟨i, rfl⟩ : ∃ i, j = i + 2 := ⟨j - 2, by omega⟩
    rfl
theorem zW_first : zWA ++ zWB = wd zM0 zN0 := by
  unfold zWA
  rw [zf27, zf28, zf53]
  rfl

theorem zRel_first : zRel zM0 zN0 zM0 0 := by
  refine ⟨by decide, rfl, rfl, ⟨fun w hw => absurd hw (Nat.not_lt_zero w), fun w hw => absurd hw (Nat.not_lt_zero w), fun a ha => ?_⟩, ⟨fun w hw => absurd hw (Nat.not_lt_zero w), rfl, rfl⟩, ⟨fun w hw => absurd hw (Nat.not_lt_zero w), ⟨0, by decide, rfl⟩, ⟨9, by decide, rfl⟩⟩, ⟨0, by decide, rfl, rfl, fun i hi => absurd hi (Nat.not_lt_zero i)⟩, rfl, ⟨0, by decide, rfl, rfl, fun i hi => absurd hi (Nat.not_lt_zero i)⟩, ⟨0, by decide, rfl, rfl⟩, Or.inl ⟨rfl, rfl⟩, Or.inl ⟨rfl, rfl⟩⟩
  rcases (show a = 0 ∨ a = 1 by omega) with rfl | rfl
  · exact ⟨rfl, rfl, ⟨2, by decide, by decide, rfl⟩, ⟨3, by decide, rfl⟩⟩
  · exact ⟨rfl, rfl, ⟨2, by decide, by decide, rfl⟩, ⟨3, by decide, rfl⟩⟩
