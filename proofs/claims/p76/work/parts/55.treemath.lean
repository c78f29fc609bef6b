theorem way_top0 {r : Nat → Int} {i : Nat} (hi : i < 8) : ws i (r i) (gs r (bsd i 0)) (gs r (bsd i 1)) (gs r (bsd i 2)) 3 = gs r 1 := by
  have : i = 0 ∨ i = 1 ∨ i = 2 ∨ i = 3 ∨ i = 4 ∨ i = 5 ∨ i = 6 ∨ i = 7 := by omega
  rcases this with rfl | rfl | rfl | rfl | rfl | rfl | rfl | rfl <;> rfl
theorem wq_s {i k : Nat} {v a b c v2 a2 b2 c2 : Int} (h : (wq i v a b c (k + 1)).1 = (wq i v2 a2 b2 c2 (k + 1)).1 ∧ (wq i v a b c (k + 1)).2 = (wq i v2 a2 b2 c2 (k + 1)).2) : ws i v a b c k = ws i v2 a2 b2 c2 k := by
  unfold wq at h
  dsimp only at h
  by_cases q : i / 2 ^ k % 2 = 0
  · rw [if_pos q, if_pos q] at h
    exact h.1
  · rw [if_neg q, if_neg q] at h
    exact h.2
abbrev brkP (i : Nat) (v a b c v2 a2 b2 c2 : Int) (j : Nat) : Prop := ws i v a b c j = ws i v2 a2 b2 c2 j ∧ ¬ ((wq i v a b c j).1 = (wq i v2 a2 b2 c2 j).1 ∧ (wq i v a b c j).2 = (wq i v2 a2 b2 c2 j).2)
theorem ff_none {P : Nat → Prop} [DecidablePred P] : ∀ (n i : Nat), ff P i n = -1 → ∀ j, i ≤ j → j < i + n → ¬ P j
  | 0, i, _, j, h1, h2 => by omega
  | n + 1, i, h, j, h1, h2 => by
    by_cases c : P i
    · rw [ff_y c] at h; omega
    · rw [ff_n c] at h
      by_cases e : j = i
      · rw [e]; exact c
      · exact ff_none n (i + 1) h j (by omega) (by omega)
/-- two ways to one top that are unlike part somewhere -/
theorem ways_part {i : Nat} {v a b c v2 a2 b2 c2 : Int} (ht : ws i v a b c 3 = ws i v2 a2 b2 c2 3) (hf : ff (brkP i v a b c v2 a2 b2 c2) 0 4 = -1) : ∀ j, j < 4 → (wq i v a b c j).1 = (wq i v2 a2 b2 c2 j).1 ∧ (wq i v a b c j).2 = (wq i v2 a2 b2 c2 j).2 := by
  have no := ff_none 4 0 hf
  have st : ∀ j, j < 4 → ws i v a b c j = ws i v2 a2 b2 c2 j → (wq i v a b c j).1 = (wq i v2 a2 b2 c2 j).1 ∧ (wq i v a b c j).2 = (wq i v2 a2 b2 c2 j).2 := fun j hj q => Decidable.byContradiction fun z => no j (by omega) (by omega) ⟨q, z⟩
  have e3 := st 3 (by omega) ht
  have e2 := st 2 (by omega) (wq_s e3)
  have e1 := st 1 (by omega) (wq_s e2)
  have e0 := st 0 (by omega) (wq_s e1)
  intro j hj
  have : j = 0 ∨ j = 1 ∨ j = 2 ∨ j = 3 := by omega
  rcases this with rfl | rfl | rfl | rfl
  · exact e0
  · exact e1
  · exact e2
  · exact e3
