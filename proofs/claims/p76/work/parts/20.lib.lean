theorem mulb {a b p : Int} (ha : 0 ≤ a ∧ a < p) (hb : 0 ≤ b ∧ b < p) (hp : p < 24) : 0 ≤ a * b ∧ a * b ≤ 484 := by
  refine ⟨Int.mul_nonneg ha.1 hb.1, ?_⟩
  have h1 : a * b ≤ 22 * b := Int.mul_le_mul_of_nonneg_right (by omega) hb.1
  omega
theorem modb {z p : Int} (hp : 0 < p) : 0 ≤ z % p ∧ z % p < p := ⟨Int.emod_nonneg z (by omega), Int.emod_lt_of_pos z hp⟩
theorem tmod_neg {z p : Int} (hp : 0 < p) (h : z.tmod p < 0) : z.tmod p + p = z % p := by
  have h1 := Int.tmod_eq_emod (a := z) (b := p)
  have h2 := modb (z := z) hp
  rw [h1] at h ⊢
  split at h
  · omega
  · split
    · omega
    · have : (p.natAbs : Int) = p := Int.natAbs_of_nonneg (by omega)
      omega
theorem tmod_nn {z p : Int} (hp : 0 < p) (h : ¬ z.tmod p < 0) : z.tmod p = z % p := by
  have h1 := Int.tmod_eq_emod (a := z) (b := p)
  have h2 := modb (z := z) hp
  rw [h1] at h ⊢
  split at h
  · rename_i h3
    rw [if_pos h3]; omega
  · rename_i h3
    have : (p.natAbs : Int) = p := Int.natAbs_of_nonneg (by omega)
    omega
def sm (f : Nat → Int) : Nat → Int
  | 0 => 0
  | n + 1 => sm f n + f n
def ct (P : Nat → Prop) [DecidablePred P] : Nat → Nat
  | 0 => 0
  | n + 1 => ct P n + (if P n then 1 else 0)
theorem sm_b {f : Nat → Int} {a b : Int} (ha : a ≤ 0) (hb : 0 ≤ b) : ∀ (n : Nat), (∀ j, j < n → a ≤ f j ∧ f j ≤ b) → a * n ≤ sm f n ∧ sm f n ≤ b * n
  | 0, _ => by simp [sm]
  | n + 1, h => by
    have ih := sm_b ha hb n (fun j hj => h j (by omega))
    have h1 := h n (by omega)
    show a * ((n : Int) + 1) ≤ sm f n + f n ∧ sm f n + f n ≤ b * ((n : Int) + 1)
    rw [Int.mul_add, Int.mul_add, Int.mul_one, Int.mul_one]
    omega
theorem sm_congr {f g : Nat → Int} : ∀ (n : Nat), (∀ j, j < n → f j = g j) → sm f n = sm g n
  | 0, _ => rfl
  | n + 1, h => by
    show sm f n + f n = sm g n + g n
    rw [sm_congr n (fun j hj => h j (by omega)), h n (by omega)]
theorem ct_le (P : Nat → Prop) [DecidablePred P] : ∀ n, ct P n ≤ n
  | 0 => Nat.le_refl 0
  | n + 1 => by
    have ih := ct_le P n
    show ct P n + _ ≤ n + 1
    split <;> omega
theorem ct_congr {P Q : Nat → Prop} [DecidablePred P] [DecidablePred Q] : ∀ (n : Nat), (∀ j, j < n → (P j ↔ Q j)) → ct P n = ct Q n
  | 0, _ => rfl
  | n + 1, h => by
    show ct P n + _ = ct Q n + _
    rw [ct_congr n (fun j hj => h j (by omega))]
    have h1 := h n (by omega)
    by_cases hq : Q n
    · rw [if_pos hq, if_pos (h1.mpr hq)]
    · rw [if_neg hq, if_neg (fun z => hq (h1.mp z))]
def fillL (f : Nat → Int) (l : List Int) : Nat → List Int
  | 0 => l
  | i + 1 => (fillL f l i).set i (f i)
theorem fillL_len (f : Nat → Int) (l : List Int) : ∀ i, (fillL f l i).length = l.length
  | 0 => rfl
  | i + 1 => by
    show ((fillL f l i).set i (f i)).length = _
    rw [List.length_set, fillL_len f l i]
theorem fillL_ge (f : Nat → Int) (l : List Int) : ∀ i j, i ≤ j → (fillL f l i).getD j 0 = l.getD j 0
  | 0, j, _ => rfl
  | i + 1, j, h => by
    have ih := fillL_ge f l i j (by omega)
    show ((fillL f l i).set i (f i)).getD j 0 = _
    rw [List.getD_eq_getElem?_getD, List.getElem?_set_ne (by omega), ← List.getD_eq_getElem?_getD, ih]
theorem fillL_lt (f : Nat → Int) (l : List Int) : ∀ i j, j < i → j < l.length → (fillL f l i).getD j 0 = f j
  | 0, j, h, _ => absurd h (Nat.not_lt_zero j)
  | i + 1, j, h, hl => by
    show ((fillL f l i).set i (f i)).getD j 0 = _
    by_cases e : j = i
    · subst e
      rw [List.getD_eq_getElem?_getD, List.getElem?_set_self (by rw [fillL_len]; exact hl)]
      rfl
    · rw [List.getD_eq_getElem?_getD, List.getElem?_set_ne (by omega), ← List.getD_eq_getElem?_getD, fillL_lt f l i j (by omega) hl]
def tab (f : Nat → Int) (n : Nat) : List Int := (List.range n).map f
theorem tab_len (f : Nat → Int) (n : Nat) : (tab f n).length = n := by unfold tab; rw [List.length_map, List.length_range]
theorem tab_get (f : Nat → Int) {n j : Nat} (h : j < n) : (tab f n).getD j 0 = f j := by
  unfold tab
  rw [List.getD_eq_getElem?_getD, List.getElem?_map, List.getElem?_range h]
  rfl
theorem list_ext {l l' : List Int} (h : l.length = l'.length) (hg : ∀ j, j < l.length → l.getD j 0 = l'.getD j 0) : l = l' := by
  apply List.ext_getElem h
  intro i h1 h2
  have := hg i h1
  rw [List.getD_eq_getElem?_getD, List.getD_eq_getElem?_getD, List.getElem?_eq_getElem h1, List.getElem?_eq_getElem h2] at this
  exact this
theorem fillL_all {f : Nat → Int} {l : List Int} {n : Nat} (h : l.length = n) : fillL f l n = tab f n := by
  refine list_ext (by rw [fillL_len, tab_len, h]) (fun j hj => ?_)
  rw [fillL_len, h] at hj
  rw [fillL_lt f l n j hj (by omega), tab_get f hj]
theorem tab_self {l : List Int} {n : Nat} (h : l.length = n) : tab (fun j => l.getD j 0) n = l := by
  refine list_ext (by rw [tab_len, h]) (fun j hj => ?_)
  rw [tab_len] at hj
  rw [tab_get _ hj]
theorem tab_congr {f g : Nat → Int} {n : Nat} (h : ∀ j, j < n → f j = g j) : tab f n = tab g n := by
  unfold tab
  exact List.map_congr_left (fun j hj => h j (List.mem_range.mp hj))
theorem hset_self {h : xH} {a : Nat} {c : xC} (hc : h[a]? = some c) : h.set a c = h := by
  apply List.ext_getElem?
  intro i
  by_cases e : i = a
  · subst e
    rw [List.getElem?_set_self (List.getElem?_eq_some_iff.mp hc).1, hc]
  · rw [List.getElem?_set_ne (Ne.symm e)]
theorem hset_ne {h : xH} {a b : Nat} {c x : xC} (hn : a ≠ b) (hc : h[b]? = some x) : (h.set a c)[b]? = some x := by rw [List.getElem?_set_ne hn, hc]
theorem hset_eq {h : xH} {a : Nat} {c x : xC} (hc : h[a]? = some x) : (h.set a c)[a]? = some c := List.getElem?_set_self (List.getElem?_eq_some_iff.mp hc).1
theorem cA_inj {k k' : Nat} {l l' : List Int} (h : cA k l = cA k' l') : k = k' ∧ l = l' := by
  have h1 := Sum.inl.inj h
  exact ⟨congrArg Prod.fst h1, congrArg Prod.snd h1⟩
/-- a row that may be the one that is being made -/
theorem hset_al {h : xH} {a t : Nat} {l lt : List Int} {f : Nat → Int} {i : Nat} (hr : h[a]? = some (cA 0 l)) (ht : h[t]? = some (cA 0 lt)) : ∃ l', (h.set t (cA 0 (fillL f lt i)))[a]? = some (cA 0 l') ∧ l'.length = l.length ∧ ∀ j, i ≤ j → l'.getD j 0 = l.getD j 0 := by
  by_cases e : t = a
  · subst e
    have e1 := (cA_inj (Option.some.inj (hr.symm.trans ht))).2
    subst e1
    exact ⟨_, hset_eq ht, fillL_len f _ i, fun j hj => fillL_ge f _ i j hj⟩
  · exact ⟨l, hset_ne e hr, rfl, fun _ _ => rfl⟩
def Fl (p : Int) (l : List Int) : Prop := l.length = 8 ∧ ∀ j, 0 ≤ l.getD j 0 ∧ l.getD j 0 < p
theorem Fl_tab {p : Int} {f : Nat → Int} (hp : 0 < p) (h : ∀ j, j < 8 → 0 ≤ f j ∧ f j < p) : Fl p (tab f 8) := by
  refine ⟨tab_len f 8, fun j => ?_⟩
  by_cases hj : j < 8
  · rw [tab_get f hj]; exact h j hj
  · rw [List.getD_eq_getElem?_getD, List.getElem?_eq_none (by rw [tab_len]; omega)]
    exact ⟨Int.le_refl 0, hp⟩
def dg (f : Nat → Int) : Nat → Int
  | 0 => -1
  | n + 1 => if f n ≠ 0 then (n : Int) else dg f n
theorem dg_b (f : Nat → Int) : ∀ n, -1 ≤ dg f n ∧ dg f n < n
  | 0 => by simp [dg]
  | n + 1 => by
    have ih := dg_b f n
    unfold dg
    split <;> omega
theorem ct_yes {P : Nat → Prop} [DecidablePred P] {n : Nat} (h : P n) : ct P (n + 1) = ct P n + 1 := by show ct P n + _ = _; rw [if_pos h]
theorem ct_no {P : Nat → Prop} [DecidablePred P] {n : Nat} (h : ¬ P n) : ct P (n + 1) = ct P n := by show ct P n + _ = _; rw [if_neg h]; rfl
theorem ct_pos {P : Nat → Prop} [DecidablePred P] : ∀ {n : Nat}, 0 < ct P n → ∃ j, j < n ∧ P j
  | 0, h => absurd h (Nat.lt_irrefl 0)
  | n + 1, h => by
    by_cases q : P n
    · exact ⟨n, by omega, q⟩
    · rw [ct_no q] at h
      obtain ⟨j, h1, h2⟩ := ct_pos h
      exact ⟨j, by omega, h2⟩
def hor (f : Nat → Int) (p x : Int) : Nat → Int
  | 0 => 0
  | t + 1 => (hor f p x t * x + f (7 - t)) % p
theorem hor_b {f : Nat → Int} {p x : Int} (hp : 0 < p) : ∀ t, 0 ≤ hor f p x t ∧ hor f p x t < p
  | 0 => ⟨Int.le_refl 0, hp⟩
  | t + 1 => modb hp
theorem ne_AO {h : xH} {a b k c : Nat} {l : List Int} {fs : List Value} (h1 : h[a]? = some (cA k l)) (h2 : h[b]? = some (cO c fs)) : a ≠ b := by
  intro e
  subst e
  have h3 := Option.some.inj (h1.symm.trans h2)
  unfold cA cO at h3
  cases h3
theorem ne_AQ {h : xH} {a b k c : Nat} {l : List Int} {fs : List (Option Nat)} (h1 : h[a]? = some (cA k l)) (h2 : h[b]? = some (cQ c fs)) : a ≠ b := by
  intro e
  subst e
  have h3 := Option.some.inj (h1.symm.trans h2)
  unfold cA cQ at h3
  cases h3
def PR : List Nat := [3, 5, 7, 11, 13, 17, 19, 23]
theorem PRb : ∀ {p : Nat}, p ∈ PR → 2 < p ∧ p < 24 := fun {p} h => by
  have h1 : ∀ p ∈ PR, 2 < p ∧ p < 24 := by decide
  exact h1 p h
def iv (p a : Nat) : Nat := a ^ (p - 2) % p
theorem iv_ok0 : ∀ p ∈ PR, ∀ a ∈ List.range p, 0 < a → (a * iv p a) % p = 1 ∧ iv p a < p ∧ 0 < iv p a := by decide +kernel
theorem iv_un0 : ∀ p ∈ PR, ∀ a ∈ List.range p, ∀ b ∈ List.range p, (a * b) % p = 1 → b = iv p a := by decide +kernel
theorem iv_ok {p a : Nat} (hp : p ∈ PR) (ha : a < p) (h0 : 0 < a) : (a * iv p a) % p = 1 ∧ iv p a < p ∧ 0 < iv p a := iv_ok0 p hp a (List.mem_range.mpr ha) h0
theorem iv_un {p a b : Nat} (hp : p ∈ PR) (ha : a < p) (hb : b < p) (h : (a * b) % p = 1) : b = iv p a := iv_un0 p hp a (List.mem_range.mpr ha) b (List.mem_range.mpr hb) h
theorem mulb2 {a b p : Int} (ha : -p < a ∧ a < p) (hb : 0 ≤ b ∧ b < p) (hp : p < 24) : -528 ≤ a * b ∧ a * b ≤ 528 := by
  have h1 : a * b ≤ 23 * b := Int.mul_le_mul_of_nonneg_right (by omega) hb.1
  have h2 : (-23) * b ≤ a * b := Int.mul_le_mul_of_nonneg_right (by omega) hb.1
  omega
theorem hset_fr {h : xH} {a i : Nat} {c : xC} (hn : i ≠ a) : (h.set a c)[i]? = h[i]? := List.getElem?_set_ne (Ne.symm hn)
/-- h2 is h but for the cells of l -/
def Fr (l : List Nat) (h h2 : xH) : Prop := h2.length = h.length ∧ ∀ i, i ∉ l → h2[i]? = h[i]?
theorem Fr.rf (l : List Nat) (h : xH) : Fr l h h := ⟨rfl, fun _ _ => rfl⟩
theorem Fr.set {l : List Nat} {h h2 : xH} {a : Nat} {c : xC} (f : Fr l h h2) (ha : a ∈ l) : Fr l h (h2.set a c) := ⟨by rw [List.length_set]; exact f.1, fun i hi => by rw [hset_fr (fun e => hi (by rw [e]; exact ha))]; exact f.2 i hi⟩
theorem Fr.tr {l : List Nat} {h h2 h3 : xH} (f : Fr l h h2) (g : Fr l h2 h3) : Fr l h h3 := ⟨g.1.trans f.1, fun i hi => (g.2 i hi).trans (f.2 i hi)⟩
theorem Fr.mono {l l' : List Nat} {h h2 : xH} (f : Fr l h h2) (hs : ∀ i, i ∈ l → i ∈ l') : Fr l' h h2 := ⟨f.1, fun i hi => f.2 i (fun q => hi (hs i q))⟩
theorem Fr.get {l : List Nat} {h h2 : xH} {i : Nat} {c : xC} (f : Fr l h h2) (hi : i ∉ l) (hc : h[i]? = some c) : h2[i]? = some c := (f.2 i hi).trans hc
theorem mulg {a b m n : Int} (ha : 0 ≤ a ∧ a ≤ m) (hb : 0 ≤ b ∧ b ≤ n) : 0 ≤ a * b ∧ a * b ≤ m * n := ⟨Int.mul_nonneg ha.1 hb.1, Int.mul_le_mul ha.2 hb.2 hb.1 (by omega)⟩
theorem Fl.mono {p q : Int} {l : List Int} (h : Fl p l) (hq : p ≤ q) : Fl q l := ⟨h.1, fun j => ⟨(h.2 j).1, Int.lt_of_lt_of_le (h.2 j).2 hq⟩⟩
