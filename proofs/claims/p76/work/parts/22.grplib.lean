def gq : Nat → Nat
  | 3 => 7
  | 5 => 11
  | 7 => 29
  | 11 => 23
  | 13 => 53
  | 17 => 103
  | 19 => 191
  | _ => 47
def gB (p : Nat) : Nat := 2 ^ ((gq p - 1) / p) % gq p
def mm (p e : Nat) : Nat := gB p ^ e % gq p
def MM (p : Nat) (e : Int) : Int := (mm p e.toNat : Int)
def bs (p i : Nat) : Nat := 1 + (i * i + i) % (p - 1)
def exo (p y : Nat) : Int := match (List.range p).find? (fun e => mm p e == y) with
  | some e => (e : Int)
  | none => -1
def exI (p : Nat) (y : Int) : Int := if 0 ≤ y ∧ y < 192 then exo p y.toNat else -1
def exlr (p : Nat) : Nat → List Int
  | 0 => tab (fun _ => -1) 192
  | e + 1 => (exlr p e).set (mm p e) (e : Int)
def exl (p : Nat) : List Int := tab (fun y => exo p y) 192
def bsl (p : Nat) : List Int := tab (fun i => (bs p i : Int)) 9
theorem gq_b0 : ∀ p ∈ PR, p < gq p ∧ gq p ≤ 191 ∧ (gq p - 1) % p = 0 := by decide +kernel
theorem gq_b {p : Nat} (h : p ∈ PR) : p < gq p ∧ gq p ≤ 191 ∧ (gq p - 1) % p = 0 := gq_b0 p h
theorem mm_b0 : ∀ p ∈ PR, ∀ e ∈ List.range p, 0 < mm p e ∧ mm p e < gq p := by decide +kernel
theorem mm_b {p e : Nat} (h : p ∈ PR) (he : e < p) : 0 < mm p e ∧ mm p e < gq p := mm_b0 p h e (List.mem_range.mpr he)
theorem mm_mul0 : ∀ p ∈ PR, ∀ a ∈ List.range p, ∀ b ∈ List.range p, mm p a * mm p b % gq p = mm p ((a + b) % p) := by decide +kernel
theorem mm_mul {p a b : Nat} (h : p ∈ PR) (ha : a < p) (hb : b < p) : mm p a * mm p b % gq p = mm p ((a + b) % p) := mm_mul0 p h a (List.mem_range.mpr ha) b (List.mem_range.mpr hb)
theorem mm_inj0 : ∀ p ∈ PR, ∀ a ∈ List.range p, ∀ b ∈ List.range p, mm p a = mm p b → a = b := by decide +kernel
theorem mm_inj {p a b : Nat} (h : p ∈ PR) (ha : a < p) (hb : b < p) (e : mm p a = mm p b) : a = b := mm_inj0 p h a (List.mem_range.mpr ha) b (List.mem_range.mpr hb) e
theorem mm_step0 : ∀ p ∈ PR, ∀ e ∈ List.range p, mm p e * gB p % gq p = mm p (e + 1) := by decide +kernel
theorem mm_step {p e : Nat} (h : p ∈ PR) (he : e < p) : mm p e * gB p % gq p = mm p (e + 1) := mm_step0 p h e (List.mem_range.mpr he)
theorem mm_0 : ∀ p ∈ PR, mm p 0 = 1 := by decide +kernel
theorem exo_mm0 : ∀ p ∈ PR, ∀ e ∈ List.range p, exo p (mm p e) = (e : Int) := by decide +kernel
theorem exo_mm {p e : Nat} (h : p ∈ PR) (he : e < p) : exo p (mm p e) = (e : Int) := exo_mm0 p h e (List.mem_range.mpr he)
theorem exl_r0 : ∀ p ∈ PR, exlr p p = exl p := by decide +kernel
theorem exlr_len (p : Nat) : ∀ e, (exlr p e).length = 192
  | 0 => tab_len _ _
  | e + 1 => by show ((exlr p e).set _ _).length = 192; rw [List.length_set, exlr_len p e]
theorem bs_b0 : ∀ p ∈ PR, ∀ i ∈ List.range 9, 0 < bs p i ∧ bs p i < p := by decide +kernel
theorem bs_b {p i : Nat} (h : p ∈ PR) (hi : i < 9) : 0 < bs p i ∧ bs p i < p := bs_b0 p h i (List.mem_range.mpr hi)
theorem exo_b {p y : Nat} : -1 ≤ exo p y ∧ exo p y < p := by
  unfold exo
  cases h : (List.range p).find? (fun e => mm p e == y) with
  | none => exact ⟨Int.le_refl _, by show (-1 : Int) < p; omega⟩
  | some e =>
    have h1 := List.mem_range.mp (List.mem_of_find?_eq_some h)
    exact ⟨by show (-1 : Int) ≤ (e : Int); omega, by show (e : Int) < p; omega⟩
theorem exo_some {p y : Nat} (h : exo p y ≠ -1) : ∃ e, e < p ∧ mm p e = y ∧ exo p y = (e : Int) := by
  unfold exo at h ⊢
  cases h1 : (List.range p).find? (fun e => mm p e == y) with
  | none => rw [h1] at h; exact absurd rfl h
  | some e =>
    have h2 := List.find?_some h1
    exact ⟨e, List.mem_range.mp (List.mem_of_find?_eq_some h1), by simpa using h2, rfl⟩
theorem exI_b (p : Nat) (y : Int) : -1 ≤ exI p y ∧ exI p y < p := by
  unfold exI
  split
  · exact exo_b
  · omega
theorem exI_some {p : Nat} {y : Int} (h : exI p y ≠ -1) : 0 ≤ exI p y ∧ exI p y < p ∧ MM p (exI p y) = y := by
  unfold exI at h ⊢
  split
  · rename_i h1
    rw [if_pos h1] at h
    obtain ⟨e, e1, e2, e3⟩ := exo_some h
    rw [e3]
    refine ⟨by omega, by omega, ?_⟩
    unfold MM
    rw [Int.toNat_natCast, e2]
    omega
  · rename_i h1
    rw [if_neg h1] at h
    exact absurd rfl h
theorem MM_b {p : Nat} {e : Int} (h : p ∈ PR) (he : 0 ≤ e ∧ e < p) : 0 < MM p e ∧ MM p e < gq p := by
  have := mm_b h (e := e.toNat) (by omega)
  unfold MM
  omega
theorem exI_MM {p : Nat} {e : Int} (h : p ∈ PR) (he : 0 ≤ e ∧ e < p) : exI p (MM p e) = e := by
  have h1 := MM_b h he
  have h2 := gq_b h
  unfold exI
  rw [if_pos (by omega)]
  unfold MM
  rw [Int.toNat_natCast, exo_mm h (by omega)]
  omega
theorem MM_inj {p : Nat} {a b : Int} (h : p ∈ PR) (ha : 0 ≤ a ∧ a < p) (hb : 0 ≤ b ∧ b < p) (e : MM p a = MM p b) : a = b := by
  have h1 := exI_MM h ha
  rw [e, exI_MM h hb] at h1
  exact h1.symm
theorem MM_mul {p : Nat} {a b : Int} (h : p ∈ PR) (ha : 0 ≤ a ∧ a < p) (hb : 0 ≤ b ∧ b < p) : MM p a * MM p b % (gq p : Int) = MM p ((a + b) % (p : Int)) := by
  unfold MM
  have h1 := mm_mul h (a := a.toNat) (b := b.toNat) (by omega) (by omega)
  have h2 : ((a + b) % (p : Int)).toNat = (a.toNat + b.toNat) % p := by
    have : a + b = ((a.toNat + b.toNat : Nat) : Int) := by omega
    rw [this, ← Int.natCast_emod, Int.toNat_natCast]
  rw [h2, ← h1, Int.natCast_emod, Int.natCast_mul]
theorem MM_0 {p : Nat} (h : p ∈ PR) : MM p 0 = 1 := by unfold MM; rw [Int.toNat_zero, mm_0 p h]; rfl
/-- the group stands, for the field of p numbers -/
def GW (p : Nat) (h : xH) : Prop := h[4]? = some (cO 1 [vi (p : Int)]) ∧ h[5]? = some (cO 3 [.ref 4, vi (gq p : Int), .ref 6, .ref 7, .ref 8]) ∧
  (∃ ml, h[6]? = some (cA 0 ml) ∧ ml.length = 23 ∧ ∀ e, e < p → ml.getD e 0 = (mm p e : Int)) ∧ h[7]? = some (cA 0 (exl p)) ∧ h[8]? = some (cA 0 (bsl p))
/-- weights, commitments as exponents -/
def wt (p : Nat) (l : List Int) : Int := sm (fun i => (bs p i : Int) * l.getD i 0) 8
def cm (p : Nat) (l : List Int) (b : Int) : Int := (wt p l + (bs p 8 : Int) * b) % (p : Int)
def cm1 (p : Nat) (n b : Int) : Int := ((bs p 0 : Int) * n + (bs p 8 : Int) * b) % (p : Int)
theorem wt_b {p : Nat} {l : List Int} (h : p ∈ PR) (hl : Fl (p : Int) l) : 0 ≤ wt p l ∧ wt p l ≤ 3872 := by
  have hb := PRb h
  have h1 := sm_b (f := fun i => (bs p i : Int) * l.getD i 0) (a := 0) (b := 484) (by omega) (by omega) 8 (fun j hj => by
    have h2 := bs_b h (i := j) (by omega)
    have h3 := hl.2 j
    exact mulb (p := (p : Int)) (by omega) h3 (by omega))
  unfold wt
  omega
theorem bsl_get {p i : Nat} (hi : i < 9) : (bsl p).getD i 0 = (bs p i : Int) := tab_get _ hi
theorem GW.fr {p : Nat} {l : List Nat} {h h2 : xH} (w : GW p h) (f : Fr l h h2) (h4 : 4 ∉ l) (h5 : 5 ∉ l) (h6 : 6 ∉ l) (h7 : 7 ∉ l) (h8 : 8 ∉ l) : GW p h2 := by
  obtain ⟨a, b, ⟨ml, c1, c2, c3⟩, d, e⟩ := w
  exact ⟨f.get h4 a, f.get h5 b, ⟨ml, f.get h6 c1, c2, c3⟩, f.get h7 d, f.get h8 e⟩
