theorem MM_pow {p : Nat} {e : Int} (h : p ∈ PR) (he : 0 ≤ e ∧ e < p) : ∀ n : Nat, MM p e ^ n % (gq p : Int) = MM p (e * n % (p : Int))
  | 0 => by
    have hp := PRb h
    have hq := gq_b h
    rw [Int.pow_zero, Int.natCast_zero, Int.mul_zero, Int.zero_emod, MM_0 h]
    exact Int.emod_eq_of_lt (by omega) (by omega)
  | n + 1 => by
    have hp := PRb h
    have b := modb (z := e * n) (p := (p : Int)) (by omega)
    have e1 : MM p e ^ (n + 1) % (gq p : Int) = MM p e ^ n % (gq p : Int) * MM p e % (gq p : Int) := by
      rw [Int.pow_succ, Int.mul_emod (MM p e ^ n), Int.mul_emod (MM p e ^ n % (gq p : Int)), Int.emod_emod_of_dvd _ (Int.dvd_refl _)]
    rw [e1, MM_pow h he n, MM_mul h b he, am_l]
    congr 1
    congr 1
    rw [Int.natCast_add, Int.mul_add]
    rfl
theorem MM_mod {p : Nat} {e : Int} (h : p ∈ PR) (he : 0 ≤ e ∧ e < p) : MM p e % (gq p : Int) = MM p e := by
  have b := MM_b h he
  exact Int.emod_eq_of_lt (by omega) b.2
theorem MM_ne1 {p : Nat} {e : Int} (h : p ∈ PR) (he : 0 < e ∧ e < p) : MM p e ≠ 1 := by
  intro q
  have q2 := MM_inj h (a := e) (b := 0) (by omega) (by omega) (q.trans (MM_0 h).symm)
  omega
theorem mul_self_mod (a p : Int) : a * p % p = 0 := Int.mul_emod_left a p
/-- the inverse, in whole numbers -/
theorem iv_I {p : Nat} {a : Int} (h : p ∈ PR) (ha : 0 < a ∧ a < p) : ∃ k : Int, a * (iv p a.toNat : Int) = 1 + (p : Int) * k ∧ 0 ≤ (iv p a.toNat : Int) ∧ (iv p a.toNat : Int) < p := by
  obtain ⟨h1, h2, h3⟩ := iv_ok h (a := a.toNat) (by omega) (by omega)
  refine ⟨a * (iv p a.toNat : Int) / (p : Int), ?_, by omega, by omega⟩
  have e1 : a * (iv p a.toNat : Int) % (p : Int) = 1 := by
    have e2 : a = (a.toNat : Int) := by omega
    have e3 : a * (iv p a.toNat : Int) = ((a.toNat * iv p a.toNat : Nat) : Int) := by rw [Int.natCast_mul, ← e2]
    rw [e3, ← Int.natCast_emod, h1]
    rfl
  have e4 := Int.emod_add_mul_ediv (a * (iv p a.toNat : Int)) (p : Int)
  omega
/-- what breaks gives opens the same commitment -/
theorem break_ok {p : Nat} {l : List Int} {c : Int} (h : p ∈ PR) (hc : 0 ≤ c ∧ c < p) : cm p l ((c - wt p l) % (p : Int) * (iv p (bs p 8) : Int) % (p : Int)) = c := by
  have hp := PRb h
  have hb := bs_b h (i := 8) (by omega)
  obtain ⟨k, e1, e2, e3⟩ := iv_I h (a := (bs p 8 : Int)) (by omega)
  rw [Int.toNat_natCast] at e1 e2 e3
  unfold cm
  have hm : c % (p : Int) = c := Int.emod_eq_of_lt hc.1 hc.2
  conv => rhs; rw [← hm]
  generalize (iv p (bs p 8) : Int) = i at e1
  generalize (bs p 8 : Int) = B at e1
  generalize wt p l = W
  obtain ⟨x, hx⟩ := emx (a := c - W) (p := (p : Int))
  obtain ⟨y, hy⟩ := emx (a := (c - W - (p : Int) * x) * i) (p := (p : Int))
  rw [hx, hy]
  refine emq ((c - W) * k - x * (1 + (p : Int) * k) - B * y) ?_
  have e4 : B * ((c - W - (p : Int) * x) * i - (p : Int) * y) = (c - W - (p : Int) * x) * (B * i) - (p : Int) * (B * y) := by grind
  rw [e4, e1]
  grind
