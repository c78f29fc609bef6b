def nwC (p : Nat) (x y : Nat → Int) (i : Nat) (M : Nat → Int) : Int := (((y i - horm 8 M p (x i) 8) % (p : Int)) * (iv p (horm 9 (lp p x 9 i) p (x i) 9).toNat : Int)) % (p : Int)
def nwM (p : Nat) (x y : Nat → Int) : Nat → Nat → Int
  | 0 => fun _ => 0
  | i + 1 => fun n => (nwM p x y i n + nwC p x y i (nwM p x y i) * lp p x 9 i n) % (p : Int)
section
variable {p : Nat} {x y : Nat → Int} {m : Nat}
theorem nwM_b (hp : 2 < p) : ∀ k n, 0 ≤ nwM p x y k n ∧ nwM p x y k n < (p : Int)
  | 0, _ => ⟨Int.le_refl 0, by show (0 : Int) < (p : Int); omega⟩
  | k + 1, n => modb (by omega)
theorem nwM_deg (hp : 2 < p) : ∀ k n, k ≤ n → nwM p x y k n = 0
  | 0, _, _ => rfl
  | k + 1, n, h => by
    show (nwM p x y k n + nwC p x y k (nwM p x y k) * lp p x 9 k n) % (p : Int) = 0
    rw [nwM_deg hp k n (by omega), lp_deg (by omega) k n (by omega), Int.mul_zero]
    exact Int.zero_emod _
theorem pz_ne (hp : p ∈ PR) {one i : Nat} (hx : ∀ a, 0 ≤ x a ∧ x a < (p : Int)) : ∀ j, (∀ a, a < j → a ≠ one → x i ≠ x a) → pz x one (x i) j % (p : Int) ≠ 0
  | 0, _ => by
    have hb := PRb hp
    show (1 : Int) % (p : Int) ≠ 0
    rw [Int.emod_eq_of_lt (by omega) (by omega)]; omega
  | j + 1, h => by
    have ih := pz_ne hp (one := one) (i := i) hx j (fun a ha => h a (by omega))
    unfold pz
    by_cases e : j = one
    · rw [if_pos e]; exact ih
    · rw [if_neg e]
      intro z
      exact ih (prm hp z (fun z2 => h j (by omega) e ((sub_m0 (hx i) (hx j)).mp z2)))
theorem ow_pos (hp : p ∈ PR) (h8 : m ≤ 8) (hx : ∀ a, 0 ≤ x a ∧ x a < (p : Int)) (hd : ∀ a b, b < a → a < m → x a ≠ x b) {i : Nat} (hi : i < m) : 0 < horm 9 (lp p x 9 i) p (x i) 9 ∧ horm 9 (lp p x 9 i) p (x i) 9 < (p : Int) := by
  have hb := PRb hp
  have b := horm_b (m := 9) (f := lp p x 9 i) (p := (p : Int)) (x := x i) (by omega) 9
  have e := horm_is (p := (p : Int)) (by omega) 9 (lp p x 9 i) (x i)
  rw [lp_ev (by omega) i (by omega)] at e
  have n := pz_ne (p := p) (x := x) hp (one := 9) (i := i) hx i (fun a ha _ => hd i a ha hi)
  omega
theorem nwM_ev (hp : p ∈ PR) (h8 : m ≤ 8) (hx : ∀ a, 0 ≤ x a ∧ x a < (p : Int)) (hd : ∀ a b, b < a → a < m → x a ≠ x b) : ∀ k, k ≤ m → ∀ a, a < k → ev 9 (nwM p x y k) (x a) % (p : Int) = y a % (p : Int)
  | 0, _, a, ha => absurd ha (Nat.not_lt_zero a)
  | k + 1, hk, a, ha => by
    have hb := PRb hp
    have e1 := ev_cgm (p := (p : Int)) (x := x a) 9 (nwM p x y (k + 1)) (fun n => nwM p x y k n + nwC p x y k (nwM p x y k) * lp p x 9 k n) (fun n _ => Int.emod_emod _ _)
    rw [ev_add 9 (nwM p x y k) (lp p x 9 k) (nwC p x y k (nwM p x y k)) (x a)] at e1
    rw [e1]
    have e2 := lp_ev (p := (p : Int)) (z := x a) (x := x) (one := 9) (by omega) k (by omega)
    by_cases c : a = k
    · subst c
      have ow := ow_pos hp h8 hx hd (i := a) (by omega)
      have V := iv_i hp ow
      have h9 := horm_is (p := (p : Int)) (by omega) 9 (lp p x 9 a) (x a)
      have h8' := horm_is (p := (p : Int)) (by omega) 8 (nwM p x y a) (x a)
      rw [← ev_last (p := (p : Int)) 8 (nwM p x y a) (x a) (by rw [nwM_deg hb.1 a 8 (by omega)]; exact Int.zero_emod _)] at h8'
      unfold nwC
      rw [h8']
      rw [h9] at V
      rw [h9]
      generalize (iv p (ev 9 (lp p x 9 a) (x a) % (p : Int)).toNat : Int) = W at *
      generalize ev 9 (lp p x 9 a) (x a) = O at *
      generalize ev 9 (nwM p x y a) (x a) = M at *
      generalize y a = Y at *
      obtain ⟨u, hu⟩ := emx (a := O) (p := (p : Int))
      obtain ⟨r, hr⟩ := emx (a := (O % (p : Int)) * W) (p := (p : Int))
      obtain ⟨l, hl⟩ := emx (a := M) (p := (p : Int))
      obtain ⟨n, hn⟩ := emx (a := Y - M % (p : Int)) (p := (p : Int))
      obtain ⟨q, hq⟩ := emx (a := (Y - M % (p : Int)) % (p : Int) * W) (p := (p : Int))
      rw [V] at hr
      rw [hq, hn, hl]
      rw [hu] at hr
      generalize hA : Y - (M - (p : Int) * l) - (p : Int) * n = A at *
      exact emq (l - n + A * r + A * W * u - q * O) (by
        have h1 : A * 1 = A * ((O - (p : Int) * u) * W - (p : Int) * r) := by rw [← hr]
        grind)
    · have ih := nwM_ev hp h8 hx hd k (by omega) a (by omega)
      rw [pz_0 (by omega) k (by omega), Int.zero_emod] at e2
      rw [Int.add_emod, Int.mul_emod, e2, Int.mul_zero, Int.zero_emod, Int.add_zero, Int.emod_emod]
      exact ih
theorem lit_ev (hp : p ∈ PR) (h8 : m ≤ 8) (hx : ∀ a, 0 ≤ x a ∧ x a < (p : Int)) (hd : ∀ a b, b < a → a < m → x a ≠ x b) {a : Nat} (ha : a < m) : ∀ k, k ≤ m → ev 9 (lit p x y m k) (x a) % (p : Int) = (if a < k then y a else 0) % (p : Int)
  | 0, _ => by
    rw [if_neg (Nat.not_lt_zero a)]
    rw [ev_m0 (p := (p : Int)) 9 (lit p x y m 0) (x a) (fun i _ => Int.zero_emod _)]; exact (Int.zero_emod _).symm
  | k + 1, hk => by
    have hb := PRb hp
    have ih := lit_ev hp h8 hx hd ha k (by omega)
    have e1 := ev_cgm (p := (p : Int)) (x := x a) 9 (lit p x y m (k + 1)) (fun n => lit p x y m k n + (y k * (iv p (lsc p x k m).toNat : Int) % (p : Int)) * lp p x k m n) (fun n _ => Int.emod_emod _ _)
    rw [ev_add 9 (lit p x y m k) (lp p x k m) (y k * (iv p (lsc p x k m).toNat : Int) % (p : Int)) (x a)] at e1
    rw [e1]
    have e2 := lp_ev (p := (p : Int)) (z := x a) (x := x) (one := k) (by omega) m h8
    by_cases c : a = k
    · subst c
      have e3 := lsc_pz (p := (p : Int)) (x := x) (one := a) (by omega) m
      have n := pz_ne (p := p) (x := x) hp (one := a) (i := a) hx m (fun b hb ne => if h : b < a then hd a b h (by omega) else (fun z => hd b a (by omega) hb z.symm))
      have sb := lsc_b (p := (p : Int)) (x := x) (one := a) (by omega) m
      have V := iv_i hp (w := lsc p x a m) (by omega)
      rw [if_neg (Nat.lt_irrefl a), Int.zero_emod] at ih
      rw [if_pos (Nat.lt_succ_self a)]
      rw [← e3] at e2
      rw [← e2] at V ⊢
      generalize (iv p (ev 9 (lp p x a m) (x a) % (p : Int)).toNat : Int) = W at *
      generalize ev 9 (lp p x a m) (x a) = O at *
      generalize ev 9 (lit p x y m a) (x a) = M at *
      generalize y a = Y at *
      obtain ⟨u, hu⟩ := emx (a := O) (p := (p : Int))
      obtain ⟨r, hr⟩ := emx (a := (O % (p : Int)) * W) (p := (p : Int))
      obtain ⟨l, hl⟩ := emx (a := M) (p := (p : Int))
      obtain ⟨q, hq⟩ := emx (a := Y * W) (p := (p : Int))
      rw [V, hu] at hr
      rw [ih] at hl
      rw [hq]
      exact emq (l + Y * r + Y * W * u - q * O) (by
        have h1 : Y * 1 = Y * ((O - (p : Int) * u) * W - (p : Int) * r) := by rw [← hr]
        grind)
    · rw [pz_0 c m ha, Int.zero_emod] at e2
      rw [Int.add_emod, Int.mul_emod, e2, Int.mul_zero, Int.zero_emod, Int.add_zero, Int.emod_emod, ih]
      by_cases h : a < k
      · rw [if_pos h, if_pos (by omega)]
      · rw [if_neg h, if_neg (by omega)]
theorem lit_deg (hp : 2 < p) : ∀ k, k ≤ m → ∀ n, m ≤ n → lit p x y m k n = 0
  | 0, _, _, _ => rfl
  | k + 1, hk, n, hn => by
    show (lit p x y m k n + _ * lp p x k m n) % (p : Int) = 0
    rw [lit_deg hp k (by omega) n hn, lp_deg2 (by omega) m n (by omega) hn, Int.mul_zero]
    exact Int.zero_emod _
/-- both ways of laying a polynomial through points lay the same -/
theorem nw_lit (hp : p ∈ PR) (h8 : m ≤ 8) (hx : ∀ a, 0 ≤ x a ∧ x a < (p : Int)) (hd : ∀ a b, b < a → a < m → x a ≠ x b) : ∀ n, nwM p x y m n = lit p x y m m n := by
  have hb := PRb hp
  exact ev_same hp h8 (fun a _ => hx a) hd (nwM_b hb.1 m) (lit_b hb.1 m) (nwM_deg hb.1 m) (lit_deg hb.1 m (Nat.le_refl m)) (fun a ha => by
    rw [nwM_ev hp h8 hx hd m (Nat.le_refl m) a ha, lit_ev hp h8 hx hd ha m (Nat.le_refl m), if_pos ha])
end
