theorem horm_ev {p : Int} (m : Nat) (f : Nat → Int) (x : Int) : ∀ t, t ≤ m → horm m f p x t % p = ev t (fun i => f (m - t + i)) x % p
  | 0, _ => rfl
  | t + 1, h => by
    have ih := horm_ev (p := p) m f x t (by omega)
    show (horm m f p x t * x + f (m - 1 - t)) % p % p = (f (m - (t + 1) + 0) + x * ev t (fun i => f (m - (t + 1) + (i + 1))) x) % p
    have e1 : (fun i => f (m - (t + 1) + (i + 1))) = (fun i => f (m - t + i)) := by funext i; rw [show m - (t + 1) + (i + 1) = m - t + i by omega]
    rw [e1, show m - (t + 1) + 0 = m - 1 - t by omega, Int.emod_emod, Int.add_emod, Int.mul_emod, ih, ← Int.mul_emod, ← Int.add_emod, Int.add_comm, Int.mul_comm]
theorem horm_is {p : Int} (hp : 0 < p) (m : Nat) (f : Nat → Int) (x : Int) : horm m f p x m = ev m f x % p := by
  have h1 := horm_ev (p := p) m f x m (Nat.le_refl m)
  have h2 := horm_b (m := m) (f := f) (p := p) (x := x) hp m
  rw [Int.emod_eq_of_lt h2.1 h2.2, show (fun i => f (m - m + i)) = f from funext (fun i => by rw [Nat.sub_self, Nat.zero_add])] at h1
  exact h1
theorem horm_cg {p : Int} {m : Nat} {f g : Nat → Int} {x : Int} (h : ∀ j, j < m → f j = g j) : ∀ t, t ≤ m → horm m f p x t = horm m g p x t
  | 0, _ => rfl
  | t + 1, ht => by
    show (horm m f p x t * x + f (m - 1 - t)) % p = (horm m g p x t * x + g (m - 1 - t)) % p
    rw [horm_cg h t (by omega), h (m - 1 - t) (by omega)]
theorem ev_cgm {p x : Int} : ∀ (n : Nat) (f g : Nat → Int), (∀ i, i < n → f i % p = g i % p) → ev n f x % p = ev n g x % p
  | 0, _, _, _ => rfl
  | n + 1, f, g, h => by
    show (f 0 + x * ev n (fun i => f (i + 1)) x) % p = (g 0 + x * ev n (fun i => g (i + 1)) x) % p
    rw [Int.add_emod, h 0 (by omega), Int.mul_emod, ev_cgm n (fun i => f (i + 1)) (fun i => g (i + 1)) (fun i hi => h (i + 1) (by omega)), ← Int.mul_emod, ← Int.add_emod]
theorem ev_mbr {p a x : Int} {f : Nat → Int} (n : Nat) (h : f n = 0) : ev (n + 1) (mbr p a f) x % p = ((x - a) * (ev (n + 1) f x % p)) % p := by
  have e1 := ev_cgm (p := p) (x := x) (n + 1) (mbr p a f) (fun i => (if i = 0 then 0 else f (i - 1)) + (-a) * f i) (fun i _ => by
    show mbr p a f i % p = _
    unfold mbr
    by_cases e : i = 0
    · subst e; rw [if_pos rfl, if_pos rfl, Int.emod_emod, Int.zero_add]
    · rw [if_neg e, if_neg e, Int.emod_emod, Int.neg_mul, ← Int.sub_eq_add_neg])
  rw [e1, ev_add (n + 1) (fun i => if i = 0 then 0 else f (i - 1)) f (-a) x]
  have e2 : ev (n + 1) (fun i => if i = 0 then 0 else f (i - 1)) x = x * ev n f x := by
    show 0 + x * ev n (fun i => f (i + 1 - 1)) x = _
    rw [Int.zero_add]
    rfl
  have e3 := ev_last (p := p) n f x (by rw [h]; exact Int.zero_emod _)
  rw [e2, e3]
  obtain ⟨k1, h1⟩ := emx (a := ev (n + 1) f x) (p := p)
  obtain ⟨k2, h2⟩ := emx (a := ev n f x) (p := p)
  rw [e3, h2] at h1
  rw [h2]
  generalize ev n f x = A at *
  generalize ev (n + 1) f x = B at *
  exact emq (a * (k2 - k1) + (x - a) * k2) (by grind)
theorem lp_deg {p : Int} {x : Nat → Int} {one : Nat} (hp : 2 < p) : ∀ j n, j < n → lp p x one j n = 0
  | 0, n, h => if_neg (by omega)
  | j + 1, n, h => by
    unfold lp
    split
    · exact lp_deg hp j n (by omega)
    · unfold mbr
      rw [if_neg (by omega), lp_deg hp j n (by omega), lp_deg hp j (n - 1) (by omega), Int.mul_zero]
      exact Int.zero_emod _
theorem lp_deg2 {p : Int} {x : Nat → Int} {one : Nat} (hp : 2 < p) : ∀ j n, one < j → j ≤ n → lp p x one j n = 0
  | 0, n, h, _ => absurd h (Nat.not_lt_zero _)
  | j + 1, n, h, h2 => by
    unfold lp
    split
    · exact lp_deg hp j n (by omega)
    · unfold mbr
      rw [if_neg (by omega), lp_deg2 hp j n (by omega) (by omega), lp_deg2 hp j (n - 1) (by omega) (by omega), Int.mul_zero]
      exact Int.zero_emod _
def pz (x : Nat → Int) (one : Nat) (z : Int) : Nat → Int
  | 0 => 1
  | j + 1 => if j = one then pz x one z j else (z - x j) * pz x one z j
theorem lp_ev {p z : Int} {x : Nat → Int} {one : Nat} (hp : 2 < p) : ∀ j, j ≤ 8 → ev 9 (lp p x one j) z % p = pz x one z j % p
  | 0, _ => by
    rw [ev_last 8 _ z (Int.zero_emod _), ev_last 7 _ z (Int.zero_emod _), ev_last 6 _ z (Int.zero_emod _), ev_last 5 _ z (Int.zero_emod _), ev_last 4 _ z (Int.zero_emod _), ev_last 3 _ z (Int.zero_emod _), ev_last 2 _ z (Int.zero_emod _), ev_last 1 _ z (Int.zero_emod _)]
    show (1 + z * 0) % p = 1 % p
    rw [Int.mul_zero, Int.add_zero]
  | j + 1, h => by
    have ih := lp_ev (p := p) (z := z) (x := x) (one := one) hp j (by omega)
    unfold lp pz
    split
    · exact ih
    · rw [ev_mbr 8 (lp_deg hp j 8 (by omega)), ih, ml_r]
theorem pz_0 {x : Nat → Int} {one k : Nat} (hk : k ≠ one) : ∀ j, k < j → pz x one (x k) j = 0
  | 0, h => absurd h (Nat.not_lt_zero k)
  | j + 1, h => by
    unfold pz
    by_cases e : j = k
    · subst e; rw [if_neg hk, Int.sub_self, Int.zero_mul]
    · split
      · exact pz_0 hk j (by omega)
      · rw [pz_0 hk j (by omega), Int.mul_zero]
theorem lsc_pz {p : Int} {x : Nat → Int} {one : Nat} (hp : 2 < p) : ∀ j, lsc p x one j = pz x one (x one) j % p
  | 0 => by show (1 : Int) = 1 % p; rw [Int.emod_eq_of_lt (by omega) (by omega)]
  | j + 1 => by
    unfold lsc pz
    split
    · exact lsc_pz hp j
    · rw [lsc_pz hp j, Int.mul_comm, ml_r]
theorem ct_add1 {P Q : Nat → Prop} [DecidablePred P] [DecidablePred Q] {a : Nat} : ∀ n, a < n → (∀ x, x < n → P x → Q x) → ¬ P a → Q a → ct P n + 1 ≤ ct Q n
  | 0, h, _, _, _ => absurd h (Nat.not_lt_zero a)
  | n + 1, h, h1, h2, h3 => by
    by_cases e : n = a
    · subst e
      rw [ct_no h2, ct_yes h3]
      have := ct_mono (P := P) (Q := Q) n (fun x hx => h1 x (by omega))
      omega
    · have ih := ct_add1 (P := P) (Q := Q) (a := a) n (by omega) (fun x hx => h1 x (by omega)) h2 h3
      by_cases hP : P n
      · rw [ct_yes hP, ct_yes (h1 n (by omega) hP)]; omega
      · rw [ct_no hP]
        have hq : ct Q n ≤ ct Q (n + 1) := by show _ ≤ ct Q n + _; omega
        omega
/-- k places, no two the same, are k -/
def ptP (P : Nat → Prop) (x : Nat → Int) (j z : Nat) : Prop := P z ∧ ∃ a, a < j ∧ x a = (z : Int)
theorem ct_pts {p : Nat} {x : Nat → Int} {P : Nat → Prop} [DecidablePred P] : ∀ k, (∀ a, a < k → 0 ≤ x a ∧ x a < (p : Int)) → (∀ a b, b < a → a < k → x a ≠ x b) → (∀ a, a < k → P (x a).toNat) → k ≤ ct P p
  | k, hx, hd, hP => by
    have dp : ∀ j, DecidablePred (ptP P x j) := fun _ _ => Classical.propDecidable _
    have q : ∀ j, j ≤ k → j ≤ ct (ptP P x j) p := by
      intro j
      induction j with
      | zero => intro _; exact Nat.zero_le _
      | succ j ih =>
        intro hj
        have h1 := ih (by omega)
        have xb := hx j (by omega)
        have h2 := ct_add1 (P := ptP P x j) (Q := ptP P x (j + 1)) (a := (x j).toNat) p (by omega) (fun z _ h3 => by
          obtain ⟨h4, a, h5, h6⟩ := h3
          exact ⟨h4, a, by omega, h6⟩) (fun h3 => by
          obtain ⟨_, a, h5, h6⟩ := h3
          exact hd j a (by omega) (by omega) (by omega)) ⟨hP j (by omega), j, by omega, by omega⟩
        omega
    exact Nat.le_trans (q k (Nat.le_refl k)) (ct_mono p (fun z _ h => h.1))
/-- what is 0 at as many places as it has numbers is 0 -/
theorem ev_zero {p : Nat} (hp : p ∈ PR) {x D : Nat → Int} : ∀ m, m ≤ 8 → (∀ a, a < m → 0 ≤ x a ∧ x a < (p : Int)) → (∀ a b, b < a → a < m → x a ≠ x b) → (∀ n, m ≤ n → D n % (p : Int) = 0) → (∀ a, a < m → ev 9 D (x a) % (p : Int) = 0) → ∀ n, D n % (p : Int) = 0
  | 0, _, _, _, hD, _, n => hD n (Nat.zero_le n)
  | m + 1, h8, hx, hd, hD, hz, n => by
    by_cases c : D m % (p : Int) = 0
    · exact ev_zero hp m (by omega) (fun a ha => hx a (by omega)) (fun a b h1 h2 => hd a b h1 (by omega)) (fun n hn => if e : n = m then (by rw [e]; exact c) else hD n (by omega)) (fun a ha => hz a (by omega)) n
    · exfalso
      have l1 := ev_roots hp m D c
      have l2 := ct_pts (p := p) (P := fun z : Nat => ev (m + 1) D (z : Int) % (p : Int) = 0) (m + 1) hx hd (fun a ha => by
        have xb := hx a ha
        show ev (m + 1) D (((x a).toNat : Nat) : Int) % (p : Int) = 0
        rw [Int.toNat_of_nonneg xb.1]
        have q := ev_cgm (p := (p : Int)) (x := x a) 9 D (fun n => if n < m + 1 then D n else 0) (fun i _ => by
          show D i % _ = (if i < m + 1 then D i else 0) % _
          by_cases e : i < m + 1
          · rw [if_pos e]
          · rw [if_neg e, hD i (by omega)]; exact (Int.zero_emod _).symm)
        have q2 := ev_cut (f := fun n => if n < m + 1 then D n else 0) (p := (p : Int)) (x := x a) (8 - m) (m + 1) (fun j h1 _ => if_neg (by omega))
        rw [show m + 1 + (8 - m) = 9 by omega] at q2
        have q3 := ev_cgm (p := (p : Int)) (x := x a) (m + 1) D (fun n => if n < m + 1 then D n else 0) (fun i hi => by
          show D i % _ = (if i < m + 1 then D i else 0) % _
          rw [if_pos hi])
        rw [q3, ← q2, ← q]
        exact hz a ha)
      omega
theorem ev_same {p : Nat} (hp : p ∈ PR) {x f g : Nat → Int} {m : Nat} (h8 : m ≤ 8) (hx : ∀ a, a < m → 0 ≤ x a ∧ x a < (p : Int)) (hd : ∀ a b, b < a → a < m → x a ≠ x b) (hf : ∀ n, 0 ≤ f n ∧ f n < (p : Int)) (hg : ∀ n, 0 ≤ g n ∧ g n < (p : Int)) (f0 : ∀ n, m ≤ n → f n = 0) (g0 : ∀ n, m ≤ n → g n = 0) (e : ∀ a, a < m → ev 9 f (x a) % (p : Int) = ev 9 g (x a) % (p : Int)) : ∀ n, f n = g n := fun n => by
  have q := ev_zero hp (x := x) (D := fun n => f n + (-1) * g n) m h8 hx hd (fun n hn => by show (f n + -1 * g n) % _ = 0; rw [f0 n hn, g0 n hn]; exact Int.zero_emod _) (fun a ha => by
    rw [ev_add 9 f g (-1) (x a), show ev 9 f (x a) + -1 * ev 9 g (x a) = ev 9 f (x a) - ev 9 g (x a) by omega]
    exact md_iff.mpr (e a ha)) n
  have q : (f n + -1 * g n) % (p : Int) = 0 := q
  rw [show f n + -1 * g n = f n - g n by omega] at q
  have h1 := md_iff.mp q
  have h2 := hf n
  have h3 := hg n
  rw [Int.emod_eq_of_lt h2.1 h2.2, Int.emod_eq_of_lt h3.1 h3.2] at h1
  exact h1
theorem iv_i {p : Nat} (hp : p ∈ PR) {w : Int} (hw : 0 < w ∧ w < (p : Int)) : w * (iv p w.toNat : Int) % (p : Int) = 1 := by
  have hv := (iv_ok hp (a := w.toNat) (by omega) (by omega)).1
  have h1 : ((w.toNat * iv p w.toNat % p : Nat) : Int) = 1 := by rw [hv]; rfl
  rw [Int.natCast_emod, Int.natCast_mul, Int.toNat_of_nonneg (by omega)] at h1
  exact h1
