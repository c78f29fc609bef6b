theorem gf_tab {f : Nat → Int} {j : Nat} (h : j < 8) : gf (tab f 8) j = f j := tab_get f h
theorem dg_lt {f : Nat → Int} {g : Nat} (h : ∀ j, g ≤ j → j < 8 → f j = 0) : dg f 8 < (g : Int) := by
  by_cases c : dg f 8 < (g : Int)
  · exact c
  · have hb := dg_b f 8
    obtain ⟨k, hk⟩ : ∃ k : Nat, dg f 8 = (k : Int) := ⟨(dg f 8).toNat, by omega⟩
    exact absurd (h k (by omega) (by omega)) (dg_nz f 8 k hk).1
/-- after t steps all is 0 above what they have reached -/
theorem dvR_z {p : Nat} {b r : Nat → Int} {g : Nat} {v : Int} (hp : 0 < p) (hv : b g * v % (p : Int) = 1 % (p : Int)) (hr : ∀ j, 0 ≤ r j ∧ r j < p) : ∀ t, t ≤ 8 - g → ∀ m, 8 - t ≤ m → m < 8 → dvR (p : Int) b g v r t m = 0
  | 0, _, m, h1, h2 => by omega
  | t + 1, ht, m, h1, h2 => by
    show (if 7 - g - t ≤ m ∧ m ≤ 7 - t then (dvR (p : Int) b g v r t m - (dvR (p : Int) b g v r t (7 - t) * v % (p : Int)) * b (m - (7 - g - t))) % (p : Int) else dvR (p : Int) b g v r t m) = 0
    by_cases c : m = 7 - t
    · rw [if_pos ⟨by omega, by omega⟩, c, show 7 - t - (7 - g - t) = g by omega]
      generalize dvR (p : Int) b g v r t (7 - t) = a
      obtain ⟨k, hk⟩ := emk hv
      obtain ⟨x, hx⟩ := emx (a := a * v) (p := (p : Int))
      have e : a - (a * v - (p : Int) * x) * b g = (p : Int) * (x * b g - a * k) := by
        have e1 : (a * v - (p : Int) * x) * b g = a * (b g * v) - (p : Int) * (x * b g) := by grind
        rw [e1, hk]
        grind
      rw [hx, e, Int.mul_emod_right]
    · rw [if_neg (fun z => by omega)]
      exact dvR_z hp hv hr t (by omega) m (by omega) h2
def cvs (b Q : Nat → Int) (s m k : Nat) : Int := if k ≤ m ∧ s ≤ m - k then b k * Q (m - k) else 0
/-- what was taken away and what is left make up the row -/
theorem dv_inv {p : Nat} {b r : Nat → Int} {g : Nat} {v : Int} (hg : g < 8) (hb : ∀ j, g < j → j < 8 → b j = 0) (hr : ∀ j, 0 ≤ r j ∧ r j < p) : ∀ t, t ≤ 8 - g → ∀ m, m < 8 →
    (dvR (p : Int) b g v r t m + sm (cvs b (dvQ (p : Int) b g v r (8 - g)) (8 - g - t) m) 8) % (p : Int) = r m % (p : Int)
  | 0, _, m, hm => by
    have e : sm (cvs b (dvQ (p : Int) b g v r (8 - g)) (8 - g - 0) m) 8 = 0 := by
      rw [sm_congr (g := fun _ => (0 : Int)) 8 (fun k hk => by
        unfold cvs
        split
        · unfold dvQ
          rw [if_neg (fun z => by omega), Int.mul_zero]
        · rfl)]
      rfl
    rw [e, Int.add_zero]
    rfl
  | t + 1, ht, m, hm => by
    have ih := dv_inv (v := v) hg hb hr t (by omega) m hm
    rw [← ih]
    have hQ : dvQ (p : Int) b g v r (8 - g) (7 - g - t) = dvR (p : Int) b g v r t (7 - t) * v % (p : Int) := by
      unfold dvQ
      rw [if_pos ⟨by omega, by omega⟩, show 7 - g - (7 - g - t) = t by omega, show 7 - g - t + g = 7 - t by omega]
    have hsum : sm (cvs b (dvQ (p : Int) b g v r (8 - g)) (8 - g - (t + 1)) m) 8 = sm (cvs b (dvQ (p : Int) b g v r (8 - g)) (8 - g - t) m) 8 + (if 7 - g - t ≤ m then b (m - (7 - g - t)) * (dvR (p : Int) b g v r t (7 - t) * v % (p : Int)) else 0) := by
      by_cases c : 7 - g - t ≤ m
      · rw [if_pos c, sm_upd (f := cvs b (dvQ (p : Int) b g v r (8 - g)) (8 - g - (t + 1)) m) (g := cvs b (dvQ (p : Int) b g v r (8 - g)) (8 - g - t) m) (k := m - (7 - g - t)) 8 (by omega) (fun j hj => by
          unfold cvs
          by_cases c1 : j ≤ m ∧ 8 - g - t ≤ m - j
          · rw [if_pos c1, if_pos ⟨c1.1, by omega⟩]
          · rw [if_neg c1, if_neg (fun z => c1 ⟨z.1, by omega⟩)])]
        have e1 : cvs b (dvQ (p : Int) b g v r (8 - g)) (8 - g - t) m (m - (7 - g - t)) = 0 := by unfold cvs; rw [if_neg (fun z => by omega)]
        have e2 : cvs b (dvQ (p : Int) b g v r (8 - g)) (8 - g - (t + 1)) m (m - (7 - g - t)) = b (m - (7 - g - t)) * (dvR (p : Int) b g v r t (7 - t) * v % (p : Int)) := by
          unfold cvs
          rw [if_pos ⟨by omega, by omega⟩, show m - (m - (7 - g - t)) = 7 - g - t by omega, hQ]
        rw [e1, e2]
        omega
      · rw [if_neg c, sm_congr (g := cvs b (dvQ (p : Int) b g v r (8 - g)) (8 - g - t) m) 8 (fun j hj => by
          unfold cvs
          rw [if_neg (fun z => by omega), if_neg (fun z => by omega)])]
        omega
    rw [hsum]
    show ((if 7 - g - t ≤ m ∧ m ≤ 7 - t then (dvR (p : Int) b g v r t m - (dvR (p : Int) b g v r t (7 - t) * v % (p : Int)) * b (m - (7 - g - t))) % (p : Int) else dvR (p : Int) b g v r t m) + _) % (p : Int) = _
    generalize dvR (p : Int) b g v r t (7 - t) * v % (p : Int) = d
    generalize sm (cvs b (dvQ (p : Int) b g v r (8 - g)) (8 - g - t) m) 8 = S
    generalize dvR (p : Int) b g v r t m = a
    by_cases c1 : 7 - g - t ≤ m
    · rw [if_pos c1]
      by_cases c2 : m ≤ 7 - t
      · rw [if_pos ⟨c1, c2⟩, am_l]
        congr 1
        grind
      · rw [if_neg (fun z => c2 z.2), hb (m - (7 - g - t)) (by omega) (by omega), Int.zero_mul, Int.add_zero]
    · rw [if_neg (fun z => c1 z.1), if_neg c1, Int.add_zero]
/-- what divide leaves: the quotient's places, the rest's, and the two together -/
theorem div_all {p : Nat} {row by_ : List Int} (h : p ∈ PR) (hr : Fl (p : Int) row) (hb : Fl (p : Int) by_) (hd : ¬ dg (gf by_) 8 = -1) :
    (∀ j, 8 - (dg (gf by_) 8).toNat ≤ j → j < 8 → gf (dvQL p row by_) j = 0) ∧ (∀ j, (dg (gf by_) 8).toNat ≤ j → j < 8 → gf (dvRL p row by_) j = 0) ∧
    (∀ n, n < 8 → (pm (gf by_) (gf (dvQL p row by_)) 8 n + gf (dvRL p row by_) n) % (p : Int) = gf row n) := by
  have hp := PRb h
  have db := dg_b (gf by_) 8
  obtain ⟨g, hg⟩ : ∃ g : Nat, dg (gf by_) 8 = (g : Int) := ⟨(dg (gf by_) 8).toNat, by omega⟩
  have e0 : (dg (gf by_) 8).toNat = g := by omega
  have hg8 : g < 8 := by omega
  obtain ⟨n1, n2⟩ := dg_nz (gf by_) 8 g hg
  unfold dvQL dvRL
  rw [e0]
  obtain ⟨k, i1, i2, i3⟩ := iv_I h (a := gf by_ g) (by have := hb.2 g; unfold gf at *; omega)
  have hv : gf by_ g * (iv p (gf by_ g).toNat : Int) % (p : Int) = 1 % (p : Int) := by rw [i1, Int.add_mul_emod_self_left]
  refine ⟨fun j h1 h2 => ?_, fun j h1 h2 => ?_, fun n hn => ?_⟩
  · rw [gf_tab h2]
    unfold dvQ
    rw [if_neg (fun z => by omega)]
  · rw [gf_tab h2]
    exact dvR_z (by omega) hv (fun j => hr.2 j) (8 - g) (Nat.le_refl _) j (by omega) h2
  · rw [gf_tab hn]
    have q := dv_inv (v := (iv p (gf by_ g).toNat : Int)) hg8 n2 (r := gf row) (fun j => hr.2 j) (8 - g) (Nat.le_refl _) n hn
    rw [show gf row n % (p : Int) = gf row n from modr (hr.2 n)] at q
    rw [← q, Int.add_comm]
    congr 2
    unfold pm
    refine sm_congr 8 (fun j hj => ?_)
    unfold cvs
    by_cases c : j ≤ n
    · rw [if_pos c, if_pos ⟨c, by omega⟩, gf_tab (by omega)]
    · rw [if_neg c, if_neg (fun z => c z.1)]
theorem times_ok {f g : Nat → Int} {k : Nat} (hk : dg f 8 = (k : Int)) (h : ∀ j, 8 - k ≤ j → j < 8 → g j = 0) : ¬ (8 ≤ dg f 8 + dg g 8 ∧ 0 ≤ dg f 8 ∧ 0 ≤ dg g 8) := by
  have h1 := dg_lt h
  have h2 := dg_b f 8
  omega
/-- the row is made again -/
theorem again_ok {p : Nat} {row by_ Q R : List Int} (hr : Fl (p : Int) row) (h : ∀ n, n < 8 → (pm (gf by_) (gf Q) 8 n + gf R n) % (p : Int) = gf row n) : tab (fun t => ((tab (fun n => pm (gf by_) (gf Q) 8 n % (p : Int)) 8).getD t 0 + 1 * R.getD t 0) % (p : Int)) 8 = row := by
  refine list_ext (by rw [tab_len, hr.1]) (fun j hj => ?_)
  rw [tab_len] at hj
  rw [tab_get _ hj, tab_get _ hj, Int.one_mul, am_l]
  exact h j hj
def shf (m : Nat) (Q : Nat → Int) (n : Nat) : Int := if m ≤ n then Q (n - m) else 0
theorem ev_shf {Q : Nat → Int} {x : Int} : ∀ m N, m ≤ N → ev N (shf m Q) x = x ^ m * ev (N - m) Q x
  | 0, N, _ => by
    rw [show shf 0 Q = Q from funext (fun n => by unfold shf; rw [if_pos (Nat.zero_le _)]; rfl), Int.pow_zero, Int.one_mul]
    rfl
  | m + 1, 0, h => by omega
  | m + 1, N + 1, h => by
    show shf (m + 1) Q 0 + x * ev N (fun i => shf (m + 1) Q (i + 1)) x = _
    rw [show (fun i => shf (m + 1) Q (i + 1)) = shf m Q from funext (fun i => by
      unfold shf
      by_cases c : m ≤ i
      · rw [if_pos c, if_pos (by omega), show i + 1 - (m + 1) = i - m by omega]
      · rw [if_neg c, if_neg (by omega)]), ev_shf m N (by omega), show N + 1 - (m + 1) = N - m by omega]
    show (if m + 1 ≤ 0 then _ else 0) + _ = _
    rw [if_neg (by omega), Int.pow_succ]
    grind
theorem ev_top {f : Nat → Int} {x : Int} : ∀ n, ev (n + 1) f x = ev n f x + f n * x ^ n
  | 0 => by
    show f 0 + x * 0 = 0 + f 0 * x ^ 0
    rw [Int.pow_zero]
    omega
  | n + 1 => by
    show f 0 + x * ev (n + 1) (fun i => f (i + 1)) x = f 0 + x * ev n (fun i => f (i + 1)) x + f (n + 1) * x ^ (n + 1)
    rw [ev_top (f := fun i => f (i + 1)) n, Int.pow_succ]
    grind
theorem ev_congr {f g : Nat → Int} {x p : Int} : ∀ n, (∀ j, j < n → f j % p = g j % p) → ev n f x % p = ev n g x % p
  | 0, _ => rfl
  | n + 1, h => by
    have ih := ev_congr (x := x) n (fun j hj => h j (by omega))
    rw [ev_top, ev_top, Int.add_emod, ih, Int.mul_emod (f n), h n (by omega), ← Int.mul_emod, ← Int.add_emod]
theorem ev_pm {b Q : Nat → Int} {x p : Int} {g : Nat} (hb : ∀ j, g < j → j < 8 → b j = 0) (hQ : ∀ j, 8 - g ≤ j → j < 8 → Q j = 0) (hg : g < 8) : ∀ m, m ≤ 8 → ev 8 (fun n => pm b Q m n) x % p = ev m b x * ev 8 Q x % p
  | 0, _ => by
    show ev 8 (fun n => 0) x % p = 0 * _ % p
    rw [Int.zero_mul, ev_m0 8 _ x (fun i _ => Int.zero_emod _), Int.zero_emod]
  | m + 1, hm => by
    have ih := ev_pm (x := x) (p := p) hb hQ hg m (by omega)
    have e : (fun n => pm b Q (m + 1) n) = (fun n => pm b Q m n + b m * shf m Q n) := funext (fun n => by
      show pm b Q m n + (if m ≤ n then b m * Q (n - m) else 0) = _
      unfold shf
      by_cases c : m ≤ n
      · rw [if_pos c, if_pos c]
      · rw [if_neg c, if_neg c, Int.mul_zero])
    rw [e, ev_add, ev_top (f := b) m, ev_shf m 8 (by omega)]
    by_cases c : g < m
    · rw [hb m c (by omega), Int.zero_mul, Int.zero_mul, Int.add_zero, Int.add_zero]
      exact ih
    · have h3 := ev_cut (f := Q) (p := p) (x := x) m (8 - m) (fun j h4 h5 => hQ j (by omega) (by omega))
      rw [show 8 - m + m = 8 by omega] at h3
      obtain ⟨k, hk⟩ := emk h3
      obtain ⟨l, hl⟩ := emk ih
      refine emq (l - b m * x ^ m * k) ?_
      rw [hl]
      generalize ev 8 Q x = e8 at hk ⊢
      rw [hk]
      grind
/-- the values: quotient times what it's divided by, and the rest -/
theorem val_ok {p : Nat} {row by_ Q R : List Int} {g : Nat} {x : Int} (hp : 2 < p ∧ p < 24) (hb : ∀ j, g < j → j < 8 → gf by_ j = 0) (hQ : ∀ j, 8 - g ≤ j → j < 8 → gf Q j = 0) (hg : g < 8) (h : ∀ n, n < 8 → (pm (gf by_) (gf Q) 8 n + gf R n) % (p : Int) = gf row n) :
    hor (gf row) (p : Int) x 8 = (hor (gf by_) p x 8 * hor (gf Q) p x 8 + hor (gf R) p x 8) % (p : Int) := by
  have hv : ∀ f : Nat → Int, hor f (p : Int) x 8 % (p : Int) = ev 8 f x % (p : Int) := fun f => by
    have h1 := hor_ev (p := (p : Int)) f x 8 (Nat.le_refl 8)
    rw [show (fun i => f (8 - 8 + i)) = f from funext (fun i => by rw [Nat.sub_self, Nat.zero_add])] at h1
    exact h1
  have hm : hor (gf row) (p : Int) x 8 % (p : Int) = hor (gf row) (p : Int) x 8 := modr (hor_b (by omega) 8)
  rw [← hm, hv]
  obtain ⟨k1, e1⟩ := emk (hv (gf by_))
  obtain ⟨k2, e2⟩ := emk (hv (gf Q))
  obtain ⟨k3, e3⟩ := emk (hv (gf R))
  have q1 : ev 8 (gf row) x % (p : Int) = ev 8 (fun n => pm (gf by_) (gf Q) 8 n + 1 * gf R n) x % (p : Int) := ev_congr 8 (fun j hj => by
    rw [← h j hj, Int.one_mul, Int.emod_emod_of_dvd _ (Int.dvd_refl _)])
  rw [q1, ev_add, e1, e2, e3]
  obtain ⟨k4, e4⟩ := emk (ev_pm (x := x) (p := (p : Int)) hb hQ hg 8 (Nat.le_refl 8))
  rw [e4]
  refine emq (k4 - ev 8 (gf by_) x * k2 - k1 * ev 8 (gf Q) x - (p : Int) * k1 * k2 - k3) ?_
  grind
theorem hor_zero {f : Nat → Int} {p x : Int} (h : ∀ j, j < 8 → f j = 0) : ∀ t, t ≤ 8 → hor f p x t = 0
  | 0, _ => rfl
  | t + 1, ht => by
    show (hor f p x t * x + f (7 - t)) % p = 0
    rw [hor_zero h t (by omega), h (7 - t) (by omega), Int.zero_mul, Int.add_zero, Int.zero_emod]
