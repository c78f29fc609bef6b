theorem MM_pow {p : Nat} {e : Int} (h : p ∈ PR) (he : 0 ≤ e ∧ e < p) : ∀ n : Nat, MM p e ^ n % (gq p : Int) = MM p (e * n % (p : Int))
  | 0 => by
    have hp := PRb h
    have hq := gq_b h
    rw [Int.pow_zero, Int.natCast_zero, Int.mul_zero, Int.zero_emod, MM_0 h]
    exact Int.emod_eq_of_lt (by omega) (by omega)
  | n + 1 => by
    have hp := PRb h
    have b := modb (z := e * n) (p := (p : Int)) (by omega)
    rw [← pow_s, MM_pow h he n, MM_mul h b he, am_l]
    congr 1
    congr 1
    rw [Int.natCast_add, Int.mul_add]
    show _ = e * (n : Int) + e * 1
    rw [Int.mul_one]
theorem MM_mod {p : Nat} {e : Int} (h : p ∈ PR) (he : 0 ≤ e ∧ e < p) : MM p e % (gq p : Int) = MM p e := by
  have b := MM_b h he
  exact Int.emod_eq_of_lt (by omega) b.2
theorem MM_ne1 {p : Nat} {e : Int} (h : p ∈ PR) (he : 0 < e ∧ e < p) : MM p e ≠ 1 := by
  intro q
  have q2 := MM_inj h (a := e) (b := 0) (by omega) (by omega) (q.trans (MM_0 h).symm)
  omega
theorem mul_self_mod (a p : Int) : a * p % p = 0 := Int.mul_emod_left a p
/-- the inverse, in whole numbers -/
theorem iv_I {p : Nat} {a : Int} (h : p ∈ PR) (ha : 0 < a ∧ a < p) : ∃ k : Int, a * (iv p a.toNat : Int) = 1 + (p : Int) * k ∧ 0 ≤ (iv p a.toNat : Int) ∧ (iv p a.toNat : Int) < p := by
  obtain ⟨h1, h2, h3⟩ := iv_ok h (a := a.toNat) (by omega) (by omega)
  refine ⟨a * (iv p a.toNat : Int) / (p : Int), ?_, by omega, by omega⟩
  have e1 : a * (iv p a.toNat : Int) % (p : Int) = 1 := by
    have e2 : a = (a.toNat : Int) := by omega
    have e3 : a * (iv p a.toNat : Int) = ((a.toNat * iv p a.toNat : Nat) : Int) := by rw [Int.natCast_mul, ← e2]
    rw [e3, ← Int.natCast_emod, h1]
    rfl
  have e4 := Int.emod_add_mul_ediv (a * (iv p a.toNat : Int)) (p : Int)
  omega
/-- what breaks gives opens the same commitment -/
theorem break_ok {p : Nat} {l : List Int} {c : Int} (h : p ∈ PR) (hc : 0 ≤ c ∧ c < p) : cm p l ((c - wt p l) % (p : Int) * (iv p (bs p 8) : Int) % (p : Int)) = c := by
  have hp := PRb h
  have hb := bs_b h (i := 8) (by omega)
  obtain ⟨k, e1, e2, e3⟩ := iv_I h (a := (bs p 8 : Int)) (by omega)
  rw [Int.toNat_natCast] at e1 e2 e3
  unfold cm
  have hm : c % (p : Int) = c := Int.emod_eq_of_lt hc.1 hc.2
  conv => rhs; rw [← hm]
  generalize (iv p (bs p 8) : Int) = i at e1
  generalize (bs p 8 : Int) = B at e1
  generalize wt p l = W
  obtain ⟨x, hx⟩ := emx (a := c - W) (p := (p : Int))
  obtain ⟨y, hy⟩ := emx (a := (c - W - (p : Int) * x) * i) (p := (p : Int))
  rw [hx, hy]
  refine emq ((c - W) * k - x * (1 + (p : Int) * k) - B * y) ?_
  have e4 : B * ((c - W - (p : Int) * x) * i - (p : Int) * y) = (c - W - (p : Int) * x) * (B * i) - (p : Int) * (B * y) := by grind
  rw [e4, e1]
  grind

theorem emk {a b p : Int} (h : a % p = b % p) : ∃ k, a = b + p * k := by
  have h1 := Int.emod_add_mul_ediv a p
  have h2 := Int.emod_add_mul_ediv b p
  refine ⟨a / p - b / p, ?_⟩
  rw [Int.mul_sub]
  omega
theorem sm_li {f g k : Nat → Int} {c p : Int} (n : Nat) (h : ∀ j, j < n → f j % p = (g j + c * k j) % p) : sm f n % p = (sm g n + c * sm k n) % p := by
  rw [← sm_mod (f := f), sm_congr n h, sm_mod (f := fun j => g j + c * k j), sm_lc]
theorem inn_lin {p : Int} {F A M S : List Int} {c : Int} (hA : ∀ j, j < 8 → A.getD j 0 % p = (M.getD j 0 + c * S.getD j 0) % p) : inn F A % p = (inn F M + c * inn F S) % p := by
  unfold inn
  refine sm_li 8 (fun j hj => ?_)
  obtain ⟨k, hk⟩ := emk (hA j hj)
  refine emq (F.getD j 0 * k) ?_
  rw [hk]
  grind
theorem wt_lin {p : Nat} {A M S : List Int} {c : Int} (hA : ∀ j, j < 8 → A.getD j 0 % (p : Int) = (M.getD j 0 + c * S.getD j 0) % (p : Int)) : wt p A % (p : Int) = (wt p M + c * wt p S) % (p : Int) := by
  unfold wt
  refine sm_li 8 (fun j hj => ?_)
  obtain ⟨k, hk⟩ := emk (hA j hj)
  refine emq ((bs p j : Int) * k) ?_
  rw [hk]
  grind
theorem cm_lin {p : Nat} {A M S : List Int} {c m b t : Int} (hA : ∀ j, j < 8 → A.getD j 0 % (p : Int) = (M.getD j 0 + c * S.getD j 0) % (p : Int)) (ht : t % (p : Int) = (m + c * b) % (p : Int)) : cm p A t = (cm p M m + c * cm p S b) % (p : Int) := by
  obtain ⟨k, hk⟩ := emk (wt_lin hA)
  obtain ⟨l, hl⟩ := emk ht
  unfold cm
  obtain ⟨x, hx⟩ := emx (a := wt p M + (bs p 8 : Int) * m) (p := (p : Int))
  obtain ⟨y, hy⟩ := emx (a := wt p S + (bs p 8 : Int) * b) (p := (p : Int))
  rw [hx, hy, hk, hl]
  refine emq (k + (bs p 8 : Int) * l + x + c * y) ?_
  grind
theorem tab_lin {p : Nat} {M S : List Int} {c : Int} : ∀ j, j < 8 → (tab (fun j => (M.getD j 0 + c * S.getD j 0) % (p : Int)) 8).getD j 0 % (p : Int) = (M.getD j 0 + c * S.getD j 0) % (p : Int) := fun j hj => by
  rw [tab_get _ hj, Int.emod_emod_of_dvd _ (Int.dvd_refl _)]
/-- a right run is accepted -/
theorem acc_ok {p : Nat} {R : RS} {M S F : List Int} {c m b : Int} (h4 : R.st = 4) (he : R.e = cm p S b) (hv : R.v = inn F S % (p : Int)) (hF : R.form = F) (ha : R.fa = cm p M m) (hw : R.w = inn F M % (p : Int)) (hc : R.c = c) (ht : R.t = (m + c * b) % (p : Int)) (hA : R.answer = tab (fun j => (M.getD j 0 + c * S.getD j 0) % (p : Int)) 8) : acc p R := by
  refine ⟨h4, ?_, ?_⟩
  · rw [hA, ht, ha, hc, he]
    exact cm_lin tab_lin (Int.emod_emod_of_dvd _ (Int.dvd_refl _))
  · rw [hF, hA, hw, hc, hv, inn_lin tab_lin]
    obtain ⟨x, hx⟩ := emx (a := inn F M) (p := (p : Int))
    obtain ⟨y, hy⟩ := emx (a := inn F S) (p := (p : Int))
    rw [hx, hy]
    refine emq (x + c * y) ?_
    grind
theorem modr {a p : Int} (h : 0 ≤ a ∧ a < p) : a % p = a := Int.emod_eq_of_lt h.1 h.2
theorem unmask1 {m c s p : Int} (hm : 0 ≤ m ∧ m < p) : ((m + c * s) % p + -c * s) % p = m := by
  conv => rhs; rw [← modr hm]
  obtain ⟨x, hx⟩ := emx (a := m + c * s) (p := p)
  rw [hx]
  refine emq (-x) ?_
  grind
theorem unmask2 {m c s p : Int} (hm : 0 ≤ m ∧ m < p) : ((m + c * s) % p - c * s) % p = m := by
  have q := unmask1 (c := c) (s := s) hm
  rw [← q]
  congr 1
  grind
theorem unmask_ok {p : Nat} {M S : List Int} {c : Int} (hM : Fl (p : Int) M) : tab (fun t => ((tab (fun j => (M.getD j 0 + c * S.getD j 0) % (p : Int)) 8).getD t 0 + -c * S.getD t 0) % (p : Int)) 8 = M := by
  refine list_ext (by rw [tab_len, hM.1]) (fun j hj => ?_)
  rw [tab_len] at hj
  rw [tab_get _ hj, tab_get _ hj]
  exact unmask1 (hM.2 j)
theorem extr1 {p : Nat} {m c d s : Int} (h : p ∈ PR) (hs : 0 ≤ s ∧ s < p) (hc : 0 ≤ c ∧ c < p) (hd : 0 ≤ d ∧ d < p) (hcd : c ≠ d) : ((m + c * s) % (p : Int) - (m + d * s) % (p : Int)) * (iv p ((c - d) % (p : Int)).toNat : Int) % (p : Int) = s := by
  have hp := PRb h
  have b := modb (z := c - d) (p := (p : Int)) (by omega)
  have ne : (c - d) % (p : Int) ≠ 0 := by
    intro z
    have hk := Int.emod_add_mul_ediv (c - d) (p : Int)
    rw [z] at hk
    rcases Int.lt_trichotomy ((c - d) / (p : Int)) 0 with q | q | q
    · have := Int.mul_le_mul_of_nonneg_left (show (c - d) / (p : Int) ≤ -1 by omega) (show (0 : Int) ≤ p by omega)
      omega
    · rw [q] at hk; omega
    · have := Int.mul_le_mul_of_nonneg_left (show 1 ≤ (c - d) / (p : Int) by omega) (show (0 : Int) ≤ p by omega)
      omega
  obtain ⟨k, e1, -, -⟩ := iv_I h (a := (c - d) % (p : Int)) (by omega)
  conv => rhs; rw [← modr hs]
  generalize (iv p ((c - d) % (p : Int)).toNat : Int) = i at e1 ⊢
  obtain ⟨w, hw⟩ := emx (a := c - d) (p := (p : Int))
  obtain ⟨x, hx⟩ := emx (a := m + c * s) (p := (p : Int))
  obtain ⟨y, hy⟩ := emx (a := m + d * s) (p := (p : Int))
  rw [hw] at e1
  rw [hx, hy]
  refine emq (s * k + w * s * i - x * i + y * i) ?_
  have e2 : (m + c * s - (p : Int) * x - (m + d * s - (p : Int) * y)) * i = s * ((c - d - (p : Int) * w) * i) + (p : Int) * (w * s * i - x * i + y * i) := by grind
  rw [e2, e1]
  grind
theorem extr_ok {p : Nat} {M S : List Int} {c d : Int} (h : p ∈ PR) (hS : Fl (p : Int) S) (hc : 0 ≤ c ∧ c < p) (hd : 0 ≤ d ∧ d < p) (hcd : c ≠ d) : tab (fun t => (((tab (fun j => (M.getD j 0 + c * S.getD j 0) % (p : Int)) 8).getD t 0 - (tab (fun j => (M.getD j 0 + d * S.getD j 0) % (p : Int)) 8).getD t 0) * (iv p ((c - d) % (p : Int)).toNat : Int)) % (p : Int)) 8 = S := by
  refine list_ext (by rw [tab_len, hS.1]) (fun j hj => ?_)
  rw [tab_len] at hj
  rw [tab_get _ hj, tab_get _ hj, tab_get _ hj]
  exact extr1 h (hS.2 j) hc hd hcd
/-- a number that isn't 0 stays so if it's multiplied by one that isn't -/
theorem mul_nz {p : Nat} {a d : Int} (h : p ∈ PR) (ha : 0 < a ∧ a < p) (hd : 0 < d ∧ d < p) : a * d % (p : Int) ≠ 0 := by
  intro z
  obtain ⟨k, e1, -, -⟩ := iv_I h ha
  have e2 : (iv p a.toNat : Int) * (a * d) % (p : Int) = 0 := by rw [Int.mul_emod, z, Int.mul_zero, Int.zero_emod]
  have e3 : (iv p a.toNat : Int) * (a * d) = d + (p : Int) * (k * d) := by
    have e4 : (iv p a.toNat : Int) * (a * d) = (a * (iv p a.toNat : Int)) * d := by grind
    rw [e4, e1]
    grind
  rw [e3, Int.add_mul_emod_self_left, modr (by omega)] at e2
  omega
theorem wt_upd {p : Nat} {A : List Int} {k : Nat} {x : Int} (hl : A.length = 8) (hk : k < 8) : wt p (A.set k x) = wt p A - (bs p k : Int) * A.getD k 0 + (bs p k : Int) * x := by
  unfold wt
  rw [sm_upd (f := fun i => (bs p i : Int) * (A.set k x).getD i 0) (g := fun i => (bs p i : Int) * A.getD i 0) (k := k) 8 hk (fun j hj => by show (bs p j : Int) * (A.set k x).getD j 0 = _; rw [gset_n hj])]
  show _ - (bs p k : Int) * A.getD k 0 + (bs p k : Int) * (A.set k x).getD k 0 = _
  rw [gset_e (by omega)]
/-- a changed answer isn't that of the same commitment -/
theorem changed_ne {p : Nat} {A : List Int} {k : Nat} {r t : Int} (h : p ∈ PR) (hl : A.length = 8) (hk : k < 8) (hr : 0 ≤ r ∧ r < p - 1) : cm p (A.set k ((A.getD k 0 + 1 + r) % (p : Int))) t ≠ cm p A t := by
  intro q
  have hb := bs_b h (i := k) (by omega)
  have n0 := mul_nz h (a := (bs p k : Int)) (d := 1 + r) (by omega) (by omega)
  unfold cm at q
  rw [wt_upd hl hk] at q
  obtain ⟨z, hz⟩ := emk q
  obtain ⟨x, hx⟩ := emx (a := A.getD k 0 + 1 + r) (p := (p : Int))
  rw [hx] at hz
  apply n0
  have e : (bs p k : Int) * (1 + r) = (p : Int) * (z + (bs p k : Int) * x) := by grind
  rw [e, Int.mul_emod_right]

theorem ct_lin10 : ∀ p ∈ PR, ∀ w ∈ List.range p, ∀ v ∈ List.range p, 0 < v → ct (fun x : Nat => ((w : Int) + (x : Int) * (v : Int)) % (p : Int) = 0) p = 1 := by decide +kernel
theorem ct_lin1 {p : Nat} {w v : Int} (hp : p ∈ PR) (hw : 0 ≤ w ∧ w < p) (hv : 0 < v ∧ v < p) : ct (fun x : Nat => (w + (x : Int) * v) % (p : Int) = 0) p = 1 := by
  have h1 := ct_lin10 p hp w.toNat (List.mem_range.mpr (by omega)) v.toNat (List.mem_range.mpr (by omega)) (by omega)
  have e1 : (w.toNat : Int) = w := by omega
  have e2 : (v.toNat : Int) = v := by omega
  rw [e1, e2] at h1
  exact h1
theorem ct_lin0 {p : Nat} {w : Int} (hw : 0 ≤ w ∧ w < p) : (ct (fun x : Nat => (w + (x : Int) * 0) % (p : Int) = 0) p : Int) = if w = 0 then (p : Int) else 0 := by
  have e : ∀ x : Nat, (w + (x : Int) * 0) % (p : Int) = w := fun x => by rw [Int.mul_zero, Int.add_zero]; exact modr hw
  split
  · rename_i c
    rw [ct_all p (fun x _ => by rw [e, c])]
  · rename_i c
    rw [ct_none p (fun x _ => by rw [e]; exact c)]
    rfl
theorem ct_due {p : Nat} {w v : Int} (hp : p ∈ PR) (hw : 0 ≤ w ∧ w < p) (hv : 0 ≤ v ∧ v < p) : (ct (fun x : Nat => (w + (x : Int) * v) % (p : Int) = 0) p : Int) = if v ≠ 0 then 1 else if w = 0 then (p : Int) else 0 := by
  by_cases c : v = 0
  · subst c
    rw [ct_lin0 hw]
    exact (if_neg (fun z => z rfl)).symm
  · rw [if_pos c, ct_lin1 hp hw (by omega)]
    rfl
theorem dg_rep : dg (gf (List.replicate 8 0)) 8 = -1 := dg_all 8 (fun j _ => rep0 8 j)
theorem dg_pos {f : Nat → Int} {j : Nat} (hj : j < 8) (h : f j ≠ 0) : dg f 8 ≠ -1 := fun z => h (dg_neg0 8 z j hj)
theorem sub_ml (a b p : Int) : (a % p - b) % p = (a - b) % p := by
  obtain ⟨x, hx⟩ := emx (a := a) (p := p)
  rw [hx]
  refine emq (-x) ?_
  grind
theorem sim1 {a b p : Int} : ((a - b) % p + b) % p = a % p := by
  rw [am_l]
  congr 1
  omega
theorem sim2 {a b p : Int} : ((a - b) % p + b % p) % p = a % p := by
  rw [am_l, am_r]
  congr 1
  omega

/-- the joined statement is fulfilled just where the lacks are -/
theorem join_ok {p : Nat} {R : RS} {one two form : List Int} {v w f l1 l2 : Int} (h1 : R.st = 1) (he : R.e = (cm p one 1 + f * cm p two 2) % (p : Int)) (hv : R.v = (v + f * w) % (p : Int)) (hF : R.form = form) (e1 : (inn form one - v) % (p : Int) = l1) (e2 : (inn form two - w) % (p : Int) = l2) :
    suit p R (tab (fun t => (one.getD t 0 + f * two.getD t 0) % (p : Int)) 8) ((1 + 2 * f) % (p : Int)) ↔ (l1 + f * l2) % (p : Int) = 0 := by
  have q1 : cm p (tab (fun t => (one.getD t 0 + f * two.getD t 0) % (p : Int)) 8) ((1 + 2 * f) % (p : Int)) = R.e := by
    rw [he]
    refine cm_lin tab_lin ?_
    rw [Int.emod_emod_of_dvd _ (Int.dvd_refl _), Int.mul_comm 2 f]
  have q2 : inn R.form (tab (fun t => (one.getD t 0 + f * two.getD t 0) % (p : Int)) 8) % (p : Int) = R.v ↔ (l1 + f * l2) % (p : Int) = 0 := by
    rw [hF, inn_lin tab_lin, hv, ← e1, ← e2]
    generalize inn form one = a
    generalize inn form two = b
    obtain ⟨x, hx⟩ := emx (a := a - v) (p := (p : Int))
    obtain ⟨y, hy⟩ := emx (a := b - w) (p := (p : Int))
    rw [hx, hy]
    constructor
    · intro z
      obtain ⟨k, hk⟩ := emk z
      have e : a - v - (p : Int) * x + f * (b - w - (p : Int) * y) = (p : Int) * (k - x - f * y) := by grind
      rw [e, Int.mul_emod_right]
    · intro z
      have hk := Int.emod_add_mul_ediv (a - v - (p : Int) * x + f * (b - w - (p : Int) * y)) (p : Int)
      rw [z] at hk
      refine emq ((a - v - (p : Int) * x + f * (b - w - (p : Int) * y)) / (p : Int) + x + f * y) ?_
      grind
  constructor
  · intro z
    exact q2.mp z.2.2
  · intro z
    exact ⟨by rw [h1]; decide, q1, q2.mpr z⟩

theorem cm_bit {p : Nat} {b t : Int} : cm p ((List.replicate 8 0).set 0 b) t = cm1 p b t := by
  have e : wt p ((List.replicate 8 0).set 0 b) = (bs p 0 : Int) * b := by
    unfold wt
    show 0 + (bs p 0 : Int) * b + (bs p 1 : Int) * 0 + (bs p 2 : Int) * 0 + (bs p 3 : Int) * 0 + (bs p 4 : Int) * 0 + (bs p 5 : Int) * 0 + (bs p 6 : Int) * 0 + (bs p 7 : Int) * 0 = _
    simp only [Int.mul_zero, Int.add_zero, Int.zero_add]
  unfold cm cm1
  rw [e]
theorem bits_sum {p : Nat} {P : PS} {c : Int} (hp : 2 < p ∧ p < 24) (k : P.ok p) (h3 : P.st = 3) (hc : P.c = c) : (P.c0 + P.c1) % (p : Int) = c := by
  obtain ⟨k1, k2, k3, k4, -⟩ := k
  have hb := (k2 (by omega)).1
  have e : ∀ a : Int, 0 ≤ c ∧ c < p → ((c - a) % (p : Int) + a) % (p : Int) = c := fun a h => by
    rw [sim1, modr h]
  rcases hb with hb | hb
  · obtain ⟨q1, q2, q3⟩ := (k4 (by omega)).1 hb
    rw [hc] at q1 q2
    rw [q2]
    exact e _ q1
  · obtain ⟨q1, q2, q3⟩ := (k4 (by omega)).2 hb
    rw [hc] at q1 q2
    rw [q2, Int.add_comm]
    exact e _ q1
theorem bit_f {p : Nat} {P : PS} (hp : 2 < p ∧ p < 24) (k : P.ok p) (h3 : P.st = 3) : (0 ≤ P.f0 ∧ P.f0 < p) ∧ (0 ≤ P.f1 ∧ P.f1 < p) := by
  obtain ⟨k1, k2, k3, k4, -⟩ := k
  rcases (k2 (by omega)).1 with hb | hb
  · obtain ⟨q1, q2, q3, q4, q5⟩ := (k3 (by omega)).1 hb
    rw [q2, q5]
    exact ⟨modb (by omega), fo_b (by omega)⟩
  · obtain ⟨q1, q2, q3, q4, q5⟩ := (k3 (by omega)).2 hb
    rw [q2, q5]
    exact ⟨fo_b (by omega), modb (by omega)⟩
theorem bit_side0 {p : Nat} {P : PS} {E : Int} (hp : 2 < p ∧ p < 24) (k : P.ok p) (h3 : P.st = 3) (hE : P.e = E) : ((bs p 8 : Int) * P.t0) % (p : Int) = (P.f0 + E * P.c0) % (p : Int) := by
  obtain ⟨k1, k2, k3, k4, -⟩ := k
  have e1 := (k2 (by omega)).2.2
  rw [hE] at e1
  rcases (k2 (by omega)).1 with hb | hb
  · obtain ⟨q1, q2, q3, q4, q5⟩ := (k3 (by omega)).1 hb
    obtain ⟨r1, r2, r3⟩ := (k4 (by omega)).1 hb
    rw [r3, q2, e1, hb]
    unfold cm1
    obtain ⟨x, hx⟩ := emx (a := P.m + P.c0 * P.bl) (p := (p : Int))
    obtain ⟨y, hy⟩ := emx (a := (bs p 8 : Int) * P.m) (p := (p : Int))
    obtain ⟨z, hz⟩ := emx (a := (bs p 0 : Int) * 0 + (bs p 8 : Int) * P.bl) (p := (p : Int))
    rw [hx, hy, hz]
    refine emq (y + z * P.c0 - (bs p 8 : Int) * x) ?_
    grind
  · obtain ⟨q1, q2, q3, q4, q5⟩ := (k3 (by omega)).2 hb
    rw [q5, hE]
    unfold fo
    obtain ⟨y, hy⟩ := emx (a := (bs p 8 : Int) * P.t0 - (E - 0 * (bs p 0 : Int)) * P.c0) (p := (p : Int))
    rw [hy]
    refine emq y ?_
    grind
theorem bit_side1 {p : Nat} {P : PS} {E : Int} (hp : 2 < p ∧ p < 24) (k : P.ok p) (h3 : P.st = 3) (hE : P.e = E) : ((bs p 8 : Int) * P.t1) % (p : Int) = (P.f1 + (E + (bs p 0 : Int) * ((p : Int) - 1) % (p : Int)) % (p : Int) * P.c1) % (p : Int) := by
  obtain ⟨k1, k2, k3, k4, -⟩ := k
  have e1 := (k2 (by omega)).2.2
  rw [hE] at e1
  obtain ⟨u, hu⟩ := emx (a := (bs p 0 : Int) * ((p : Int) - 1)) (p := (p : Int))
  rw [hu]
  obtain ⟨w, hw⟩ := emx (a := E + ((bs p 0 : Int) * ((p : Int) - 1) - (p : Int) * u)) (p := (p : Int))
  rw [hw]
  rcases (k2 (by omega)).1 with hb | hb
  · obtain ⟨q1, q2, q3, q4, q5⟩ := (k3 (by omega)).1 hb
    rw [q5, hE]
    unfold fo
    obtain ⟨y, hy⟩ := emx (a := (bs p 8 : Int) * P.t1 - (E - 1 * (bs p 0 : Int)) * P.c1) (p := (p : Int))
    rw [hy]
    refine emq (y - (bs p 0 : Int) * P.c1 + u * P.c1 + w * P.c1) ?_
    grind
  · obtain ⟨q1, q2, q3, q4, q5⟩ := (k3 (by omega)).2 hb
    obtain ⟨r1, r2, r3⟩ := (k4 (by omega)).2 hb
    rw [r3, q2, e1, hb]
    unfold cm1
    obtain ⟨x, hx⟩ := emx (a := P.m + P.c1 * P.bl) (p := (p : Int))
    obtain ⟨y, hy⟩ := emx (a := (bs p 8 : Int) * P.m) (p := (p : Int))
    obtain ⟨z, hz⟩ := emx (a := (bs p 0 : Int) * 1 + (bs p 8 : Int) * P.bl) (p := (p : Int))
    rw [hx, hy, hz]
    refine emq (y + z * P.c1 - (bs p 8 : Int) * x - (bs p 0 : Int) * P.c1 + u * P.c1 + w * P.c1) ?_
    grind
theorem pw3z : ∀ p ∈ PR, ((p ^ 3 : Nat) : Int) = (p : Int) * p * p ∧ (((p - 1) ^ 3 : Nat) : Int) = ((p : Int) - 1) * ((p : Int) - 1) * ((p : Int) - 1) := by decide +kernel
theorem play_is {p : Nat} {l : List Int} {claim z o : Int} (h : p ∈ PR) : wnn p l 0 0 claim z o = if claim = sm (gf l) 8 % (p : Int) then (p : Int) * p * p else (p : Int) * p * p - ((p : Int) - 1) * ((p : Int) - 1) * ((p : Int) - 1) := by
  obtain ⟨h1, h2⟩ := pw3z p h
  unfold wnn
  rw [if_neg (by decide)]
  show wo p 3 (decide (claim = sm (gf l) 8 % (p : Int))) = _
  unfold wo
  rw [h1, h2]
  by_cases c : claim = sm (gf l) 8 % (p : Int)
  · rw [if_pos c, decide_eq_true c, if_pos rfl]
  · rw [if_neg c, decide_eq_false c, if_neg (by decide)]
theorem send_eq {z c p : Int} (hc : 0 ≤ c ∧ c < p) : (z + (c - z) % p) % p = c := by
  rw [am_r]
  conv => rhs; rw [← modr hc]
  congr 1
  omega
theorem send_ne {z c p : Int} (hp : 2 < p) (hc : 0 ≤ c ∧ c < p) : (z + ((c - z) % p + 1) % p) % p ≠ c := by
  intro q
  rw [am_r, show z + ((c - z) % p + 1) = (z + (c - z) % p) + 1 by omega] at q
  obtain ⟨x, hx⟩ := emx (a := c - z) (p := p)
  rw [hx, show z + (c - z - p * x) + 1 = c + 1 + p * (-x) by grind, Int.add_mul_emod_self_left] at q
  by_cases e : c + 1 = p
  · rw [e, Int.emod_self] at q; omega
  · rw [modr (by omega)] at q; omega
theorem wnn_nn {p : Nat} {l : List Int} {r : Nat} {s c z o : Int} (hp : p ∈ PR) : 0 ≤ wnn p l r s c z o := by
  unfold wnn
  split
  · exact (ww_b hp p).1
  · exact (wo_b hp (by omega)).1
theorem cr_3 {p : Nat} {l : List Int} (hl : Fl (p : Int) l) : cr p l 3 = l.getD 0 0 := by
  show (0 + l.getD 0 0) % (p : Int) = _
  rw [Int.zero_add]
  exact modr (hl.2 0)
theorem chance_is {p : Nat} {l : List Int} {c z o : Int} (hl : Fl (p : Int) l) : wnn p l 3 0 c z o = if c = l.getD 0 0 then 1 else 0 := by
  unfold wnn
  rw [if_neg (by decide), cr_3 hl]
  by_cases e : c = l.getD 0 0
  · rw [if_pos e, decide_eq_true e]; rfl
  · rw [if_neg e, decide_eq_false e]; rfl

def twT : List (Nat × Nat) := [(26, 189), (1023, 1233), (233, 360), (227, 239), (507, 603), (28, 187), (221, 245), (78, 137), (308, 480), (232, 234), (356, 432), (0, 215), (2059, 2238), (663, 698), (74, 141), (61, 154), (287, 501), (216, 250), (6, 209), (1, 214), (673, 688), (264, 273), (41, 174), (58, 157), (69, 146), (104, 111), (295, 493), (12, 203), (252, 285), (95, 120), (231, 235), (288, 500), (548, 562), (65, 150), (387, 401), (361, 427), (383, 405), (217, 249), (18, 197), (1088, 1168), (84, 131), (2, 213), (334, 454), (17, 198), (1024, 1232), (342, 446), (649, 712), (19, 196), (300, 488), (1401, 1428), (49, 166), (24, 191), (257, 280), (44, 171), (75, 140), (253, 284), (365, 423), (338, 450), (660, 701), (380, 408), (46, 169), (349, 439), (16, 199), (328, 460), (314, 474), (230, 236), (30, 185), (224, 242), (68, 147), (98, 117), (20, 195), (218, 248), (1105, 1151), (312, 476), (1519, 1632), (90, 125), (89, 126), (3, 212), (1059, 1197), (1044, 1212), (523, 587), (103, 112), (100, 115), (36, 179), (351, 437), (9, 206), (81, 134), (35, 180), (91, 124), (323, 465), (59, 156), (88, 127), (508, 602), (37, 178), (226, 240), (15, 200), (222, 244), (321, 467), (354, 434), (1829, 1895), (1100, 1156), (659, 702), (42, 173), (79, 136), (625, 736), (34, 181), (324, 464), (21, 194), (76, 139), (633, 728), (7, 208), (316, 472), (96, 119), (618, 743), (229, 237), (92, 123), (11, 204), (38, 177), (1402, 1427), (219, 247), (87, 128), (27, 188), (320, 468), (48, 167), (62, 153), (83, 132), (67, 148), (4, 211), (1047, 1209), (532, 578), (680, 681), (371, 417), (268, 269), (64, 151), (260, 277), (624, 737), (333, 455), (33, 182), (310, 478), (386, 402), (384, 404), (524, 586), (14, 201), (363, 425), (25, 190), (613, 748), (54, 161), (336, 452), (620, 741), (53, 162), (329, 459), (102, 113), (1537, 1614), (296, 492), (29, 186), (39, 176), (93, 122), (55, 160), (22, 193), (366, 422), (291, 497), (319, 469), (655, 706), (86, 129), (294, 494), (645, 716), (52, 163), (304, 484), (1552, 1599), (305, 483), (1092, 1164), (60, 155), (678, 683), (674, 687), (266, 271), (45, 170), (77, 138), (228, 238), (1517, 1634), (303, 485), (623, 738), (220, 246), (56, 159), (32, 183), (1256, 1322), (306, 482), (1035, 1221), (313, 475), (1514, 1637), (511, 599), (1667, 1735), (5, 210), (107, 108), (394, 1698), (99, 116), (543, 567), (43, 172), (51, 164), (66, 149), (225, 241), (223, 243), (1012, 1244), (376, 412), (13, 202), (634, 727), (302, 486), (106, 109), (40, 175), (377, 411), (97, 118), (47, 168), (94, 121), (631, 730), (80, 135), (318, 470), (307, 481), (8, 207), (1101, 1155), (364, 424), (10, 205), (85, 130), (57, 158), (638, 723), (23, 192), (82, 133), (1073, 1183), (539, 571), (72, 143), (378, 410), (71, 144), (535, 575), (292, 496), (374, 414), (1332, 1497), (105, 110), (101, 114), (518, 592), (1076, 1180), (357, 431), (73, 142), (513, 597), (327, 461), (50, 165), (31, 184), (332, 456), (70, 145), (1124, 1132), (63, 152), (1099, 1157), (619, 742), (2145, 2152)]
theorem tw0 : ∀ s ∈ List.range 251, (twT.getD s (0, 0)).1 < 63001 ∧ (twT.getD s (0, 0)).2 < 63001 ∧ (twT.getD s (0, 0)).1 ≠ (twT.getD s (0, 0)).2 ∧ sl (((twT.getD s (0, 0)).1 / 251 : Nat) : Int) (((twT.getD s (0, 0)).1 % 251 : Nat) : Int) = (s : Int) ∧ sl (((twT.getD s (0, 0)).2 / 251 : Nat) : Int) (((twT.getD s (0, 0)).2 % 251 : Nat) : Int) = (s : Int) := by decide +kernel
theorem ff_spec {P : Nat → Prop} [DecidablePred P] : ∀ (n i j : Nat), i ≤ j → j < i + n → P j → ∃ m : Nat, m < i + n ∧ ff P i n = (m : Int) ∧ P m
  | 0, i, j, h1, h2, _ => absurd h2 (by omega)
  | n + 1, i, j, h1, h2, h3 => by
    by_cases c : P i
    · exact ⟨i, by omega, ff_y c, c⟩
    · rw [ff_n c]
      have ne : j ≠ i := fun z => c (z ▸ h3)
      obtain ⟨m, q1, q2, q3⟩ := ff_spec n (i + 1) j (by omega) (by omega) h3
      exact ⟨m, by omega, q2, q3⟩
theorem ff_no {P : Nat → Prop} [DecidablePred P] : ∀ (n i : Nat), (∀ j, i ≤ j → j < i + n → ¬ P j) → ff P i n = -1
  | 0, _, _ => rfl
  | n + 1, i, h => by
    rw [ff_n (h i (Nat.le_refl _) (by omega))]
    exact ff_no n (i + 1) (fun j a b => h j (by omega) (by omega))
/-- every pair has a twin -/
theorem tw_spec (a b : Int) : ∃ m : Nat, m < 63001 ∧ ff (TWP a b) 0 63001 = (m : Int) ∧ ¬ (m : Int) = 251 * a + b ∧ sl ((m / 251 : Nat) : Int) ((m % 251 : Nat) : Int) = sl a b := by
  have hs := sl_b a b
  obtain ⟨q1, q2, q3, q4, q5⟩ := tw0 (sl a b).toNat (List.mem_range.mpr (by omega))
  have e : (((sl a b).toNat : Nat) : Int) = sl a b := by omega
  rw [e] at q4 q5
  generalize (twT.getD (sl a b).toNat (0, 0)).1 = x at q1 q3 q4
  generalize (twT.getD (sl a b).toNat (0, 0)).2 = y at q2 q3 q5
  have h : ∃ j, j < 63001 ∧ TWP a b j := by
    by_cases c : (x : Int) = 251 * a + b
    · exact ⟨y, q2, fun z => q3 (by omega), q5⟩
    · exact ⟨x, q1, c, q4⟩
  obtain ⟨j, h1, h2⟩ := h
  obtain ⟨m, g1, g2, g3⟩ := ff_spec 63001 0 j (Nat.zero_le _) (by omega) h2
  exact ⟨m, by omega, g2, g3.1, g3.2⟩
theorem nx_b {i : Nat} (h : i < 8) : nx i < 8 := by unfold nx; split <;> omega
theorem way_a {r : Nat → Int} {i : Nat} (hi : i < 8) : sl (r (nx i)) ((nx i : Nat) : Int) = gs r (bsd i 0) := by
  rcases (show i = 0 ∨ i = 1 ∨ i = 2 ∨ i = 3 ∨ i = 4 ∨ i = 5 ∨ i = 6 ∨ i = 7 by omega) with rfl | rfl | rfl | rfl | rfl | rfl | rfl | rfl <;> rfl
theorem way_lo {v a b c : Int} {i : Nat} (hi : i < 4) : sl (ws i v a b 0 2) c = ws i v a b c 3 := by
  rcases (show i = 0 ∨ i = 1 ∨ i = 2 ∨ i = 3 by omega) with rfl | rfl | rfl | rfl <;> rfl
theorem way_hi {v a b c : Int} {i : Nat} (h4 : 4 ≤ i) (hi : i < 8) : sl c (ws i v a b 0 2) = ws i v a b c 3 := by
  rcases (show i = 4 ∨ i = 5 ∨ i = 6 ∨ i = 7 by omega) with rfl | rfl | rfl | rfl <;> rfl
theorem cl2 {t : Nat} {v a b : Int} : ws t v a b 0 2 = if t / 2 % 2 = 0 then sl (if t % 2 = 0 then sl (sl v (t : Int)) a else sl a (sl v (t : Int))) b else sl b (if t % 2 = 0 then sl (sl v (t : Int)) a else sl a (sl v (t : Int))) := by
  unfold ws
  have e1 : wq t v a b 0 1 = if t % 2 = 0 then (sl v (t : Int), a) else (a, sl v (t : Int)) := by
    show (if t / 2 ^ 0 % 2 = 0 then _ else _) = _
    rw [Nat.pow_zero, Nat.div_one]
    rfl
  have e2 : wq t v a b 0 2 = if t / 2 % 2 = 0 then (sl (wq t v a b 0 1).1 (wq t v a b 0 1).2, b) else (b, sl (wq t v a b 0 1).1 (wq t v a b 0 1).2) := by
    show (if t / 2 ^ 1 % 2 = 0 then _ else _) = _
    rw [Nat.pow_one]
    rfl
  rw [e2, e1]
  by_cases c1 : t % 2 = 0
  · by_cases c2 : t / 2 % 2 = 0
    · simp only [if_pos c1, if_pos c2]
    · simp only [if_pos c1, if_neg c2]
  · by_cases c2 : t / 2 % 2 = 0
    · simp only [if_neg c1, if_pos c2]
    · simp only [if_neg c1, if_neg c2]

theorem st_new {p : Nat} {nn : List Int} {n : Nat} {E : Int} (hn : n < nn.length) (hE : E ≠ -1) : stnd p (gf (nn.set n E)) (n + 1) = (stnd p (gf nn) n + E) % (p : Int) := by
  unfold stnd
  show (sm (fun i => if gf (nn.set n E) i = -1 then 0 else gf (nn.set n E) i) n + (if (nn.set n E).getD n 0 = -1 then 0 else (nn.set n E).getD n 0)) % (p : Int) = _
  rw [gset_e hn, if_neg hE, am_l, sm_congr n (g := fun i => if gf nn i = -1 then 0 else gf nn i) (fun j hj => by
    show (if (nn.set n E).getD j 0 = -1 then 0 else (nn.set n E).getD j 0) = _
    rw [gset_n (by omega)]
    rfl)]
theorem st_gone {p : Nat} {nn : List Int} {n k : Nat} {E : Int} (hk : k < n) (hl : k < nn.length) (hE : nn.getD k 0 = E) (h1 : E ≠ -1) : stnd p (gf (nn.set k (-1))) n = (stnd p (gf nn) n - E) % (p : Int) := by
  unfold stnd
  rw [sub_ml, sm_upd (f := fun i => if gf (nn.set k (-1)) i = -1 then 0 else gf (nn.set k (-1)) i) (g := fun i => if gf nn i = -1 then 0 else gf nn i) (k := k) n hk (fun j hj => by
    show (if (nn.set k (-1)).getD j 0 = -1 then 0 else (nn.set k (-1)).getD j 0) = _
    rw [gset_n hj]
    rfl)]
  show (_ - (if nn.getD k 0 = -1 then 0 else nn.getD k 0) + (if (nn.set k (-1)).getD k 0 = -1 then 0 else (nn.set k (-1)).getD k 0)) % (p : Int) = _
  rw [gset_e hl, if_pos rfl, hE, if_neg h1, Int.add_zero]
theorem st_b {p : Nat} {f : Nat → Int} {n : Nat} (hp : 2 < p) : 0 ≤ stnd p f n ∧ stnd p f n < p := modb (by omega)
/-- what is split stands as before -/
theorem st_split {p : Nat} {nn : List Int} {n k : Nat} {E A S : Int} (hp : 2 < p) (hl : nn.length = 16) (hn : n + 2 ≤ 16) (hk : k < n) (hE : nn.getD k 0 = E) (h1 : E ≠ -1) (hA : A ≠ -1) (hS : stnd p (gf nn) n = S) : stnd p (gf (((nn.set k (-1)).set n A).set (n + 1) ((E - A) % (p : Int)))) (n + 2) = S := by
  have hb := modb (z := E - A) (p := (p : Int)) (by omega)
  have hs := st_b (f := gf nn) (n := n) hp
  rw [st_new (n := n + 1) (by rw [List.length_set, List.length_set]; omega) (by omega), st_new (by rw [List.length_set]; omega) hA, st_gone hk (by omega) hE h1, am_l, Int.add_assoc, am_l, ← Int.add_assoc, am_r, hS]
  rw [hS] at hs
  conv => rhs; rw [← modr hs]
  congr 1
  omega
/-- what is merged stands as before -/
theorem st_merge {p : Nat} {nn : List Int} {n k m : Nat} {E A B S : Int} (hp : 2 < p) (hl : nn.length = 16) (hn : n + 1 ≤ 16) (hk : k < n) (hm : m < n) (hkm : k ≠ m) (hA : nn.getD k 0 = A) (hB : nn.getD m 0 = B) (h1 : A ≠ -1) (h2 : B ≠ -1) (hE : E ≠ -1) (hAB : (A + B) % (p : Int) = E) (hS : stnd p (gf nn) n = S) : stnd p (gf (((nn.set k (-1)).set m (-1)).set n E)) (n + 1) = S := by
  have hs := st_b (f := gf nn) (n := n) hp
  rw [st_new (by rw [List.length_set, List.length_set]; omega) hE, st_gone hm (by rw [List.length_set]; omega) (by rw [gset_n (fun z => hkm z.symm)]; exact hB) h2, st_gone hk (by omega) hA h1, sub_ml, am_l, ← hAB, am_r, hS]
  rw [hS] at hs
  conv => rhs; rw [← modr hs]
  congr 1
  omega
theorem inn_one {b : Int} : inn ((List.replicate 8 0).set 0 1) ((List.replicate 8 0).set 0 b) = b := by
  unfold inn
  show 0 + (1 : Int) * b + 0 * 0 + 0 * 0 + 0 * 0 + 0 * 0 + 0 * 0 + 0 * 0 + 0 * 0 = b
  simp only [Int.mul_zero, Int.add_zero, Int.zero_add, Int.one_mul]
theorem split_sum {E A p : Int} (hE : 0 ≤ E ∧ E < p) : (A + (E - A) % p) % p = E := send_eq hE
theorem pay_back {S E p : Int} (hS : 0 ≤ S ∧ S < p) : ((S + E) % p - E) % p = S := by
  rw [sub_ml]
  conv => rhs; rw [← modr hS]
  congr 1
  omega
