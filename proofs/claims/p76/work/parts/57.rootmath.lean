/-! how many zeros a polynomial over a small prime field may have; when two products of linear factors are one -/
def ev : Nat → (Nat → Int) → Int → Int
  | 0, _, _ => 0
  | n + 1, f, x => f 0 + x * ev n (fun i => f (i + 1)) x
theorem ct_le1 {P Q : Nat → Prop} [DecidablePred P] [DecidablePred Q] {a : Nat} : ∀ n, (∀ x, x < n → P x → x = a ∨ Q x) → ct P n ≤ ct Q n + (if a < n then 1 else 0)
  | 0, _ => Nat.zero_le _
  | n + 1, h => by
    have ih := ct_le1 (P := P) (Q := Q) (a := a) n (fun x hx => h x (by omega))
    by_cases hP : P n
    · rw [ct_yes hP]
      by_cases hQ : Q n
      · rw [ct_yes hQ]
        split at ih
        · rw [if_pos (by omega)]; omega
        · split <;> omega
      · rw [ct_no hQ]
        have e : n = a := (h n (by omega) hP).resolve_right hQ
        rw [if_neg (by omega)] at ih
        rw [if_pos (by omega)]
        omega
    · rw [ct_no hP]
      have hq : ct Q n ≤ ct Q (n + 1) := by show _ ≤ ct Q n + _; omega
      split at ih
      · rw [if_pos (by omega)]; omega
      · split <;> omega
theorem ct_mono {P Q : Nat → Prop} [DecidablePred P] [DecidablePred Q] : ∀ n, (∀ x, x < n → P x → Q x) → ct P n ≤ ct Q n
  | 0, _ => Nat.le_refl 0
  | n + 1, h => by
    have ih := ct_mono (P := P) (Q := Q) n (fun x hx => h x (by omega))
    by_cases hP : P n
    · rw [ct_yes hP, ct_yes (h n (by omega) hP)]; omega
    · rw [ct_no hP]
      have hq : ct Q n ≤ ct Q (n + 1) := by show _ ≤ ct Q n + _; omega
      omega
theorem ct_none {P : Nat → Prop} [DecidablePred P] : ∀ n, (∀ x, x < n → ¬ P x) → ct P n = 0
  | 0, _ => rfl
  | n + 1, h => by rw [ct_no (h n (by omega)), ct_none n (fun x hx => h x (by omega))]
theorem md_iff {a b p : Int} : (a - b) % p = 0 ↔ a % p = b % p := ⟨fun z => by
  obtain ⟨k, hk⟩ := emx (a := a - b) (p := p)
  rw [z] at hk
  exact emq k (by omega), fun z => by rw [Int.sub_emod, z, Int.sub_self, Int.zero_emod]⟩
theorem prm {p : Nat} (hp : p ∈ PR) {a y : Int} (h : (a * y) % (p : Int) = 0) (ha : a % (p : Int) ≠ 0) : y % (p : Int) = 0 := by
  have hb := PRb hp
  have ab := modb (z := a) (p := (p : Int)) (by omega)
  have hv := (iv_ok hp (a := (a % (p : Int)).toNat) (by omega) (by omega)).1
  have hV : (a % (p : Int)) * (iv p (a % (p : Int)).toNat : Int) % (p : Int) = 1 := by
    have h1 : (((a % (p : Int)).toNat * iv p (a % (p : Int)).toNat % p : Nat) : Int) = 1 := by rw [hv]; rfl
    rw [Int.natCast_emod, Int.natCast_mul, Int.toNat_of_nonneg ab.1] at h1
    exact h1
  generalize (iv p (a % (p : Int)).toNat : Int) = V at *
  obtain ⟨d, hd⟩ := emx (a := a) (p := (p : Int))
  obtain ⟨u, hu⟩ := emx (a := (a % (p : Int)) * V) (p := (p : Int))
  obtain ⟨m, hm⟩ := emx (a := a * y) (p := (p : Int))
  rw [hV, hd] at hu
  rw [h] at hm
  have e : y - 0 = (p : Int) * (V * m - V * d * y - u * y) := by
    have h1 : y * 1 = y * ((a - p * d) * V - p * u) := by rw [← hu]
    have h2 : a * y = p * m := by omega
    have h3 : V * (a * y) = V * (p * m) := by rw [h2]
    grind
  rw [emq _ e]
  exact Int.zero_emod _
/-- synthetic division by x less a -/
theorem ev_div (a : Int) : ∀ (n : Nat) (f : Nat → Int), ∃ q : Nat → Int, q n = f (n + 1) ∧ ∀ x, ev (n + 2) f x - ev (n + 2) f a = (x - a) * ev (n + 1) q x
  | 0, f => ⟨fun _ => f 1, rfl, fun x => by show f 0 + x * (f 1 + x * 0) - (f 0 + a * (f 1 + a * 0)) = (x - a) * (f 1 + x * 0); grind⟩
  | n + 1, f => by
    obtain ⟨q, h1, h2⟩ := ev_div a n (fun i => f (i + 1))
    refine ⟨fun i => if i = 0 then ev (n + 2) (fun i => f (i + 1)) a else q (i - 1), h1, fun x => ?_⟩
    have h3 := h2 x
    show f 0 + x * ev (n + 2) (fun i => f (i + 1)) x - (f 0 + a * ev (n + 2) (fun i => f (i + 1)) a) = (x - a) * (ev (n + 2) (fun i => f (i + 1)) a + x * ev (n + 1) q x)
    generalize ev (n + 2) (fun i => f (i + 1)) x = A at *
    generalize ev (n + 2) (fun i => f (i + 1)) a = B at *
    generalize ev (n + 1) q x = C at *
    grind
theorem ev_roots {p : Nat} (hp : p ∈ PR) : ∀ (n : Nat) (f : Nat → Int), f n % (p : Int) ≠ 0 → ct (fun x : Nat => ev (n + 1) f (x : Int) % (p : Int) = 0) p ≤ n
  | 0, f, h => by
    rw [ct_none p (fun x _ z => h (by
      have e : ev 1 f (x : Int) = f 0 := by show f 0 + (x : Int) * 0 = f 0; omega
      rw [e] at z
      exact z))]
    exact Nat.le_refl 0
  | n + 1, f, h => by
    have hb := PRb hp
    by_cases c : 0 < ct (fun x : Nat => ev (n + 2) f (x : Int) % (p : Int) = 0) p
    · obtain ⟨a, ha, h1⟩ := ct_pos c
      obtain ⟨q, h2, h3⟩ := ev_div (a : Int) n f
      have ih := ev_roots hp n q (by rw [h2]; exact h)
      have l1 := ct_le1 (P := fun x : Nat => ev (n + 2) f (x : Int) % (p : Int) = 0) (Q := fun x : Nat => ev (n + 1) q (x : Int) % (p : Int) = 0) (a := a) p (fun x hx hz => by
        by_cases e : x = a
        · exact Or.inl e
        · refine Or.inr (prm hp (a := (x : Int) - (a : Int)) ?_ ?_)
          · rw [← h3 x, Int.sub_emod, hz, h1]
            exact Int.zero_emod _
          · intro z
            exact e (by have := (sub_m0 (a := (x : Int)) (b := (a : Int)) (p := (p : Int)) (by omega) (by omega)).mp z; omega))
      rw [if_pos ha] at l1
      show ct (fun x : Nat => ev (n + 2) f (x : Int) % (p : Int) = 0) p ≤ n + 1
      omega
    · show ct (fun x : Nat => ev (n + 2) f (x : Int) % (p : Int) = 0) p ≤ n + 1
      omega
theorem ev_add : ∀ (n : Nat) (f g : Nat → Int) (c x : Int), ev n (fun i => f i + c * g i) x = ev n f x + c * ev n g x
  | 0, _, _, c, _ => by show (0 : Int) = 0 + c * 0; omega
  | n + 1, f, g, c, x => by
    show f 0 + c * g 0 + x * ev n (fun i => f (i + 1) + c * g (i + 1)) x = f 0 + x * ev n (fun i => f (i + 1)) x + c * (g 0 + x * ev n (fun i => g (i + 1)) x)
    rw [ev_add n (fun i => f (i + 1)) (fun i => g (i + 1)) c x]
    grind
theorem ev_m0 {p : Int} : ∀ (n : Nat) (f : Nat → Int) (x : Int), (∀ i, i < n → f i % p = 0) → ev n f x % p = 0
  | 0, _, _, _ => Int.zero_emod _
  | n + 1, f, x, h => by
    show (f 0 + x * ev n (fun i => f (i + 1)) x) % p = 0
    rw [Int.add_emod, h 0 (by omega), Int.mul_emod, ev_m0 n (fun i => f (i + 1)) x (fun i hi => h (i + 1) (by omega)), Int.mul_zero, Int.zero_emod]
    rfl
/-- the last one off, if it is 0 -/
theorem ev_last {p : Int} : ∀ (n : Nat) (f : Nat → Int) (x : Int), f n % p = 0 → ev (n + 1) f x % p = ev n f x % p
  | 0, f, x, h => by
    show (f 0 + x * 0) % p = 0 % p
    rw [Int.mul_zero, Int.add_zero, h, Int.zero_emod]
  | n + 1, f, x, h => by
    show (f 0 + x * ev (n + 1) (fun i => f (i + 1)) x) % p = (f 0 + x * ev n (fun i => f (i + 1)) x) % p
    rw [Int.add_emod, Int.mul_emod, ev_last n (fun i => f (i + 1)) x h, ← Int.mul_emod, ← Int.add_emod]
/-- a polynomial of n numbers that has n zeros or more is 0 everywhere -/
theorem ev_many {p : Nat} (hp : p ∈ PR) : ∀ (n : Nat) (f : Nat → Int), n ≤ ct (fun x : Nat => ev n f (x : Int) % (p : Int) = 0) p → ∀ x, ev n f x % (p : Int) = 0
  | 0, _, _, _ => Int.zero_emod _
  | n + 1, f, h, x => by
    by_cases c : f n % (p : Int) = 0
    · rw [ev_last n f x c]
      refine ev_many hp n f ?_ x
      rw [ct_congr (Q := fun x : Nat => ev (n + 1) f (x : Int) % (p : Int) = 0) p (fun j _ => by rw [ev_last n f (j : Int) c])]
      omega
    · have := ev_roots hp n f c
      omega
theorem hor_ev {p : Int} (f : Nat → Int) (x : Int) : ∀ t, t ≤ 8 → hor f p x t % p = ev t (fun i => f (8 - t + i)) x % p
  | 0, _ => rfl
  | t + 1, h => by
    have ih := hor_ev (p := p) f x t (by omega)
    show (hor f p x t * x + f (7 - t)) % p % p = (f (8 - (t + 1) + 0) + x * ev t (fun i => f (8 - (t + 1) + (i + 1))) x) % p
    have e1 : (fun i => f (8 - (t + 1) + (i + 1))) = (fun i => f (8 - t + i)) := by funext i; rw [show 8 - (t + 1) + (i + 1) = 8 - t + i by omega]
    rw [e1, show 8 - (t + 1) + 0 = 7 - t by omega, Int.emod_emod, Int.add_emod, Int.mul_emod, ih, ← Int.mul_emod, ← Int.add_emod, Int.add_comm, Int.mul_comm]
theorem ev_cut {f : Nat → Int} {p : Int} {x : Int} : ∀ (n m : Nat), (∀ j, m ≤ j → j < m + n → f j = 0) → ev (m + n) f x % p = ev m f x % p
  | 0, _, _ => rfl
  | n + 1, m, h => by
    rw [show m + (n + 1) = (m + n) + 1 by omega, ev_last (m + n) f x (by rw [h (m + n) (by omega) (by omega)]; exact Int.zero_emod _)]
    exact ev_cut n m (fun j h1 h2 => h j h1 (by omega))
/-- a row that isn't 0 has at most as many zeros as its degree -/
theorem row_zeros {p : Nat} {l : List Int} (hp : p ∈ PR) (hl : Fl (p : Int) l) (hd : dg (gf l) 8 ≠ -1) : (ct (fun x : Nat => hor (gf l) p (x : Int) 8 = 0) p : Int) ≤ dg (gf l) 8 := by
  have hb := PRb hp
  have db := dg_b (gf l) 8
  obtain ⟨g, hg⟩ : ∃ g : Nat, dg (gf l) 8 = (g : Int) := ⟨(dg (gf l) 8).toNat, by omega⟩
  obtain ⟨n1, n2⟩ := dg_nz (gf l) 8 g hg
  have hlg := hl.2 g
  have q := ev_roots hp g (gf l) (by
    rw [show gf l g % (p : Int) = gf l g from Int.emod_eq_of_lt hlg.1 hlg.2]
    exact n1)
  have e := ct_congr (P := fun x : Nat => hor (gf l) p (x : Int) 8 = 0) (Q := fun x : Nat => ev (g + 1) (gf l) (x : Int) % (p : Int) = 0) p (fun x _ => by
    have h1 := hor_ev (p := (p : Int)) (gf l) (x : Int) 8 (Nat.le_refl 8)
    have h2 := hor_b (f := gf l) (p := (p : Int)) (x := (x : Int)) (by omega) 8
    rw [Int.emod_eq_of_lt h2.1 h2.2, show (fun i => gf l (8 - 8 + i)) = gf l from funext (fun i => by rw [Nat.sub_self, Nat.zero_add])] at h1
    have h3 := ev_cut (f := gf l) (p := (p : Int)) (x := (x : Int)) (8 - (g + 1)) (g + 1) (fun j h4 h5 => n2 j (by omega) (by omega))
    rw [show g + 1 + (8 - (g + 1)) = 8 by omega] at h3
    rw [h1, h3])
  rw [e, hg]
  omega
/-! products of linear factors -/
def lpr : List Int → Int → Int
  | [], _ => 1
  | a :: t, x => (x + a) * lpr t x
theorem lpr_app (x : Int) : ∀ (l m : List Int), lpr (l ++ m) x = lpr l x * lpr m x
  | [], m => by show lpr m x = 1 * lpr m x; omega
  | a :: t, m => by show (x + a) * lpr (t ++ m) x = (x + a) * lpr t x * lpr m x; rw [lpr_app x t m, Int.mul_assoc]
theorem lpr_erase (x a : Int) : ∀ (l : List Int), a ∈ l → lpr l x = (x + a) * lpr (l.erase a) x
  | b :: t, h => by
    by_cases e : b = a
    · subst e; rw [List.erase_cons_head]; rfl
    · rw [List.erase_cons_tail (by simpa using e)]
      have h1 : a ∈ t := (List.mem_cons.mp h).resolve_left (fun z => e z.symm)
      show (x + b) * lpr t x = (x + a) * ((x + b) * lpr (t.erase a) x)
      rw [lpr_erase x a t h1]
      grind
def pol (n : Nat) (F : Int → Int) : Prop := ∃ f, ∀ x, F x = ev n f x
theorem ev_up : ∀ (n : Nat) (f : Nat → Int) (x : Int), ev n f x = ev (n + 1) (fun i => if i < n then f i else 0) x
  | 0, f, x => by show (0 : Int) = (if 0 < 0 then f 0 else 0) + x * 0; simp
  | n + 1, f, x => by
    show f 0 + x * ev n (fun i => f (i + 1)) x = (if 0 < n + 1 then f 0 else 0) + x * ev (n + 1) (fun i => if i + 1 < n + 1 then f (i + 1) else 0) x
    rw [if_pos (by omega), ev_up n (fun i => f (i + 1)) x]
    have e : (fun i => if i < n then f (i + 1) else 0) = (fun i => if i + 1 < n + 1 then f (i + 1) else 0) := by
      funext i
      by_cases c : i < n
      · rw [if_pos c, if_pos (by omega)]
      · rw [if_neg c, if_neg (by omega)]
    rw [e]
theorem pol_up {n : Nat} {F : Int → Int} (h : pol n F) : pol (n + 1) F := by obtain ⟨f, hf⟩ := h; exact ⟨_, fun x => (hf x).trans (ev_up n f x)⟩
theorem pol_add {n : Nat} {F H : Int → Int} (c : Int) (h : pol n F) (k : pol n H) : pol n (fun x => F x + c * H x) := by
  obtain ⟨f, hf⟩ := h
  obtain ⟨g, hg⟩ := k
  exact ⟨fun i => f i + c * g i, fun x => by show F x + c * H x = _; rw [hf x, hg x]; exact (ev_add n f g c x).symm⟩
theorem pol_x {n : Nat} {F : Int → Int} (h : pol n F) : pol (n + 1) (fun x => x * F x) := by
  obtain ⟨f, hf⟩ := h
  exact ⟨fun i => if i = 0 then 0 else f (i - 1), fun x => by show x * F x = 0 + x * ev n f x; rw [hf x]; omega⟩
theorem pol_pow : ∀ n : Nat, pol (n + 1) (fun x => x ^ n)
  | 0 => ⟨fun _ => 1, fun x => by show x ^ 0 = 1 + x * 0; rw [Int.pow_zero]; omega⟩
  | n + 1 => by
    obtain ⟨f, hf⟩ := pol_x (pol_pow n)
    exact ⟨f, fun x => by rw [← hf x]; show x ^ (n + 1) = x * x ^ n; rw [Int.pow_succ, Int.mul_comm]⟩
theorem pol_lpr : ∀ l : List Int, pol l.length (fun x => lpr l x + -1 * x ^ l.length)
  | [] => ⟨fun _ => 0, fun x => by show 1 + -1 * x ^ 0 = 0; rw [Int.pow_zero]; omega⟩
  | a :: t => by
    have ih := pol_lpr t
    have h1 := pol_add a (pol_add a (pol_x ih) (pol_up ih)) (pol_pow t.length)
    obtain ⟨f, hf⟩ := h1
    refine ⟨f, fun x => ?_⟩
    rw [show (a :: t).length = t.length + 1 from rfl, ← hf x]
    show (x + a) * lpr t x + -1 * x ^ (t.length + 1) = x * (lpr t x + -1 * x ^ t.length) + a * (lpr t x + -1 * x ^ t.length) + a * x ^ t.length
    rw [Int.pow_succ]
    grind
theorem lpr_zero {p : Nat} (hp : p ∈ PR) {x : Int} : ∀ l : List Int, lpr l x % (p : Int) = 0 → ∃ b ∈ l, (x + b) % (p : Int) = 0
  | [], h => by
    have hb := PRb hp
    exact absurd (show (1 : Int) % (p : Int) = 0 from h) (by rw [Int.emod_eq_of_lt (by omega) (by omega)]; omega)
  | a :: t, h => by
    by_cases c : (x + a) % (p : Int) = 0
    · exact ⟨a, List.mem_cons_self, c⟩
    · obtain ⟨b, h1, h2⟩ := lpr_zero hp t (prm hp (a := x + a) h c)
      exact ⟨b, List.mem_cons_of_mem _ h1, h2⟩
/-- two products of k linear factors that agree at k places are of the same factors -/
theorem lpr_same {p : Nat} (hp : p ∈ PR) (h11 : 11 ≤ p) : ∀ (r o : List Int), r.length = o.length → r.length ≤ 8 → (∀ a ∈ r, 0 ≤ a ∧ a < (p : Int)) → (∀ a ∈ o, 0 ≤ a ∧ a < (p : Int)) →
    r.length ≤ ct (fun x : Nat => (lpr r (x : Int) - lpr o (x : Int)) % (p : Int) = 0) p → r.Perm o
  | [], o, h, _, _, _, _ => by rw [List.length_eq_zero_iff.mp h.symm]
  | a :: t, o, h, h8, hr, ho, hc => by
    have hb := PRb hp
    have hlen : (a :: t).length = t.length + 1 := rfl
    have ha := hr a List.mem_cons_self
    have P0 : pol (t.length + 1) (fun x => lpr (a :: t) x - lpr o x) := by
      have q := pol_add (-1) (pol_lpr (a :: t)) (h ▸ pol_lpr o : pol (a :: t).length (fun x => lpr o x + -1 * x ^ o.length))
      obtain ⟨f, hf⟩ := q
      exact ⟨f, fun x => by
        have q9 : lpr (a :: t) x + -1 * x ^ (a :: t).length + -1 * (lpr o x + -1 * x ^ o.length) = ev (a :: t).length f x := hf x
        rw [← h] at q9
        show lpr (a :: t) x - lpr o x = ev (a :: t).length f x
        omega⟩
    obtain ⟨f, hf⟩ := P0
    have all := ev_many hp (t.length + 1) f (by
      rw [ct_congr (Q := fun x : Nat => (lpr (a :: t) (x : Int) - lpr o (x : Int)) % (p : Int) = 0) p (fun x _ => by rw [← hf (x : Int)])]
      exact hc)
    have z0 : (lpr (a :: t) (-a) - lpr o (-a)) % (p : Int) = 0 := by
      have q9 := all (-a)
      rw [← hf (-a)] at q9
      exact q9
    have z1 : lpr o (-a) % (p : Int) = 0 := by
      have e : lpr (a :: t) (-a) = 0 := by show (-a + a) * lpr t (-a) = 0; rw [show -a + a = 0 by omega, Int.zero_mul]
      rw [e] at z0
      obtain ⟨k, hk⟩ := emx (a := 0 - lpr o (-a)) (p := (p : Int))
      rw [z0] at hk
      rw [emq (a := lpr o (-a)) (b := 0) (-k) (by rw [Int.mul_neg]; omega)]
      exact Int.zero_emod _
    obtain ⟨b, b1, b2⟩ := lpr_zero hp o z1
    have hbb := ho b b1
    have e : b = a := (sub_m0 (a := b) (b := a) (p := (p : Int)) hbb ha).mp (by rw [show b - a = -a + b by omega]; exact b2)
    subst e
    have lo : o.length = (o.erase b).length + 1 := by rw [List.length_erase_of_mem b1]; have := List.length_pos_of_mem b1; omega
    have ih := lpr_same hp h11 t (o.erase b) (by omega) (by omega) (fun c q => hr c (List.mem_cons_of_mem _ q)) (fun c q => ho c (List.mem_of_mem_erase q)) (by
      have l1 := ct_le1 (P := fun _ : Nat => True) (Q := fun x : Nat => (lpr t (x : Int) - lpr (o.erase b) (x : Int)) % (p : Int) = 0) (a := ((-b) % (p : Int)).toNat) p (fun x hx _ => by
        by_cases c : ((x : Int) + b) % (p : Int) = 0
        · left
          have mb := modb (z := -b) (p := (p : Int)) (by omega)
          have e2 : (x : Int) % (p : Int) = (-b) % (p : Int) := by
            obtain ⟨k, hk⟩ := emx (a := (x : Int) + b) (p := (p : Int))
            rw [c] at hk
            exact emq k (by omega)
          rw [Int.emod_eq_of_lt (by omega) (by omega)] at e2
          omega
        · right
          refine prm hp (a := (x : Int) + b) ?_ c
          have q : (lpr (b :: t) (x : Int) - lpr o (x : Int)) % (p : Int) = 0 := by
            have q9 := all (x : Int)
            rw [← hf (x : Int)] at q9
            exact q9
          rw [← q, lpr_erase (x : Int) b o b1]
          show _ = ((x + b) * lpr t x - (x + b) * lpr (o.erase b) x) % (p : Int)
          rw [Int.mul_sub])
      rw [ct_all p (fun _ _ => trivial)] at l1
      have hlen2 : t.length ≤ 7 := by omega
      split at l1 <;> omega)
    exact (ih.cons b).trans (List.perm_cons_erase b1).symm
theorem pw_lpr {p : Nat} (hp : 2 < p) (l : List Int) (x : Int) : ∀ n, n ≤ l.length → pw p (gf l) x n = lpr (l.take n) x % (p : Int)
  | 0, _ => by rw [List.take_zero]; show (1 : Int) = 1 % (p : Int); rw [Int.emod_eq_of_lt (by omega) (by omega)]
  | n + 1, h => by
    have ih := pw_lpr hp l x n (by omega)
    show (pw p (gf l) x n * (x + gf l n)) % (p : Int) = _
    rw [ih, List.take_succ, List.getElem?_eq_getElem (by omega), lpr_app, ml_l]
    show _ = (lpr (List.take n l) x * ((x + l[n]) * 1)) % (p : Int)
    rw [Int.mul_one]
    unfold gf
    rw [List.getD_eq_getElem?_getD, List.getElem?_eq_getElem (by omega)]
    rfl
theorem ct_count (v : Int) : ∀ l : List Int, ct (fun j => gf l j = v) l.length = l.count v
  | [] => rfl
  | a :: t => by
    have ih := ct_count v t
    have sh : ∀ n, ct (fun j => gf (a :: t) j = v) (n + 1) = (if a = v then 1 else 0) + ct (fun j => gf t j = v) n := by
      intro n
      induction n with
      | zero => show 0 + (if a = v then 1 else 0) = (if a = v then 1 else 0) + 0; omega
      | succ n ihn =>
        show ct (fun j => gf (a :: t) j = v) (n + 1) + (if gf (a :: t) (n + 1) = v then 1 else 0) = (if a = v then 1 else 0) + (ct (fun j => gf t j = v) n + (if gf t n = v then 1 else 0))
        rw [ihn, show gf (a :: t) (n + 1) = gf t n from rfl]
        omega
    rw [show (a :: t).length = t.length + 1 from rfl, sh, ih, List.count_cons]
    by_cases e : a = v
    · rw [if_pos e, if_pos (by simpa using e)]; omega
    · rw [if_neg e, if_neg (by simpa using e)]; omega
theorem perm_same {r o : List Int} (hr : r.length = 8) (ho : o.length = 8) (h : r.Perm o) : sameN (gf r) (gf o) := by
  intro i _
  have h1 := ct_count (gf r i) r
  have h2 := ct_count (gf r i) o
  rw [hr] at h1
  rw [ho] at h2
  rw [h1, h2]
  exact h.count_eq _
/-- two rows of other numbers meet at most 7 times -/
theorem rows_meet {p : Nat} {r o : List Int} (hp : p ∈ PR) (hr : Fl (p : Int) r) (ho : Fl (p : Int) o) (h : ¬ sameN (gf r) (gf o)) : (ct (fun x : Nat => pw p (gf r) x 8 = pw p (gf o) x 8) p : Int) ≤ 7 := by
  have hb := PRb hp
  by_cases c : p ≤ 7
  · have := ct_le (fun x : Nat => pw p (gf r) x 8 = pw p (gf o) x 8) p
    omega
  · have h11 : 11 ≤ p := by
      have : ∀ q ∈ PR, ¬ q ≤ 7 → 11 ≤ q := by decide
      exact this p hp c
    by_cases c2 : ct (fun x : Nat => pw p (gf r) x 8 = pw p (gf o) x 8) p ≤ 7
    · omega
    · exfalso
      refine h (perm_same hr.1 ho.1 (lpr_same hp h11 r o (by rw [hr.1, ho.1]) (by rw [hr.1]; exact Nat.le_refl 8) ?_ ?_ ?_))
      · intro a ha
        obtain ⟨j, hj, e⟩ := List.mem_iff_getElem.mp ha
        have q := hr.2 j
        rw [List.getD_eq_getElem?_getD, List.getElem?_eq_getElem hj] at q
        rw [← e]
        exact q
      · intro a ha
        obtain ⟨j, hj, e⟩ := List.mem_iff_getElem.mp ha
        have q := ho.2 j
        rw [List.getD_eq_getElem?_getD, List.getElem?_eq_getElem hj] at q
        rw [← e]
        exact q
      · rw [hr.1]
        have e := ct_congr (P := fun x : Nat => (lpr r (x : Int) - lpr o (x : Int)) % (p : Int) = 0) (Q := fun x : Nat => pw p (gf r) x 8 = pw p (gf o) x 8) p (fun x _ => by
          have e1 := pw_lpr hb.1 r (x : Int) 8 (by rw [hr.1]; exact Nat.le_refl 8)
          have e2 := pw_lpr hb.1 o (x : Int) 8 (by rw [ho.1]; exact Nat.le_refl 8)
          rw [List.take_of_length_le (by rw [hr.1]; exact Nat.le_refl 8)] at e1
          rw [List.take_of_length_le (by rw [ho.1]; exact Nat.le_refl 8)] at e2
          rw [e1, e2]
          exact md_iff)
        rw [e]
        omega
