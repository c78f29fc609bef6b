set_option maxRecDepth 20000 in
set_option maxHeartbeats 1000000 in
theorem S_X6_two1 {G : xG} {d rc rs : Nat} {ex : Bool} {h : xH} {Q : xQ} {p m i : Nat} {ra : Nat} {rl : List Int} (hp : 2 < p ∧ p < 24) (hr : h[ra]? = some (cA 0 rl)) (r3 : 3 ≤ ra ∧ ra ≠ 4 ∧ ra ≠ 18 ∧ ra ≠ 19 ∧ ra ≠ 20) (lr : Fl (p : Int) rl) (hm : m ≤ 8) (hi8 : i < m)
    (k1 : (∃ i j, j < i ∧ i < m ∧ rl.getD i 0 = rl.getD j 0) → Q (.inl (some (vi 1))) ex h) (M : (∀ t, t < i → ¬ rl.getD i 0 = rl.getD t 0) → X G m_X6_hasTwoAlike d rc rs ex 37 [some (.ref ra), some (vi (m : Int)), some (vi (i : Int)), some (vi (i : Int))] [] h Q) : X G m_X6_hasTwoAlike d rc rs ex 15 [some (.ref ra), some (vi (m : Int)), some (vi (i : Int)), some (vi 0)] [] h Q := by
  have L : ∀ (n j : Nat), j + n = i → (∀ t, t < j → ¬ rl.getD i 0 = rl.getD t 0) → X G m_X6_hasTwoAlike d rc rs ex 15 [some (.ref ra), some (vi (m : Int)), some (vi (i : Int)), some (vi (j : Int))] [] h Q := by
    intro n
    induction n with
    | zero =>
      intro j hi hx
      refine x_iload_n (dT U_X6_hasTwoAlike 10 rfl) rfl ?_
      refine x_iload_n (dT U_X6_hasTwoAlike 11 rfl) rfl ?_
      refine x_icmp_ge (tgt := 37) (dT U_X6_hasTwoAlike 12 rfl) (by decide) (by unfold xr at *; omega) (by unfold xr at *; omega) (fun c17 => ?_) (fun c17 => ?_)
      · skip
        have e : j = i := by omega
        subst e
        exact M hx
      · exfalso; omega
    | succ n ih =>
      intro j hi hx
      refine x_iload_n (dT U_X6_hasTwoAlike 10 rfl) rfl ?_
      refine x_iload_n (dT U_X6_hasTwoAlike 11 rfl) rfl ?_
      refine x_icmp_ge (tgt := 37) (dT U_X6_hasTwoAlike 12 rfl) (by decide) (by unfold xr at *; omega) (by unfold xr at *; omega) (fun c17 => ?_) (fun c17 => ?_)
      · exfalso; omega
      · skip
        refine x_aload_n (dT U_X6_hasTwoAlike 13 rfl) rfl ?_
        refine x_iload_n (dT U_X6_hasTwoAlike 14 rfl) rfl ?_
        refine x_iaload (i) (dT U_X6_hasTwoAlike 15 rfl) hr r3.1 rfl (by rw [lr.1]; omega) (by rw [lr.1]; omega) ?_
        refine x_aload_n (dT U_X6_hasTwoAlike 16 rfl) rfl ?_
        refine x_iload_n (dT U_X6_hasTwoAlike 17 rfl) rfl ?_
        refine x_iaload (j) (dT U_X6_hasTwoAlike 18 rfl) hr r3.1 rfl (by rw [lr.1]; omega) (by rw [lr.1]; omega) ?_
        refine x_icmp_ne (tgt := 31) (dT U_X6_hasTwoAlike 19 rfl) (by decide) (by have := lr.2 i; unfold xr; omega) (by have := lr.2 j; unfold xr; omega) (fun c26 => ?_) (fun c26 => ?_)
        · skip
          refine x_iinc (ls' := [some (.ref _), some (vi _), some (vi _), some (vi _)]) (dT U_X6_hasTwoAlike 22 rfl) (by decide) rfl rfl ?_
          refine x_goto (tgt := 15) (dT U_X6_hasTwoAlike 23 rfl) (by decide) ?_
          refine ih (j + 1) (by omega) (fun t ht => ?_)
          by_cases e : t = j
          · rw [e]; assumption
          · exact hx t (by omega)
        · skip
          refine x_iconst (dT U_X6_hasTwoAlike 20 rfl) ?_
          refine x_zreturn (dT U_X6_hasTwoAlike 21 rfl) rfl (by omega) ?_
          exact k1 ⟨i, j, by omega, by omega, by assumption⟩
  exact L i 0 (by omega) (fun t ht => absurd ht (Nat.not_lt_zero t))

set_option maxRecDepth 20000 in
set_option maxHeartbeats 1000000 in
theorem S_X6_hasTwoAlike {G : xG} {d rc rs : Nat} {ex : Bool} {h : xH} {Q : xQ} {p m : Nat} {ra : Nat} {rl : List Int} (hp : 2 < p ∧ p < 24) (hr : h[ra]? = some (cA 0 rl)) (r3 : 3 ≤ ra ∧ ra ≠ 4 ∧ ra ≠ 18 ∧ ra ≠ 19 ∧ ra ≠ 20) (lr : Fl (p : Int) rl) (hm : m ≤ 8) (k1 : (∃ i j, j < i ∧ i < m ∧ rl.getD i 0 = rl.getD j 0) → Q (.inl (some (vi 1))) ex h) (k0 : (∀ i j, j < i → i < m → ¬ rl.getD i 0 = rl.getD j 0) → Q (.inl (some (vi 0))) ex h) : X G m_X6_hasTwoAlike d rc rs ex 0 (xe m_X6_hasTwoAlike.2.2.1 [.ref ra, vi (m : Int)]) [] h Q := by
  show X G m_X6_hasTwoAlike _ _ _ _ 0 [some (.ref ra), some (vi (m : Int)), none, none] [] h Q
  have L : ∀ (n i : Nat), i + n = m → (∀ a b, b < a → a < i → ¬ rl.getD a 0 = rl.getD b 0) → X G m_X6_hasTwoAlike d rc rs ex 2 [some (.ref ra), some (vi (m : Int)), some (vi (i : Int)), none] [] h Q := by
    intro n
    induction n with
    | zero =>
      intro i hi hx
      refine x_iload_n (dT U_X6_hasTwoAlike 2 rfl) rfl ?_
      refine x_iload_n (dT U_X6_hasTwoAlike 3 rfl) rfl ?_
      refine x_icmp_ge (tgt := 43) (dT U_X6_hasTwoAlike 4 rfl) (by decide) (by unfold xr at *; omega) (by unfold xr at *; omega) (fun c4 => ?_) (fun c4 => ?_)
      · skip
        refine x_iconst (dT U_X6_hasTwoAlike 26 rfl) ?_
        refine x_zreturn (dT U_X6_hasTwoAlike 27 rfl) rfl (by omega) ?_
        exact k0 (fun a b h1 h2 => hx a b h1 (by omega))
      · exfalso; omega
    | succ n ih =>
      intro i hi hx
      refine x_iload_n (dT U_X6_hasTwoAlike 2 rfl) rfl ?_
      refine x_iload_n (dT U_X6_hasTwoAlike 3 rfl) rfl ?_
      refine x_icmp_ge (tgt := 43) (dT U_X6_hasTwoAlike 4 rfl) (by decide) (by unfold xr at *; omega) (by unfold xr at *; omega) (fun c4 => ?_) (fun c4 => ?_)
      · exfalso; omega
      · skip
        refine x_iload_n (dT U_X6_hasTwoAlike 5 rfl) rfl ?_
        refine x_bipush (dT U_X6_hasTwoAlike 6 rfl) (by decide) ?_
        refine x_icmp_ge (tgt := 43) (dT U_X6_hasTwoAlike 7 rfl) (by decide) (by unfold xr at *; omega) (by unfold xr at *; omega) (fun c10 => ?_) (fun c10 => ?_)
        · exfalso; omega
        · skip
          refine x_iconst (dT U_X6_hasTwoAlike 8 rfl) ?_
          refine x_istore_n (ls' := [some (.ref _), some (vi _), some (vi _), some (vi _)]) (dT U_X6_hasTwoAlike 9 rfl) (by decide) rfl ?_
          refine S_X6_two1 hp hr r3 lr hm (by omega) k1 (fun hy => ?_)
          refine x_iinc (ls' := [some (.ref _), some (vi _), some (vi _), some (vi _)]) (dT U_X6_hasTwoAlike 24 rfl) (by decide) rfl rfl ?_
          refine x_goto (tgt := 2) (dT U_X6_hasTwoAlike 25 rfl) (by decide) ?_
          refine x_drop ?_ (ih (i + 1) (by omega) (fun a b h1 h2 => ?_))
          · repeat (first | exact trivial | refine ⟨rfl, ?_⟩ | refine ⟨trivial, ?_⟩)
          · by_cases e : a = i
            · rw [e]; exact hy b (by omega)
            · exact hx a b h1 (by omega)
  refine x_iconst (dT U_X6_hasTwoAlike 0 rfl) ?_
  refine x_istore_n (ls' := [some (.ref _), some (vi _), some (vi _), none]) (dT U_X6_hasTwoAlike 1 rfl) (by decide) rfl ?_
  exact L m 0 (by omega) (fun a b h1 h2 => absurd h2 (Nat.not_lt_zero a))

def mbr (p r : Int) (f : Nat → Int) (n : Nat) : Int := if n = 0 then (-r * f 0) % p else (f (n - 1) - r * f n) % p
theorem mbr_b {p r : Int} {f : Nat → Int} (hp : 0 < p) (n : Nat) : 0 ≤ mbr p r f n ∧ mbr p r f n < p := by
  unfold mbr
  split <;> exact modb hp

set_option maxRecDepth 20000 in
set_option maxHeartbeats 1000000 in
theorem S_X6_multiplyByRoot {G : xG} {d rc rs : Nat} {ex : Bool} {h : xH} {Q : xQ} {p : Nat} {r : Int} {f : Nat → Int} (hf : h[4]? = some (cO 1 [vi (p : Int)])) (hp : 2 < p ∧ p < 24) (hP : h[18]? = some (cO 6 [.ref 4, .ref 19, .ref 20])) (hpt : h[20]? = some (cA 0 (tab f 8))) (hfb : ∀ j, 0 ≤ f j ∧ f j < p) (hr : 0 ≤ r ∧ r < p) (k : Q (.inl none) ex (h.set 20 (cA 0 (tab (mbr p r f) 8)))) : X G m_X6_multiplyByRoot (d + 1) rc rs ex 0 (xe m_X6_multiplyByRoot.2.2.1 [.ref 18, vi r]) [] h Q := by
  show X G m_X6_multiplyByRoot _ _ _ _ 0 [some (.ref 18), some (vi r), none] [] h Q
  have L : ∀ (n t : Nat), t + n = 7 → X G m_X6_multiplyByRoot (d + 1) rc rs ex 3 [some (.ref 18), some (vi r), some (vi (7 - (t : Int)))] [] (h.set 20 (cA 0 (tab (fun n => if 7 - t < n then mbr p r f n else f n) 8))) Q := by
    intro n
    induction n with
    | zero =>
      intro t hi 
      refine x_iload_n (dT U_X6_multiplyByRoot 2 rfl) rfl ?_
      refine x_if_le (tgt := 43) (dT U_X6_multiplyByRoot 3 rfl) (by decide) (by unfold xr at *; omega) (fun c4 => ?_) (fun c4 => ?_)
      · skip
        refine x_aload_n (dT U_X6_multiplyByRoot 26 rfl) rfl ?_
        have e : t = 7 := by omega
        subst e
        refine x_getfield F_X6_19 (dT U_X6_multiplyByRoot 27 rfl) (hset_ne (by omega) hP) (by omega) rfl ?_
        refine x_iconst (dT U_X6_multiplyByRoot 28 rfl) ?_
        refine x_aload_n (dT U_X6_multiplyByRoot 29 rfl) rfl ?_
        refine x_getfield F_X6_9 (dT U_X6_multiplyByRoot 30 rfl) (hset_ne (by omega) hP) (by omega) rfl ?_
        refine x_iload_n (dT U_X6_multiplyByRoot 31 rfl) rfl ?_
        refine x_ineg (dT U_X6_multiplyByRoot 32 rfl) ?_
        refine x_aload_n (dT U_X6_multiplyByRoot 33 rfl) rfl ?_
        refine x_getfield F_X6_19 (dT U_X6_multiplyByRoot 34 rfl) (hset_ne (by omega) hP) (by omega) rfl ?_
        refine x_iconst (dT U_X6_multiplyByRoot 35 rfl) ?_
        refine x_iaload (0) (dT U_X6_multiplyByRoot 36 rfl) (hset_eq hpt) (by omega) rfl (by rw [tab_len]; omega) (by rw [tab_len]; omega) ?_
        refine x_imul (dT U_X6_multiplyByRoot 37 rfl) ?_
        refine x_invokevirtual (rc' := rc) (rs' := rs) (rc2 := 0) (rs2 := 0) (As := [_]) (st := _) M_X1_rest K_X6_32 (dT U_X6_multiplyByRoot 38 rfl) rfl rfl (by decide) rfl rfl (hset_ne (by omega) hf) (by omega) (by decide) rfl (Nat.le_of_ble_eq_true rfl) rfl (by decide) (Nat.le_of_ble_eq_true rfl) rfl rfl ?_
        rw [tab_get _ (by omega), if_neg (by omega)]
        have v3 := mulb hr (hfb 0) (by omega)
        refine S_X1_rest (hset_ne (by omega) hf) hp (by rw [Int.neg_mul]; unfold xr; omega) ?_
        refine xRet_some ?_
        refine x_iastore (0) (dT U_X6_multiplyByRoot 39 rfl) (hset_eq hpt) (by omega) rfl (by rw [tab_len]; omega) (by rw [tab_len]; omega) ?_
        rw [List.set_set, tab_set (g := mbr p r f) (by omega) (by unfold mbr; rw [if_pos rfl]) (fun n h1 h2 => by rw [if_pos (by omega)])]
        refine x_return (dT U_X6_multiplyByRoot 40 rfl) rfl ?_
        exact k
      · exfalso; omega
    | succ n ih =>
      intro t hi 
      have v1 : (tab (fun n => if 7 - t < n then mbr p r f n else f n) 8).getD (7 - t - 1) 0 = f (7 - t - 1) := by rw [tab_get _ (by omega), if_neg (by omega)]
      have v2 : (tab (fun n => if 7 - t < n then mbr p r f n else f n) 8).getD (7 - t) 0 = f (7 - t) := by rw [tab_get _ (by omega), if_neg (by omega)]
      refine x_iload_n (dT U_X6_multiplyByRoot 2 rfl) rfl ?_
      refine x_if_le (tgt := 43) (dT U_X6_multiplyByRoot 3 rfl) (by decide) (by unfold xr at *; omega) (fun c4 => ?_) (fun c4 => ?_)
      · exfalso; omega
      · skip
        refine x_aload_n (dT U_X6_multiplyByRoot 4 rfl) rfl ?_
        refine x_getfield F_X6_19 (dT U_X6_multiplyByRoot 5 rfl) (hset_ne (by omega) hP) (by omega) rfl ?_
        refine x_iload_n (dT U_X6_multiplyByRoot 6 rfl) rfl ?_
        refine x_aload_n (dT U_X6_multiplyByRoot 7 rfl) rfl ?_
        refine x_getfield F_X6_9 (dT U_X6_multiplyByRoot 8 rfl) (hset_ne (by omega) hP) (by omega) rfl ?_
        refine x_aload_n (dT U_X6_multiplyByRoot 9 rfl) rfl ?_
        refine x_getfield F_X6_19 (dT U_X6_multiplyByRoot 10 rfl) (hset_ne (by omega) hP) (by omega) rfl ?_
        refine x_iload_n (dT U_X6_multiplyByRoot 11 rfl) rfl ?_
        refine x_iconst (dT U_X6_multiplyByRoot 12 rfl) ?_
        refine x_isub (dT U_X6_multiplyByRoot 13 rfl) ?_
        refine x_iaload (7 - t - 1) (dT U_X6_multiplyByRoot 14 rfl) (hset_eq hpt) (by omega) (by omega) (by rw [tab_len]; omega) (by rw [tab_len]; omega) ?_
        refine x_iload_n (dT U_X6_multiplyByRoot 15 rfl) rfl ?_
        refine x_aload_n (dT U_X6_multiplyByRoot 16 rfl) rfl ?_
        refine x_getfield F_X6_19 (dT U_X6_multiplyByRoot 17 rfl) (hset_ne (by omega) hP) (by omega) rfl ?_
        refine x_iload_n (dT U_X6_multiplyByRoot 18 rfl) rfl ?_
        refine x_iaload (7 - t) (dT U_X6_multiplyByRoot 19 rfl) (hset_eq hpt) (by omega) (by omega) (by rw [tab_len]; omega) (by rw [tab_len]; omega) ?_
        refine x_imul (dT U_X6_multiplyByRoot 20 rfl) ?_
        refine x_isub (dT U_X6_multiplyByRoot 21 rfl) ?_
        refine x_invokevirtual (rc' := rc) (rs' := rs) (rc2 := 0) (rs2 := 0) (As := [_]) (st := _) M_X1_rest K_X6_32 (dT U_X6_multiplyByRoot 22 rfl) rfl rfl (by decide) rfl rfl (hset_ne (by omega) hf) (by omega) (by decide) rfl (Nat.le_of_ble_eq_true rfl) rfl (by decide) (Nat.le_of_ble_eq_true rfl) rfl rfl ?_
        rw [v1, v2]
        have v3 := mulb hr (hfb (7 - t)) (by omega)
        have v4 := hfb (7 - t - 1)
        refine S_X1_rest (hset_ne (by omega) hf) hp (by unfold xr; omega) ?_
        refine xRet_some ?_
        refine x_iastore (7 - t) (dT U_X6_multiplyByRoot 23 rfl) (hset_eq hpt) (by omega) (by omega) (by rw [tab_len]; omega) (by rw [tab_len]; omega) ?_
        rw [List.set_set, tab_set (g := fun n => if 7 - (t + 1) < n then mbr p r f n else f n) (by omega) (by rw [if_pos (by omega)]; unfold mbr; rw [if_neg (by omega)]) (fun n h1 h2 => if q : 7 - t < n then (by rw [if_pos q, if_pos (by omega)]) else (by rw [if_neg q, if_neg (by omega)]))]
        refine x_iinc (ls' := [some (.ref _), some (vi _), some (vi _)]) (dT U_X6_multiplyByRoot 24 rfl) (by decide) rfl rfl ?_
        refine x_goto (tgt := 3) (dT U_X6_multiplyByRoot 25 rfl) (by decide) ?_
        have q := ih (t + 1) (by omega)
        rw [show 7 - ((t + 1 : Nat) : Int) = 7 - (t : Int) + -1 by omega] at q
        exact q
  refine x_bipush (dT U_X6_multiplyByRoot 0 rfl) (by decide) ?_
  refine x_istore_n (ls' := [some (.ref _), some (vi _), some (vi _)]) (dT U_X6_multiplyByRoot 1 rfl) (by decide) rfl ?_
  have q := L 7 0 (by omega)
  rw [show (tab (fun n => if 7 - 0 < n then mbr p r f n else f n) 8) = tab f 8 from tab_congr (fun n hn => by rw [if_neg (by omega)]), hset_self hpt] at q
  exact q

def lp (p : Int) (x : Nat → Int) (one : Nat) : Nat → Nat → Int
  | 0 => fun n => if n = 0 then 1 else 0
  | j + 1 => if j = one then lp p x one j else mbr p (x j) (lp p x one j)
def lsc (p : Int) (x : Nat → Int) (one : Nat) : Nat → Int
  | 0 => 1
  | j + 1 => if j = one then lsc p x one j else (lsc p x one j * (x one - x j)) % p
theorem lp_b {p : Int} {x : Nat → Int} {one : Nat} (hp : 2 < p) : ∀ j n, 0 ≤ lp p x one j n ∧ lp p x one j n < p
  | 0, n => by unfold lp; split <;> omega
  | j + 1, n => by
    unfold lp
    split
    · exact lp_b hp j n
    · exact mbr_b (by omega) n
theorem lsc_b {p : Int} {x : Nat → Int} {one : Nat} (hp : 2 < p) : ∀ j, 0 ≤ lsc p x one j ∧ lsc p x one j < p
  | 0 => by unfold lsc; omega
  | j + 1 => by
    unfold lsc
    split
    · exact lsc_b hp j
    · exact modb (by omega)
theorem nz0 : ∀ p ∈ PR, ∀ a ∈ List.range p, ∀ b ∈ List.range p, 0 < a → 0 < b → a * b % p ≠ 0 := by decide +kernel
theorem nz {p : Nat} {a b : Int} (hp : p ∈ PR) (ha : 0 < a ∧ a < p) (hb : -(p : Int) < b ∧ b < p) (hb0 : b ≠ 0) : 0 < a * b % (p : Int) := by
  have hpb := PRb hp
  have h1 := modb (z := b) (p := (p : Int)) (by omega)
  have h2 : b % (p : Int) ≠ 0 := fun q => by
    by_cases c : 0 ≤ b
    · rw [Int.emod_eq_of_lt c hb.2] at q; exact hb0 q
    · have h3 : (b + p) % (p : Int) = b % (p : Int) := Int.add_emod_right b p
      rw [Int.emod_eq_of_lt (by omega) (by omega)] at h3
      omega
  have h3 := nz0 p hp a.toNat (List.mem_range.mpr (by omega)) (b % (p : Int)).toNat (List.mem_range.mpr (by omega)) (by omega) (by omega)
  have h4 : a * b % (p : Int) = ((a.toNat * (b % (p : Int)).toNat % p : Nat) : Int) := by
    rw [Int.natCast_emod, Int.natCast_mul, Int.toNat_of_nonneg (by omega), Int.toNat_of_nonneg h1.1, Int.mul_emod a (b % (p : Int)), Int.emod_emod, ← Int.mul_emod]
  omega
theorem lsc_pos {p : Nat} {x : Nat → Int} {one m : Nat} (hp : p ∈ PR) (hx : ∀ j, 0 ≤ x j ∧ x j < p) (hd : ∀ j, j < m → j ≠ one → x one ≠ x j) : ∀ j, j ≤ m → 0 < lsc p x one j
  | 0, _ => by unfold lsc; omega
  | j + 1, h => by
    have hpb := PRb hp
    have ih := lsc_pos hp hx hd j (by omega)
    have h1 := lsc_b (p := (p : Int)) (x := x) (one := one) (by omega) j
    unfold lsc
    split
    · exact ih
    · have h2 := hx one
      have h3 := hx j
      have h4 := hd j (by omega) (by assumption)
      exact nz hp ⟨ih, h1.2⟩ (by omega) (by omega)

set_option maxRecDepth 20000 in
set_option maxHeartbeats 1000000 in
theorem S_X6_makePart {G : xG} {d rc rs : Nat} {ex : Bool} {h : xH} {Q : xQ} {p m one : Nat} {pl : List Int} {ra : Nat} {rl : List Int} (hf : h[4]? = some (cO 1 [vi (p : Int)])) (hp : 2 < p ∧ p < 24) (hP : h[18]? = some (cO 6 [.ref 4, .ref 19, .ref 20])) (hpt : h[20]? = some (cA 0 pl)) (lpt : pl.length = 8) (hr : h[ra]? = some (cA 0 rl)) (r3 : 3 ≤ ra ∧ ra ≠ 4 ∧ ra ≠ 18 ∧ ra ≠ 19 ∧ ra ≠ 20) (lr : Fl (p : Int) rl) (hm : m ≤ 8) (ho : one < m) (k : Q (.inl (some (vi (lsc p (gf rl) one m)))) ex (h.set 20 (cA 0 (tab (lp p (gf rl) one m) 8)))) : X G m_X6_makePart (d + 2) rc rs ex 0 (xe m_X6_makePart.2.2.1 [.ref 18, .ref ra, vi (m : Int), vi (one : Int)]) [] h Q := by
  show X G m_X6_makePart _ _ _ _ 0 [some (.ref 18), some (.ref ra), some (vi (m : Int)), some (vi (one : Int)), none, none] [] h Q
  have L : ∀ (n j : Nat), j + n = m → X G m_X6_makePart (d + 2) rc rs ex 20 [some (.ref 18), some (.ref ra), some (vi (m : Int)), some (vi (one : Int)), some (vi (lsc p (gf rl) one j)), some (vi (j : Int))] [] (h.set 20 (cA 0 (tab (lp p (gf rl) one j) 8))) Q := by
    intro n
    induction n with
    | zero =>
      intro j hi 
      refine x_iload (dT U_X6_makePart 12 rfl) rfl ?_
      refine x_iload_n (dT U_X6_makePart 13 rfl) rfl ?_
      refine x_icmp_ge (tgt := 73) (dT U_X6_makePart 14 rfl) (by decide) (by unfold xr at *; omega) (by unfold xr at *; omega) (fun c23 => ?_) (fun c23 => ?_)
      · skip
        refine x_iload (dT U_X6_makePart 41 rfl) rfl ?_
        refine x_ireturn (dT U_X6_makePart 42 rfl) rfl ?_
        have e : j = m := by omega
        subst e
        exact k
      · exfalso; omega
    | succ n ih =>
      intro j hi 
      refine x_iload (dT U_X6_makePart 12 rfl) rfl ?_
      refine x_iload_n (dT U_X6_makePart 13 rfl) rfl ?_
      refine x_icmp_ge (tgt := 73) (dT U_X6_makePart 14 rfl) (by decide) (by unfold xr at *; omega) (by unfold xr at *; omega) (fun c23 => ?_) (fun c23 => ?_)
      · exfalso; omega
      · skip
        refine x_iload (dT U_X6_makePart 15 rfl) rfl ?_
        refine x_bipush (dT U_X6_makePart 16 rfl) (by decide) ?_
        refine x_icmp_ge (tgt := 73) (dT U_X6_makePart 17 rfl) (by decide) (by unfold xr at *; omega) (by unfold xr at *; omega) (fun c30 => ?_) (fun c30 => ?_)
        · exfalso; omega
        · skip
          refine x_iload (dT U_X6_makePart 18 rfl) rfl ?_
          refine x_iload_n (dT U_X6_makePart 19 rfl) rfl ?_
          refine x_icmp_eq (tgt := 67) (dT U_X6_makePart 20 rfl) (by decide) (by unfold xr at *; omega) (by unfold xr at *; omega) (fun c36 => ?_) (fun c36 => ?_)
          · skip
            have e1 : lp p (gf rl) one (j + 1) = lp p (gf rl) one j := by show (if j = one then _ else _) = _; rw [if_pos (by omega)]
            have e2 : lsc p (gf rl) one (j + 1) = lsc p (gf rl) one j := by show (if j = one then _ else _) = _; rw [if_pos (by omega)]
            refine x_iinc (ls' := [some (.ref _), some (.ref _), some (vi _), some (vi _), some (vi _), some (vi _)]) (dT U_X6_makePart 39 rfl) (by decide) rfl rfl ?_
            refine x_goto (tgt := 20) (dT U_X6_makePart 40 rfl) (by decide) ?_
            have q := ih (j + 1) (by omega)
            rw [e1, e2] at q
            exact q
          · skip
            have e1 : lp p (gf rl) one (j + 1) = mbr p (gf rl j) (lp p (gf rl) one j) := by show (if j = one then _ else _) = _; rw [if_neg (by omega)]
            have e2 : lsc p (gf rl) one (j + 1) = (lsc p (gf rl) one j * (gf rl one - gf rl j)) % (p : Int) := by show (if j = one then _ else _) = _; rw [if_neg (by omega)]
            refine x_aload_n (dT U_X6_makePart 21 rfl) rfl ?_
            refine x_aload_n (dT U_X6_makePart 22 rfl) rfl ?_
            refine x_iload (dT U_X6_makePart 23 rfl) rfl ?_
            refine x_iaload (j) (dT U_X6_makePart 24 rfl) (hset_ne (by omega) hr) r3.1 rfl (by rw [lr.1]; omega) (by rw [lr.1]; omega) ?_
            refine x_invokevirtual (rc' := rc) (rs' := rs) (rc2 := 0) (rs2 := 0) (As := [_]) (st := _) M_X6_multiplyByRoot K_X6_55 (dT U_X6_makePart 25 rfl) rfl rfl (by decide) rfl rfl (hset_ne (by omega) hP) (by omega) (by decide) rfl (Nat.le_of_ble_eq_true rfl) rfl (by decide) (Nat.le_of_ble_eq_true rfl) rfl rfl ?_
            refine S_X6_multiplyByRoot (hset_ne (by omega) hf) hp (hset_ne (by omega) hP) (hset_eq hpt) (lp_b (by omega) j) (lr.2 j) ?_
            refine xRet_none ?_
            rw [List.set_set]
            refine x_aload_n (dT U_X6_makePart 26 rfl) rfl ?_
            refine x_getfield F_X6_9 (dT U_X6_makePart 27 rfl) (hset_ne (by omega) hP) (by omega) rfl ?_
            refine x_iload (dT U_X6_makePart 28 rfl) rfl ?_
            refine x_aload_n (dT U_X6_makePart 29 rfl) rfl ?_
            refine x_iload_n (dT U_X6_makePart 30 rfl) rfl ?_
            refine x_iaload (one) (dT U_X6_makePart 31 rfl) (hset_ne (by omega) hr) r3.1 rfl (by rw [lr.1]; omega) (by rw [lr.1]; omega) ?_
            refine x_aload_n (dT U_X6_makePart 32 rfl) rfl ?_
            refine x_iload (dT U_X6_makePart 33 rfl) rfl ?_
            refine x_iaload (j) (dT U_X6_makePart 34 rfl) (hset_ne (by omega) hr) r3.1 rfl (by rw [lr.1]; omega) (by rw [lr.1]; omega) ?_
            refine x_isub (dT U_X6_makePart 35 rfl) ?_
            refine x_imul (dT U_X6_makePart 36 rfl) ?_
            refine x_invokevirtual (rc' := rc) (rs' := rs) (rc2 := 0) (rs2 := 0) (As := [_]) (st := _) M_X1_rest K_X6_32 (dT U_X6_makePart 37 rfl) rfl rfl (by decide) rfl rfl (hset_ne (by omega) hf) (by omega) (by decide) rfl (Nat.le_of_ble_eq_true rfl) rfl (by decide) (Nat.le_of_ble_eq_true rfl) rfl rfl ?_
            have v1 := lsc_b (p := (p : Int)) (x := gf rl) (one := one) (by omega) j
            have v2 := lr.2 one
            have v3 := lr.2 j
            have v4 := mulb2 (a := rl.getD one 0 - rl.getD j 0) (b := lsc p (gf rl) one j) (p := (p : Int)) (by omega) v1 (by omega)
            rw [Int.mul_comm] at v4
            refine S_X1_rest (hset_ne (by omega) hf) hp (by unfold xr; omega) ?_
            refine xRet_some ?_
            refine x_istore (ls' := [some (.ref _), some (.ref _), some (vi _), some (vi _), some (vi _), some (vi _)]) (dT U_X6_makePart 38 rfl) (by decide) rfl ?_
            refine x_iinc (ls' := [some (.ref _), some (.ref _), some (vi _), some (vi _), some (vi _), some (vi _)]) (dT U_X6_makePart 39 rfl) (by decide) rfl rfl ?_
            refine x_goto (tgt := 20) (dT U_X6_makePart 40 rfl) (by decide) ?_
            have q := ih (j + 1) (by omega)
            rw [e1, e2] at q
            exact q
  refine x_aload_n (dT U_X6_makePart 0 rfl) rfl ?_
  refine x_getfield F_X6_19 (dT U_X6_makePart 1 rfl) hP (by omega) rfl ?_
  refine x_invokestatic (rc' := rc) (rs' := rs) (rc2 := 0) (rs2 := 0) (As := [_]) (st := _) M_X1_clear K_X6_28 (dT U_X6_makePart 2 rfl) rfl rfl rfl rfl (Nat.le_of_ble_eq_true rfl) rfl (by decide) (Nat.le_of_ble_eq_true rfl) rfl rfl ?_
  refine S_X1_clear hpt (by omega) lpt ?_
  refine xRet_none ?_
  refine x_aload_n (dT U_X6_makePart 3 rfl) rfl ?_
  refine x_getfield F_X6_19 (dT U_X6_makePart 4 rfl) (hset_ne (by omega) hP) (by omega) rfl ?_
  refine x_iconst (dT U_X6_makePart 5 rfl) ?_
  refine x_iconst (dT U_X6_makePart 6 rfl) ?_
  refine x_iastore (0) (dT U_X6_makePart 7 rfl) (hset_eq hpt) (by omega) rfl (by rw [tab_len]; omega) (by rw [tab_len]; omega) ?_
  rw [List.set_set, tab_set (g := lp p (gf rl) one 0) (by omega) (by unfold lp; rfl) (fun n h1 h2 => by unfold lp; rw [if_neg h2])]
  refine x_iconst (dT U_X6_makePart 8 rfl) ?_
  refine x_istore (ls' := [some (.ref _), some (.ref _), some (vi _), some (vi _), some (vi _), none]) (dT U_X6_makePart 9 rfl) (by decide) rfl ?_
  refine x_iconst (dT U_X6_makePart 10 rfl) ?_
  refine x_istore (ls' := [some (.ref _), some (.ref _), some (vi _), some (vi _), some (vi _), some (vi _)]) (dT U_X6_makePart 11 rfl) (by decide) rfl ?_
  exact L m 0 (by omega)

def lit (p : Nat) (x y : Nat → Int) (m : Nat) : Nat → Nat → Int
  | 0 => fun _ => 0
  | k + 1 => fun n => (lit p x y m k n + (y k * (iv p (lsc p x k m).toNat : Int) % (p : Int)) * lp p x k m n) % (p : Int)
theorem lit_b {p : Nat} {x y : Nat → Int} {m : Nat} (hp : 2 < p) : ∀ k n, 0 ≤ lit p x y m k n ∧ lit p x y m k n < p
  | 0, n => by unfold lit; omega
  | k + 1, n => modb (by omega)

set_option maxRecDepth 20000 in
set_option maxHeartbeats 1000000 in
theorem S_X6_interpolate {G : xG} {d rc rs : Nat} {ex : Bool} {h : xH} {Q : xQ} {p m ta : Nat} {sl0 pl0 tl : List Int} {ra : Nat} {rl : List Int}{oa : Nat} {ol : List Int} (hf : h[4]? = some (cO 1 [vi (p : Int)])) (hp5 : p ∈ PR) (hP : h[18]? = some (cO 6 [.ref 4, .ref 19, .ref 20])) (hs : h[19]? = some (cA 0 sl0)) (ls : sl0.length = 8) (hpt : h[20]? = some (cA 0 pl0)) (lpt : pl0.length = 8) (hr : h[ra]? = some (cA 0 rl)) (r3 : 3 ≤ ra ∧ ra ≠ 4 ∧ ra ≠ 18 ∧ ra ≠ 19 ∧ ra ≠ 20) (lr : Fl (p : Int) rl) (ho : h[oa]? = some (cA 0 ol)) (o3 : 3 ≤ oa ∧ oa ≠ 4 ∧ oa ≠ 18 ∧ oa ≠ 19 ∧ oa ≠ 20) (lo : Fl (p : Int) ol) (ht : h[ta]? = some (cA 0 tl)) (t3 : 3 ≤ ta ∧ ta ≠ 19 ∧ ta ≠ 20) (lt : tl.length = 8) (hm : m ≤ 8) (hd : ∀ i j, i < m → j < m → j ≠ i → gf rl i ≠ gf rl j) (k : ∀ pl : List Int, pl.length = 8 → Q (.inl none) ex (((h.set 19 (cA 0 (tab (lit p (gf rl) (gf ol) m m) 8))).set 20 (cA 0 pl)).set ta (cA 0 (tab (lit p (gf rl) (gf ol) m m) 8)))) : X G m_X6_interpolate (d + 3) rc rs ex 0 (xe m_X6_interpolate.2.2.1 [.ref 18, .ref ra, .ref oa, vi (m : Int), .ref ta]) [] h Q := by
  show X G m_X6_interpolate _ _ _ _ 0 [some (.ref 18), some (.ref ra), some (.ref oa), some (vi (m : Int)), some (.ref ta), none, none, none] [] h Q
  have hp := PRb hp5
  have L : ∀ (n i : Nat), i + n = m → ∀ pl : List Int, pl.length = 8 → X G m_X6_interpolate (d + 3) rc rs ex 10 [some (.ref 18), some (.ref ra), some (.ref oa), some (vi (m : Int)), some (.ref ta), some (vi (i : Int)), none, none] [] ((h.set 19 (cA 0 (tab (lit p (gf rl) (gf ol) m i) 8))).set 20 (cA 0 pl)) Q := by
    intro n
    induction n with
    | zero =>
      intro i hi pl hpl
      refine x_iload (dT U_X6_interpolate 5 rfl) rfl ?_
      refine x_iload_n (dT U_X6_interpolate 6 rfl) rfl ?_
      refine x_icmp_ge (tgt := 82) (dT U_X6_interpolate 7 rfl) (by decide) (by unfold xr at *; omega) (by unfold xr at *; omega) (fun c13 => ?_) (fun c13 => ?_)
      · skip
        refine x_aload_n (dT U_X6_interpolate 40 rfl) rfl ?_
        have e : i = m := by omega
        subst e
        refine x_getfield F_X6_15 (dT U_X6_interpolate 41 rfl) (hset_ne (by omega) (hset_ne (by omega) hP)) (by omega) rfl ?_
        refine x_aload (dT U_X6_interpolate 42 rfl) rfl ?_
        refine x_invokestatic (rc' := rc) (rs' := rs) (rc2 := 0) (rs2 := 0) (As := [_, _]) (st := _) M_X1_copy K_X6_36 (dT U_X6_interpolate 43 rfl) rfl rfl rfl rfl (Nat.le_of_ble_eq_true rfl) rfl (by decide) (Nat.le_of_ble_eq_true rfl) rfl rfl ?_
        refine S_X1_copy (hset_ne (by omega) (hset_eq hs)) (by omega) (tab_len _ _) (hset_ne (by omega) (hset_ne (by omega) ht)) t3.1 lt ?_
        refine xRet_none ?_
        refine x_return (dT U_X6_interpolate 44 rfl) rfl ?_
        exact k pl hpl
      · exfalso; omega
    | succ n ih =>
      intro i hi pl hpl
      refine x_iload (dT U_X6_interpolate 5 rfl) rfl ?_
      refine x_iload_n (dT U_X6_interpolate 6 rfl) rfl ?_
      refine x_icmp_ge (tgt := 82) (dT U_X6_interpolate 7 rfl) (by decide) (by unfold xr at *; omega) (by unfold xr at *; omega) (fun c13 => ?_) (fun c13 => ?_)
      · exfalso; omega
      · skip
        refine x_iload (dT U_X6_interpolate 8 rfl) rfl ?_
        refine x_bipush (dT U_X6_interpolate 9 rfl) (by decide) ?_
        refine x_icmp_ge (tgt := 82) (dT U_X6_interpolate 10 rfl) (by decide) (by unfold xr at *; omega) (by unfold xr at *; omega) (fun c20 => ?_) (fun c20 => ?_)
        · exfalso; omega
        · skip
          refine x_aload_n (dT U_X6_interpolate 11 rfl) rfl ?_
          refine x_aload_n (dT U_X6_interpolate 12 rfl) rfl ?_
          refine x_iload_n (dT U_X6_interpolate 13 rfl) rfl ?_
          refine x_iload (dT U_X6_interpolate 14 rfl) rfl ?_
          refine x_invokevirtual (rc' := rc) (rs' := rs) (rc2 := 0) (rs2 := 0) (As := [_, _, _]) (st := _) M_X6_makePart K_X6_47 (dT U_X6_interpolate 15 rfl) rfl rfl (by decide) rfl rfl (hset_ne (by omega) (hset_ne (by omega) hP)) (by omega) (by decide) rfl (Nat.le_of_ble_eq_true rfl) rfl (by decide) (Nat.le_of_ble_eq_true rfl) rfl rfl ?_
          refine S_X6_makePart (pl := pl) (hset_ne (by omega) (hset_ne (by omega) hf)) hp (hset_ne (by omega) (hset_ne (by omega) hP)) (hset_eq (hset_ne (by omega) hpt)) hpl (hset_ne (by omega) (hset_ne (by omega) hr)) r3 lr hm (by omega) ?_
          refine xRet_some ?_
          rw [List.set_set]
          refine x_istore (ls' := [some (.ref _), some (.ref _), some (.ref _), some (vi _), some (.ref _), some (vi _), some (vi _), none]) (dT U_X6_interpolate 16 rfl) (by decide) rfl ?_
          refine x_aload_n (dT U_X6_interpolate 17 rfl) rfl ?_
          refine x_getfield F_X6_9 (dT U_X6_interpolate 18 rfl) (hset_ne (by omega) (hset_ne (by omega) hP)) (by omega) rfl ?_
          refine x_aload_n (dT U_X6_interpolate 19 rfl) rfl ?_
          refine x_iload (dT U_X6_interpolate 20 rfl) rfl ?_
          refine x_iaload (i) (dT U_X6_interpolate 21 rfl) (hset_ne (by omega) (hset_ne (by omega) ho)) o3.1 rfl (by rw [lo.1]; omega) (by rw [lo.1]; omega) ?_
          refine x_aload_n (dT U_X6_interpolate 22 rfl) rfl ?_
          refine x_getfield F_X6_9 (dT U_X6_interpolate 23 rfl) (hset_ne (by omega) (hset_ne (by omega) hP)) (by omega) rfl ?_
          refine x_iload (dT U_X6_interpolate 24 rfl) rfl ?_
          refine x_invokevirtual (rc' := rc) (rs' := rs) (rc2 := 0) (rs2 := 0) (As := [_]) (st := _) M_X1_inverse K_X6_40 (dT U_X6_interpolate 25 rfl) rfl rfl (by decide) rfl rfl (hset_ne (by omega) (hset_ne (by omega) hf)) (by omega) (by decide) rfl (Nat.le_of_ble_eq_true rfl) rfl (by decide) (Nat.le_of_ble_eq_true rfl) rfl rfl ?_
          have w1 := lsc_b (p := (p : Int)) (x := gf rl) (one := i) (by omega) m
          have w2 := lsc_pos (x := gf rl) hp5 lr.2 (fun j h1 h2 => hd i j (by omega) h1 h2) m (Nat.le_refl m)
          have w3 := iv_ok hp5 (a := (lsc p (gf rl) i m).toNat) (by omega) (by omega)
          rw [show lsc p (gf rl) i m = (((lsc p (gf rl) i m).toNat : Nat) : Int) by omega]
          refine S_X1_inverse (hset_ne (by omega) (hset_ne (by omega) hf)) hp5 (by omega) ?_
          refine xRet_some ?_
          refine x_invokevirtual (rc' := rc) (rs' := rs) (rc2 := 0) (rs2 := 0) (As := [_, _]) (st := _) M_X1_product K_X6_43 (dT U_X6_interpolate 26 rfl) rfl rfl (by decide) rfl rfl (hset_ne (by omega) (hset_ne (by omega) hf)) (by omega) (by decide) rfl (Nat.le_of_ble_eq_true rfl) rfl (by decide) (Nat.le_of_ble_eq_true rfl) rfl rfl ?_
          have w4 := mulb (a := ol.getD i 0) (b := (iv p (lsc p (gf rl) i m).toNat : Int)) (p := (p : Int)) (lo.2 i) (by omega) (by omega)
          refine S_X1_product (hset_ne (by omega) (hset_ne (by omega) hf)) hp (by unfold xr; omega) ?_
          refine xRet_some ?_
          refine x_istore (ls' := [some (.ref _), some (.ref _), some (.ref _), some (vi _), some (.ref _), some (vi _), some (vi _), some (vi _)]) (dT U_X6_interpolate 27 rfl) (by decide) rfl ?_
          refine x_aload_n (dT U_X6_interpolate 28 rfl) rfl ?_
          refine x_getfield F_X6_9 (dT U_X6_interpolate 29 rfl) (hset_ne (by omega) (hset_ne (by omega) hP)) (by omega) rfl ?_
          refine x_aload_n (dT U_X6_interpolate 30 rfl) rfl ?_
          refine x_getfield F_X6_15 (dT U_X6_interpolate 31 rfl) (hset_ne (by omega) (hset_ne (by omega) hP)) (by omega) rfl ?_
          refine x_aload_n (dT U_X6_interpolate 32 rfl) rfl ?_
          refine x_getfield F_X6_19 (dT U_X6_interpolate 33 rfl) (hset_ne (by omega) (hset_ne (by omega) hP)) (by omega) rfl ?_
          refine x_iload (dT U_X6_interpolate 34 rfl) rfl ?_
          refine x_aload_n (dT U_X6_interpolate 35 rfl) rfl ?_
          refine x_getfield F_X6_15 (dT U_X6_interpolate 36 rfl) (hset_ne (by omega) (hset_ne (by omega) hP)) (by omega) rfl ?_
          refine x_invokevirtual (rc' := rc) (rs' := rs) (rc2 := 0) (rs2 := 0) (As := [_, _, _, _]) (st := _) M_X1_addTimes K_X6_51 (dT U_X6_interpolate 37 rfl) rfl rfl (by decide) rfl rfl (hset_ne (by omega) (hset_ne (by omega) hf)) (by omega) (by decide) rfl (Nat.le_of_ble_eq_true rfl) rfl (by decide) (Nat.le_of_ble_eq_true rfl) rfl rfl ?_
          have w5 := modb (z := ol.getD i 0 * (iv p (lsc p (gf rl) i m).toNat : Int)) (p := (p : Int)) (by omega)
          refine S_X1_addTimes (hset_ne (by omega) (hset_ne (by omega) hf)) hp (hset_ne (by omega) (hset_eq hs)) (by omega) (Fl_tab (by omega) (fun j _ => lit_b (by omega) i j)) (hset_eq (hset_ne (by omega) hpt)) (by omega) (Fl_tab (by omega) (fun j _ => lp_b (by omega) m j)) (hset_ne (by omega) (hset_eq hs)) (by omega) (tab_len _ _) (by omega) ?_
          refine xRet_none ?_
          rw [st2a (by omega), show tab (fun j => ((tab (lit p (gf rl) (gf ol) m i) 8).getD j 0 + ol.getD i 0 * (iv p (lsc p (gf rl) i m).toNat : Int) % (p : Int) * (tab (lp p (gf rl) i m) 8).getD j 0) % (p : Int)) 8 = tab (lit p (gf rl) (gf ol) m (i + 1)) 8 from tab_congr (fun n hn => by rw [tab_get _ hn, tab_get _ hn]; rfl)]
          refine x_iinc (ls' := [some (.ref _), some (.ref _), some (.ref _), some (vi _), some (.ref _), some (vi _), some (vi _), some (vi _)]) (dT U_X6_interpolate 38 rfl) (by decide) rfl rfl ?_
          refine x_goto (tgt := 10) (dT U_X6_interpolate 39 rfl) (by decide) ?_
          refine x_drop ?_ (ih (i + 1) (by omega) _ (tab_len _ _))
          repeat (first | exact trivial | refine ⟨rfl, ?_⟩ | refine ⟨trivial, ?_⟩)
  refine x_aload_n (dT U_X6_interpolate 0 rfl) rfl ?_
  refine x_getfield F_X6_15 (dT U_X6_interpolate 1 rfl) hP (by omega) rfl ?_
  refine x_invokestatic (rc' := rc) (rs' := rs) (rc2 := 0) (rs2 := 0) (As := [_]) (st := _) M_X1_clear K_X6_28 (dT U_X6_interpolate 2 rfl) rfl rfl rfl rfl (Nat.le_of_ble_eq_true rfl) rfl (by decide) (Nat.le_of_ble_eq_true rfl) rfl rfl ?_
  refine S_X1_clear hs (by omega) ls ?_
  refine xRet_none ?_
  refine x_iconst (dT U_X6_interpolate 3 rfl) ?_
  refine x_istore (ls' := [some (.ref _), some (.ref _), some (.ref _), some (vi _), some (.ref _), some (vi _), none, none]) (dT U_X6_interpolate 4 rfl) (by decide) rfl ?_
  have q := L m 0 (by omega) pl0 lpt
  rw [List.set_comm _ _ (by omega), hset_self hpt] at q
  exact q

set_option maxRecDepth 20000 in
set_option maxHeartbeats 1000000 in
theorem S_X6_timesIn {G : xG} {d rc rs : Nat} {ex : Bool} {h : xH} {Q : xQ} {p : Nat} {v : Int} {ra : Nat} {rl : List Int} (hp : 2 < p ∧ p < 24) (hr : h[ra]? = some (cA 0 rl)) (r3 : 3 ≤ ra ∧ ra ≠ 4 ∧ ra ≠ 18 ∧ ra ≠ 19 ∧ ra ≠ 20) (lr : Fl (p : Int) rl) (hv : xr v) (k : Q (.inl (some (vi (ct (fun j => gf rl j = v) 8 : Int)))) ex h) : X G m_X6_timesIn d rc rs ex 0 (xe m_X6_timesIn.2.2.1 [.ref ra, vi v]) [] h Q := by
  show X G m_X6_timesIn _ _ _ _ 0 [some (.ref ra), some (vi v), none, none] [] h Q
  have L : ∀ (n i : Nat), i + n = 8 → X G m_X6_timesIn d rc rs ex 4 [some (.ref ra), some (vi v), some (vi (ct (fun j => gf rl j = v) i : Int)), some (vi (i : Int))] [] h Q := by
    intro n
    induction n with
    | zero =>
      intro i hi 
      refine x_iload_n (dT U_X6_timesIn 4 rfl) rfl ?_
      refine x_bipush (dT U_X6_timesIn 5 rfl) (by decide) ?_
      refine x_icmp_ge (tgt := 26) (dT U_X6_timesIn 6 rfl) (by decide) (by unfold xr at *; omega) (by unfold xr at *; omega) (fun c7 => ?_) (fun c7 => ?_)
      · skip
        refine x_iload_n (dT U_X6_timesIn 15 rfl) rfl ?_
        refine x_ireturn (dT U_X6_timesIn 16 rfl) rfl ?_
        have e : i = 8 := by omega
        subst e
        exact k
      · exfalso; omega
    | succ n ih =>
      intro i hi 
      refine x_iload_n (dT U_X6_timesIn 4 rfl) rfl ?_
      refine x_bipush (dT U_X6_timesIn 5 rfl) (by decide) ?_
      refine x_icmp_ge (tgt := 26) (dT U_X6_timesIn 6 rfl) (by decide) (by unfold xr at *; omega) (by unfold xr at *; omega) (fun c7 => ?_) (fun c7 => ?_)
      · exfalso; omega
      · skip
        refine x_aload_n (dT U_X6_timesIn 7 rfl) rfl ?_
        refine x_iload_n (dT U_X6_timesIn 8 rfl) rfl ?_
        refine x_iaload (i) (dT U_X6_timesIn 9 rfl) hr r3.1 rfl (by rw [lr.1]; omega) (by rw [lr.1]; omega) ?_
        refine x_iload_n (dT U_X6_timesIn 10 rfl) rfl ?_
        refine x_icmp_ne (tgt := 20) (dT U_X6_timesIn 11 rfl) (by decide) (by have := lr.2 i; unfold xr; omega) hv (fun c14 => ?_) (fun c14 => ?_)
        · skip
          have e1 := ct_no (P := fun j => gf rl j = v) (n := i) (by assumption)
          refine x_iinc (ls' := [some (.ref _), some (vi _), some (vi _), some (vi _)]) (dT U_X6_timesIn 13 rfl) (by decide) rfl rfl ?_
          refine x_goto (tgt := 4) (dT U_X6_timesIn 14 rfl) (by decide) ?_
          have q := ih (i + 1) (by omega)
          rw [e1] at q
          exact q
        · skip
          have e1 := ct_yes (P := fun j => gf rl j = v) (n := i) (by assumption)
          refine x_iinc (ls' := [some (.ref _), some (vi _), some (vi _), some (vi _)]) (dT U_X6_timesIn 12 rfl) (by decide) rfl rfl ?_
          refine x_iinc (ls' := [some (.ref _), some (vi _), some (vi _), some (vi _)]) (dT U_X6_timesIn 13 rfl) (by decide) rfl rfl ?_
          refine x_goto (tgt := 4) (dT U_X6_timesIn 14 rfl) (by decide) ?_
          have q := ih (i + 1) (by omega)
          rw [e1] at q
          exact q
  refine x_iconst (dT U_X6_timesIn 0 rfl) ?_
  refine x_istore_n (ls' := [some (.ref _), some (vi _), some (vi _), none]) (dT U_X6_timesIn 1 rfl) (by decide) rfl ?_
  refine x_iconst (dT U_X6_timesIn 2 rfl) ?_
  refine x_istore_n (ls' := [some (.ref _), some (vi _), some (vi _), some (vi _)]) (dT U_X6_timesIn 3 rfl) (by decide) rfl ?_
  exact L 8 0 (by omega)

def sameN (r o : Nat → Int) : Prop := ∀ i, i < 8 → ct (fun j => r j = r i) 8 = ct (fun j => o j = r i) 8

set_option maxRecDepth 20000 in
set_option maxHeartbeats 1000000 in
theorem S_X6_haveSameNumbers {G : xG} {d rc rs : Nat} {ex : Bool} {h : xH} {Q : xQ} {p : Nat} {ra : Nat} {rl : List Int}{oa : Nat} {ol : List Int} (hp : 2 < p ∧ p < 24) (hr : h[ra]? = some (cA 0 rl)) (r3 : 3 ≤ ra ∧ ra ≠ 4 ∧ ra ≠ 18 ∧ ra ≠ 19 ∧ ra ≠ 20) (lr : Fl (p : Int) rl) (ho : h[oa]? = some (cA 0 ol)) (o3 : 3 ≤ oa ∧ oa ≠ 4 ∧ oa ≠ 18 ∧ oa ≠ 19 ∧ oa ≠ 20) (lo : Fl (p : Int) ol) (k1 : sameN (gf rl) (gf ol) → Q (.inl (some (vi 1))) ex h) (k0 : ¬ sameN (gf rl) (gf ol) → Q (.inl (some (vi 0))) ex h) : X G m_X6_haveSameNumbers (d + 1) rc rs ex 0 (xe m_X6_haveSameNumbers.2.2.1 [.ref ra, .ref oa]) [] h Q := by
  show X G m_X6_haveSameNumbers _ _ _ _ 0 [some (.ref ra), some (.ref oa), none] [] h Q
  have L : ∀ (n i : Nat), i + n = 8 → (∀ a, a < i → ct (fun j => gf rl j = gf rl a) 8 = ct (fun j => gf ol j = gf rl a) 8) → X G m_X6_haveSameNumbers (d + 1) rc rs ex 2 [some (.ref ra), some (.ref oa), some (vi (i : Int))] [] h Q := by
    intro n
    induction n with
    | zero =>
      intro i hi hx
      refine x_iload_n (dT U_X6_haveSameNumbers 2 rfl) rfl ?_
      refine x_bipush (dT U_X6_haveSameNumbers 3 rfl) (by decide) ?_
      refine x_icmp_ge (tgt := 33) (dT U_X6_haveSameNumbers 4 rfl) (by decide) (by unfold xr at *; omega) (by unfold xr at *; omega) (fun c5 => ?_) (fun c5 => ?_)
      · skip
        refine x_iconst (dT U_X6_haveSameNumbers 20 rfl) ?_
        refine x_zreturn (dT U_X6_haveSameNumbers 21 rfl) rfl (by omega) ?_
        exact k1 (fun a ha => hx a (by omega))
      · exfalso; omega
    | succ n ih =>
      intro i hi hx
      refine x_iload_n (dT U_X6_haveSameNumbers 2 rfl) rfl ?_
      refine x_bipush (dT U_X6_haveSameNumbers 3 rfl) (by decide) ?_
      refine x_icmp_ge (tgt := 33) (dT U_X6_haveSameNumbers 4 rfl) (by decide) (by unfold xr at *; omega) (by unfold xr at *; omega) (fun c5 => ?_) (fun c5 => ?_)
      · exfalso; omega
      · skip
        refine x_aload_n (dT U_X6_haveSameNumbers 5 rfl) rfl ?_
        refine x_aload_n (dT U_X6_haveSameNumbers 6 rfl) rfl ?_
        refine x_iload_n (dT U_X6_haveSameNumbers 7 rfl) rfl ?_
        refine x_iaload (i) (dT U_X6_haveSameNumbers 8 rfl) hr r3.1 rfl (by rw [lr.1]; omega) (by rw [lr.1]; omega) ?_
        refine x_invokestatic (rc' := rc) (rs' := rs) (rc2 := 0) (rs2 := 0) (As := [_, _]) (st := _) M_X6_timesIn K_X6_59 (dT U_X6_haveSameNumbers 9 rfl) rfl rfl rfl rfl (Nat.le_of_ble_eq_true rfl) rfl (by decide) (Nat.le_of_ble_eq_true rfl) rfl rfl ?_
        refine S_X6_timesIn hp hr r3 lr (by have := lr.2 i; unfold xr; omega) ?_
        refine xRet_some ?_
        refine x_aload_n (dT U_X6_haveSameNumbers 10 rfl) rfl ?_
        refine x_aload_n (dT U_X6_haveSameNumbers 11 rfl) rfl ?_
        refine x_iload_n (dT U_X6_haveSameNumbers 12 rfl) rfl ?_
        refine x_iaload (i) (dT U_X6_haveSameNumbers 13 rfl) hr r3.1 rfl (by rw [lr.1]; omega) (by rw [lr.1]; omega) ?_
        refine x_invokestatic (rc' := rc) (rs' := rs) (rc2 := 0) (rs2 := 0) (As := [_, _]) (st := _) M_X6_timesIn K_X6_59 (dT U_X6_haveSameNumbers 14 rfl) rfl rfl rfl rfl (Nat.le_of_ble_eq_true rfl) rfl (by decide) (Nat.le_of_ble_eq_true rfl) rfl rfl ?_
        refine S_X6_timesIn hp ho o3 lo (by have := lr.2 i; unfold xr; omega) ?_
        refine xRet_some ?_
        refine x_icmp_eq (tgt := 27) (dT U_X6_haveSameNumbers 15 rfl) (by decide) (by have := ct_le (fun j => gf rl j = rl.getD i 0) 8; unfold xr; omega) (by have := ct_le (fun j => gf ol j = rl.getD i 0) 8; unfold xr; omega) (fun c22 => ?_) (fun c22 => ?_)
        · skip
          refine x_iinc (ls' := [some (.ref _), some (.ref _), some (vi _)]) (dT U_X6_haveSameNumbers 18 rfl) (by decide) rfl rfl ?_
          refine x_goto (tgt := 2) (dT U_X6_haveSameNumbers 19 rfl) (by decide) ?_
          refine ih (i + 1) (by omega) (fun a ha => ?_)
          by_cases e : a = i
          · rw [e]; unfold gf at *; omega
          · exact hx a (by omega)
        · skip
          refine x_iconst (dT U_X6_haveSameNumbers 16 rfl) ?_
          refine x_zreturn (dT U_X6_haveSameNumbers 17 rfl) rfl (by omega) ?_
          exact k0 (fun q => by have q1 := q i (by omega); unfold gf at *; omega)
  refine x_iconst (dT U_X6_haveSameNumbers 0 rfl) ?_
  refine x_istore_n (ls' := [some (.ref _), some (.ref _), some (vi _)]) (dT U_X6_haveSameNumbers 1 rfl) (by decide) rfl ?_
  exact L 8 0 (by omega) (fun a ha => absurd ha (Nat.not_lt_zero a))

def pw (p : Int) (r : Nat → Int) (x : Int) : Nat → Int
  | 0 => 1
  | i + 1 => (pw p r x i * (x + r i)) % p
theorem pw_b {p : Int} {r : Nat → Int} {x : Int} (hp : 2 < p) : ∀ i, 0 ≤ pw p r x i ∧ pw p r x i < p
  | 0 => by unfold pw; omega
  | i + 1 => modb (by omega)

set_option maxRecDepth 20000 in
set_option maxHeartbeats 1000000 in
theorem S_X6_productWith {G : xG} {d rc rs : Nat} {ex : Bool} {h : xH} {Q : xQ} {p x : Nat} {ra : Nat} {rl : List Int} (hf : h[4]? = some (cO 1 [vi (p : Int)])) (hp : 2 < p ∧ p < 24) (hP : h[18]? = some (cO 6 [.ref 4, .ref 19, .ref 20])) (hr : h[ra]? = some (cA 0 rl)) (r3 : 3 ≤ ra ∧ ra ≠ 4 ∧ ra ≠ 18 ∧ ra ≠ 19 ∧ ra ≠ 20) (lr : Fl (p : Int) rl) (hx : x < p) (k : Q (.inl (some (vi (pw p (gf rl) x 8)))) ex h) : X G m_X6_productWith (d + 1) rc rs ex 0 (xe m_X6_productWith.2.2.1 [.ref 18, .ref ra, vi (x : Int)]) [] h Q := by
  show X G m_X6_productWith _ _ _ _ 0 [some (.ref 18), some (.ref ra), some (vi (x : Int)), none, none] [] h Q
  have L : ∀ (n i : Nat), i + n = 8 → X G m_X6_productWith (d + 1) rc rs ex 5 [some (.ref 18), some (.ref ra), some (vi (x : Int)), some (vi (pw p (gf rl) x i)), some (vi (i : Int))] [] h Q := by
    intro n
    induction n with
    | zero =>
      intro i hi 
      refine x_iload (dT U_X6_productWith 4 rfl) rfl ?_
      refine x_bipush (dT U_X6_productWith 5 rfl) (by decide) ?_
      refine x_icmp_ge (tgt := 34) (dT U_X6_productWith 6 rfl) (by decide) (by unfold xr at *; omega) (by unfold xr at *; omega) (fun c9 => ?_) (fun c9 => ?_)
      · skip
        refine x_iload_n (dT U_X6_productWith 20 rfl) rfl ?_
        refine x_ireturn (dT U_X6_productWith 21 rfl) rfl ?_
        have e : i = 8 := by omega
        subst e
        exact k
      · exfalso; omega
    | succ n ih =>
      intro i hi 
      refine x_iload (dT U_X6_productWith 4 rfl) rfl ?_
      refine x_bipush (dT U_X6_productWith 5 rfl) (by decide) ?_
      refine x_icmp_ge (tgt := 34) (dT U_X6_productWith 6 rfl) (by decide) (by unfold xr at *; omega) (by unfold xr at *; omega) (fun c9 => ?_) (fun c9 => ?_)
      · exfalso; omega
      · skip
        refine x_aload_n (dT U_X6_productWith 7 rfl) rfl ?_
        refine x_getfield F_X6_9 (dT U_X6_productWith 8 rfl) hP (by omega) rfl ?_
        refine x_iload_n (dT U_X6_productWith 9 rfl) rfl ?_
        refine x_iload_n (dT U_X6_productWith 10 rfl) rfl ?_
        refine x_aload_n (dT U_X6_productWith 11 rfl) rfl ?_
        refine x_iload (dT U_X6_productWith 12 rfl) rfl ?_
        refine x_iaload (i) (dT U_X6_productWith 13 rfl) hr r3.1 rfl (by rw [lr.1]; omega) (by rw [lr.1]; omega) ?_
        refine x_iadd (dT U_X6_productWith 14 rfl) ?_
        refine x_imul (dT U_X6_productWith 15 rfl) ?_
        refine x_invokevirtual (rc' := rc) (rs' := rs) (rc2 := 0) (rs2 := 0) (As := [_]) (st := _) M_X1_rest K_X6_32 (dT U_X6_productWith 16 rfl) rfl rfl (by decide) rfl rfl hf (by omega) (by decide) rfl (Nat.le_of_ble_eq_true rfl) rfl (by decide) (Nat.le_of_ble_eq_true rfl) rfl rfl ?_
        have v1 := pw_b (p := (p : Int)) (r := gf rl) (x := (x : Int)) (by omega) i
        have v2 := lr.2 i
        have v3 := mulg (a := pw p (gf rl) x i) (b := (x : Int) + rl.getD i 0) (m := 23) (n := 46) (by omega) (by omega)
        refine S_X1_rest hf hp (by unfold xr; omega) ?_
        refine xRet_some ?_
        refine x_istore_n (ls' := [some (.ref _), some (.ref _), some (vi _), some (vi _), some (vi _)]) (dT U_X6_productWith 17 rfl) (by decide) rfl ?_
        refine x_iinc (ls' := [some (.ref _), some (.ref _), some (vi _), some (vi _), some (vi _)]) (dT U_X6_productWith 18 rfl) (by decide) rfl rfl ?_
        refine x_goto (tgt := 5) (dT U_X6_productWith 19 rfl) (by decide) ?_
        exact ih (i + 1) (by omega)
  refine x_iconst (dT U_X6_productWith 0 rfl) ?_
  refine x_istore_n (ls' := [some (.ref _), some (.ref _), some (vi _), some (vi _), none]) (dT U_X6_productWith 1 rfl) (by decide) rfl ?_
  refine x_iconst (dT U_X6_productWith 2 rfl) ?_
  refine x_istore (ls' := [some (.ref _), some (.ref _), some (vi _), some (vi _), some (vi _)]) (dT U_X6_productWith 3 rfl) (by decide) rfl ?_
  exact L 8 0 (by omega)

set_option maxRecDepth 20000 in
set_option maxHeartbeats 1000000 in
theorem S_X6_meetings {G : xG} {d rc rs : Nat} {ex : Bool} {h : xH} {Q : xQ} {p : Nat} {ra : Nat} {rl : List Int}{oa : Nat} {ol : List Int} (hf : h[4]? = some (cO 1 [vi (p : Int)])) (hp : 2 < p ∧ p < 24) (hP : h[18]? = some (cO 6 [.ref 4, .ref 19, .ref 20])) (hr : h[ra]? = some (cA 0 rl)) (r3 : 3 ≤ ra ∧ ra ≠ 4 ∧ ra ≠ 18 ∧ ra ≠ 19 ∧ ra ≠ 20) (lr : Fl (p : Int) rl) (ho : h[oa]? = some (cA 0 ol)) (o3 : 3 ≤ oa ∧ oa ≠ 4 ∧ oa ≠ 18 ∧ oa ≠ 19 ∧ oa ≠ 20) (lo : Fl (p : Int) ol) (k : Q (.inl (some (vi (ct (fun x : Nat => pw p (gf rl) x 8 = pw p (gf ol) x 8) p : Int)))) ex h) : X G m_X6_meetings (d + 2) rc rs ex 0 (xe m_X6_meetings.2.2.1 [.ref 18, .ref ra, .ref oa]) [] h Q := by
  show X G m_X6_meetings _ _ _ _ 0 [some (.ref 18), some (.ref ra), some (.ref oa), none, none] [] h Q
  have L : ∀ (n x : Nat), x + n = p → X G m_X6_meetings (d + 2) rc rs ex 5 [some (.ref 18), some (.ref ra), some (.ref oa), some (vi (ct (fun x : Nat => pw p (gf rl) x 8 = pw p (gf ol) x 8) x : Int)), some (vi (x : Int))] [] h Q := by
    intro n
    induction n with
    | zero =>
      intro x hi 
      refine x_iload (dT U_X6_meetings 4 rfl) rfl ?_
      refine x_aload_n (dT U_X6_meetings 5 rfl) rfl ?_
      refine x_getfield F_X6_9 (dT U_X6_meetings 6 rfl) hP (by omega) rfl ?_
      refine x_getfield F_X6_63 (dT U_X6_meetings 7 rfl) hf (by omega) rfl ?_
      refine x_icmp_ge (tgt := 43) (dT U_X6_meetings 8 rfl) (by decide) (by unfold xr at *; omega) (by unfold xr at *; omega) (fun c14 => ?_) (fun c14 => ?_)
      · skip
        refine x_iload_n (dT U_X6_meetings 21 rfl) rfl ?_
        refine x_ireturn (dT U_X6_meetings 22 rfl) rfl ?_
        have e : x = p := by omega
        subst e
        exact k
      · exfalso; omega
    | succ n ih =>
      intro x hi 
      refine x_iload (dT U_X6_meetings 4 rfl) rfl ?_
      refine x_aload_n (dT U_X6_meetings 5 rfl) rfl ?_
      refine x_getfield F_X6_9 (dT U_X6_meetings 6 rfl) hP (by omega) rfl ?_
      refine x_getfield F_X6_63 (dT U_X6_meetings 7 rfl) hf (by omega) rfl ?_
      refine x_icmp_ge (tgt := 43) (dT U_X6_meetings 8 rfl) (by decide) (by unfold xr at *; omega) (by unfold xr at *; omega) (fun c14 => ?_) (fun c14 => ?_)
      · exfalso; omega
      · skip
        refine x_aload_n (dT U_X6_meetings 9 rfl) rfl ?_
        refine x_aload_n (dT U_X6_meetings 10 rfl) rfl ?_
        refine x_iload (dT U_X6_meetings 11 rfl) rfl ?_
        refine x_invokevirtual (rc' := rc) (rs' := rs) (rc2 := 0) (rs2 := 0) (As := [_, _]) (st := _) M_X6_productWith K_X6_67 (dT U_X6_meetings 12 rfl) rfl rfl (by decide) rfl rfl hP (by omega) (by decide) rfl (Nat.le_of_ble_eq_true rfl) rfl (by decide) (Nat.le_of_ble_eq_true rfl) rfl rfl ?_
        refine S_X6_productWith hf hp hP hr r3 lr (by omega) ?_
        refine xRet_some ?_
        refine x_aload_n (dT U_X6_meetings 13 rfl) rfl ?_
        refine x_aload_n (dT U_X6_meetings 14 rfl) rfl ?_
        refine x_iload (dT U_X6_meetings 15 rfl) rfl ?_
        refine x_invokevirtual (rc' := rc) (rs' := rs) (rc2 := 0) (rs2 := 0) (As := [_, _]) (st := _) M_X6_productWith K_X6_67 (dT U_X6_meetings 16 rfl) rfl rfl (by decide) rfl rfl hP (by omega) (by decide) rfl (Nat.le_of_ble_eq_true rfl) rfl (by decide) (Nat.le_of_ble_eq_true rfl) rfl rfl ?_
        refine S_X6_productWith hf hp hP ho o3 lo (by omega) ?_
        refine xRet_some ?_
        refine x_icmp_ne (tgt := 37) (dT U_X6_meetings 17 rfl) (by decide) (by have := pw_b (p := (p : Int)) (r := gf rl) (x := (x : Int)) (by omega) 8; unfold xr; omega) (by have := pw_b (p := (p : Int)) (r := gf ol) (x := (x : Int)) (by omega) 8; unfold xr; omega) (fun c31 => ?_) (fun c31 => ?_)
        · skip
          have e1 := ct_no (P := (fun x : Nat => pw p (gf rl) x 8 = pw p (gf ol) x 8)) (n := x) (by assumption)
          refine x_iinc (ls' := [some (.ref _), some (.ref _), some (.ref _), some (vi _), some (vi _)]) (dT U_X6_meetings 19 rfl) (by decide) rfl rfl ?_
          refine x_goto (tgt := 5) (dT U_X6_meetings 20 rfl) (by decide) ?_
          have q := ih (x + 1) (by omega)
          rw [e1] at q
          exact q
        · skip
          have e1 := ct_yes (P := (fun x : Nat => pw p (gf rl) x 8 = pw p (gf ol) x 8)) (n := x) (by assumption)
          refine x_iinc (ls' := [some (.ref _), some (.ref _), some (.ref _), some (vi _), some (vi _)]) (dT U_X6_meetings 18 rfl) (by decide) rfl rfl ?_
          refine x_iinc (ls' := [some (.ref _), some (.ref _), some (.ref _), some (vi _), some (vi _)]) (dT U_X6_meetings 19 rfl) (by decide) rfl rfl ?_
          refine x_goto (tgt := 5) (dT U_X6_meetings 20 rfl) (by decide) ?_
          have q := ih (x + 1) (by omega)
          rw [e1] at q
          exact q
  refine x_iconst (dT U_X6_meetings 0 rfl) ?_
  refine x_istore_n (ls' := [some (.ref _), some (.ref _), some (.ref _), some (vi _), none]) (dT U_X6_meetings 1 rfl) (by decide) rfl ?_
  refine x_iconst (dT U_X6_meetings 2 rfl) ?_
  refine x_istore (ls' := [some (.ref _), some (.ref _), some (.ref _), some (vi _), some (vi _)]) (dT U_X6_meetings 3 rfl) (by decide) rfl ?_
  exact L p 0 (by omega)
