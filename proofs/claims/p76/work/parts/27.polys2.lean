def mbr (p r : Int) (f : Nat → Int) (n : Nat) : Int := if n = 0 then (-r * f 0) % p else (f (n - 1) - r * f n) % p
theorem mbr_b {p r : Int} {f : Nat → Int} (hp : 0 < p) (n : Nat) : 0 ≤ mbr p r f n ∧ mbr p r f n < p := by
  unfold mbr
  split <;> exact modb hp

def lp (p : Int) (x : Nat → Int) (one : Nat) : Nat → Nat → Int
  | 0 => fun n => if n = 0 then 1 else 0
  | j + 1 => if j = one then lp p x one j else mbr p (x j) (lp p x one j)
def lsc (p : Int) (x : Nat → Int) (one : Nat) : Nat → Int
  | 0 => 1
  | j + 1 => if j = one then lsc p x one j else (lsc p x one j * (x one - x j)) % p
theorem lp_b {p : Int} {x : Nat → Int} {one : Nat} (hp : 2 < p) : ∀ j n, 0 ≤ lp p x one j n ∧ lp p x one j n < p
  | 0, n => by unfold lp; split <;> omega
  | j + 1, n => by
    unfold lp
    split
    · exact lp_b hp j n
    · exact mbr_b (by omega) n
theorem lsc_b {p : Int} {x : Nat → Int} {one : Nat} (hp : 2 < p) : ∀ j, 0 ≤ lsc p x one j ∧ lsc p x one j < p
  | 0 => by unfold lsc; omega
  | j + 1 => by
    unfold lsc
    split
    · exact lsc_b hp j
    · exact modb (by omega)
theorem nz0 : ∀ p ∈ PR, ∀ a ∈ List.range p, ∀ b ∈ List.range p, 0 < a → 0 < b → a * b % p ≠ 0 := by decide +kernel
theorem nz {p : Nat} {a b : Int} (hp : p ∈ PR) (ha : 0 < a ∧ a < p) (hb : -(p : Int) < b ∧ b < p) (hb0 : b ≠ 0) : 0 < a * b % (p : Int) := by
  have hpb := PRb hp
  have h1 := modb (z := b) (p := (p : Int)) (by omega)
  have h2 : b % (p : Int) ≠ 0 := fun q => by
    by_cases c : 0 ≤ b
    · rw [Int.emod_eq_of_lt c hb.2] at q; exact hb0 q
    · have h3 : (b + p) % (p : Int) = b % (p : Int) := Int.add_emod_right b p
      rw [Int.emod_eq_of_lt (by omega) (by omega)] at h3
      omega
  have h3 := nz0 p hp a.toNat (List.mem_range.mpr (by omega)) (b % (p : Int)).toNat (List.mem_range.mpr (by omega)) (by omega) (by omega)
  have h4 : a * b % (p : Int) = ((a.toNat * (b % (p : Int)).toNat % p : Nat) : Int) := by
    rw [Int.natCast_emod, Int.natCast_mul, Int.toNat_of_nonneg (by omega), Int.toNat_of_nonneg h1.1, Int.mul_emod a (b % (p : Int)), Int.emod_emod, ← Int.mul_emod]
  omega
theorem lsc_pos {p : Nat} {x : Nat → Int} {one m : Nat} (hp : p ∈ PR) (hx : ∀ j, 0 ≤ x j ∧ x j < p) (hd : ∀ j, j < m → j ≠ one → x one ≠ x j) : ∀ j, j ≤ m → 0 < lsc p x one j
  | 0, _ => by unfold lsc; omega
  | j + 1, h => by
    have hpb := PRb hp
    have ih := lsc_pos hp hx hd j (by omega)
    have h1 := lsc_b (p := (p : Int)) (x := x) (one := one) (by omega) j
    unfold lsc
    split
    · exact ih
    · have h2 := hx one
      have h3 := hx j
      have h4 := hd j (by omega) (by assumption)
      exact nz hp ⟨ih, h1.2⟩ (by omega) (by omega)

def lit (p : Nat) (x y : Nat → Int) (m : Nat) : Nat → Nat → Int
  | 0 => fun _ => 0
  | k + 1 => fun n => (lit p x y m k n + (y k * (iv p (lsc p x k m).toNat : Int) % (p : Int)) * lp p x k m n) % (p : Int)
theorem lit_b {p : Nat} {x y : Nat → Int} {m : Nat} (hp : 2 < p) : ∀ k n, 0 ≤ lit p x y m k n ∧ lit p x y m k n < p
  | 0, n => by unfold lit; omega
  | k + 1, n => modb (by omega)

set_option maxRecDepth 20000 in
set_option maxHeartbeats 1000000 in
theorem S_X6_timesIn {G : xG} {d rc rs : Nat} {ex : Bool} {h : xH} {Q : xQ} {p : Nat} {v : Int} {ra : Nat} {rl : List Int} (hp : 2 < p ∧ p < 24) (hr : h[ra]? = some (cA 0 rl)) (r3 : 3 ≤ ra ∧ ra ≠ 4 ∧ ra ≠ 18 ∧ ra ≠ 19 ∧ ra ≠ 20) (lr : Fl (p : Int) rl) (hv : xr v) (k : Q (.inl (some (vi (ct (fun j => gf rl j = v) 8 : Int)))) ex h) : X G m_X6_timesIn d rc rs ex 0 (xe m_X6_timesIn.2.2.1 [.ref ra, vi v]) [] h Q := by
  show X G m_X6_timesIn _ _ _ _ 0 [some (.ref ra), some (vi v), none, none] [] h Q
  have L : ∀ (n i : Nat), i + n = 8 → X G m_X6_timesIn d rc rs ex 4 [some (.ref ra), some (vi v), some (vi (ct (fun j => gf rl j = v) i : Int)), some (vi (i : Int))] [] h Q := by
    intro n
    induction n with
    | zero =>
      intro i hi 
      refine x_iload_n (dT U_X6_timesIn 4 rfl) rfl ?_
      refine x_bipush (dT U_X6_timesIn 5 rfl) (by decide) ?_
      refine x_icmp_ge (tgt := 26) (dT U_X6_timesIn 6 rfl) (by decide) (by unfold xr at *; omega) (by unfold xr at *; omega) (fun c7 => ?_) (fun c7 => ?_)
      · skip
        refine x_iload_n (dT U_X6_timesIn 15 rfl) rfl ?_
        refine x_ireturn (dT U_X6_timesIn 16 rfl) rfl ?_
        have e : i = 8 := by omega
        subst e
        exact k
      · exfalso; omega
    | succ n ih =>
      intro i hi 
      refine x_iload_n (dT U_X6_timesIn 4 rfl) rfl ?_
      refine x_bipush (dT U_X6_timesIn 5 rfl) (by decide) ?_
      refine x_icmp_ge (tgt := 26) (dT U_X6_timesIn 6 rfl) (by decide) (by unfold xr at *; omega) (by unfold xr at *; omega) (fun c7 => ?_) (fun c7 => ?_)
      · exfalso; omega
      · skip
        refine x_aload_n (dT U_X6_timesIn 7 rfl) rfl ?_
        refine x_iload_n (dT U_X6_timesIn 8 rfl) rfl ?_
        refine x_iaload (i) (dT U_X6_timesIn 9 rfl) hr r3.1 rfl (by rw [lr.1]; omega) (by rw [lr.1]; omega) ?_
        refine x_iload_n (dT U_X6_timesIn 10 rfl) rfl ?_
        refine x_icmp_ne (tgt := 20) (dT U_X6_timesIn 11 rfl) (by decide) (by have := lr.2 i; unfold xr; omega) hv (fun c14 => ?_) (fun c14 => ?_)
        · skip
          have e1 := ct_no (P := fun j => gf rl j = v) (n := i) (by assumption)
          refine x_iinc (ls' := [some (.ref _), some (vi _), some (vi _), some (vi _)]) (dT U_X6_timesIn 13 rfl) (by decide) rfl rfl ?_
          refine x_goto (tgt := 4) (dT U_X6_timesIn 14 rfl) (by decide) ?_
          have q := ih (i + 1) (by omega)
          rw [e1] at q
          exact q
        · skip
          have e1 := ct_yes (P := fun j => gf rl j = v) (n := i) (by assumption)
          refine x_iinc (ls' := [some (.ref _), some (vi _), some (vi _), some (vi _)]) (dT U_X6_timesIn 12 rfl) (by decide) rfl rfl ?_
          refine x_iinc (ls' := [some (.ref _), some (vi _), some (vi _), some (vi _)]) (dT U_X6_timesIn 13 rfl) (by decide) rfl rfl ?_
          refine x_goto (tgt := 4) (dT U_X6_timesIn 14 rfl) (by decide) ?_
          have q := ih (i + 1) (by omega)
          rw [e1] at q
          exact q
  refine x_iconst (dT U_X6_timesIn 0 rfl) ?_
  refine x_istore_n (ls' := [some (.ref _), some (vi _), some (vi _), none]) (dT U_X6_timesIn 1 rfl) (by decide) rfl ?_
  refine x_iconst (dT U_X6_timesIn 2 rfl) ?_
  refine x_istore_n (ls' := [some (.ref _), some (vi _), some (vi _), some (vi _)]) (dT U_X6_timesIn 3 rfl) (by decide) rfl ?_
  exact L 8 0 (by omega)

def sameN (r o : Nat → Int) : Prop := ∀ i, i < 8 → ct (fun j => r j = r i) 8 = ct (fun j => o j = r i) 8

set_option maxRecDepth 20000 in
set_option maxHeartbeats 1000000 in
theorem S_X6_haveSameNumbers {G : xG} {d rc rs : Nat} {ex : Bool} {h : xH} {Q : xQ} {p : Nat} {ra : Nat} {rl : List Int}{oa : Nat} {ol : List Int} (hp : 2 < p ∧ p < 24) (hr : h[ra]? = some (cA 0 rl)) (r3 : 3 ≤ ra ∧ ra ≠ 4 ∧ ra ≠ 18 ∧ ra ≠ 19 ∧ ra ≠ 20) (lr : Fl (p : Int) rl) (ho : h[oa]? = some (cA 0 ol)) (o3 : 3 ≤ oa ∧ oa ≠ 4 ∧ oa ≠ 18 ∧ oa ≠ 19 ∧ oa ≠ 20) (lo : Fl (p : Int) ol) (k1 : sameN (gf rl) (gf ol) → Q (.inl (some (vi 1))) ex h) (k0 : ¬ sameN (gf rl) (gf ol) → Q (.inl (some (vi 0))) ex h) : X G m_X6_haveSameNumbers (d + 1) rc rs ex 0 (xe m_X6_haveSameNumbers.2.2.1 [.ref ra, .ref oa]) [] h Q := by
  show X G m_X6_haveSameNumbers _ _ _ _ 0 [some (.ref ra), some (.ref oa), none] [] h Q
  have L : ∀ (n i : Nat), i + n = 8 → (∀ a, a < i → ct (fun j => gf rl j = gf rl a) 8 = ct (fun j => gf ol j = gf rl a) 8) → X G m_X6_haveSameNumbers (d + 1) rc rs ex 2 [some (.ref ra), some (.ref oa), some (vi (i : Int))] [] h Q := by
    intro n
    induction n with
    | zero =>
      intro i hi hx
      refine x_iload_n (dT U_X6_haveSameNumbers 2 rfl) rfl ?_
      refine x_bipush (dT U_X6_haveSameNumbers 3 rfl) (by decide) ?_
      refine x_icmp_ge (tgt := 33) (dT U_X6_haveSameNumbers 4 rfl) (by decide) (by unfold xr at *; omega) (by unfold xr at *; omega) (fun c5 => ?_) (fun c5 => ?_)
      · skip
        refine x_iconst (dT U_X6_haveSameNumbers 20 rfl) ?_
        refine x_zreturn (dT U_X6_haveSameNumbers 21 rfl) rfl (by omega) ?_
        exact k1 (fun a ha => hx a (by omega))
      · exfalso; omega
    | succ n ih =>
      intro i hi hx
      refine x_iload_n (dT U_X6_haveSameNumbers 2 rfl) rfl ?_
      refine x_bipush (dT U_X6_haveSameNumbers 3 rfl) (by decide) ?_
      refine x_icmp_ge (tgt := 33) (dT U_X6_haveSameNumbers 4 rfl) (by decide) (by unfold xr at *; omega) (by unfold xr at *; omega) (fun c5 => ?_) (fun c5 => ?_)
      · exfalso; omega
      · skip
        refine x_aload_n (dT U_X6_haveSameNumbers 5 rfl) rfl ?_
        refine x_aload_n (dT U_X6_haveSameNumbers 6 rfl) rfl ?_
        refine x_iload_n (dT U_X6_haveSameNumbers 7 rfl) rfl ?_
        refine x_iaload (i) (dT U_X6_haveSameNumbers 8 rfl) hr r3.1 rfl (by rw [lr.1]; omega) (by rw [lr.1]; omega) ?_
        refine x_invokestatic (rc' := rc) (rs' := rs) (rc2 := 0) (rs2 := 0) (As := [_, _]) (st := _) M_X6_timesIn K_X6_59 (dT U_X6_haveSameNumbers 9 rfl) rfl rfl rfl rfl (Nat.le_of_ble_eq_true rfl) rfl (by decide) (Nat.le_of_ble_eq_true rfl) rfl rfl ?_
        refine S_X6_timesIn hp hr r3 lr (by have := lr.2 i; unfold xr; omega) ?_
        refine xRet_some ?_
        refine x_aload_n (dT U_X6_haveSameNumbers 10 rfl) rfl ?_
        refine x_aload_n (dT U_X6_haveSameNumbers 11 rfl) rfl ?_
        refine x_iload_n (dT U_X6_haveSameNumbers 12 rfl) rfl ?_
        refine x_iaload (i) (dT U_X6_haveSameNumbers 13 rfl) hr r3.1 rfl (by rw [lr.1]; omega) (by rw [lr.1]; omega) ?_
        refine x_invokestatic (rc' := rc) (rs' := rs) (rc2 := 0) (rs2 := 0) (As := [_, _]) (st := _) M_X6_timesIn K_X6_59 (dT U_X6_haveSameNumbers 14 rfl) rfl rfl rfl rfl (Nat.le_of_ble_eq_true rfl) rfl (by decide) (Nat.le_of_ble_eq_true rfl) rfl rfl ?_
        refine S_X6_timesIn hp ho o3 lo (by have := lr.2 i; unfold xr; omega) ?_
        refine xRet_some ?_
        refine x_icmp_eq (tgt := 27) (dT U_X6_haveSameNumbers 15 rfl) (by decide) (by have := ct_le (fun j => gf rl j = rl.getD i 0) 8; unfold xr; omega) (by have := ct_le (fun j => gf ol j = rl.getD i 0) 8; unfold xr; omega) (fun c22 => ?_) (fun c22 => ?_)
        · skip
          refine x_iinc (ls' := [some (.ref _), some (.ref _), some (vi _)]) (dT U_X6_haveSameNumbers 18 rfl) (by decide) rfl rfl ?_
          refine x_goto (tgt := 2) (dT U_X6_haveSameNumbers 19 rfl) (by decide) ?_
          refine ih (i + 1) (by omega) (fun a ha => ?_)
          by_cases e : a = i
          · rw [e]; unfold gf at *; omega
          · exact hx a (by omega)
        · skip
          refine x_iconst (dT U_X6_haveSameNumbers 16 rfl) ?_
          refine x_zreturn (dT U_X6_haveSameNumbers 17 rfl) rfl (by omega) ?_
          exact k0 (fun q => by have q1 := q i (by omega); unfold gf at *; omega)
  refine x_iconst (dT U_X6_haveSameNumbers 0 rfl) ?_
  refine x_istore_n (ls' := [some (.ref _), some (.ref _), some (vi _)]) (dT U_X6_haveSameNumbers 1 rfl) (by decide) rfl ?_
  exact L 8 0 (by omega) (fun a ha => absurd ha (Nat.not_lt_zero a))

def pw (p : Int) (r : Nat → Int) (x : Int) : Nat → Int
  | 0 => 1
  | i + 1 => (pw p r x i * (x + r i)) % p
theorem pw_b {p : Int} {r : Nat → Int} {x : Int} (hp : 2 < p) : ∀ i, 0 ≤ pw p r x i ∧ pw p r x i < p
  | 0 => by unfold pw; omega
  | i + 1 => modb (by omega)

set_option maxRecDepth 20000 in
set_option maxHeartbeats 1000000 in
theorem S_X6_productWith {G : xG} {d rc rs : Nat} {ex : Bool} {h : xH} {Q : xQ} {p x : Nat} {ra : Nat} {rl : List Int} (hf : h[4]? = some (cO 1 [vi (p : Int)])) (hp : 2 < p ∧ p < 24) (hP : h[18]? = some (cO 6 [.ref 4, .ref 19, .ref 20])) (hr : h[ra]? = some (cA 0 rl)) (r3 : 3 ≤ ra ∧ ra ≠ 4 ∧ ra ≠ 18 ∧ ra ≠ 19 ∧ ra ≠ 20) (lr : Fl (p : Int) rl) (hx : x < p) (k : Q (.inl (some (vi (pw p (gf rl) x 8)))) ex h) : X G m_X6_productWith (d + 1) rc rs ex 0 (xe m_X6_productWith.2.2.1 [.ref 18, .ref ra, vi (x : Int)]) [] h Q := by
  show X G m_X6_productWith _ _ _ _ 0 [some (.ref 18), some (.ref ra), some (vi (x : Int)), none, none] [] h Q
  have L : ∀ (n i : Nat), i + n = 8 → X G m_X6_productWith (d + 1) rc rs ex 5 [some (.ref 18), some (.ref ra), some (vi (x : Int)), some (vi (pw p (gf rl) x i)), some (vi (i : Int))] [] h Q := by
    intro n
    induction n with
    | zero =>
      intro i hi 
      refine x_iload (dT U_X6_productWith 4 rfl) rfl ?_
      refine x_bipush (dT U_X6_productWith 5 rfl) (by decide) ?_
      refine x_icmp_ge (tgt := 34) (dT U_X6_productWith 6 rfl) (by decide) (by unfold xr at *; omega) (by unfold xr at *; omega) (fun c9 => ?_) (fun c9 => ?_)
      · skip
        refine x_iload_n (dT U_X6_productWith 20 rfl) rfl ?_
        refine x_ireturn (dT U_X6_productWith 21 rfl) rfl ?_
        have e : i = 8 := by omega
        subst e
        exact k
      · exfalso; omega
    | succ n ih =>
      intro i hi 
      refine x_iload (dT U_X6_productWith 4 rfl) rfl ?_
      refine x_bipush (dT U_X6_productWith 5 rfl) (by decide) ?_
      refine x_icmp_ge (tgt := 34) (dT U_X6_productWith 6 rfl) (by decide) (by unfold xr at *; omega) (by unfold xr at *; omega) (fun c9 => ?_) (fun c9 => ?_)
      · exfalso; omega
      · skip
        refine x_aload_n (dT U_X6_productWith 7 rfl) rfl ?_
        refine x_getfield F_X6_9 (dT U_X6_productWith 8 rfl) hP (by omega) rfl ?_
        refine x_iload_n (dT U_X6_productWith 9 rfl) rfl ?_
        refine x_iload_n (dT U_X6_productWith 10 rfl) rfl ?_
        refine x_aload_n (dT U_X6_productWith 11 rfl) rfl ?_
        refine x_iload (dT U_X6_productWith 12 rfl) rfl ?_
        refine x_iaload (i) (dT U_X6_productWith 13 rfl) hr r3.1 rfl (by rw [lr.1]; omega) (by rw [lr.1]; omega) ?_
        refine x_iadd (dT U_X6_productWith 14 rfl) ?_
        refine x_imul (dT U_X6_productWith 15 rfl) ?_
        refine x_invokevirtual (rc' := rc) (rs' := rs) (rc2 := 0) (rs2 := 0) (As := [_]) (st := _) M_X1_rest K_X6_32 (dT U_X6_productWith 16 rfl) rfl rfl (by decide) rfl rfl hf (by omega) (by decide) rfl (Nat.le_of_ble_eq_true rfl) rfl (by decide) (Nat.le_of_ble_eq_true rfl) rfl rfl ?_
        have v1 := pw_b (p := (p : Int)) (r := gf rl) (x := (x : Int)) (by omega) i
        have v2 := lr.2 i
        have v3 := mulg (a := pw p (gf rl) x i) (b := (x : Int) + rl.getD i 0) (m := 23) (n := 46) (by omega) (by omega)
        refine S_X1_rest hf hp (by unfold xr; omega) ?_
        refine xRet_some ?_
        refine x_istore_n (ls' := [some (.ref _), some (.ref _), some (vi _), some (vi _), some (vi _)]) (dT U_X6_productWith 17 rfl) (by decide) rfl ?_
        refine x_iinc (ls' := [some (.ref _), some (.ref _), some (vi _), some (vi _), some (vi _)]) (dT U_X6_productWith 18 rfl) (by decide) rfl rfl ?_
        refine x_goto (tgt := 5) (dT U_X6_productWith 19 rfl) (by decide) ?_
        exact ih (i + 1) (by omega)
  refine x_iconst (dT U_X6_productWith 0 rfl) ?_
  refine x_istore_n (ls' := [some (.ref _), some (.ref _), some (vi _), some (vi _), none]) (dT U_X6_productWith 1 rfl) (by decide) rfl ?_
  refine x_iconst (dT U_X6_productWith 2 rfl) ?_
  refine x_istore (ls' := [some (.ref _), some (.ref _), some (vi _), some (vi _), some (vi _)]) (dT U_X6_productWith 3 rfl) (by decide) rfl ?_
  exact L 8 0 (by omega)

set_option maxRecDepth 20000 in
set_option maxHeartbeats 1000000 in
theorem S_X6_meetings {G : xG} {d rc rs : Nat} {ex : Bool} {h : xH} {Q : xQ} {p : Nat} {ra : Nat} {rl : List Int}{oa : Nat} {ol : List Int} (hf : h[4]? = some (cO 1 [vi (p : Int)])) (hp : 2 < p ∧ p < 24) (hP : h[18]? = some (cO 6 [.ref 4, .ref 19, .ref 20])) (hr : h[ra]? = some (cA 0 rl)) (r3 : 3 ≤ ra ∧ ra ≠ 4 ∧ ra ≠ 18 ∧ ra ≠ 19 ∧ ra ≠ 20) (lr : Fl (p : Int) rl) (ho : h[oa]? = some (cA 0 ol)) (o3 : 3 ≤ oa ∧ oa ≠ 4 ∧ oa ≠ 18 ∧ oa ≠ 19 ∧ oa ≠ 20) (lo : Fl (p : Int) ol) (k : Q (.inl (some (vi (ct (fun x : Nat => pw p (gf rl) x 8 = pw p (gf ol) x 8) p : Int)))) ex h) : X G m_X6_meetings (d + 2) rc rs ex 0 (xe m_X6_meetings.2.2.1 [.ref 18, .ref ra, .ref oa]) [] h Q := by
  show X G m_X6_meetings _ _ _ _ 0 [some (.ref 18), some (.ref ra), some (.ref oa), none, none] [] h Q
  have L : ∀ (n x : Nat), x + n = p → X G m_X6_meetings (d + 2) rc rs ex 5 [some (.ref 18), some (.ref ra), some (.ref oa), some (vi (ct (fun x : Nat => pw p (gf rl) x 8 = pw p (gf ol) x 8) x : Int)), some (vi (x : Int))] [] h Q := by
    intro n
    induction n with
    | zero =>
      intro x hi 
      refine x_iload (dT U_X6_meetings 4 rfl) rfl ?_
      refine x_aload_n (dT U_X6_meetings 5 rfl) rfl ?_
      refine x_getfield F_X6_9 (dT U_X6_meetings 6 rfl) hP (by omega) rfl ?_
      refine x_getfield F_X6_63 (dT U_X6_meetings 7 rfl) hf (by omega) rfl ?_
      refine x_icmp_ge (tgt := 43) (dT U_X6_meetings 8 rfl) (by decide) (by unfold xr at *; omega) (by unfold xr at *; omega) (fun c14 => ?_) (fun c14 => ?_)
      · skip
        refine x_iload_n (dT U_X6_meetings 21 rfl) rfl ?_
        refine x_ireturn (dT U_X6_meetings 22 rfl) rfl ?_
        have e : x = p := by omega
        subst e
        exact k
      · exfalso; omega
    | succ n ih =>
      intro x hi 
      refine x_iload (dT U_X6_meetings 4 rfl) rfl ?_
      refine x_aload_n (dT U_X6_meetings 5 rfl) rfl ?_
      refine x_getfield F_X6_9 (dT U_X6_meetings 6 rfl) hP (by omega) rfl ?_
      refine x_getfield F_X6_63 (dT U_X6_meetings 7 rfl) hf (by omega) rfl ?_
      refine x_icmp_ge (tgt := 43) (dT U_X6_meetings 8 rfl) (by decide) (by unfold xr at *; omega) (by unfold xr at *; omega) (fun c14 => ?_) (fun c14 => ?_)
      · exfalso; omega
      · skip
        refine x_aload_n (dT U_X6_meetings 9 rfl) rfl ?_
        refine x_aload_n (dT U_X6_meetings 10 rfl) rfl ?_
        refine x_iload (dT U_X6_meetings 11 rfl) rfl ?_
        refine x_invokevirtual (rc' := rc) (rs' := rs) (rc2 := 0) (rs2 := 0) (As := [_, _]) (st := _) M_X6_productWith K_X6_67 (dT U_X6_meetings 12 rfl) rfl rfl (by decide) rfl rfl hP (by omega) (by decide) rfl (Nat.le_of_ble_eq_true rfl) rfl (by decide) (Nat.le_of_ble_eq_true rfl) rfl rfl ?_
        refine S_X6_productWith hf hp hP hr r3 lr (by omega) ?_
        refine xRet_some ?_
        refine x_aload_n (dT U_X6_meetings 13 rfl) rfl ?_
        refine x_aload_n (dT U_X6_meetings 14 rfl) rfl ?_
        refine x_iload (dT U_X6_meetings 15 rfl) rfl ?_
        refine x_invokevirtual (rc' := rc) (rs' := rs) (rc2 := 0) (rs2 := 0) (As := [_, _]) (st := _) M_X6_productWith K_X6_67 (dT U_X6_meetings 16 rfl) rfl rfl (by decide) rfl rfl hP (by omega) (by decide) rfl (Nat.le_of_ble_eq_true rfl) rfl (by decide) (Nat.le_of_ble_eq_true rfl) rfl rfl ?_
        refine S_X6_productWith hf hp hP ho o3 lo (by omega) ?_
        refine xRet_some ?_
        refine x_icmp_ne (tgt := 37) (dT U_X6_meetings 17 rfl) (by decide) (by have := pw_b (p := (p : Int)) (r := gf rl) (x := (x : Int)) (by omega) 8; unfold xr; omega) (by have := pw_b (p := (p : Int)) (r := gf ol) (x := (x : Int)) (by omega) 8; unfold xr; omega) (fun c31 => ?_) (fun c31 => ?_)
        · skip
          have e1 := ct_no (P := (fun x : Nat => pw p (gf rl) x 8 = pw p (gf ol) x 8)) (n := x) (by assumption)
          refine x_iinc (ls' := [some (.ref _), some (.ref _), some (.ref _), some (vi _), some (vi _)]) (dT U_X6_meetings 19 rfl) (by decide) rfl rfl ?_
          refine x_goto (tgt := 5) (dT U_X6_meetings 20 rfl) (by decide) ?_
          have q := ih (x + 1) (by omega)
          rw [e1] at q
          exact q
        · skip
          have e1 := ct_yes (P := (fun x : Nat => pw p (gf rl) x 8 = pw p (gf ol) x 8)) (n := x) (by assumption)
          refine x_iinc (ls' := [some (.ref _), some (.ref _), some (.ref _), some (vi _), some (vi _)]) (dT U_X6_meetings 18 rfl) (by decide) rfl rfl ?_
          refine x_iinc (ls' := [some (.ref _), some (.ref _), some (.ref _), some (vi _), some (vi _)]) (dT U_X6_meetings 19 rfl) (by decide) rfl rfl ?_
          refine x_goto (tgt := 5) (dT U_X6_meetings 20 rfl) (by decide) ?_
          have q := ih (x + 1) (by omega)
          rw [e1] at q
          exact q
  refine x_iconst (dT U_X6_meetings 0 rfl) ?_
  refine x_istore_n (ls' := [some (.ref _), some (.ref _), some (.ref _), some (vi _), none]) (dT U_X6_meetings 1 rfl) (by decide) rfl ?_
  refine x_iconst (dT U_X6_meetings 2 rfl) ?_
  refine x_istore (ls' := [some (.ref _), some (.ref _), some (.ref _), some (vi _), some (vi _)]) (dT U_X6_meetings 3 rfl) (by decide) rfl ?_
  exact L p 0 (by omega)
