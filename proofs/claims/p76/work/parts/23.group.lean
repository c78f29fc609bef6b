set_option maxRecDepth 20000 in
set_option maxHeartbeats 1000000 in
theorem S_X3_isPrime {G : xG} {d rc rs : Nat} {ex : Bool} {h : xH} {Q : xQ} {n0 : Nat} (hn : 2 ≤ n0 ∧ n0 < 192) (k1 : (∀ x, 2 ≤ x → x < n0 → n0 % x ≠ 0) → Q (.inl (some (vi 1))) ex h) (k0 : (∃ x, 2 ≤ x ∧ x < n0 ∧ n0 % x = 0) → Q (.inl (some (vi 0))) ex h) : X G m_X3_isPrime d rc rs ex 0 (xe m_X3_isPrime.2.2.1 [vi (n0 : Int)]) [] h Q := by
  show X G m_X3_isPrime _ _ _ _ 0 [some (vi (n0 : Int)), none] [] h Q
  have L : ∀ (n i : Nat), i + n = n0 → 2 ≤ i → (∀ d, 2 ≤ d → d < i → n0 % d ≠ 0) → X G m_X3_isPrime d rc rs ex 2 [some (vi (n0 : Int)), some (vi (i : Int))] [] h Q := by
    intro n
    induction n with
    | zero =>
      intro i hi h2i hx
      refine x_iload_n (dT U_X3_isPrime 2 rfl) rfl ?_
      refine x_iload_n (dT U_X3_isPrime 3 rfl) rfl ?_
      refine x_icmp_ge (tgt := 21) (dT U_X3_isPrime 4 rfl) (by decide) (by unfold xr at *; omega) (by unfold xr at *; omega) (fun c4 => ?_) (fun c4 => ?_)
      · skip
        refine x_iconst (dT U_X3_isPrime 13 rfl) ?_
        refine x_zreturn (dT U_X3_isPrime 14 rfl) rfl (by omega) ?_
        exact k1 (fun x h1 h2 => hx x h1 (by omega))
      · exfalso; omega
    | succ n ih =>
      intro i hi h2i hx
      refine x_iload_n (dT U_X3_isPrime 2 rfl) rfl ?_
      refine x_iload_n (dT U_X3_isPrime 3 rfl) rfl ?_
      refine x_icmp_ge (tgt := 21) (dT U_X3_isPrime 4 rfl) (by decide) (by unfold xr at *; omega) (by unfold xr at *; omega) (fun c4 => ?_) (fun c4 => ?_)
      · exfalso; omega
      · skip
        refine x_iload_n (dT U_X3_isPrime 5 rfl) rfl ?_
        refine x_iload_n (dT U_X3_isPrime 6 rfl) rfl ?_
        refine x_irem (dT U_X3_isPrime 7 rfl) (by unfold xr at *; omega) (by unfold xr at *; omega) (by omega) ?_
        have e3 : ((n0 : Int).tmod (i : Int)) = ((n0 % i : Nat) : Int) := by rw [Int.tmod_eq_emod_of_nonneg (by omega), Int.natCast_emod]
        have e4 : n0 % i < i := Nat.mod_lt _ (by omega)
        rw [e3]
        refine x_if_ne (tgt := 15) (dT U_X3_isPrime 8 rfl) (by decide) (by unfold xr at *; omega) (fun c10 => ?_) (fun c10 => ?_)
        · skip
          refine x_iinc (ls' := [some (vi _), some (vi _)]) (dT U_X3_isPrime 11 rfl) (by decide) rfl rfl ?_
          refine x_goto (tgt := 2) (dT U_X3_isPrime 12 rfl) (by decide) ?_
          refine ih (i + 1) (by omega) (by omega) (fun d h2 h3 => ?_)
          by_cases e : d = i
          · subst e; intro z; omega
          · exact hx d h2 (by omega)
        · skip
          refine x_iconst (dT U_X3_isPrime 9 rfl) ?_
          refine x_zreturn (dT U_X3_isPrime 10 rfl) rfl (by omega) ?_
          refine k0 ⟨i, by omega, by omega, by omega⟩
  refine x_iconst (dT U_X3_isPrime 0 rfl) ?_
  refine x_istore_n (ls' := [some (vi _), some (vi _)]) (dT U_X3_isPrime 1 rfl) (by decide) rfl ?_
  exact L (n0 - 2) 2 (by omega) (by omega) (fun d h2 h3 => by omega)

theorem lm_no0 : ∀ p ∈ PR, ∀ n ∈ List.range 192, p < n → n < gq p → (n - 1) % p = 0 → ∃ d ∈ List.range n, 2 ≤ d ∧ n % d = 0 := by decide +kernel
theorem lm_yes0 : ∀ p ∈ PR, ∀ d ∈ List.range (gq p), 2 ≤ d → gq p % d ≠ 0 := by decide +kernel

set_option maxRecDepth 20000 in
set_option maxHeartbeats 1000000 in
theorem S_X3_leastModulus {G : xG} {d rc rs : Nat} {ex : Bool} {h : xH} {Q : xQ} {p : Nat} (hp : p ∈ PR) (k : Q (.inl (some (vi (gq p : Int)))) ex h) : X G m_X3_leastModulus (d + 1) rc rs ex 0 (xe m_X3_leastModulus.2.2.1 [vi (p : Int)]) [] h Q := by
  show X G m_X3_leastModulus _ _ _ _ 0 [some (vi (p : Int)), none] [] h Q
  have hb := PRb hp
  have hq := gq_b hp
  have L : ∀ (n i : Nat), i + n = gq p → p < i → X G m_X3_leastModulus (d + 1) rc rs ex 4 [some (vi (p : Int)), some (vi (i : Int))] [] h Q := by
    intro n
    induction n with
    | zero =>
      intro i hi hpi
      refine x_iload_n (dT U_X3_leastModulus 4 rfl) rfl ?_
      refine x_sipush (dT U_X3_leastModulus 5 rfl) (by decide) ?_
      refine x_icmp_ge (tgt := 38) (dT U_X3_leastModulus 6 rfl) (by decide) (by unfold xr at *; omega) (by unfold xr at *; omega) (fun c8 => ?_) (fun c8 => ?_)
      · exfalso; omega
      · skip
        refine x_iload_n (dT U_X3_leastModulus 7 rfl) rfl ?_
        refine x_if_le (tgt := 32) (dT U_X3_leastModulus 8 rfl) (by decide) (by unfold xr at *; omega) (fun c12 => ?_) (fun c12 => ?_)
        · exfalso; omega
        · skip
          refine x_iload_n (dT U_X3_leastModulus 9 rfl) rfl ?_
          refine x_iconst (dT U_X3_leastModulus 10 rfl) ?_
          refine x_isub (dT U_X3_leastModulus 11 rfl) ?_
          refine x_iload_n (dT U_X3_leastModulus 12 rfl) rfl ?_
          have e0 : i = gq p := by omega
          subst e0
          refine x_irem (dT U_X3_leastModulus 13 rfl) (by unfold xr at *; omega) (by unfold xr at *; omega) (by omega) ?_
          have e3 : ((gq p : Int) - 1).tmod (p : Int) = (((gq p - 1) % p : Nat) : Int) := by rw [Int.tmod_eq_emod_of_nonneg (by omega), Int.natCast_emod]; congr 1; omega
          rw [e3]
          refine x_if_ne (tgt := 32) (dT U_X3_leastModulus 14 rfl) (by decide) (by unfold xr at *; omega) (fun c20 => ?_) (fun c20 => ?_)
          · exfalso; omega
          · skip
            refine x_iload_n (dT U_X3_leastModulus 15 rfl) rfl ?_
            refine x_invokestatic (rc' := rc) (rs' := rs) (rc2 := 0) (rs2 := 0) (As := [_]) (st := _) M_X3_isPrime K_X3_48 (dT U_X3_leastModulus 16 rfl) rfl rfl rfl rfl (Nat.le_of_ble_eq_true rfl) rfl (by decide) (Nat.le_of_ble_eq_true rfl) rfl rfl ?_
            refine S_X3_isPrime (by omega) (fun _ => ?_) (fun ⟨d, h2, h3, h4⟩ => absurd h4 (lm_yes0 p hp d (List.mem_range.mpr h3) h2))
            refine xRet_some ?_
            refine x_if_eq (tgt := 32) (dT U_X3_leastModulus 17 rfl) (by decide) (by unfold xr at *; omega) (fun c27 => ?_) (fun c27 => ?_)
            · exfalso; omega
            · skip
              refine x_iload_n (dT U_X3_leastModulus 18 rfl) rfl ?_
              refine x_ireturn (dT U_X3_leastModulus 19 rfl) rfl ?_
              exact k
    | succ n ih =>
      intro i hi hpi
      refine x_iload_n (dT U_X3_leastModulus 4 rfl) rfl ?_
      refine x_sipush (dT U_X3_leastModulus 5 rfl) (by decide) ?_
      refine x_icmp_ge (tgt := 38) (dT U_X3_leastModulus 6 rfl) (by decide) (by unfold xr at *; omega) (by unfold xr at *; omega) (fun c8 => ?_) (fun c8 => ?_)
      · exfalso; omega
      · skip
        refine x_iload_n (dT U_X3_leastModulus 7 rfl) rfl ?_
        refine x_if_le (tgt := 32) (dT U_X3_leastModulus 8 rfl) (by decide) (by unfold xr at *; omega) (fun c12 => ?_) (fun c12 => ?_)
        · exfalso; omega
        · skip
          refine x_iload_n (dT U_X3_leastModulus 9 rfl) rfl ?_
          refine x_iconst (dT U_X3_leastModulus 10 rfl) ?_
          refine x_isub (dT U_X3_leastModulus 11 rfl) ?_
          refine x_iload_n (dT U_X3_leastModulus 12 rfl) rfl ?_
          refine x_irem (dT U_X3_leastModulus 13 rfl) (by unfold xr at *; omega) (by unfold xr at *; omega) (by omega) ?_
          have e3 : ((i : Int) - 1).tmod (p : Int) = (((i - 1) % p : Nat) : Int) := by rw [Int.tmod_eq_emod_of_nonneg (by omega), Int.natCast_emod]; congr 1; omega
          have e4 : (i - 1) % p < p := Nat.mod_lt _ (by omega)
          rw [e3]
          refine x_if_ne (tgt := 32) (dT U_X3_leastModulus 14 rfl) (by decide) (by unfold xr at *; omega) (fun c20 => ?_) (fun c20 => ?_)
          · skip
            refine x_iinc (ls' := [some (vi _), some (vi _)]) (dT U_X3_leastModulus 20 rfl) (by decide) rfl rfl ?_
            refine x_goto (tgt := 4) (dT U_X3_leastModulus 21 rfl) (by decide) ?_
            exact ih (i + 1) (by omega) (by omega)
          · skip
            refine x_iload_n (dT U_X3_leastModulus 15 rfl) rfl ?_
            refine x_invokestatic (rc' := rc) (rs' := rs) (rc2 := 0) (rs2 := 0) (As := [_]) (st := _) M_X3_isPrime K_X3_48 (dT U_X3_leastModulus 16 rfl) rfl rfl rfl rfl (Nat.le_of_ble_eq_true rfl) rfl (by decide) (Nat.le_of_ble_eq_true rfl) rfl rfl ?_
            obtain ⟨d, hd, e6, e8⟩ := lm_no0 p hp i (List.mem_range.mpr (by omega)) (by omega) (by omega) (by omega)
            refine S_X3_isPrime (by omega) (fun h1 => absurd e8 (h1 d e6 (List.mem_range.mp hd))) (fun _ => ?_)
            refine xRet_some ?_
            refine x_if_eq (tgt := 32) (dT U_X3_leastModulus 17 rfl) (by decide) (by unfold xr at *; omega) (fun c27 => ?_) (fun c27 => ?_)
            · skip
              refine x_iinc (ls' := [some (vi _), some (vi _)]) (dT U_X3_leastModulus 20 rfl) (by decide) rfl rfl ?_
              refine x_goto (tgt := 4) (dT U_X3_leastModulus 21 rfl) (by decide) ?_
              exact ih (i + 1) (by omega) (by omega)
            · exfalso; omega
  refine x_iload_n (dT U_X3_leastModulus 0 rfl) rfl ?_
  refine x_iconst (dT U_X3_leastModulus 1 rfl) ?_
  refine x_iadd (dT U_X3_leastModulus 2 rfl) ?_
  refine x_istore_n (ls' := [some (vi _), some (vi _)]) (dT U_X3_leastModulus 3 rfl) (by decide) rfl ?_
  exact L (gq p - (p + 1)) (p + 1) (by omega) (by omega)

set_option maxRecDepth 20000 in
set_option maxHeartbeats 1000000 in
theorem S_X3_product {G : xG} {d rc rs : Nat} {ex : Bool} {h : xH} {Q : xQ} {q : Nat} {a b : Int} (hg : h[5]? = some (cO 3 [.ref 4, vi (q : Int), .ref 6, .ref 7, .ref 8])) (hq : 1 < q ∧ q < 192) (ha : 0 ≤ a ∧ a < 192) (hb : 0 ≤ b ∧ b < 192) (k : Q (.inl (some (vi (a * b % (q : Int))))) ex h) : X G m_X3_product d rc rs ex 0 (xe m_X3_product.2.2.1 [.ref 5, vi a, vi b]) [] h Q := by
  show X G m_X3_product _ _ _ _ 0 [some (.ref 5), some (vi a), some (vi b)] [] h Q
  refine x_aload_n (dT U_X3_product 0 rfl) rfl ?_
  refine x_getfield F_X3_38 (dT U_X3_product 1 rfl) hg (by decide) rfl ?_
  refine x_if_le (tgt := 18) (dT U_X3_product 2 rfl) (by decide) (by unfold xr at *; omega) (fun c4 => ?_) (fun c4 => ?_)
  · exfalso; omega
  · skip
    refine x_iload_n (dT U_X3_product 3 rfl) rfl ?_
    refine x_iload_n (dT U_X3_product 4 rfl) rfl ?_
    refine x_imul (dT U_X3_product 5 rfl) ?_
    refine x_aload_n (dT U_X3_product 6 rfl) rfl ?_
    refine x_getfield F_X3_38 (dT U_X3_product 7 rfl) hg (by decide) rfl ?_
    have hm1 : 0 ≤ a * b := Int.mul_nonneg ha.1 hb.1
    have hm2 : a * b ≤ 192 * b := Int.mul_le_mul_of_nonneg_right (by omega) hb.1
    refine x_irem (dT U_X3_product 8 rfl) (by unfold xr at *; omega) (by unfold xr at *; omega) (by omega) ?_
    rw [Int.tmod_eq_emod_of_nonneg hm1]
    refine x_goto (tgt := 19) (dT U_X3_product 9 rfl) (by decide) ?_
    refine x_ireturn (dT U_X3_product 11 rfl) rfl ?_
    exact k

theorem gen_ne0 : ∀ p ∈ PR, gB p ≠ 1 ∧ (∀ i ∈ List.range ((gq p - 1) / p), 2 ^ i % gq p * 2 % gq p = 2 ^ (i + 1) % gq p) ∧ (gq p - 1) / p < 100 := by decide +kernel

set_option maxRecDepth 20000 in
set_option maxHeartbeats 1000000 in
theorem S_X3_leastGenerator {G : xG} {d rc rs : Nat} {ex : Bool} {h : xH} {Q : xQ} {p : Nat} (hg : h[5]? = some (cO 3 [.ref 4, vi (gq p : Int), .ref 6, .ref 7, .ref 8])) (hp : p ∈ PR) (k : Q (.inl (some (vi (gB p : Int)))) ex h) : X G m_X3_leastGenerator (d + 1) rc rs ex 0 (xe m_X3_leastGenerator.2.2.1 [.ref 5, vi (p : Int)]) [] h Q := by
  show X G m_X3_leastGenerator _ _ _ _ 0 [some (.ref 5), some (vi (p : Int)), none, none, none, none] [] h Q
  have hb := PRb hp
  have hq := gq_b hp
  have hn := gen_ne0 p hp
  have L : ∀ (n i : Nat), i + n = (gq p - 1) / p → X G m_X3_leastGenerator (d + 1) rc rs ex 33 [some (.ref 5), some (vi (p : Int)), some (vi (((gq p - 1) / p : Nat) : Int)), some (vi 2), some (vi ((2 ^ i % gq p : Nat) : Int)), some (vi (i : Int))] [] h Q := by
    intro n
    induction n with
    | zero =>
      intro i hi 
      refine x_iload (dT U_X3_leastGenerator 21 rfl) rfl ?_
      refine x_iload_n (dT U_X3_leastGenerator 22 rfl) rfl ?_
      refine x_icmp_ge (tgt := 54) (dT U_X3_leastGenerator 23 rfl) (by decide) (by unfold xr at *; omega) (by unfold xr at *; omega) (fun c36 => ?_) (fun c36 => ?_)
      · skip
        have e0 : i = (gq p - 1) / p := by omega
        subst e0
        have e1 : 2 ^ ((gq p - 1) / p) % gq p < gq p := Nat.mod_lt _ (by omega)
        have e2 : 2 ^ ((gq p - 1) / p) % gq p ≠ 1 := hn.1
        refine x_iload (dT U_X3_leastGenerator 31 rfl) rfl ?_
        refine x_iconst (dT U_X3_leastGenerator 32 rfl) ?_
        refine x_icmp_eq (tgt := 63) (dT U_X3_leastGenerator 33 rfl) (by decide) (by unfold xr at *; omega) (by unfold xr at *; omega) (fun c57 => ?_) (fun c57 => ?_)
        · exfalso; omega
        · skip
          refine x_iload (dT U_X3_leastGenerator 34 rfl) rfl ?_
          refine x_ireturn (dT U_X3_leastGenerator 35 rfl) rfl ?_
          exact k
      · exfalso; omega
    | succ n ih =>
      intro i hi 
      refine x_iload (dT U_X3_leastGenerator 21 rfl) rfl ?_
      refine x_iload_n (dT U_X3_leastGenerator 22 rfl) rfl ?_
      refine x_icmp_ge (tgt := 54) (dT U_X3_leastGenerator 23 rfl) (by decide) (by unfold xr at *; omega) (by unfold xr at *; omega) (fun c36 => ?_) (fun c36 => ?_)
      · exfalso; omega
      · skip
        refine x_aload_n (dT U_X3_leastGenerator 24 rfl) rfl ?_
        refine x_iload (dT U_X3_leastGenerator 25 rfl) rfl ?_
        refine x_iload_n (dT U_X3_leastGenerator 26 rfl) rfl ?_
        refine x_invokevirtual (rc' := rc) (rs' := rs) (rc2 := 0) (rs2 := 0) (As := [_, _]) (st := _) M_X3_product K_X3_44 (dT U_X3_leastGenerator 27 rfl) rfl rfl (by decide) rfl rfl hg (by decide) (by decide) rfl (Nat.le_of_ble_eq_true rfl) rfl (by decide) (Nat.le_of_ble_eq_true rfl) rfl rfl ?_
        have e1 : 2 ^ i % gq p < gq p := Nat.mod_lt _ (by omega)
        refine S_X3_product hg (by omega) (by omega) (by omega) ?_
        have e5 : ((2 ^ i % gq p : Nat) : Int) * 2 % (gq p : Int) = ((2 ^ (i + 1) % gq p : Nat) : Int) := by
          rw [← hn.2.1 i (List.mem_range.mpr (by omega))]
          generalize 2 ^ i % gq p = u
          rw [Int.natCast_emod, Int.natCast_mul]
          rfl
        rw [e5]
        refine xRet_some ?_
        refine x_istore (ls' := [some (.ref _), some (vi _), some (vi _), some (vi _), some (vi _), some (vi _)]) (dT U_X3_leastGenerator 28 rfl) (by decide) rfl ?_
        refine x_iinc (ls' := [some (.ref _), some (vi _), some (vi _), some (vi _), some (vi _), some (vi _)]) (dT U_X3_leastGenerator 29 rfl) (by decide) rfl rfl ?_
        refine x_goto (tgt := 33) (dT U_X3_leastGenerator 30 rfl) (by decide) ?_
        exact ih (i + 1) (by omega)
  refine x_iload_n (dT U_X3_leastGenerator 0 rfl) rfl ?_
  refine x_if_le (tgt := 15) (dT U_X3_leastGenerator 1 rfl) (by decide) (by unfold xr at *; omega) (fun c1 => ?_) (fun c1 => ?_)
  · exfalso; omega
  · skip
    refine x_aload_n (dT U_X3_leastGenerator 2 rfl) rfl ?_
    refine x_getfield F_X3_38 (dT U_X3_leastGenerator 3 rfl) hg (by decide) rfl ?_
    refine x_iconst (dT U_X3_leastGenerator 4 rfl) ?_
    refine x_isub (dT U_X3_leastGenerator 5 rfl) ?_
    refine x_iload_n (dT U_X3_leastGenerator 6 rfl) rfl ?_
    refine x_idiv (dT U_X3_leastGenerator 7 rfl) (by unfold xr at *; omega) (by omega) ?_
    refine x_goto (tgt := 16) (dT U_X3_leastGenerator 8 rfl) (by decide) ?_
    have e9 : ((gq p : Int) - 1).tdiv (p : Int) = (((gq p - 1) / p : Nat) : Int) := by rw [Int.tdiv_eq_ediv_of_nonneg (by omega), Int.natCast_ediv]; congr 1; omega
    rw [e9]
    refine x_istore_n (ls' := [some (.ref _), some (vi _), some (vi _), none, none, none]) (dT U_X3_leastGenerator 10 rfl) (by decide) rfl ?_
    refine x_iconst (dT U_X3_leastGenerator 11 rfl) ?_
    refine x_istore_n (ls' := [some (.ref _), some (vi _), some (vi _), some (vi _), none, none]) (dT U_X3_leastGenerator 12 rfl) (by decide) rfl ?_
    refine x_iload_n (dT U_X3_leastGenerator 13 rfl) rfl ?_
    refine x_aload_n (dT U_X3_leastGenerator 14 rfl) rfl ?_
    refine x_getfield F_X3_38 (dT U_X3_leastGenerator 15 rfl) hg (by decide) rfl ?_
    refine x_icmp_ge (tgt := 69) (dT U_X3_leastGenerator 16 rfl) (by decide) (by unfold xr at *; omega) (by unfold xr at *; omega) (fun c24 => ?_) (fun c24 => ?_)
    · exfalso; omega
    · skip
      refine x_iconst (dT U_X3_leastGenerator 17 rfl) ?_
      refine x_istore (ls' := [some (.ref _), some (vi _), some (vi _), some (vi _), some (vi _), none]) (dT U_X3_leastGenerator 18 rfl) (by decide) rfl ?_
      refine x_iconst (dT U_X3_leastGenerator 19 rfl) ?_
      refine x_istore (ls' := [some (.ref _), some (vi _), some (vi _), some (vi _), some (vi _), some (vi _)]) (dT U_X3_leastGenerator 20 rfl) (by decide) rfl ?_
      have q9 := L ((gq p - 1) / p) 0 (by omega)
      rw [show 2 ^ 0 % gq p = 1 from by rw [Nat.pow_zero]; exact Nat.mod_eq_of_lt (by omega)] at q9
      exact q9

set_option maxRecDepth 20000 in
set_option maxHeartbeats 1000000 in
theorem S_X3_exponentOf {G : xG} {d rc rs : Nat} {ex : Bool} {h : xH} {Q : xQ} {p : Nat} {y : Int} (hw : GW p h) (hp : p ∈ PR) (hy : xr y) (k : Q (.inl (some (vi (exI p y)))) ex h) : X G m_X3_exponentOf d rc rs ex 0 (xe m_X3_exponentOf.2.2.1 [.ref 5, vi y]) [] h Q := by
  show X G m_X3_exponentOf _ _ _ _ 0 [some (.ref 5), some (vi y)] [] h Q
  obtain ⟨hf, hg, ⟨ml, hm, lm, vm⟩, he, hbs⟩ := id hw
  have hb := PRb hp
  have hq := gq_b hp
  refine x_iload_n (dT U_X3_exponentOf 0 rfl) rfl ?_
  refine x_if_lt (tgt := 20) (dT U_X3_exponentOf 1 rfl) (by decide) (by unfold xr at *; omega) (fun c1 => ?_) (fun c1 => ?_)
  · skip
    have e : (-1 : Int) = exI p y := by unfold exI; rw [if_neg (by omega)]
    refine x_iconst (dT U_X3_exponentOf 10 rfl) ?_
    first | rw [← e] at k | skip
    refine x_ireturn (dT U_X3_exponentOf 11 rfl) rfl ?_
    exact k
  · skip
    refine x_iload_n (dT U_X3_exponentOf 2 rfl) rfl ?_
    refine x_sipush (dT U_X3_exponentOf 3 rfl) (by decide) ?_
    refine x_icmp_ge (tgt := 20) (dT U_X3_exponentOf 4 rfl) (by decide) (by unfold xr at *; omega) (by unfold xr at *; omega) (fun c8 => ?_) (fun c8 => ?_)
    · skip
      have e : (-1 : Int) = exI p y := by unfold exI; rw [if_neg (by omega)]
      refine x_iconst (dT U_X3_exponentOf 10 rfl) ?_
      first | rw [← e] at k | skip
      refine x_ireturn (dT U_X3_exponentOf 11 rfl) rfl ?_
      exact k
    · skip
      refine x_aload_n (dT U_X3_exponentOf 5 rfl) rfl ?_
      refine x_getfield F_X3_19 (dT U_X3_exponentOf 6 rfl) hg (by decide) rfl ?_
      refine x_iload_n (dT U_X3_exponentOf 7 rfl) rfl ?_
      refine x_iaload (y.toNat) (dT U_X3_exponentOf 8 rfl) he (by decide) (by omega) (by unfold exl; rw [tab_len]; omega) (by unfold exl; rw [tab_len]; omega) ?_
      have e1 : (exl p).getD y.toNat 0 = exI p y := by
        unfold exl exI
        rw [tab_get _ (by omega), if_pos (by omega)]
      rw [e1]
      refine x_goto (tgt := 21) (dT U_X3_exponentOf 9 rfl) (by decide) ?_
      first | rw [← e] at k | skip
      refine x_ireturn (dT U_X3_exponentOf 11 rfl) rfl ?_
      exact k

set_option maxRecDepth 20000 in
set_option maxHeartbeats 1000000 in
theorem S_X3_memberAt {G : xG} {d rc rs : Nat} {ex : Bool} {h : xH} {Q : xQ} {p : Nat} {z : Int} (hw : GW p h) (hp : p ∈ PR) (hz : xr z) (k : Q (.inl (some (vi (MM p (z % (p : Int)))))) ex h) : X G m_X3_memberAt (d + 1) rc rs ex 0 (xe m_X3_memberAt.2.2.1 [.ref 5, vi z]) [] h Q := by
  show X G m_X3_memberAt _ _ _ _ 0 [some (.ref 5), some (vi z), none] [] h Q
  obtain ⟨hf, hg, ⟨ml, hm, lm, vm⟩, he, hbs⟩ := id hw
  have hb := PRb hp
  have hq := gq_b hp
  refine x_aload_n (dT U_X3_memberAt 0 rfl) rfl ?_
  refine x_getfield F_X3_9 (dT U_X3_memberAt 1 rfl) hg (by decide) rfl ?_
  refine x_iload_n (dT U_X3_memberAt 2 rfl) rfl ?_
  refine x_invokevirtual (rc' := rc) (rs' := rs) (rc2 := 0) (rs2 := 0) (As := [_]) (st := _) M_X1_rest K_X3_52 (dT U_X3_memberAt 3 rfl) rfl rfl (by decide) rfl rfl hf (by decide) (by decide) rfl (Nat.le_of_ble_eq_true rfl) rfl (by decide) (Nat.le_of_ble_eq_true rfl) rfl rfl ?_
  have h0 := modb (z := z) (p := (p : Int)) (by omega)
  refine S_X1_rest hf hb hz ?_
  refine xRet_some ?_
  refine x_istore_n (ls' := [some (.ref _), some (vi _), some (vi _)]) (dT U_X3_memberAt 4 rfl) (by decide) rfl ?_
  refine x_iload_n (dT U_X3_memberAt 5 rfl) rfl ?_
  refine x_bipush (dT U_X3_memberAt 6 rfl) (by decide) ?_
  refine x_icmp_ge (tgt := 24) (dT U_X3_memberAt 7 rfl) (by decide) (by unfold xr at *; omega) (by unfold xr at *; omega) (fun c12 => ?_) (fun c12 => ?_)
  · exfalso; omega
  · skip
    refine x_aload_n (dT U_X3_memberAt 8 rfl) rfl ?_
    refine x_getfield F_X3_15 (dT U_X3_memberAt 9 rfl) hg (by decide) rfl ?_
    refine x_iload_n (dT U_X3_memberAt 10 rfl) rfl ?_
    refine x_iaload ((z % (p : Int)).toNat) (dT U_X3_memberAt 11 rfl) hm (by decide) (by omega) (by omega) (by omega) ?_
    rw [vm _ (by omega)]
    refine x_goto (tgt := 25) (dT U_X3_memberAt 12 rfl) (by decide) ?_
    refine x_ireturn (dT U_X3_memberAt 14 rfl) rfl ?_
    exact k

set_option maxRecDepth 20000 in
set_option maxHeartbeats 1000000 in
theorem S_X3_power {G : xG} {d rc rs : Nat} {ex : Bool} {h : xH} {Q : xQ} {p : Nat} {e c : Int} (hw : GW p h) (hp : p ∈ PR) (hee : 0 ≤ e ∧ e < p) (hc : 0 ≤ c ∧ c < p) (k : Q (.inl (some (vi (MM p (e * c % (p : Int)))))) ex h) : X G m_X3_power (d + 2) rc rs ex 0 (xe m_X3_power.2.2.1 [.ref 5, vi (MM p e), vi c]) [] h Q := by
  show X G m_X3_power _ _ _ _ 0 [some (.ref 5), some (vi (MM p e)), some (vi c)] [] h Q
  obtain ⟨hf, hg, ⟨ml, hm, lm, vm⟩, he, hbs⟩ := id hw
  have hb := PRb hp
  have hq := gq_b hp
  refine x_aload_n (dT U_X3_power 0 rfl) rfl ?_
  refine x_aload_n (dT U_X3_power 1 rfl) rfl ?_
  refine x_iload_n (dT U_X3_power 2 rfl) rfl ?_
  refine x_invokevirtual (rc' := rc) (rs' := rs) (rc2 := 0) (rs2 := 0) (As := [_]) (st := _) M_X3_exponentOf K_X3_55 (dT U_X3_power 3 rfl) rfl rfl (by decide) rfl rfl hg (by decide) (by decide) rfl (Nat.le_of_ble_eq_true rfl) rfl (by decide) (Nat.le_of_ble_eq_true rfl) rfl rfl ?_
  have hM := MM_b hp hee
  refine S_X3_exponentOf hw hp (by unfold xr; omega) ?_
  rw [exI_MM hp hee]
  refine xRet_some ?_
  refine x_iload_n (dT U_X3_power 4 rfl) rfl ?_
  refine x_imul (dT U_X3_power 5 rfl) ?_
  refine x_invokevirtual (rc' := rc) (rs' := rs) (rc2 := 0) (rs2 := 0) (As := [_]) (st := _) M_X3_memberAt K_X3_58 (dT U_X3_power 6 rfl) rfl rfl (by decide) rfl rfl hg (by decide) (by decide) rfl (Nat.le_of_ble_eq_true rfl) rfl (by decide) (Nat.le_of_ble_eq_true rfl) rfl rfl ?_
  have hmm := mulb hee hc (by omega)
  refine S_X3_memberAt hw hp (by unfold xr; omega) ?_
  refine xRet_some ?_
  refine x_ireturn (dT U_X3_power 7 rfl) rfl ?_
  exact k

set_option maxRecDepth 20000 in
set_option maxHeartbeats 1000000 in
theorem S_X3_quotient {G : xG} {d rc rs : Nat} {ex : Bool} {h : xH} {Q : xQ} {p : Nat} {e c : Int} (hw : GW p h) (hp : p ∈ PR) (hee : 0 ≤ e ∧ e < p) (hc : 0 ≤ c ∧ c < p) (k : Q (.inl (some (vi (MM p ((e - c) % (p : Int)))))) ex h) : X G m_X3_quotient (d + 2) rc rs ex 0 (xe m_X3_quotient.2.2.1 [.ref 5, vi (MM p e), vi (MM p c)]) [] h Q := by
  show X G m_X3_quotient _ _ _ _ 0 [some (.ref 5), some (vi (MM p e)), some (vi (MM p c))] [] h Q
  obtain ⟨hf, hg, ⟨ml, hm, lm, vm⟩, he, hbs⟩ := id hw
  have hb := PRb hp
  have hq := gq_b hp
  refine x_aload_n (dT U_X3_quotient 0 rfl) rfl ?_
  refine x_aload_n (dT U_X3_quotient 1 rfl) rfl ?_
  refine x_iload_n (dT U_X3_quotient 2 rfl) rfl ?_
  refine x_invokevirtual (rc' := rc) (rs' := rs) (rc2 := 0) (rs2 := 0) (As := [_]) (st := _) M_X3_exponentOf K_X3_55 (dT U_X3_quotient 3 rfl) rfl rfl (by decide) rfl rfl hg (by decide) (by decide) rfl (Nat.le_of_ble_eq_true rfl) rfl (by decide) (Nat.le_of_ble_eq_true rfl) rfl rfl ?_
  have hM := MM_b hp hee
  have hM2 := MM_b hp hc
  refine S_X3_exponentOf hw hp (by unfold xr; omega) ?_
  rw [exI_MM hp hee]
  refine xRet_some ?_
  refine x_aload_n (dT U_X3_quotient 4 rfl) rfl ?_
  refine x_iload_n (dT U_X3_quotient 5 rfl) rfl ?_
  refine x_invokevirtual (rc' := rc) (rs' := rs) (rc2 := 0) (rs2 := 0) (As := [_]) (st := _) M_X3_exponentOf K_X3_55 (dT U_X3_quotient 6 rfl) rfl rfl (by decide) rfl rfl hg (by decide) (by decide) rfl (Nat.le_of_ble_eq_true rfl) rfl (by decide) (Nat.le_of_ble_eq_true rfl) rfl rfl ?_
  refine S_X3_exponentOf hw hp (by unfold xr; omega) ?_
  rw [exI_MM hp hc]
  refine xRet_some ?_
  refine x_isub (dT U_X3_quotient 7 rfl) ?_
  refine x_invokevirtual (rc' := rc) (rs' := rs) (rc2 := 0) (rs2 := 0) (As := [_]) (st := _) M_X3_memberAt K_X3_58 (dT U_X3_quotient 8 rfl) rfl rfl (by decide) rfl rfl hg (by decide) (by decide) rfl (Nat.le_of_ble_eq_true rfl) rfl (by decide) (Nat.le_of_ble_eq_true rfl) rfl rfl ?_
  refine S_X3_memberAt hw hp (by unfold xr; omega) ?_
  refine xRet_some ?_
  refine x_ireturn (dT U_X3_quotient 9 rfl) rfl ?_
  exact k

set_option maxRecDepth 20000 in
set_option maxHeartbeats 1000000 in
theorem S_X3_weightOf {G : xG} {d rc rs : Nat} {ex : Bool} {h : xH} {Q : xQ} {p : Nat} {aa : Nat} {al : List Int} (hw : GW p h) (hp : p ∈ PR) (ha : h[aa]? = some (cA 0 al)) (a3 : 3 ≤ aa) (la : Fl (p : Int) al) (k : Q (.inl (some (vi (wt p al)))) ex h) : X G m_X3_weightOf d rc rs ex 0 (xe m_X3_weightOf.2.2.1 [.ref 5, .ref aa]) [] h Q := by
  show X G m_X3_weightOf _ _ _ _ 0 [some (.ref 5), some (.ref aa), none, none] [] h Q
  obtain ⟨hf, hg, ⟨ml, hm, lm, vm⟩, he, hbs⟩ := id hw
  have hb := PRb hp
  have hq := gq_b hp
  have L : ∀ (n i : Nat), i + n = 8 → X G m_X3_weightOf d rc rs ex 4 [some (.ref 5), some (.ref aa), some (vi (sm (fun i => (bs p i : Int) * al.getD i 0) i)), some (vi (i : Int))] [] h Q := by
    intro n
    induction n with
    | zero =>
      intro i hi 
      refine x_iload_n (dT U_X3_weightOf 4 rfl) rfl ?_
      refine x_bipush (dT U_X3_weightOf 5 rfl) (by decide) ?_
      refine x_icmp_ge (tgt := 29) (dT U_X3_weightOf 6 rfl) (by decide) (by unfold xr at *; omega) (by unfold xr at *; omega) (fun c7 => ?_) (fun c7 => ?_)
      · skip
        refine x_iload_n (dT U_X3_weightOf 20 rfl) rfl ?_
        refine x_ireturn (dT U_X3_weightOf 21 rfl) rfl ?_
        have e : i = 8 := by omega
        subst e
        exact k
      · exfalso; omega
    | succ n ih =>
      intro i hi 
      refine x_iload_n (dT U_X3_weightOf 4 rfl) rfl ?_
      refine x_bipush (dT U_X3_weightOf 5 rfl) (by decide) ?_
      refine x_icmp_ge (tgt := 29) (dT U_X3_weightOf 6 rfl) (by decide) (by unfold xr at *; omega) (by unfold xr at *; omega) (fun c7 => ?_) (fun c7 => ?_)
      · exfalso; omega
      · skip
        refine x_iload_n (dT U_X3_weightOf 7 rfl) rfl ?_
        refine x_aload_n (dT U_X3_weightOf 8 rfl) rfl ?_
        refine x_getfield F_X3_22 (dT U_X3_weightOf 9 rfl) hg (by decide) rfl ?_
        refine x_iload_n (dT U_X3_weightOf 10 rfl) rfl ?_
        refine x_iaload (i) (dT U_X3_weightOf 11 rfl) hbs (by decide) rfl (by unfold bsl; rw [tab_len]; omega) (by unfold bsl; rw [tab_len]; omega) ?_
        refine x_aload_n (dT U_X3_weightOf 12 rfl) rfl ?_
        refine x_iload_n (dT U_X3_weightOf 13 rfl) rfl ?_
        refine x_iaload (i) (dT U_X3_weightOf 14 rfl) ha a3 rfl (by have := la.1; omega) (by have := la.1; omega) ?_
        rw [bsl_get (by omega)]
        refine x_imul (dT U_X3_weightOf 15 rfl) ?_
        refine x_iadd (dT U_X3_weightOf 16 rfl) ?_
        refine x_istore_n (ls' := [some (.ref _), some (.ref _), some (vi _), some (vi _)]) (dT U_X3_weightOf 17 rfl) (by decide) rfl ?_
        refine x_iinc (ls' := [some (.ref _), some (.ref _), some (vi _), some (vi _)]) (dT U_X3_weightOf 18 rfl) (by decide) rfl rfl ?_
        refine x_goto (tgt := 4) (dT U_X3_weightOf 19 rfl) (by decide) ?_
        exact ih (i + 1) (by omega)
  refine x_iconst (dT U_X3_weightOf 0 rfl) ?_
  refine x_istore_n (ls' := [some (.ref _), some (.ref _), some (vi _), none]) (dT U_X3_weightOf 1 rfl) (by decide) rfl ?_
  refine x_iconst (dT U_X3_weightOf 2 rfl) ?_
  refine x_istore_n (ls' := [some (.ref _), some (.ref _), some (vi _), some (vi _)]) (dT U_X3_weightOf 3 rfl) (by decide) rfl ?_
  exact L 8 0 (by omega)

set_option maxRecDepth 20000 in
set_option maxHeartbeats 1000000 in
theorem S_X3_commitmentOf {G : xG} {d rc rs : Nat} {ex : Bool} {h : xH} {Q : xQ} {p : Nat} {b : Int} {aa : Nat} {al : List Int} (hw : GW p h) (hp : p ∈ PR) (ha : h[aa]? = some (cA 0 al)) (a3 : 3 ≤ aa) (la : Fl (p : Int) al) (hbb : 0 ≤ b ∧ b < p) (k : Q (.inl (some (vi (MM p (cm p al b))))) ex h) : X G m_X3_commitmentOf (d + 2) rc rs ex 0 (xe m_X3_commitmentOf.2.2.1 [.ref 5, .ref aa, vi b]) [] h Q := by
  show X G m_X3_commitmentOf _ _ _ _ 0 [some (.ref 5), some (.ref aa), some (vi b)] [] h Q
  obtain ⟨hf, hg, ⟨ml, hm, lm, vm⟩, he, hbs⟩ := id hw
  have hb := PRb hp
  have hq := gq_b hp
  refine x_aload_n (dT U_X3_commitmentOf 0 rfl) rfl ?_
  refine x_aload_n (dT U_X3_commitmentOf 1 rfl) rfl ?_
  refine x_aload_n (dT U_X3_commitmentOf 2 rfl) rfl ?_
  refine x_invokevirtual (rc' := rc) (rs' := rs) (rc2 := 0) (rs2 := 0) (As := [_]) (st := _) M_X3_weightOf K_X3_61 (dT U_X3_commitmentOf 3 rfl) rfl rfl (by decide) rfl rfl hg (by decide) (by decide) rfl (Nat.le_of_ble_eq_true rfl) rfl (by decide) (Nat.le_of_ble_eq_true rfl) rfl rfl ?_
  refine S_X3_weightOf hw hp ha a3 la ?_
  refine xRet_some ?_
  refine x_aload_n (dT U_X3_commitmentOf 4 rfl) rfl ?_
  refine x_getfield F_X3_22 (dT U_X3_commitmentOf 5 rfl) hg (by decide) rfl ?_
  refine x_bipush (dT U_X3_commitmentOf 6 rfl) (by decide) ?_
  refine x_iaload (8) (dT U_X3_commitmentOf 7 rfl) hbs (by decide) rfl (by unfold bsl; rw [tab_len]; omega) (by unfold bsl; rw [tab_len]; omega) ?_
  rw [bsl_get (by omega)]
  refine x_iload_n (dT U_X3_commitmentOf 8 rfl) rfl ?_
  refine x_imul (dT U_X3_commitmentOf 9 rfl) ?_
  refine x_iadd (dT U_X3_commitmentOf 10 rfl) ?_
  refine x_invokevirtual (rc' := rc) (rs' := rs) (rc2 := 0) (rs2 := 0) (As := [_]) (st := _) M_X3_memberAt K_X3_58 (dT U_X3_commitmentOf 11 rfl) rfl rfl (by decide) rfl rfl hg (by decide) (by decide) rfl (Nat.le_of_ble_eq_true rfl) rfl (by decide) (Nat.le_of_ble_eq_true rfl) rfl rfl ?_
  have h1 := wt_b hp la
  have h2 := bs_b hp (i := 8) (by omega)
  have h3 := mulb (a := (bs p 8 : Int)) (b := b) (p := (p : Int)) (by omega) hbb (by omega)
  refine S_X3_memberAt hw hp (by unfold xr; omega) ?_
  refine xRet_some ?_
  refine x_ireturn (dT U_X3_commitmentOf 12 rfl) rfl ?_
  exact k

set_option maxRecDepth 20000 in
set_option maxHeartbeats 1000000 in
theorem S_X3_commitmentOfOne {G : xG} {d rc rs : Nat} {ex : Bool} {h : xH} {Q : xQ} {p : Nat} {n b : Int} (hw : GW p h) (hp : p ∈ PR) (hn : 0 ≤ n ∧ n < p) (hbb : 0 ≤ b ∧ b < p) (k : Q (.inl (some (vi (MM p (cm1 p n b))))) ex h) : X G m_X3_commitmentOfOne (d + 2) rc rs ex 0 (xe m_X3_commitmentOfOne.2.2.1 [.ref 5, vi n, vi b]) [] h Q := by
  show X G m_X3_commitmentOfOne _ _ _ _ 0 [some (.ref 5), some (vi n), some (vi b)] [] h Q
  obtain ⟨hf, hg, ⟨ml, hm, lm, vm⟩, he, hbs⟩ := id hw
  have hb := PRb hp
  have hq := gq_b hp
  refine x_aload_n (dT U_X3_commitmentOfOne 0 rfl) rfl ?_
  refine x_aload_n (dT U_X3_commitmentOfOne 1 rfl) rfl ?_
  refine x_getfield F_X3_22 (dT U_X3_commitmentOfOne 2 rfl) hg (by decide) rfl ?_
  refine x_iconst (dT U_X3_commitmentOfOne 3 rfl) ?_
  refine x_iaload (0) (dT U_X3_commitmentOfOne 4 rfl) hbs (by decide) rfl (by unfold bsl; rw [tab_len]; omega) (by unfold bsl; rw [tab_len]; omega) ?_
  rw [bsl_get (by omega)]
  refine x_iload_n (dT U_X3_commitmentOfOne 5 rfl) rfl ?_
  refine x_imul (dT U_X3_commitmentOfOne 6 rfl) ?_
  refine x_aload_n (dT U_X3_commitmentOfOne 7 rfl) rfl ?_
  refine x_getfield F_X3_22 (dT U_X3_commitmentOfOne 8 rfl) hg (by decide) rfl ?_
  refine x_bipush (dT U_X3_commitmentOfOne 9 rfl) (by decide) ?_
  refine x_iaload (8) (dT U_X3_commitmentOfOne 10 rfl) hbs (by decide) rfl (by unfold bsl; rw [tab_len]; omega) (by unfold bsl; rw [tab_len]; omega) ?_
  rw [bsl_get (by omega)]
  refine x_iload_n (dT U_X3_commitmentOfOne 11 rfl) rfl ?_
  refine x_imul (dT U_X3_commitmentOfOne 12 rfl) ?_
  refine x_iadd (dT U_X3_commitmentOfOne 13 rfl) ?_
  refine x_invokevirtual (rc' := rc) (rs' := rs) (rc2 := 0) (rs2 := 0) (As := [_]) (st := _) M_X3_memberAt K_X3_58 (dT U_X3_commitmentOfOne 14 rfl) rfl rfl (by decide) rfl rfl hg (by decide) (by decide) rfl (Nat.le_of_ble_eq_true rfl) rfl (by decide) (Nat.le_of_ble_eq_true rfl) rfl rfl ?_
  have h2 := bs_b hp (i := 8) (by omega)
  have h3 := mulb (a := (bs p 8 : Int)) (b := b) (p := (p : Int)) (by omega) hbb (by omega)
  have h4 := bs_b hp (i := 0) (by omega)
  have h5 := mulb (a := (bs p 0 : Int)) (b := n) (p := (p : Int)) (by omega) hn (by omega)
  refine S_X3_memberAt hw hp (by unfold xr; omega) ?_
  refine xRet_some ?_
  refine x_ireturn (dT U_X3_commitmentOfOne 15 rfl) rfl ?_
  exact k

set_option maxRecDepth 20000 in
set_option maxHeartbeats 1000000 in
theorem S_X3_logOfBlind {G : xG} {d rc rs : Nat} {ex : Bool} {h : xH} {Q : xQ} {p : Nat} {z : Int} (hw : GW p h) (hp : p ∈ PR) (hz : xr z) (k : Q (.inl (some (vi ((z % (p : Int)) * (iv p (bs p 8) : Int) % (p : Int))))) ex h) : X G m_X3_logOfBlind (d + 3) rc rs ex 0 (xe m_X3_logOfBlind.2.2.1 [.ref 5, vi z]) [] h Q := by
  show X G m_X3_logOfBlind _ _ _ _ 0 [some (.ref 5), some (vi z)] [] h Q
  obtain ⟨hf, hg, ⟨ml, hm, lm, vm⟩, he, hbs⟩ := id hw
  have hb := PRb hp
  have hq := gq_b hp
  refine x_aload_n (dT U_X3_logOfBlind 0 rfl) rfl ?_
  refine x_getfield F_X3_9 (dT U_X3_logOfBlind 1 rfl) hg (by decide) rfl ?_
  refine x_aload_n (dT U_X3_logOfBlind 2 rfl) rfl ?_
  refine x_getfield F_X3_9 (dT U_X3_logOfBlind 3 rfl) hg (by decide) rfl ?_
  refine x_iload_n (dT U_X3_logOfBlind 4 rfl) rfl ?_
  refine x_invokevirtual (rc' := rc) (rs' := rs) (rc2 := 0) (rs2 := 0) (As := [_]) (st := _) M_X1_rest K_X3_52 (dT U_X3_logOfBlind 5 rfl) rfl rfl (by decide) rfl rfl hf (by decide) (by decide) rfl (Nat.le_of_ble_eq_true rfl) rfl (by decide) (Nat.le_of_ble_eq_true rfl) rfl rfl ?_
  have h0 := modb (z := z) (p := (p : Int)) (by omega)
  refine S_X1_rest hf hb hz ?_
  refine xRet_some ?_
  refine x_aload_n (dT U_X3_logOfBlind 6 rfl) rfl ?_
  refine x_getfield F_X3_9 (dT U_X3_logOfBlind 7 rfl) hg (by decide) rfl ?_
  refine x_aload_n (dT U_X3_logOfBlind 8 rfl) rfl ?_
  refine x_getfield F_X3_22 (dT U_X3_logOfBlind 9 rfl) hg (by decide) rfl ?_
  refine x_bipush (dT U_X3_logOfBlind 10 rfl) (by decide) ?_
  refine x_iaload (8) (dT U_X3_logOfBlind 11 rfl) hbs (by decide) rfl (by unfold bsl; rw [tab_len]; omega) (by unfold bsl; rw [tab_len]; omega) ?_
  rw [bsl_get (by omega)]
  refine x_invokevirtual (rc' := rc) (rs' := rs) (rc2 := 0) (rs2 := 0) (As := [_]) (st := _) M_X1_inverse K_X3_68 (dT U_X3_logOfBlind 12 rfl) rfl rfl (by decide) rfl rfl hf (by decide) (by decide) rfl (Nat.le_of_ble_eq_true rfl) rfl (by decide) (Nat.le_of_ble_eq_true rfl) rfl rfl ?_
  have h2 := bs_b hp (i := 8) (by omega)
  have h3 := iv_ok hp h2.2 h2.1
  refine S_X1_inverse hf hp h2 ?_
  refine xRet_some ?_
  refine x_invokevirtual (rc' := rc) (rs' := rs) (rc2 := 0) (rs2 := 0) (As := [_, _]) (st := _) M_X1_product K_X3_71 (dT U_X3_logOfBlind 13 rfl) rfl rfl (by decide) rfl rfl hf (by decide) (by decide) rfl (Nat.le_of_ble_eq_true rfl) rfl (by decide) (Nat.le_of_ble_eq_true rfl) rfl rfl ?_
  have h4 := mulb (a := z % (p : Int)) (b := (iv p (bs p 8) : Int)) (p := (p : Int)) h0 (by omega) (by omega)
  refine S_X1_product hf hb (by unfold xr; omega) ?_
  refine xRet_some ?_
  refine x_ireturn (dT U_X3_logOfBlind 14 rfl) rfl ?_
  exact k

set_option maxRecDepth 20000 in
set_option maxHeartbeats 1000000 in
theorem S_X3_blindFor {G : xG} {d rc rs : Nat} {ex : Bool} {h : xH} {Q : xQ} {p : Nat} {y e : Int} {aa : Nat} {al : List Int} (hw : GW p h) (hp : p ∈ PR) (ha : h[aa]? = some (cA 0 al)) (a3 : 3 ≤ aa) (la : Fl (p : Int) al) (hy : xr y) (hye : exI p y = e) (k : Q (.inl (some (vi (((e - wt p al) % (p : Int)) * (iv p (bs p 8) : Int) % (p : Int))))) ex h) : X G m_X3_blindFor (d + 4) rc rs ex 0 (xe m_X3_blindFor.2.2.1 [.ref 5, .ref aa, vi y]) [] h Q := by
  show X G m_X3_blindFor _ _ _ _ 0 [some (.ref 5), some (.ref aa), some (vi y)] [] h Q
  obtain ⟨hf, hg, ⟨ml, hm, lm, vm⟩, he, hbs⟩ := id hw
  have hb := PRb hp
  have hq := gq_b hp
  refine x_aload_n (dT U_X3_blindFor 0 rfl) rfl ?_
  refine x_aload_n (dT U_X3_blindFor 1 rfl) rfl ?_
  refine x_iload_n (dT U_X3_blindFor 2 rfl) rfl ?_
  refine x_invokevirtual (rc' := rc) (rs' := rs) (rc2 := 0) (rs2 := 0) (As := [_]) (st := _) M_X3_exponentOf K_X3_55 (dT U_X3_blindFor 3 rfl) rfl rfl (by decide) rfl rfl hg (by decide) (by decide) rfl (Nat.le_of_ble_eq_true rfl) rfl (by decide) (Nat.le_of_ble_eq_true rfl) rfl rfl ?_
  refine S_X3_exponentOf hw hp hy ?_
  rw [hye]
  refine xRet_some ?_
  refine x_aload_n (dT U_X3_blindFor 4 rfl) rfl ?_
  refine x_aload_n (dT U_X3_blindFor 5 rfl) rfl ?_
  refine x_invokevirtual (rc' := rc) (rs' := rs) (rc2 := 0) (rs2 := 0) (As := [_]) (st := _) M_X3_weightOf K_X3_61 (dT U_X3_blindFor 6 rfl) rfl rfl (by decide) rfl rfl hg (by decide) (by decide) rfl (Nat.le_of_ble_eq_true rfl) rfl (by decide) (Nat.le_of_ble_eq_true rfl) rfl rfl ?_
  refine S_X3_weightOf hw hp ha a3 la ?_
  refine xRet_some ?_
  refine x_isub (dT U_X3_blindFor 7 rfl) ?_
  refine x_invokevirtual (rc' := rc) (rs' := rs) (rc2 := 0) (rs2 := 0) (As := [_]) (st := _) M_X3_logOfBlind K_X3_65 (dT U_X3_blindFor 8 rfl) rfl rfl (by decide) rfl rfl hg (by decide) (by decide) rfl (Nat.le_of_ble_eq_true rfl) rfl (by decide) (Nat.le_of_ble_eq_true rfl) rfl rfl ?_
  have h1 := wt_b hp la
  have h9 := exI_b p y
  rw [hye] at h9
  refine S_X3_logOfBlind hw hp (by unfold xr; omega) ?_
  refine xRet_some ?_
  refine x_ireturn (dT U_X3_blindFor 9 rfl) rfl ?_
  exact k
